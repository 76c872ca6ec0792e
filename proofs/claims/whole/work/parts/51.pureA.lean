/-! THE PURE PART: the class's functions and the reference's, as read off the bytecode, say the same. Numbers first. -/
theorem fb_rng (x : Int32) : -2147483648 ≤ x.toInt ∧ x.toInt < 2147483648 := by
  have h1 := Int32.le_toInt x
  have h2 := Int32.toInt_lt x
  omega
theorem fb_bmod {z : Int} (h1 : -2147483648 ≤ z) (h2 : z < 2147483648) : z.bmod (2 ^ 32) = z := by
  rw [Int.bmod_eq_of_le (by omega) (by omega)]
theorem fb_addI {x y : Int32} (h1 : -2147483648 ≤ x.toInt + y.toInt) (h2 : x.toInt + y.toInt < 2147483648) : (x + y).toInt = x.toInt + y.toInt := by
  rw [Int32.toInt_add, fb_bmod h1 h2]
theorem fb_subI {x y : Int32} (h1 : -2147483648 ≤ x.toInt - y.toInt) (h2 : x.toInt - y.toInt < 2147483648) : (x - y).toInt = x.toInt - y.toInt := by
  rw [Int32.toInt_sub, fb_bmod h1 h2]
theorem fb_mulI {x y : Int32} (h1 : -2147483648 ≤ x.toInt * y.toInt) (h2 : x.toInt * y.toInt < 2147483648) : (x * y).toInt = x.toInt * y.toInt := by
  rw [Int32.toInt_mul, fb_bmod h1 h2]
theorem fa_lt (a b : Int32) : a < b ↔ a.toInt < b.toInt := Int32.lt_iff_toInt_lt
theorem fa_le (a b : Int32) : a ≤ b ↔ a.toInt ≤ b.toInt := Int32.le_iff_toInt_le
theorem fa_eq (a b : Int32) : a = b ↔ a.toInt = b.toInt := Int32.toInt_inj.symm
theorem i_add1 {x : Int32} (h : x.toInt < 2147483647) : (x + 1).toInt = x.toInt + 1 := by
  have h1 := fb_rng x
  exact fb_addI (x := x) (y := 1) (by show _ ≤ x.toInt + 1; omega) (by show x.toInt + 1 < _; omega)
/-- one step's strikes at ceiling, wall, start: cell, struck, height, pace, rise -/
def sS (cell struck height pace rise wall ceiling : Int32) : Int32 × Int32 × Int32 × Int32 × Int32 :=
  (if 0 ≤ (if cell ≤ wall then cell else 2 * wall - cell) then (if cell ≤ wall then cell else 2 * wall - cell) else 0,
   if cell ≤ wall then (if height ≤ ceiling then struck else struck ||| 1) else (if height ≤ ceiling then struck else struck ||| 1) ||| 2,
   if height ≤ ceiling then height else 2 * ceiling - height,
   if 0 ≤ (if cell ≤ wall then cell else 2 * wall - cell) then (if cell ≤ wall then pace else -pace / 2) else 0,
   if height ≤ ceiling then rise else -rise)
theorem strike_c (cell struck height pace rise wall ceiling : Int32) : fX0_strikeCeilingAndWall cell struck height pace rise wall ceiling = some (sS cell struck height pace rise wall ceiling) := by
  unfold fX0_strikeCeilingAndWall jX0_strikeCeilingAndWall_45 jX0_strikeCeilingAndWall_92 sS
  by_cases h1 : height ≤ ceiling <;> by_cases h2 : cell ≤ wall
  · by_cases h3 : 0 ≤ cell <;> simp only [h1, h2, h3, if_true, if_false]
  · by_cases h3 : 0 ≤ 2 * wall - cell <;> simp only [h1, h2, h3, if_true, if_false]
  · by_cases h3 : 0 ≤ cell <;> simp only [h1, h2, h3, if_true, if_false]
  · by_cases h3 : 0 ≤ 2 * wall - cell <;> simp only [h1, h2, h3, if_true, if_false]
theorem strike_m (ball second first wide rim fill wall ceiling puff period : Int32) (kindA : Nat → Int32) (pace rise height drag was st0 cell steps highest struck : Int32) (kk : Int32 → Int32 → Int32 → Int32 → Int32 → Int32 → Int32 → Int32 → Option (Int32 × Int32 × Int32 × Int32 × Int32 × Int32)) {c k h p r : Int32}
    (hs : sS (cell + pace) struck (height + rise) pace rise wall ceiling = (c, k, h, p, r)) :
    jX6_flies_68 ball second first wide rim fill wall ceiling puff period kindA pace rise height drag was st0 cell steps highest struck kk = jX6_flies_174 ball second first wide rim fill puff period kindA p r h drag was st0 c steps highest k kk := by
  unfold sS at hs
  simp only [Prod.mk.injEq] at hs
  obtain ⟨e1, e2, e3, e4, e5⟩ := hs
  subst e1; subst e2; subst e3; subst e4; subst e5
  unfold jX6_flies_68 jX6_flies_119 jX6_flies_160
  by_cases h1 : height + rise ≤ ceiling <;> by_cases h2 : cell + pace ≤ wall
  · by_cases h3 : 0 ≤ cell + pace <;> simp only [h1, h2, h3, if_true, if_false]
  · by_cases h3 : 0 ≤ 2 * wall - (cell + pace) <;> simp only [h1, h2, h3, if_true, if_false]
  · by_cases h3 : 0 ≤ cell + pace <;> simp only [h1, h2, h3, if_true, if_false]
  · by_cases h3 : 0 ≤ 2 * wall - (cell + pace) <;> simp only [h1, h2, h3, if_true, if_false]
/-- pace gets less -/
def nz (p drag : Int32) : Int32 := if p ≤ 0 then (if p + drag < (0 : Int32) then p + drag else (0 : Int32)) else (if (0 : Int32) < p - drag then p - drag else (0 : Int32))
theorem nz_c (p drag : Int32) : fX0_nearerZero p drag = some (nz p drag) := by
  unfold fX0_nearerZero nz
  by_cases h : p ≤ 0 <;> simp only [h, if_true, if_false]
/-- what the reference does behind the end of a step -/
def aft (ball second puff period : Int32) (kindA : Nat → Int32) (drag steps : Int32) (kk : Int32 → Int32 → Int32 → Int32 → Int32 → Int32 → Int32 → Int32 → Option (Int32 × Int32 × Int32 × Int32 × Int32 × Int32)) (e c g k h p r : Int32) : Option (Int32 × Int32 × Int32 × Int32 × Int32 × Int32) :=
  if e = -1 then jX6_flies_385 ball second puff period kindA r h drag (nz p drag) c steps g k kk else some (e, e, c, steps, g, k)
theorem floor_eq (at_ ball second puff period : Int32) (kindA : Nat → Int32) (drag c k h p r g G steps : Int32) (kk : Int32 → Int32 → Int32 → Int32 → Int32 → Int32 → Int32 → Int32 → Option (Int32 × Int32 × Int32 × Int32 × Int32 × Int32))
    (hG : (if g < h then h else g) = G) : ∃ e, jX0_step_92 at_ (-1) c G k h p r = some (e, c, G, k, h, p, r) ∧ jX6_flies_319 ball second at_ puff period kindA p r h drag c steps g k kk = aft ball second puff period kindA drag steps kk e c G k h p r ∧ ¬ e = 0 := by
  unfold jX0_step_92 jX6_flies_319 aft nz
  rw [hG]
  by_cases h1 : 0 < h
  · refine ⟨-1, ?_, ?_, by decide⟩
    · simp only [h1, if_true]
    · by_cases h2 : p ≤ 0 <;> simp only [h1, h2, if_true, if_false]
  · by_cases h2 : at_ ≤ c
    · refine ⟨2, ?_, ?_, by decide⟩ <;> simp only [h1, h2, if_true, if_false]
      rw [if_neg (by decide)]
    · refine ⟨1, ?_, ?_, by decide⟩ <;> simp only [h1, h2, if_true, if_false]
      rw [if_neg (by decide)]
theorem i_lt_of (a b : Int32) : ¬ a < b ↔ b ≤ a := by rw [fa_lt, fa_le]; omega
/-- what the numbers of an office are -/
def OkO (hand at_ wide rim fill wall ceiling puff period second : Int32) : Prop :=
  (0 ≤ hand.toInt ∧ hand.toInt ≤ 9) ∧ (1 ≤ at_.toInt ∧ at_.toInt ≤ 40) ∧ (1 ≤ wide.toInt ∧ wide.toInt ≤ 5) ∧ (1 ≤ rim.toInt ∧ rim.toInt ≤ 9) ∧ (0 ≤ fill.toInt ∧ fill.toInt ≤ 9) ∧ (5 ≤ wall.toInt ∧ wall.toInt ≤ 60) ∧ (10 ≤ ceiling.toInt ∧ ceiling.toInt ≤ 60) ∧ (-3 ≤ puff.toInt ∧ puff.toInt ≤ 3) ∧ (1 ≤ period.toInt ∧ period.toInt ≤ 9) ∧ at_.toInt + wide.toInt ≤ wall.toInt ∧ 0 ≤ second.toInt
theorem over_eq {at_ wide : Int32} (ha : 1 ≤ at_.toInt ∧ at_.toInt ≤ 40) (hw : 1 ≤ wide.toInt ∧ wide.toInt ≤ 5) (c : Int32) : fX3_isOverBin c at_ wide = fX6_within c at_ (at_ + wide - 1) := by
  unfold fX3_isOverBin fX6_within
  have e1 : (at_ + wide).toInt = at_.toInt + wide.toInt := fb_addI (by omega) (by omega)
  have e2 : (at_ + wide - 1).toInt = at_.toInt + wide.toInt - 1 := by
    rw [fb_subI (x := at_ + wide) (y := 1) (by show _ ≤ _ - (1 : Int); omega) (by show _ - (1 : Int) < _; omega), e1]; rfl
  by_cases h1 : c < at_
  · simp only [h1, if_true]
  · have e : (at_ + wide ≤ c) ↔ (at_ + wide - 1 < c) := by rw [fa_le, fa_lt, e1, e2]; omega
    by_cases h2 : at_ + wide ≤ c
    · simp only [h1, h2, e.mp h2, if_true, if_false]
    · simp only [h1, h2, if_neg (fun q => h2 (e.mpr q)), if_false]
theorem step_eq {at_ wide rim fill wall ceiling : Int32} (ha : 1 ≤ at_.toInt ∧ at_.toInt ≤ 40) (hw : 1 ≤ wide.toInt ∧ wide.toInt ≤ 5) (hr : 1 ≤ rim.toInt ∧ rim.toInt ≤ 9) (hf : 0 ≤ fill.toInt ∧ fill.toInt ≤ 9)
    (ball second puff period : Int32) (kindA : Nat → Int32) (drag cell steps greatest struck height pace rise : Int32) (kk : Int32 → Int32 → Int32 → Int32 → Int32 → Int32 → Int32 → Int32 → Option (Int32 × Int32 × Int32 × Int32 × Int32 × Int32))
    (hg : height ≤ greatest) : ∃ e c g k h p r, fX0_step (-1) cell greatest struck height pace rise at_ wide rim fill wall ceiling = some (e, c, g, k, h, p, r) ∧ (e = -1 → h ≤ g) ∧ (e = 0 → fill < 9) ∧
      jX6_flies_68 ball second at_ wide rim fill wall ceiling puff period kindA pace rise height drag height (if 0 ≤ rise then 0 else 1) cell steps greatest struck kk = aft ball second puff period kindA drag steps kk e c g k h p r := by
  obtain ⟨⟨c, k, h, p, r⟩, hs⟩ : ∃ z, sS (cell + pace) struck (height + rise) pace rise wall ceiling = z := ⟨_, rfl⟩
  rw [strike_m (hs := hs)]
  have e17 : fX0_step (-1) cell greatest struck height pace rise at_ wide rim fill wall ceiling = jX0_step_17 at_ wide rim fill wall ceiling height (if 0 ≤ rise then 0 else 1) (-1) cell greatest struck height pace rise := by
    unfold fX0_step
    by_cases h0 : 0 ≤ rise <;> simp only [h0, if_true, if_false]
  rw [e17]
  unfold jX0_step_17
  rw [strike_c, hs]
  dsimp only [b5_p]
  unfold jX6_flies_174
  generalize hst : (if 0 ≤ rise then (0 : Int32) else 1) = st0
  have hG : h ≤ (if greatest < h then h else greatest) := by
    by_cases q : greatest < h
    · rw [if_pos q]; exact Int32.le_refl h
    · rw [if_neg q]; exact (i_lt_of _ _).mp q
  obtain ⟨e, f1, f2, f3⟩ := floor_eq at_ ball second puff period kindA drag c k h p r greatest _ steps kk rfl
  by_cases h1 : st0 = 0
  · rw [if_pos h1, if_pos h1]
    exact ⟨e, c, _, k, h, p, r, f1, fun _ => hG, fun q => absurd q f3, f2⟩
  rw [if_neg h1, if_neg h1]
  by_cases h2 : height ≤ rim
  · rw [if_pos h2, if_pos h2]
    exact ⟨e, c, _, k, h, p, r, f1, fun _ => hG, fun q => absurd q f3, f2⟩
  rw [if_neg h2, if_neg h2]
  by_cases h3 : rim < h
  · rw [if_pos h3, if_pos h3]
    exact ⟨e, c, _, k, h, p, r, f1, fun _ => hG, fun q => absurd q f3, f2⟩
  rw [if_neg h3, if_neg h3]
  unfold fX0_comeDownToRim
  rw [over_eq ha hw]
  obtain ⟨ov, hov⟩ : ∃ ov, fX6_within c at_ (at_ + wide - 1) = some ov := by
    unfold fX6_within
    by_cases q1 : c < at_
    · exact ⟨0, by rw [if_pos q1]⟩
    · by_cases q2 : at_ + wide - 1 < c
      · exact ⟨0, by rw [if_neg q1, if_pos q2]⟩
      · exact ⟨1, by rw [if_neg q1, if_neg q2]⟩
  rw [hov]
  dsimp only [b1_p]
  by_cases h4 : ov = 0
  · rw [if_pos h4, if_pos h4]
    unfold fX3_isBesideBin jX6_flies_287
    have n1 : ¬ ((1 : Int32) = 0) := by decide
    have hbn : (if greatest < h then h else greatest) = greatest ∧ (if greatest < rim + 1 then rim + 1 else greatest) = greatest := by
      have e1 : (rim + 1).toInt = rim.toInt + 1 := i_add1 (by omega)
      rw [fa_le] at h2 hg
      rw [fa_lt] at h3
      refine ⟨if_neg ?_, if_neg ?_⟩
      · rw [fa_lt]; omega
      · rw [fa_lt, e1]; omega
    obtain ⟨e', f1', f2', f3'⟩ := floor_eq at_ ball second puff period kindA drag c (k ||| 4) (rim + 1) (-p) 1 greatest (if greatest < h then h else greatest) steps kk (by rw [hbn.2, hbn.1])
    have hG' : rim + 1 ≤ (if greatest < h then h else greatest) := by
      rw [hbn.1, fa_le, i_add1 (by omega)]
      rw [fa_le] at h2 hg
      omega
    by_cases h5 : c = at_ - 1
    · by_cases h7 : k &&& 4 = 0
      · simp only [h5, h7, n1, b1_p, b5_p, if_true, if_false]
        rw [h5] at f1' f2'
        exact ⟨e', _, _, _, _, _, _, f1', fun _ => hG', fun q => absurd q f3', f2'⟩
      · simp only [h5, h7, n1, b1_p, b5_p, if_true, if_false]
        rw [h5] at f1 f2
        exact ⟨e, _, _, _, _, _, _, f1, fun _ => hG, fun q => absurd q f3, f2⟩
    · by_cases h6 : c = at_ + wide
      · by_cases h7 : k &&& 4 = 0
        · simp only [h5, h6, h7, n1, b1_p, b5_p, if_true, if_false]
          rw [h6] at f1' f2' h5
          simp only [h5, if_false]
          exact ⟨e', _, _, _, _, _, _, f1', fun _ => hG', fun q => absurd q f3', f2'⟩
        · simp only [h5, h6, h7, n1, b1_p, b5_p, if_true, if_false]
          rw [h6] at f1 f2 h5
          simp only [h5, if_false]
          exact ⟨e, _, _, _, _, _, _, f1, fun _ => hG, fun q => absurd q f3, f2⟩
      · simp only [h5, h6, n1, b1_p, b5_p, if_true, if_false]
        exact ⟨e, _, _, _, _, _, _, f1, fun _ => hG, fun q => absurd q f3, f2⟩
  · rw [if_neg h4, if_neg h4]
    have e9 : (fill < 9) ↔ ¬ (fill = 9) := by
      rw [fa_lt, fa_eq]
      show fill.toInt < 9 ↔ ¬ (fill.toInt = 9)
      omega
    by_cases h8 : fill = 9
    · have h9 : ¬ fill < 9 := fun q => e9.mp q h8
      simp only [h8, h9, b5_p, if_true, if_false]
      rw [h8] at h9
      simp only [h9, if_false]
      refine ⟨3, c, (if greatest < h then h else greatest), k, h, p, r, ?_, fun q => absurd q (by decide), fun q => absurd q (by decide), ?_⟩
      · unfold jX0_step_92; (try dsimp only [b5_p]); rw [if_neg (show ¬ ((3 : Int32) = -1) by decide)]
      · unfold aft; rw [if_neg (show ¬ ((3 : Int32) = -1) by decide)]
    · have h9 : fill < 9 := e9.mpr h8
      simp only [h8, h9, b5_p, if_true, if_false]
      refine ⟨0, c, (if greatest < h then h else greatest), k, h, p, r, ?_, fun q => absurd q (by decide), fun _ => trivial, ?_⟩
      · unfold jX0_step_92; rw [if_neg (by decide)]
      · unfold aft; rw [if_neg (show ¬ ((0 : Int32) = -1) by decide)]
/-- the fan blows -/
theorem blow_c {sec period : Int32} (hp : 1 ≤ period.toInt) : fX3_blowsIn sec period = some (if sec - sec / period * period = 0 then 1 else 0) := by
  unfold fX3_blowsIn
  have h1 : ¬ period ≤ 0 := by rw [fa_le]; show ¬ period.toInt ≤ 0; omega
  have h2 : ¬ period = 0 := by rw [fa_eq]; show ¬ period.toInt = 0; omega
  rw [if_neg h1, g_nz_p h2]
  by_cases h : sec - sec / period * period = 0 <;> simp only [h, if_true, if_false]
theorem fl_loop {at_ wide rim fill wall ceiling period second ball puff drag fall fan : Int32} {kindA : Nat → Int32} (ha : 1 ≤ at_.toInt ∧ at_.toInt ≤ 40) (hw : 1 ≤ wide.toInt ∧ wide.toInt ≤ 5) (hr : 1 ≤ rim.toInt ∧ rim.toInt ≤ 9) (hf : 0 ≤ fill.toInt ∧ fill.toInt ≤ 9) (hp : 1 ≤ period.toInt)
    (hfall : fX6_fall ball kindA = some fall) (hblown : fX6_blown ball puff kindA = some fan) :
    ∀ (n : Nat) (cell steps greatest struck height pace rise : Int32), 0 ≤ steps.toInt → steps.toInt ≤ 60 → 60 - steps.toInt < n → height ≤ greatest →
      ∃ e c st g k h p r, lX0_run_68 at_ wide rim fill wall ceiling period second (n + 1) drag fall fan (-1) cell steps greatest struck height pace rise = some (e, c, st, g, k, h, p, r) ∧
        lX6_flies_36 ball second at_ wide rim fill wall ceiling puff period kindA (n + 1) pace rise height drag cell steps greatest struck = some (e, e, c, st, g, k) ∧ (e = 0 → fill < 9) := by
  intro n
  induction n with
  | zero => intro cell steps greatest struck height pace rise h1 h2 h3; omega
  | succ n ih =>
    intro cell steps greatest struck height pace rise h1 h2 h3 hg
    rw [lX0_run_68, lX6_flies_36, if_pos rfl]
    have e60 : (60 ≤ steps) ↔ (60 ≤ steps.toInt) := by rw [fa_le]; exact Iff.rfl
    by_cases h60 : 60 ≤ steps
    · rw [if_pos h60, if_pos h60, if_pos rfl]
      exact ⟨1, cell, steps, greatest, struck, height, pace, rise, rfl, rfl, fun q => absurd q (by decide)⟩
    rw [if_neg h60, if_neg h60]
    have h60' : steps.toInt < 60 := by
      have : ¬ 60 ≤ steps.toInt := fun q => h60 (e60.mpr q)
      omega
    obtain ⟨e, c, g, k, h, p, r, s1, s2, s9, s3⟩ := step_eq (wall := wall) (ceiling := ceiling) ha hw hr hf ball second puff period kindA drag cell (steps + 1) greatest struck height pace rise (lX6_flies_36 ball second at_ wide rim fill wall ceiling puff period kindA (n + 1)) hg
    have s4 : (if 0 ≤ rise then jX6_flies_68 ball second at_ wide rim fill wall ceiling puff period kindA pace rise height drag height 0 cell (steps + 1) greatest struck (lX6_flies_36 ball second at_ wide rim fill wall ceiling puff period kindA (n + 1)) else jX6_flies_68 ball second at_ wide rim fill wall ceiling puff period kindA pace rise height drag height 1 cell (steps + 1) greatest struck (lX6_flies_36 ball second at_ wide rim fill wall ceiling puff period kindA (n + 1))) = aft ball second puff period kindA drag (steps + 1) (lX6_flies_36 ball second at_ wide rim fill wall ceiling puff period kindA (n + 1)) e c g k h p r := by
      rw [← s3]
      by_cases q : 0 ≤ rise <;> simp only [q, if_true, if_false]
    rw [s4, s1]
    dsimp only [b7_p]
    rw [nz_c]
    dsimp only [b1_p]
    rw [blow_c hp]
    try dsimp only [b1_p, b2_p, b3_p, b4_p, b5_p, b6_p, b7_p, b8_p, b9_p, b10_p, b13_p, b14_p, b16_p]
    have es : (steps + 1).toInt = steps.toInt + 1 := i_add1 (by omega)
    by_cases he : e = -1
    · subst he
      have hgh := s2 rfl
      unfold aft
      rw [if_pos rfl]
      unfold jX6_flies_385 jX6_flies_419
      rw [hfall]
      dsimp only [b1_p]
      have hp0 : ¬ period = 0 := by rw [fa_eq]; show ¬ period.toInt = 0; omega
      rw [g_nz_p hp0, hblown]
      try dsimp only [b1_p, b2_p, b3_p, b4_p, b5_p, b6_p, b7_p, b8_p, b9_p, b10_p, b13_p, b14_p, b16_p]
      by_cases hb : second + (steps + 1) / 4 - (second + (steps + 1) / 4) / period * period = 0
      · simp only [hb, if_true, if_false, show ¬ ((1 : Int32) = 0) by decide]
        exact ih c (steps + 1) g k h (nz p drag + fan) (r - fall) (by omega) (by omega) (by omega) hgh
      · simp only [hb, if_true, if_false]
        exact ih c (steps + 1) g k h (nz p drag) (r - fall) (by omega) (by omega) (by omega) hgh
    · unfold aft
      rw [if_neg he]
      by_cases hb : second + (steps + 1) / 4 - (second + (steps + 1) / 4) / period * period = 0
      · simp only [hb, if_true, if_false, show ¬ ((1 : Int32) = 0) by decide]
        rw [lX0_run_68, if_neg he, if_neg he]
        exact ⟨e, c, _, g, k, h, _, _, rfl, rfl, s9⟩
      · simp only [hb, if_true, if_false]
        rw [lX0_run_68, if_neg he, if_neg he]
        exact ⟨e, c, _, g, k, h, _, _, rfl, rfl, s9⟩
/-- a ball that is there -/
def bOK (ball bc : Int32) : Prop := 0 ≤ ball.toInt ∧ ball.toInt < bc.toInt ∧ bc.toInt ≤ 5
def AEq (n : Nat) (f g : Nat → Int32) : Prop := ∀ i, i < n → f i = g i
theorem AEq.rf {n : Nat} {f : Nat → Int32} : AEq n f f := fun _ _ => rfl
theorem clamp_lt {x : Int32} {n : Nat} (h1 : x.toInt < n) (hn : 0 < n) : x.toNatClampNeg < n := by
  show x.toInt.toNat < n
  omega
theorem hb_yes {ball bc : Int32} (h : bOK ball bc) : fX3_hasBall ball bc = some 1 := by
  obtain ⟨h1, h2, h3⟩ := h
  unfold fX3_hasBall
  rw [if_neg (by rw [fa_lt]; show ¬ ball.toInt < 0; omega), if_neg (by rw [fa_le]; omega), if_neg (by rw [fa_le]; show ¬ (5 : Int) ≤ ball.toInt; omega)]
theorem hb_no {ball bc : Int32} (hb : bc.toInt ≤ 5) (h : ¬ bOK ball bc) : fX3_hasBall ball bc = some 0 := by
  unfold fX3_hasBall
  by_cases h1 : ball < 0
  · rw [if_pos h1]
  · by_cases h2 : bc ≤ ball
    · rw [if_neg h1, if_pos h2]
    · exfalso
      apply h
      rw [fa_lt] at h1
      rw [fa_le] at h2
      have h1' : ¬ ball.toInt < 0 := h1
      exact ⟨by omega, by omega, hb⟩
theorem kind_c {ball bc : Int32} (h : bOK ball bc) (ks : Nat → Int32) : fX3_kindOf ball bc ks = some (ks ball.toNatClampNeg) := by
  unfold fX3_kindOf
  rw [hb_yes h]
  dsimp only [b1_p]
  rw [if_neg (by decide), g_in_p h.1 (by have := h.2; show ball.toInt < 5; omega)]
theorem size_c {ball bc : Int32} (h : bOK ball bc) (ks : Nat → Int32) : fX3_sizeOf ball bc ks = some (ks ball.toNatClampNeg) := by
  unfold fX3_sizeOf
  rw [hb_yes h]
  dsimp only [b1_p]
  rw [if_neg (by decide), g_in_p h.1 (by have := h.2; show ball.toInt < 5; omega)]
theorem tight_c {ball bc : Int32} (h : bOK ball bc) (ks : Nat → Int32) : fX3_tightOf ball bc ks = some (ks ball.toNatClampNeg) := by
  unfold fX3_tightOf
  rw [hb_yes h]
  dsimp only [b1_p]
  rw [if_neg (by decide), g_in_p h.1 (by have := h.2; show ball.toInt < 5; omega)]
theorem drag_eq {ball bc : Int32} (h : bOK ball bc) (ss ts ks : Nat → Int32) : fX3_dragOf ball bc ss ts ks = fX6_drag ball ss ts ks := by
  unfold fX3_dragOf fX6_drag
  rw [size_c h, tight_c h, kind_c h]
  have hi : ball.toInt < ((5 : Nat) : Int) := by have := h.2; show ball.toInt < 5; omega
  rw [g_in_p h.1 hi, g_in_p h.1 hi, g_in_p h.1 hi]
  dsimp only [b1_p]
theorem fall_eq {ball bc : Int32} (h : bOK ball bc) (ks : Nat → Int32) : fX3_fallOf ball bc ks = fX6_fall ball ks := by
  unfold fX3_fallOf fX6_fall
  rw [kind_c h]
  have hi : ball.toInt < ((5 : Nat) : Int) := by have := h.2; show ball.toInt < 5; omega
  rw [g_in_p h.1 hi, g_in_p h.1 hi]
  dsimp only [b1_p]
theorem fan_eq {ball bc : Int32} (h : bOK ball bc) (puff : Int32) (ks : Nat → Int32) : fX3_fanOf ball puff bc ks = fX6_blown ball puff ks := by
  unfold fX3_fanOf fX6_blown
  rw [kind_c h]
  have hi : ball.toInt < ((5 : Nat) : Int) := by have := h.2; show ball.toInt < 5; omega
  rw [g_in_p h.1 hi]
  dsimp only [b1_p]
theorem drag_some {ball bc : Int32} (h : bOK ball bc) (ss ts ks : Nat → Int32) : ∃ d, fX6_drag ball ss ts ks = some d := by
  unfold fX6_drag
  have hi : ball.toInt < ((5 : Nat) : Int) := by have := h.2; show ball.toInt < 5; omega
  rw [g_in_p h.1 hi, g_in_p h.1 hi, g_in_p h.1 hi]
  repeat' split
  all_goals exact ⟨_, rfl⟩
theorem fall_some {ball bc : Int32} (h : bOK ball bc) (ks : Nat → Int32) : ∃ d, fX6_fall ball ks = some d := by
  unfold fX6_fall
  have hi : ball.toInt < ((5 : Nat) : Int) := by have := h.2; show ball.toInt < 5; omega
  rw [g_in_p h.1 hi, g_in_p h.1 hi]
  repeat' split
  all_goals exact ⟨_, rfl⟩
theorem fan_some {ball bc : Int32} (h : bOK ball bc) (puff : Int32) (ks : Nat → Int32) : ∃ d, fX6_blown ball puff ks = some d := by
  unfold fX6_blown
  have hi : ball.toInt < ((5 : Nat) : Int) := by have := h.2; show ball.toInt < 5; omega
  rw [g_in_p h.1 hi]
  repeat' split
  all_goals exact ⟨_, rfl⟩
theorem drag_ar {ball bc : Int32} (h : bOK ball bc) {ss ts ks ss' ts' ks' : Nat → Int32} (h1 : AEq 5 ss ss') (h2 : AEq 5 ts ts') (h3 : AEq 5 ks ks') : fX6_drag ball ss ts ks = fX6_drag ball ss' ts' ks' := by
  have hi : ball.toNatClampNeg < 5 := clamp_lt (by have := h.2; show ball.toInt < 5; omega) (by decide)
  unfold fX6_drag
  rw [h1 _ hi, h2 _ hi, h3 _ hi]
theorem fall_ar {ball bc : Int32} (h : bOK ball bc) {ks ks' : Nat → Int32} (h3 : AEq 5 ks ks') : fX6_fall ball ks = fX6_fall ball ks' := by
  have hi : ball.toNatClampNeg < 5 := clamp_lt (by have := h.2; show ball.toInt < 5; omega) (by decide)
  unfold fX6_fall
  rw [h3 _ hi]
theorem fan_ar {ball bc : Int32} (h : bOK ball bc) (puff : Int32) {ks ks' : Nat → Int32} (h3 : AEq 5 ks ks') : fX6_blown ball puff ks = fX6_blown ball puff ks' := by
  have hi : ball.toNatClampNeg < 5 := clamp_lt (by have := h.2; show ball.toInt < 5; omega) (by decide)
  unfold fX6_blown
  rw [h3 _ hi]
/-- A FLIGHT: both fly alike -/
theorem fly_eq {hand at_ wide rim fill wall ceiling puff period second sec ball bc : Int32} {ss ts ks ss' ts' ks' : Nat → Int32} (ho : OkO hand at_ wide rim fill wall ceiling puff period second) (hb : bOK ball bc) (h1 : AEq 5 ss ss') (h2 : AEq 5 ts ts') (h3 : AEq 5 ks ks') (pace rise : Int32) :
    ∃ e c st g k h p r, fX0_run ball pace rise hand at_ wide rim fill wall ceiling puff period sec bc ss ts ks = some (e, c, st, g, k, h, p, r) ∧ fX6_flies ball pace rise sec hand at_ wide rim fill wall ceiling puff period ss' ts' ks' = some (e, e, c, st, g, k) ∧ (e = 0 → fill < 9) := by
  obtain ⟨-, ha, hw, hr, hf, -, -, -, hp, -⟩ := ho
  unfold fX0_run fX6_flies
  rw [drag_eq hb, drag_ar hb h1 h2 h3, fall_eq hb, fan_eq hb]
  obtain ⟨d, hd⟩ := drag_some hb ss' ts' ks'
  obtain ⟨fa, hfa⟩ := fall_some hb ks'
  obtain ⟨fn, hfn⟩ := fan_some hb puff ks'
  rw [fall_ar hb h3, fan_ar hb puff h3, hd, hfa, hfn]
  dsimp only [b1_p]
  exact fl_loop ha hw hr hf hp.1 hfa hfn 99 0 0 hand 0 hand pace rise (Int.le_refl _) (by decide) (by decide) (Int32.le_refl _)
/-! the small calls -/
theorem refuse_eq {x : Int32} (h : x = -1 ∨ x = -2 ∨ x = -3 ∨ x = -4 ∨ x = -6) (a : Nat → Int32) : ∃ a', fX5_refuse x a = some (x, a') ∧ fX6_no x a = some (x, a') := by
  rcases h with rfl | rfl | rfl | rfl | rfl
  all_goals
    unfold fX5_refuse fX6_no
    rw [if_neg (by decide), if_neg (by decide), g_in_p (by decide) (by decide), g_in_p (by decide) (by decide)]
    exact ⟨_, rfl, rfl⟩
theorem isBall_eq {ball bc : Int32} (h0 : 0 ≤ bc.toInt) (h5 : bc.toInt ≤ 5) : fX6_isBall ball bc = fX3_hasBall ball bc := by
  have e1 : (bc - 1).toInt = bc.toInt - 1 := fb_subI (x := bc) (y := 1) (by show _ ≤ _ - (1 : Int); omega) (by show _ - (1 : Int) < _; omega)
  unfold fX6_isBall fX6_within
  by_cases hb : bOK ball bc
  · rw [hb_yes hb]
    obtain ⟨h1, h2, h3⟩ := hb
    rw [if_neg (by rw [fa_lt]; show ¬ ball.toInt < 0; omega), if_neg (by rw [fa_lt, e1]; omega)]
    dsimp only [b1_p]
    rw [g_b_p (Or.inr rfl)]
  · rw [hb_no h5 hb]
    by_cases h1 : ball < 0
    · rw [if_pos h1]
      dsimp only [b1_p]
      rw [g_b_p (Or.inl rfl)]
    · have h2 : bc - 1 < ball := by
        rw [fa_lt, e1]
        rw [fa_lt] at h1
        have h1' : ¬ ball.toInt < 0 := h1
        have : ¬ ball.toInt < bc.toInt := fun q => hb ⟨by omega, q, h5⟩
        omega
      rw [if_neg h1, if_pos h2]
      dsimp only [b1_p]
      rw [g_b_p (Or.inl rfl)]
theorem hasBall_01 (ball bc : Int32) : fX3_hasBall ball bc = some 0 ∨ fX3_hasBall ball bc = some 1 := by
  unfold fX3_hasBall
  repeat' split
  all_goals first | exact Or.inl rfl | exact Or.inr rfl
/-- the two refusals of pace and rise -/
theorem noThrow_eq (pace rise : Int32) : ∃ r, fX5_refusalOfPaceAndRise pace rise = some r ∧ fX6_noThrow pace rise = some r ∧ (r = 0 ∨ r = -4 ∨ r = -6) ∧ (r = 0 → (1 ≤ pace.toInt ∧ pace.toInt ≤ 9) ∧ (-5 ≤ rise.toInt ∧ rise.toInt ≤ 15)) := by
  unfold fX5_refusalOfPaceAndRise fX6_noThrow
  by_cases h1 : pace < 1
  · simp only [h1, if_true]
    exact ⟨-4, rfl, rfl, by decide, fun q => absurd q (by decide)⟩
  · by_cases h2 : (-5) ≤ rise
    · by_cases h3 : 9 < pace
      · simp only [h1, h2, h3, if_true, if_false]
        exact ⟨-6, rfl, rfl, by decide, fun q => absurd q (by decide)⟩
      · by_cases h4 : rise ≤ 15
        · simp only [h1, h2, h3, h4, if_true, if_false]
          refine ⟨0, rfl, rfl, by decide, fun _ => ?_⟩
          rw [fa_lt] at h1 h3
          rw [fa_le] at h2 h4
          have h1' : ¬ pace.toInt < 1 := h1
          have h3' : ¬ 9 < pace.toInt := h3
          have h2' : -5 ≤ rise.toInt := h2
          have h4' : rise.toInt ≤ 15 := h4
          exact ⟨⟨by omega, by omega⟩, ⟨by omega, by omega⟩⟩
        · simp only [h1, h2, h3, h4, if_true, if_false]
          exact ⟨-6, rfl, rfl, by decide, fun q => absurd q (by decide)⟩
    · simp only [h1, h2, if_false]
      exact ⟨-4, rfl, rfl, by decide, fun q => absurd q (by decide)⟩
/-- the refusal of a throw, in both: the class asks for all at once, the reference for the ball first -/
theorem refThrow (ball pace rise : Int32) {bc : Int32} (h5 : bc.toInt ≤ 5) :
    (¬ bOK ball bc ∧ fX3_hasBall ball bc = some 0 ∧ fX5_refusalOfThrow ball pace rise bc = some (-1)) ∨
    (bOK ball bc ∧ fX3_hasBall ball bc = some 1 ∧ ∃ r, fX5_refusalOfThrow ball pace rise bc = some r ∧ fX6_noThrow pace rise = some r ∧ (r = 0 ∨ r = -4 ∨ r = -6) ∧ (r = 0 → (1 ≤ pace.toInt ∧ pace.toInt ≤ 9) ∧ (-5 ≤ rise.toInt ∧ rise.toInt ≤ 15))) := by
  by_cases hb : bOK ball bc
  · refine Or.inr ⟨hb, hb_yes hb, ?_⟩
    obtain ⟨r, h1, h2, h3, h4⟩ := noThrow_eq pace rise
    refine ⟨r, ?_, h2, h3, h4⟩
    unfold fX5_refusalOfThrow
    rw [hb_yes hb, h1]
    dsimp only [b1_p]
    rw [if_neg (by decide)]
  · refine Or.inl ⟨hb, hb_no h5 hb, ?_⟩
    unfold fX5_refusalOfThrow
    rw [hb_no h5 hb]
    dsimp only [b1_p]
    rw [if_pos rfl]
/-- letter -/
theorem p_letter (c : Int32) (rf : Nat → Int32) {len : Int32} (lt : Nat → Int32) (h0 : 0 ≤ len.toInt) (h1 : len.toInt ≤ 80) :
    ∃ r rf' len' lt', fX5_letter c rf len lt = some (r, rf', len', lt') ∧ fX6_letter c len rf lt = some (r, len', rf', lt') ∧ 0 ≤ len'.toInt ∧ len'.toInt ≤ 80 := by
  unfold fX5_letter fX6_letter
  by_cases hc : 0 ≤ c
  · by_cases hc2 : 255 < c
    · obtain ⟨a', e1, e2⟩ := refuse_eq (x := -6) (by decide) rf
      simp only [hc, hc2, if_true, e1, e2, b2_p]
      exact ⟨_, _, _, _, rfl, rfl, h0, h1⟩
    · unfold fX4_hasRoom fX4_add
      by_cases h8 : len = 80
      · subst h8
        obtain ⟨a', e1, e2⟩ := refuse_eq (x := -6) (by decide) rf
        simp only [hc, hc2, if_true, if_false, e1, e2, b1_p, b2_p, show ((80 : Int32) ≤ 80) from by decide]
        exact ⟨_, _, _, _, rfl, rfl, by decide, by decide⟩
      · have h8' : ¬ 80 ≤ len := by
          rw [fa_le]
          rw [fa_eq] at h8
          have h8' : ¬ len.toInt = 80 := h8
          show ¬ (80 : Int) ≤ len.toInt
          omega
        have hl : len.toInt < 80 := by
          rw [fa_le] at h8'
          have h8' : ¬ (80 : Int) ≤ len.toInt := h8'
          omega
        have hn : ¬ len < 0 := by rw [fa_lt]; show ¬ len.toInt < 0; omega
        have e1 : (len + 1).toInt = len.toInt + 1 := i_add1 (by omega)
        simp only [hc, hc2, h8, h8', hn, if_true, if_false, b1_p, show ¬ ((1 : Int32) = 0) from by decide]
        rw [g_in_p h0 (by show len.toInt < 80; omega), g_in_p h0 (by show len.toInt < 80; omega)]
        dsimp only [b3_p]
        exact ⟨_, _, _, _, rfl, rfl, by omega, by omega⟩
  · obtain ⟨a', e1, e2⟩ := refuse_eq (x := -4) (by decide) rf
    simp only [hc, if_false, e1, e2, b2_p]
    exact ⟨_, _, _, _, rfl, rfl, h0, h1⟩
/-- pass -/
theorem p_pass (x : Int32) (rf : Nat → Int32) {sec : Int32} (h0 : 0 ≤ sec.toInt) (h1 : sec.toInt ≤ 9999) :
    ∃ r rf' sec', fX5_pass x rf sec = some (r, rf', sec') ∧ fX6_pass x sec rf = some (r, sec', rf') ∧ 0 ≤ sec'.toInt ∧ sec'.toInt ≤ 9999 := by
  unfold fX5_pass fX6_pass
  by_cases hc : 1 ≤ x
  · by_cases hc2 : 99 < x
    · obtain ⟨a', e1, e2⟩ := refuse_eq (x := -6) (by decide) rf
      simp only [hc, hc2, if_true, e1, e2, b2_p]
      exact ⟨_, _, _, rfl, rfl, h0, h1⟩
    · by_cases hc3 : sec + x ≤ 9999
      · simp only [hc, hc2, hc3, if_true, if_false]
        rw [fa_le] at hc hc3
        rw [fa_lt] at hc2
        have hc' : 1 ≤ x.toInt := hc
        have hc2' : ¬ 99 < x.toInt := hc2
        have hc3' : (sec + x).toInt ≤ 9999 := hc3
        have e1 : (sec + x).toInt = sec.toInt + x.toInt := fb_addI (by omega) (by omega)
        exact ⟨_, _, _, rfl, rfl, by omega, by omega⟩
      · obtain ⟨a', e1, e2⟩ := refuse_eq (x := -6) (by decide) rf
        simp only [hc, hc2, hc3, if_true, if_false, e1, e2, b2_p]
        exact ⟨_, _, _, rfl, rfl, h0, h1⟩
  · obtain ⟨a', e1, e2⟩ := refuse_eq (x := -4) (by decide) rf
    simp only [hc, if_false, e1, e2, b2_p]
    exact ⟨_, _, _, rfl, rfl, h0, h1⟩
/-- row -/
theorem p_row (x : Int32) (rf : Nat → Int32) {tc : Int32} (tl : Nat → Int32) (h0 : 0 ≤ tc.toInt) (h1 : tc.toInt ≤ 12) :
    ∃ r tc' rf' tl', fX5_row x tc rf tl = some (r, tc', rf', tl') ∧ fX6_row x tc rf tl = some (r, tc', rf', tl') ∧ 0 ≤ tc'.toInt ∧ tc'.toInt ≤ 12 := by
  unfold fX5_row fX6_row
  by_cases hc : 0 ≤ x
  · by_cases hc2 : 9999 < x
    · obtain ⟨a', e1, e2⟩ := refuse_eq (x := -6) (by decide) rf
      simp only [hc, hc2, if_true, e1, e2, b2_p]
      exact ⟨_, _, _, _, rfl, rfl, h0, h1⟩
    · by_cases h8 : tc = 12
      · subst h8
        obtain ⟨a', e1, e2⟩ := refuse_eq (x := -6) (by decide) rf
        simp only [hc, hc2, if_true, if_false, e1, e2, b2_p, show ¬ ((12 : Int32) < 12) from by decide]
        exact ⟨_, _, _, _, rfl, rfl, by decide, by decide⟩
      · have hl : tc.toInt < 12 := by
          rw [fa_eq] at h8
          have h8' : ¬ tc.toInt = 12 := h8
          omega
        have h8' : tc < 12 := by rw [fa_lt]; exact hl
        have e1 : (tc + 1).toInt = tc.toInt + 1 := i_add1 (by omega)
        simp only [hc, hc2, h8, h8', if_true, if_false]
        rw [g_in_p h0 (by show tc.toInt < 12; omega)]
        exact ⟨_, _, _, _, rfl, rfl, by omega, by omega⟩
  · obtain ⟨a', e1, e2⟩ := refuse_eq (x := -4) (by decide) rf
    simp only [hc, if_false, e1, e2, b2_p]
    exact ⟨_, _, _, _, rfl, rfl, h0, h1⟩
theorem AEq.up {n : Nat} {f g : Nat → Int32} (h : AEq n f g) (k : Nat) (x : Int32) : AEq n (upd f k x) (upd g k x) := by
  intro i hi
  unfold upd
  by_cases e : i = k
  · rw [if_pos e, if_pos e]
  · rw [if_neg e, if_neg e]; exact h i hi
/-- crumple -/
theorem p_crumple (ball v : Int32) {bc : Int32} (rf : Nat → Int32) {ts ts' : Nat → Int32} (h0 : 0 ≤ bc.toInt) (h5 : bc.toInt ≤ 5) (ht : AEq 5 ts ts') :
    ∃ r rf' a b, fX5_crumple ball v bc rf ts = some (r, rf', a) ∧ fX6_crumple ball v bc rf ts' = some (r, rf', b) ∧ AEq 5 a b := by
  unfold fX5_crumple fX6_crumple
  rw [isBall_eq h0 h5]
  by_cases hb : bOK ball bc
  · rw [hb_yes hb]
    dsimp only [b1_p]
    rw [if_neg (show ¬ ((1 : Int32) = 0) by decide), if_neg (show ¬ ((1 : Int32) = 0) by decide)]
    by_cases h1 : 0 ≤ v
    · by_cases h2 : v ≤ 9
      · have hi : ball.toInt < ((5 : Nat) : Int) := by have := hb.2; show ball.toInt < 5; omega
        rw [if_pos h1, if_pos h1, if_pos h2, if_pos h2, tight_c hb, g_in_p hb.1 hi, g_in_p hb.1 hi]
        unfold fX3_setTight
        rw [hb_yes hb]
        dsimp only [b1_p]
        rw [if_neg (by decide), g_in_p hb.1 hi]
        dsimp only [b1_p]
        refine ⟨_, _, _, _, rfl, ?_, ht.up _ _⟩
        rw [ht _ (clamp_lt hi (by decide))]
      · obtain ⟨a', e1, e2⟩ := refuse_eq (x := -6) (by decide) rf
        rw [if_pos h1, if_pos h1, if_neg h2, if_neg h2, e1, e2]
        exact ⟨_, _, _, _, rfl, rfl, ht⟩
    · obtain ⟨a', e1, e2⟩ := refuse_eq (x := -4) (by decide) rf
      rw [if_neg h1, if_neg h1, e1, e2]
      exact ⟨_, _, _, _, rfl, rfl, ht⟩
  · rw [hb_no h5 hb]
    obtain ⟨a', e1, e2⟩ := refuse_eq (x := -1) (by decide) rf
    dsimp only [b1_p]
    rw [if_pos rfl, if_pos rfl, e1, e2]
    exact ⟨_, _, _, _, rfl, rfl, ht⟩
/-! the searching calls: both sides look at the same flights -/
theorem in_eq {hand at_ wide rim fill wall ceiling puff period second sec bc ball : Int32} {ks ss ts km sm tm : Nat → Int32} (ho : OkO hand at_ wide rim fill wall ceiling puff period second) (hb : bOK ball bc) (h1 : AEq 5 ss sm) (h2 : AEq 5 ts tm) (h3 : AEq 5 ks km) (pace rise : Int32) : ∃ f u1 u2 u3 u4 u5 u6 u7 u8, fX5_endsIn ball pace rise hand at_ wide rim fill wall ceiling puff period sec bc ss ts ks = some (f, u1, u2, u3, u4, u5, u6, u7, u8) ∧ fX6_isIn ball pace rise hand at_ wide rim fill wall ceiling puff period sec sm tm km = some (f, u1, u2, u3, u4, u5) ∧ (f = 0 ∨ f = 1) := by
  obtain ⟨e, c, st, g, k, h, p, r, e1, e2, -⟩ := fly_eq (sec := sec) ho hb h1 h2 h3 pace rise
  by_cases he : e = 0
  · refine ⟨1, e, c, st, g, k, h, p, r, ?_, ?_, Or.inr rfl⟩
    · unfold fX5_endsIn; rw [e1]; dsimp only [b8_p]; rw [if_pos he]
    · unfold fX6_isIn; rw [e2]; dsimp only [b6_p]; rw [if_pos he]
  · refine ⟨0, e, c, st, g, k, h, p, r, ?_, ?_, Or.inl rfl⟩
    · unfold fX5_endsIn; rw [e1]; dsimp only [b8_p]; rw [if_neg he]
    · unfold fX6_isIn; rw [e2]; dsimp only [b6_p]; rw [if_neg he]
theorem good_in {hand at_ wide rim fill wall ceiling puff period second sec bc ball : Int32} {ks ss ts km sm tm : Nat → Int32} (ho : OkO hand at_ wide rim fill wall ceiling puff period second) (hb : bOK ball bc) (h1 : AEq 5 ss sm) (h2 : AEq 5 ts tm) (h3 : AEq 5 ks km) (P : Option (Int32 × Int32 × Int32 × Int32 × Int32 × Int32 × Int32 × Int32 × Int32) → Option (Int32 × Int32 × Int32 × Int32 × Int32 × Int32) → Prop) {x3 x5 : Int32} {kC : Int32 → Int32 → Int32 → Int32 → Int32 → Int32 → Int32 → Int32 → Int32 → Int32 → Option (Int32 × Int32 × Int32 × Int32 × Int32 × Int32 × Int32 × Int32 × Int32)} {kM : Int32 → Int32 → Int32 → Int32 → Int32 → Int32 → Int32 → Option (Int32 × Int32 × Int32 × Int32 × Int32 × Int32)} (hx : -100 ≤ x3.toInt ∧ x3.toInt ≤ 100)
    (hk : ∀ (x4 : Int32) (u1 u2 u3 u4 u5 u6 u7 u8 v1 v2 v3 v4 v5 : Int32), P (kC x4 (x5 + 1) u1 u2 u3 u4 u5 u6 u7 u8) (kM x4 (x5 + 1) v1 v2 v3 v4 v5)) :
    ∀ (n : Nat) (x4 x6 : Int32) (u1 u2 u3 u4 u5 u6 u7 u8 v1 v2 v3 v4 v5 : Int32), x6.toInt ≤ x3.toInt + 2 → x3.toInt + 2 - x6.toInt < n → P (lX5_goodWithSlips_21 ball x3 hand at_ wide rim fill wall ceiling puff period sec bc ss ts ks n x4 x5 x6 u1 u2 u3 u4 u5 u6 u7 u8 kC) (lX6_goodOf_21 ball x3 hand at_ wide rim fill wall ceiling puff period sec sm tm km n x4 x5 x6 v1 v2 v3 v4 v5 kM) := by
  intro n
  induction n with
  | zero => intro x4 x6 u1 u2 u3 u4 u5 u6 u7 u8 v1 v2 v3 v4 v5 a b; omega
  | succ n ih =>
    intro x4 x6 u1 u2 u3 u4 u5 u6 u7 u8 v1 v2 v3 v4 v5 a b
    rw [lX5_goodWithSlips_21, lX6_goodOf_21]
    have e3 : (x3 + 1).toInt = x3.toInt + 1 := i_add1 (by omega)
    by_cases hc : x3 + 1 < x6
    · rw [if_pos hc, if_pos hc]
      exact hk _ _ _ _ _ _ _ _ _ _ _ _ _ _
    · have hc' : x6.toInt ≤ x3.toInt + 1 := by
        rw [fa_lt, e3] at hc; omega
      have e6 : (x6 + 1).toInt = x6.toInt + 1 := i_add1 (by omega)
      rw [if_neg hc, if_neg hc]
      obtain ⟨f, w1, w2, w3, w4, w5, w6, w7, w8, q1, q2, q3⟩ := in_eq (sec := sec) ho hb h1 h2 h3 x5 x6
      rw [q1, q2]
      dsimp only [b9_p, b6_p]
      unfold jX5_goodWithSlips_48 jX6_goodOf_44
      by_cases hf : f = 0
      · rw [if_pos hf, if_pos hf]
        exact ih _ _ _ _ _ _ _ _ _ _ _ _ _ _ _ (by omega) (by omega)
      · rw [if_neg hf, if_neg hf]
        exact ih _ _ _ _ _ _ _ _ _ _ _ _ _ _ _ (by omega) (by omega)
theorem good_out {hand at_ wide rim fill wall ceiling puff period second sec bc ball : Int32} {ks ss ts km sm tm : Nat → Int32} (ho : OkO hand at_ wide rim fill wall ceiling puff period second) (hb : bOK ball bc) (h1 : AEq 5 ss sm) (h2 : AEq 5 ts tm) (h3 : AEq 5 ks km) {x2 x3 : Int32} (hx2 : -100 ≤ x2.toInt ∧ x2.toInt ≤ 100) (hx : -99 ≤ x3.toInt ∧ x3.toInt ≤ 100) :
    ∀ (n : Nat) (x4 x5 : Int32) (u1 u2 u3 u4 u5 u6 u7 u8 v1 v2 v3 v4 v5 : Int32), x5.toInt ≤ x2.toInt + 2 → x2.toInt + 2 - x5.toInt < n → ((fun a b => ∃ v u1 u2 u3 u4 u5 u6 u7 u8 v1 v2 v3 v4 v5, a = some (v, u1, u2, u3, u4, u5, u6, u7, u8) ∧ b = some (v, v1, v2, v3, v4, v5)) (lX5_goodWithSlips_8 ball x2 x3 hand at_ wide rim fill wall ceiling puff period sec bc ss ts ks n x4 x5 u1 u2 u3 u4 u5 u6 u7 u8) (lX6_goodOf_8 ball x2 x3 hand at_ wide rim fill wall ceiling puff period sec sm tm km n x4 x5 v1 v2 v3 v4 v5) : Prop) := by
  intro n
  induction n with
  | zero => intro x4 x5 u1 u2 u3 u4 u5 u6 u7 u8 v1 v2 v3 v4 v5 a b; omega
  | succ n ih =>
    intro x4 x5 u1 u2 u3 u4 u5 u6 u7 u8 v1 v2 v3 v4 v5 a b
    rw [lX5_goodWithSlips_8, lX6_goodOf_8]
    have e2 : (x2 + 1).toInt = x2.toInt + 1 := i_add1 (by omega)
    have e3 : (x3 - 1).toInt = x3.toInt - 1 := fb_subI (x := x3) (y := 1) (by show _ ≤ _ - (1 : Int); omega) (by show _ - (1 : Int) < _; omega)
    by_cases hc : x2 + 1 < x5
    · rw [if_pos hc, if_pos hc]
      exact ⟨_, _, _, _, _, _, _, _, _, _, _, _, _, _, rfl, rfl⟩
    · have hc' : x5.toInt ≤ x2.toInt + 1 := by
        rw [fa_lt, e2] at hc; omega
      have e6 : (x5 + 1).toInt = x5.toInt + 1 := i_add1 (by omega)
      rw [if_neg hc, if_neg hc]
      exact good_in (sec := sec) ho hb h1 h2 h3 (fun a b => ∃ v u1 u2 u3 u4 u5 u6 u7 u8 v1 v2 v3 v4 v5, a = some (v, u1, u2, u3, u4, u5, u6, u7, u8) ∧ b = some (v, v1, v2, v3, v4, v5)) ⟨by omega, by omega⟩ (fun z4 u1 u2 u3 u4 u5 u6 u7 u8 v1 v2 v3 v4 v5 => ih z4 (x5 + 1) u1 u2 u3 u4 u5 u6 u7 u8 v1 v2 v3 v4 v5 (by omega) (by omega)) 100 x4 (x3 - 1) u1 u2 u3 u4 u5 u6 u7 u8 v1 v2 v3 v4 v5 (by omega) (by omega)
theorem good_eq {hand at_ wide rim fill wall ceiling puff period second sec bc ball : Int32} {ks ss ts km sm tm : Nat → Int32} (ho : OkO hand at_ wide rim fill wall ceiling puff period second) (hb : bOK ball bc) (h1 : AEq 5 ss sm) (h2 : AEq 5 ts tm) (h3 : AEq 5 ks km) {pace rise : Int32} (hx2 : -50 ≤ pace.toInt ∧ pace.toInt ≤ 50) (hx : -50 ≤ rise.toInt ∧ rise.toInt ≤ 50) (u1 u2 u3 u4 u5 u6 u7 u8 v1 v2 v3 v4 v5 : Int32) :
    (fun a b => ∃ v u1 u2 u3 u4 u5 u6 u7 u8 v1 v2 v3 v4 v5, a = some (v, u1, u2, u3, u4, u5, u6, u7, u8) ∧ b = some (v, v1, v2, v3, v4, v5)) (fX5_goodWithSlips ball pace rise u1 u2 u3 u4 u5 u6 u7 u8 hand at_ wide rim fill wall ceiling puff period sec bc ss ts ks) (fX6_goodOf ball pace rise hand at_ wide rim fill wall ceiling puff period sec v1 v2 v3 v4 v5 sm tm km) := by
  unfold fX5_goodWithSlips fX6_goodOf
  have e3 : (pace - 1).toInt = pace.toInt - 1 := fb_subI (x := pace) (y := 1) (by show _ ≤ _ - (1 : Int); omega) (by show _ - (1 : Int) < _; omega)
  exact good_out (sec := sec) ho hb h1 h2 h3 ⟨by omega, by omega⟩ ⟨by omega, by omega⟩ 100 0 (pace - 1) u1 u2 u3 u4 u5 u6 u7 u8 v1 v2 v3 v4 v5 (by omega) (by omega)
theorem p_good {hand at_ wide rim fill wall ceiling puff period second sec bc : Int32} {ks ss ts km sm tm : Nat → Int32} (ho : OkO hand at_ wide rim fill wall ceiling puff period second) (hb0 : 0 ≤ bc.toInt) (hb5 : bc.toInt ≤ 5) (h1 : AEq 5 ss sm) (h2 : AEq 5 ts tm) (h3 : AEq 5 ks km) (x1 x2 x3 : Int32) (rf : Nat → Int32) (u1 u2 u3 u4 u5 u6 u7 u8 v1 v2 v3 v4 v5 : Int32) :
    ∃ r rf' a1 a2 a3 a4 a5 a6 a7 a8 b1 b2 b3 b4 b5, fX5_good x1 x2 x3 hand at_ wide rim fill wall ceiling puff period sec bc rf u1 u2 u3 u4 u5 u6 u7 u8 ss ts ks = some (r, rf', a1, a2, a3, a4, a5, a6, a7, a8) ∧ fX6_good x1 x2 x3 hand at_ wide rim fill wall ceiling puff period sec bc v1 v2 v3 v4 v5 rf sm tm km = some (r, b1, b2, b3, b4, b5, rf') := by
  unfold fX5_good fX6_good
  rw [isBall_eq hb0 hb5]
  rcases refThrow x1 x2 x3 hb5 with ⟨hb, q1, q2⟩ | ⟨hb, q1, r, q2, q3, q4, q5⟩
  · obtain ⟨a', e1, e2⟩ := refuse_eq (x := -1) (by decide) rf
    rw [q1, q2]
    dsimp only [b1_p]
    rw [if_neg (by decide), if_pos rfl, e1, e2]
    exact ⟨_, _, _, _, _, _, _, _, _, _, _, _, _, _, _, rfl, rfl⟩
  · rw [q1, q2]
    dsimp only [b1_p]
    rw [if_neg (show ¬ ((1 : Int32) = 0) by decide), q3]
    try dsimp only [b1_p, b2_p, b3_p, b4_p, b5_p, b6_p, b7_p, b8_p, b9_p, b10_p, b13_p, b14_p, b16_p]
    rcases q4 with rfl | rfl | rfl
    · rw [if_pos rfl, if_pos (show (0 : Int32) ≤ 0 by decide)]
      obtain ⟨hp, hr⟩ := q5 rfl
      obtain ⟨v, w1, w2, w3, w4, w5, w6, w7, w8, y1, y2, y3, y4, y5, e1, e2⟩ := good_eq (sec := sec) ho hb h1 h2 h3 (pace := x2) (rise := x3) ⟨by omega, by omega⟩ ⟨by omega, by omega⟩ u1 u2 u3 u4 u5 u6 u7 u8 v1 v2 v3 v4 v5
      rw [e1, e2]
      exact ⟨_, _, _, _, _, _, _, _, _, _, _, _, _, _, _, rfl, rfl⟩
    · obtain ⟨a', e1, e2⟩ := refuse_eq (x := -4) (by decide) rf
      rw [if_neg (by decide), if_neg (by decide), e1, e2]
      exact ⟨_, _, _, _, _, _, _, _, _, _, _, _, _, _, _, rfl, rfl⟩
    · obtain ⟨a', e1, e2⟩ := refuse_eq (x := -6) (by decide) rf
      rw [if_neg (by decide), if_neg (by decide), e1, e2]
      exact ⟨_, _, _, _, _, _, _, _, _, _, _, _, _, _, _, rfl, rfl⟩
/-! best, off, whose: the pace and rise loops side by side -/
theorem i_ge16 (x : Int32) : 15 < x ↔ 16 ≤ x := by
  rw [fa_lt, fa_le]
  show (15 : Int) < x.toInt ↔ (16 : Int) ≤ x.toInt
  omega
theorem i_ge10 (x : Int32) : 9 < x ↔ 10 ≤ x := by
  rw [fa_lt, fa_le]
  show (9 : Int) < x.toInt ↔ (10 : Int) ≤ x.toInt
  omega
theorem i_n15 {x : Int32} (h : ¬ 15 < x) : x.toInt ≤ 15 := by
  rw [fa_lt] at h
  have h' : ¬ (15 : Int) < x.toInt := h
  omega
theorem i_n9 {x : Int32} (h : ¬ 9 < x) : x.toInt ≤ 9 := by
  rw [fa_lt] at h
  have h' : ¬ (9 : Int) < x.toInt := h
  omega
theorem by_eq (a b : Int32) : a + b - (-5) = a + 5 + b := by
  rw [Int32.sub_eq_add_neg, Int32.add_assoc, Int32.add_assoc, Int32.add_comm b]
  rfl
theorem i_le_lt (a b : Int32) : a ≤ b ↔ ¬ b < a := by rw [fa_le, fa_lt]; omega
theorem best_in {hand at_ wide rim fill wall ceiling puff period second sec bc ball : Int32} {ks ss ts km sm tm : Nat → Int32} (ho : OkO hand at_ wide rim fill wall ceiling puff period second) (hb : bOK ball bc) (h1 : AEq 5 ss sm) (h2 : AEq 5 ts tm) (h3 : AEq 5 ks km) (P : Option (Int32 × (Nat → Int32) × Int32 × Int32 × Int32 × Int32 × Int32 × Int32 × Int32 × Int32) → Option (Int32 × Int32 × Int32 × Int32 × Int32 × Int32 × (Nat → Int32)) → Prop) {pa : Int32} {rf : Nat → Int32} {kC : Int32 → Int32 → Int32 → (Nat → Int32) → Int32 → Int32 → Int32 → Int32 → Int32 → Int32 → Int32 → Int32 → Option (Int32 × (Nat → Int32) × Int32 × Int32 × Int32 × Int32 × Int32 × Int32 × Int32 × Int32)} {kM : Int32 → Int32 → Int32 → Int32 → Int32 → Int32 → Int32 → Int32 → (Nat → Int32) → Option (Int32 × Int32 × Int32 × Int32 × Int32 × Int32 × (Nat → Int32))} (hp : -50 ≤ pa.toInt ∧ pa.toInt ≤ 50)
    (hk : ∀ (mo by_ : Int32) (u1 u2 u3 u4 u5 u6 u7 u8 v1 v2 v3 v4 v5 : Int32), P (kC mo by_ (pa + 1) rf u1 u2 u3 u4 u5 u6 u7 u8) (kM mo by_ (pa + 1) v1 v2 v3 v4 v5 rf)) :
    ∀ (n : Nat) (mo by_ ri : Int32) (u1 u2 u3 u4 u5 u6 u7 u8 v1 v2 v3 v4 v5 : Int32), -5 ≤ ri.toInt → ri.toInt ≤ 16 → 16 - ri.toInt < n → P (lX5_best_37 ball hand at_ wide rim fill wall ceiling puff period sec bc ss ts ks n mo by_ pa ri rf u1 u2 u3 u4 u5 u6 u7 u8 kC) (lX6_best_49 ball hand at_ wide rim fill wall ceiling puff period sec sm tm km n mo by_ pa ri v1 v2 v3 v4 v5 rf kM) := by
  intro n
  induction n with
  | zero => intro mo by_ ri u1 u2 u3 u4 u5 u6 u7 u8 v1 v2 v3 v4 v5 a b d; omega
  | succ n ih =>
    intro mo by_ ri u1 u2 u3 u4 u5 u6 u7 u8 v1 v2 v3 v4 v5 a b d
    rw [lX5_best_37, lX6_best_49]
    by_cases hc : 15 < ri
    · rw [if_pos hc, if_pos ((i_ge16 ri).mp hc)]
      exact hk _ _ _ _ _ _ _ _ _ _ _ _ _ _ _
    · have hc' := i_n15 hc
      have e6 : (ri + 1).toInt = ri.toInt + 1 := i_add1 (by omega)
      rw [if_neg hc, if_neg (fun q => hc ((i_ge16 ri).mpr q))]
      obtain ⟨v, w1, w2, w3, w4, w5, w6, w7, w8, y1, y2, y3, y4, y5, e1, e2⟩ := good_eq (sec := sec) ho hb h1 h2 h3 (pace := pa) (rise := ri) ⟨by omega, by omega⟩ ⟨by omega, by omega⟩ u1 u2 u3 u4 u5 u6 u7 u8 v1 v2 v3 v4 v5
      rw [e1, e2]
      dsimp only [b9_p, b6_p]
      unfold jX5_best_79 jX6_best_91
      by_cases hv : v ≤ mo
      · rw [if_pos hv, if_neg ((i_le_lt _ _).mp hv)]
        exact ih _ _ _ _ _ _ _ _ _ _ _ _ _ _ _ _ (by omega) (by omega) (by omega)
      · have hv' : mo < v := by
          rw [i_le_lt] at hv
          exact Decidable.not_not.mp hv
        rw [if_neg hv, if_pos hv', by_eq]
        exact ih _ _ _ _ _ _ _ _ _ _ _ _ _ _ _ _ (by omega) (by omega) (by omega)
theorem best_out {hand at_ wide rim fill wall ceiling puff period second sec bc ball : Int32} {ks ss ts km sm tm : Nat → Int32} (ho : OkO hand at_ wide rim fill wall ceiling puff period second) (hb : bOK ball bc) (h1 : AEq 5 ss sm) (h2 : AEq 5 ts tm) (h3 : AEq 5 ks km) (rf : Nat → Int32) (what : Int32) :
    ∀ (n : Nat) (mo by_ pa : Int32) (u1 u2 u3 u4 u5 u6 u7 u8 v1 v2 v3 v4 v5 : Int32), 1 ≤ pa.toInt → pa.toInt ≤ 10 → 10 - pa.toInt < n → ((fun a b => ∃ v u1 u2 u3 u4 u5 u6 u7 u8 v1 v2 v3 v4 v5, a = some (v, rf, u1, u2, u3, u4, u5, u6, u7, u8) ∧ b = some (v, v1, v2, v3, v4, v5, rf)) (lX5_best_26 ball what hand at_ wide rim fill wall ceiling puff period sec bc ss ts ks n mo by_ pa rf u1 u2 u3 u4 u5 u6 u7 u8) (lX6_best_38 ball what hand at_ wide rim fill wall ceiling puff period sec sm tm km n mo by_ pa v1 v2 v3 v4 v5 rf) : Prop) := by
  intro n
  induction n with
  | zero => intro mo by_ pa u1 u2 u3 u4 u5 u6 u7 u8 v1 v2 v3 v4 v5 a b d; omega
  | succ n ih =>
    intro mo by_ pa u1 u2 u3 u4 u5 u6 u7 u8 v1 v2 v3 v4 v5 a b d
    rw [lX5_best_26, lX6_best_38]
    by_cases hc : 9 < pa
    · rw [if_pos hc, if_pos ((i_ge10 pa).mp hc)]
      by_cases hw : what = 0
      · rw [if_pos hw, if_pos hw]
        exact ⟨_, _, _, _, _, _, _, _, _, _, _, _, _, _, rfl, rfl⟩
      · rw [if_neg hw, if_neg hw]
        exact ⟨_, _, _, _, _, _, _, _, _, _, _, _, _, _, rfl, rfl⟩
    · have hc' := i_n9 hc
      have e6 : (pa + 1).toInt = pa.toInt + 1 := i_add1 (by omega)
      rw [if_neg hc, if_neg (fun q => hc ((i_ge10 pa).mpr q))]
      exact best_in (sec := sec) ho hb h1 h2 h3 (fun a b => ∃ v u1 u2 u3 u4 u5 u6 u7 u8 v1 v2 v3 v4 v5, a = some (v, rf, u1, u2, u3, u4, u5, u6, u7, u8) ∧ b = some (v, v1, v2, v3, v4, v5, rf)) ⟨by omega, by omega⟩ (fun z1 z2 u1 u2 u3 u4 u5 u6 u7 u8 v1 v2 v3 v4 v5 => ih z1 z2 (pa + 1) u1 u2 u3 u4 u5 u6 u7 u8 v1 v2 v3 v4 v5 (by omega) (by omega) (by omega)) 100 mo by_ (-5) u1 u2 u3 u4 u5 u6 u7 u8 v1 v2 v3 v4 v5 (by decide) (by decide) (by decide)
theorem what_eq (ball what : Int32) {bc : Int32} (h5 : bc.toInt ≤ 5) :
    (¬ bOK ball bc ∧ fX3_hasBall ball bc = some 0 ∧ fX5_refusalOfBallAndPart ball what bc = some (-1)) ∨
    (bOK ball bc ∧ fX3_hasBall ball bc = some 1 ∧ fX5_refusalOfBallAndPart ball what bc = some (-2) ∧ fX6_within what 0 1 = some 0) ∨
    (bOK ball bc ∧ fX3_hasBall ball bc = some 1 ∧ fX5_refusalOfBallAndPart ball what bc = some 0 ∧ fX6_within what 0 1 = some 1) := by
  unfold fX5_refusalOfBallAndPart fX6_within
  by_cases hb : bOK ball bc
  · rw [hb_yes hb]
    dsimp only [b1_p]
    by_cases w0 : what = 0
    · refine Or.inr (Or.inr ⟨hb, rfl, ?_, ?_⟩)
      · rw [if_neg (by decide), if_pos w0]
      · rw [w0]; rfl
    · by_cases w1 : what = 1
      · refine Or.inr (Or.inr ⟨hb, rfl, ?_, ?_⟩)
        · rw [if_neg (by decide), if_neg w0, if_pos w1]
        · rw [w1]; rfl
      · refine Or.inr (Or.inl ⟨hb, rfl, ?_, ?_⟩)
        · rw [if_neg (by decide), if_neg w0, if_neg w1]
        · by_cases q1 : what < 0
          · rw [if_pos q1]
          · have q2 : 1 < what := by
              rw [fa_lt] at q1
              rw [fa_eq] at w0 w1
              rw [fa_lt]
              have q1' : ¬ what.toInt < 0 := q1
              have w0' : ¬ what.toInt = 0 := w0
              have w1' : ¬ what.toInt = 1 := w1
              show (1 : Int) < what.toInt
              omega
            rw [if_neg q1, if_pos q2]
  · refine Or.inl ⟨hb, hb_no h5 hb, ?_⟩
    rw [hb_no h5 hb]
    dsimp only [b1_p]
    rw [if_pos rfl]
theorem p_best {hand at_ wide rim fill wall ceiling puff period second sec bc : Int32} {ks ss ts km sm tm : Nat → Int32} (ho : OkO hand at_ wide rim fill wall ceiling puff period second) (hb0 : 0 ≤ bc.toInt) (hb5 : bc.toInt ≤ 5) (h1 : AEq 5 ss sm) (h2 : AEq 5 ts tm) (h3 : AEq 5 ks km) (x1 x2 : Int32) (rf : Nat → Int32) (u1 u2 u3 u4 u5 u6 u7 u8 v1 v2 v3 v4 v5 : Int32) :
    ∃ r rf' a1 a2 a3 a4 a5 a6 a7 a8 b1 b2 b3 b4 b5, fX5_best x1 x2 hand at_ wide rim fill wall ceiling puff period sec bc rf u1 u2 u3 u4 u5 u6 u7 u8 ss ts ks = some (r, rf', a1, a2, a3, a4, a5, a6, a7, a8) ∧ fX6_best x1 x2 hand at_ wide rim fill wall ceiling puff period sec bc v1 v2 v3 v4 v5 rf sm tm km = some (r, b1, b2, b3, b4, b5, rf') := by
  unfold fX5_best fX6_best
  rw [isBall_eq hb0 hb5]
  rcases what_eq x1 x2 hb5 with ⟨hb, q1, q2⟩ | ⟨hb, q1, q2, q3⟩ | ⟨hb, q1, q2, q3⟩
  · obtain ⟨a', e1, e2⟩ := refuse_eq (x := -1) (by decide) rf
    rw [q1, q2]
    dsimp only [b1_p]
    rw [if_neg (by decide), if_pos rfl, e1, e2]
    exact ⟨_, _, _, _, _, _, _, _, _, _, _, _, _, _, _, rfl, rfl⟩
  · obtain ⟨a', e1, e2⟩ := refuse_eq (x := -2) (by decide) rf
    rw [q1, q2]
    dsimp only [b1_p]
    rw [if_neg (show ¬ ((1 : Int32) = 0) by decide), q3]
    try dsimp only [b1_p, b2_p, b3_p, b4_p, b5_p, b6_p, b7_p, b8_p, b9_p, b10_p, b13_p, b14_p, b16_p]
    rw [if_neg (by decide), if_pos rfl, e1, e2]
    exact ⟨_, _, _, _, _, _, _, _, _, _, _, _, _, _, _, rfl, rfl⟩
  · rw [q1, q2]
    dsimp only [b1_p]
    rw [if_neg (show ¬ ((1 : Int32) = 0) by decide), q3]
    try dsimp only [b1_p, b2_p, b3_p, b4_p, b5_p, b6_p, b7_p, b8_p, b9_p, b10_p, b13_p, b14_p, b16_p]
    rw [if_pos rfl, if_neg (show ¬ ((1 : Int32) = 0) by decide)]
    obtain ⟨v, w1, w2, w3, w4, w5, w6, w7, w8, y1, y2, y3, y4, y5, e1, e2⟩ := best_out (sec := sec) ho hb h1 h2 h3 rf x2 100 (-1) 0 1 u1 u2 u3 u4 u5 u6 u7 u8 v1 v2 v3 v4 v5 (by decide) (by decide) (by decide)
    rw [e1, e2]
    exact ⟨_, _, _, _, _, _, _, _, _, _, _, _, _, _, _, rfl, rfl⟩
theorem off_in {hand at_ wide rim fill wall ceiling puff period second sec bc ball : Int32} {ks ss ts km sm tm : Nat → Int32} (ho : OkO hand at_ wide rim fill wall ceiling puff period second) (hb : bOK ball bc) (h1 : AEq 5 ss sm) (h2 : AEq 5 ts tm) (h3 : AEq 5 ks km) (P : Option (Int32 × (Nat → Int32) × Int32 × Int32 × Int32 × Int32 × Int32 × Int32 × Int32 × Int32) → Option (Int32 × Int32 × Int32 × Int32 × Int32 × Int32 × (Nat → Int32)) → Prop) {pa : Int32} {rf : Nat → Int32} (what : Int32) {kC : Int32 → Int32 → (Nat → Int32) → Int32 → Int32 → Int32 → Int32 → Int32 → Int32 → Int32 → Int32 → Option (Int32 × (Nat → Int32) × Int32 × Int32 × Int32 × Int32 × Int32 × Int32 × Int32 × Int32)} {kM : Int32 → Int32 → Int32 → Int32 → Int32 → Int32 → Int32 → (Nat → Int32) → Option (Int32 × Int32 × Int32 × Int32 × Int32 × Int32 × (Nat → Int32))}
    (hk : ∀ (ma : Int32) (u1 u2 u3 u4 u5 u6 u7 u8 v1 v2 v3 v4 v5 : Int32), P (kC ma (pa + 1) rf u1 u2 u3 u4 u5 u6 u7 u8) (kM ma (pa + 1) v1 v2 v3 v4 v5 rf)) :
    ∀ (n : Nat) (ma ri : Int32) (u1 u2 u3 u4 u5 u6 u7 u8 v1 v2 v3 v4 v5 : Int32), -5 ≤ ri.toInt → ri.toInt ≤ 16 → 16 - ri.toInt < n → P (lX5_off_34 ball what hand at_ wide rim fill wall ceiling puff period sec bc ss ts ks n ma pa ri rf u1 u2 u3 u4 u5 u6 u7 u8 kC) (lX6_off_46 ball what hand at_ wide rim fill wall ceiling puff period sec sm tm km n ma pa ri v1 v2 v3 v4 v5 rf kM) := by
  intro n
  induction n with
  | zero => intro ma ri u1 u2 u3 u4 u5 u6 u7 u8 v1 v2 v3 v4 v5 a b d; omega
  | succ n ih =>
    intro ma ri u1 u2 u3 u4 u5 u6 u7 u8 v1 v2 v3 v4 v5 a b d
    rw [lX5_off_34, lX6_off_46]
    by_cases hc : 15 < ri
    · rw [if_pos hc, if_pos ((i_ge16 ri).mp hc)]
      exact hk _ _ _ _ _ _ _ _ _ _ _ _ _ _
    · have hc' := i_n15 hc
      have e6 : (ri + 1).toInt = ri.toInt + 1 := i_add1 (by omega)
      rw [if_neg hc, if_neg (fun q => hc ((i_ge16 ri).mpr q))]
      obtain ⟨f, w1, w2, w3, w4, w5, w6, w7, w8, q1, q2, q3⟩ := in_eq (sec := sec) ho hb h1 h2 h3 pa ri
      rw [q1, q2]
      dsimp only [b9_p, b6_p]
      unfold jX5_off_68 jX6_off_91 jX6_off_94 fX5_struckAsAsked
      by_cases hf : f = 0
      · rw [if_pos hf, if_pos hf]
        exact ih _ _ _ _ _ _ _ _ _ _ _ _ _ _ _ (by omega) (by omega) (by omega)
      · rw [if_neg hf, if_neg hf]
        have n1 : ¬ ((1 : Int32) = 0) := by decide
        by_cases hw : what = 0
        · by_cases hs : w5 &&& 2 = 0
          · simp only [hw, hs, if_true, if_false, b1_p]
            rw [← hw]
            exact ih _ _ _ _ _ _ _ _ _ _ _ _ _ _ _ (by omega) (by omega) (by omega)
          · simp only [hw, hs, n1, if_true, if_false, b1_p]
            rw [← hw]
            exact ih _ _ _ _ _ _ _ _ _ _ _ _ _ _ _ (by omega) (by omega) (by omega)
        · by_cases hs : w5 = 0
          · simp only [hw, hs, n1, if_true, if_false, b1_p]
            exact ih _ _ _ _ _ _ _ _ _ _ _ _ _ _ _ (by omega) (by omega) (by omega)
          · simp only [hw, hs, if_true, if_false, b1_p]
            exact ih _ _ _ _ _ _ _ _ _ _ _ _ _ _ _ (by omega) (by omega) (by omega)
theorem off_out {hand at_ wide rim fill wall ceiling puff period second sec bc ball : Int32} {ks ss ts km sm tm : Nat → Int32} (ho : OkO hand at_ wide rim fill wall ceiling puff period second) (hb : bOK ball bc) (h1 : AEq 5 ss sm) (h2 : AEq 5 ts tm) (h3 : AEq 5 ks km) (rf : Nat → Int32) (what : Int32) :
    ∀ (n : Nat) (ma pa : Int32) (u1 u2 u3 u4 u5 u6 u7 u8 v1 v2 v3 v4 v5 : Int32), 1 ≤ pa.toInt → pa.toInt ≤ 10 → 10 - pa.toInt < n → ((fun a b => ∃ v u1 u2 u3 u4 u5 u6 u7 u8 v1 v2 v3 v4 v5, a = some (v, rf, u1, u2, u3, u4, u5, u6, u7, u8) ∧ b = some (v, v1, v2, v3, v4, v5, rf)) (lX5_off_23 ball what hand at_ wide rim fill wall ceiling puff period sec bc ss ts ks n ma pa rf u1 u2 u3 u4 u5 u6 u7 u8) (lX6_off_35 ball what hand at_ wide rim fill wall ceiling puff period sec sm tm km n ma pa v1 v2 v3 v4 v5 rf) : Prop) := by
  intro n
  induction n with
  | zero => intro ma pa u1 u2 u3 u4 u5 u6 u7 u8 v1 v2 v3 v4 v5 a b d; omega
  | succ n ih =>
    intro ma pa u1 u2 u3 u4 u5 u6 u7 u8 v1 v2 v3 v4 v5 a b d
    rw [lX5_off_23, lX6_off_35]
    by_cases hc : 9 < pa
    · rw [if_pos hc, if_pos ((i_ge10 pa).mp hc)]
      exact ⟨_, _, _, _, _, _, _, _, _, _, _, _, _, _, rfl, rfl⟩
    · have hc' := i_n9 hc
      have e6 : (pa + 1).toInt = pa.toInt + 1 := i_add1 (by omega)
      rw [if_neg hc, if_neg (fun q => hc ((i_ge10 pa).mpr q))]
      exact off_in (sec := sec) ho hb h1 h2 h3 (fun a b => ∃ v u1 u2 u3 u4 u5 u6 u7 u8 v1 v2 v3 v4 v5, a = some (v, rf, u1, u2, u3, u4, u5, u6, u7, u8) ∧ b = some (v, v1, v2, v3, v4, v5, rf)) what (fun z1 u1 u2 u3 u4 u5 u6 u7 u8 v1 v2 v3 v4 v5 => ih z1 (pa + 1) u1 u2 u3 u4 u5 u6 u7 u8 v1 v2 v3 v4 v5 (by omega) (by omega) (by omega)) 100 ma (-5) u1 u2 u3 u4 u5 u6 u7 u8 v1 v2 v3 v4 v5 (by decide) (by decide) (by decide)
theorem p_off {hand at_ wide rim fill wall ceiling puff period second sec bc : Int32} {ks ss ts km sm tm : Nat → Int32} (ho : OkO hand at_ wide rim fill wall ceiling puff period second) (hb0 : 0 ≤ bc.toInt) (hb5 : bc.toInt ≤ 5) (h1 : AEq 5 ss sm) (h2 : AEq 5 ts tm) (h3 : AEq 5 ks km) (x1 x2 : Int32) (rf : Nat → Int32) (u1 u2 u3 u4 u5 u6 u7 u8 v1 v2 v3 v4 v5 : Int32) :
    ∃ r rf' a1 a2 a3 a4 a5 a6 a7 a8 b1 b2 b3 b4 b5, fX5_off x1 x2 hand at_ wide rim fill wall ceiling puff period sec bc rf u1 u2 u3 u4 u5 u6 u7 u8 ss ts ks = some (r, rf', a1, a2, a3, a4, a5, a6, a7, a8) ∧ fX6_off x1 x2 hand at_ wide rim fill wall ceiling puff period sec bc v1 v2 v3 v4 v5 rf sm tm km = some (r, b1, b2, b3, b4, b5, rf') := by
  unfold fX5_off fX6_off
  rw [isBall_eq hb0 hb5]
  rcases what_eq x1 x2 hb5 with ⟨hb, q1, q2⟩ | ⟨hb, q1, q2, q3⟩ | ⟨hb, q1, q2, q3⟩
  · obtain ⟨a', e1, e2⟩ := refuse_eq (x := -1) (by decide) rf
    rw [q1, q2]
    dsimp only [b1_p]
    rw [if_neg (by decide), if_pos rfl, e1, e2]
    exact ⟨_, _, _, _, _, _, _, _, _, _, _, _, _, _, _, rfl, rfl⟩
  · obtain ⟨a', e1, e2⟩ := refuse_eq (x := -2) (by decide) rf
    rw [q1, q2]
    dsimp only [b1_p]
    rw [if_neg (show ¬ ((1 : Int32) = 0) by decide), q3]
    try dsimp only [b1_p, b2_p, b3_p, b4_p, b5_p, b6_p, b7_p, b8_p, b9_p, b10_p, b13_p, b14_p, b16_p]
    rw [if_neg (by decide), if_pos rfl, e1, e2]
    exact ⟨_, _, _, _, _, _, _, _, _, _, _, _, _, _, _, rfl, rfl⟩
  · rw [q1, q2]
    dsimp only [b1_p]
    rw [if_neg (show ¬ ((1 : Int32) = 0) by decide), q3]
    try dsimp only [b1_p, b2_p, b3_p, b4_p, b5_p, b6_p, b7_p, b8_p, b9_p, b10_p, b13_p, b14_p, b16_p]
    rw [if_pos rfl, if_neg (show ¬ ((1 : Int32) = 0) by decide)]
    obtain ⟨v, w1, w2, w3, w4, w5, w6, w7, w8, y1, y2, y3, y4, y5, e1, e2⟩ := off_out (sec := sec) ho hb h1 h2 h3 rf x2 100 0 1 u1 u2 u3 u4 u5 u6 u7 u8 v1 v2 v3 v4 v5 (by decide) (by decide) (by decide)
    rw [e1, e2]
    exact ⟨_, _, _, _, _, _, _, _, _, _, _, _, _, _, _, rfl, rfl⟩
theorem whose_l {hand at_ wide rim fill wall ceiling puff period second sec bc : Int32} {ks ss ts km sm tm : Nat → Int32} (ho : OkO hand at_ wide rim fill wall ceiling puff period second) (hb0 : 0 ≤ bc.toInt) (hb5 : bc.toInt ≤ 5) (h1 : AEq 5 ss sm) (h2 : AEq 5 ts tm) (h3 : AEq 5 ks km) (rf : Nat → Int32) (pa ri ce : Int32) :
    ∀ (n : Nat) (bi ball : Int32) (u1 u2 u3 u4 u5 u6 u7 u8 v1 v2 v3 v4 v5 : Int32), 0 ≤ ball.toInt → ball.toInt ≤ bc.toInt → bc.toInt - ball.toInt < n → ((fun a b => ∃ v u1 u2 u3 u4 u5 u6 u7 u8 v1 v2 v3 v4 v5, a = some (v, rf, u1, u2, u3, u4, u5, u6, u7, u8) ∧ b = some (v, v1, v2, v3, v4, v5, rf)) (lX5_whose_26 pa ri ce hand at_ wide rim fill wall ceiling puff period sec bc ss ts ks n bi ball rf u1 u2 u3 u4 u5 u6 u7 u8) (lX6_whose_26 pa ri ce hand at_ wide rim fill wall ceiling puff period sec bc sm tm km n bi ball v1 v2 v3 v4 v5 rf) : Prop) := by
  intro n
  induction n with
  | zero => intro bi ball u1 u2 u3 u4 u5 u6 u7 u8 v1 v2 v3 v4 v5 a b d; omega
  | succ n ih =>
    intro bi ball u1 u2 u3 u4 u5 u6 u7 u8 v1 v2 v3 v4 v5 a b d
    rw [lX5_whose_26, lX6_whose_26]
    by_cases hc : bc ≤ ball
    · rw [if_pos hc, if_pos hc]
      exact ⟨_, _, _, _, _, _, _, _, _, _, _, _, _, _, rfl, rfl⟩
    · rw [if_neg hc, if_neg hc]
      have hc' : ball.toInt < bc.toInt := by
        rw [fa_le] at hc; omega
      have hb : bOK ball bc := ⟨a, hc', hb5⟩
      have e6 : (ball + 1).toInt = ball.toInt + 1 := i_add1 (by omega)
      obtain ⟨e, c, st, g, k, h, p, r, e1, e2, -⟩ := fly_eq (sec := sec) ho hb h1 h2 h3 pa ri
      rw [e1, e2]
      dsimp only [b8_p, b6_p]
      unfold jX5_whose_73 jX6_whose_65
      by_cases hq : c = ce
      · rw [if_pos hq, if_pos hq]
        exact ih _ _ _ _ _ _ _ _ _ _ _ _ _ _ _ (by omega) (by omega) (by omega)
      · rw [if_neg hq, if_neg hq]
        exact ih _ _ _ _ _ _ _ _ _ _ _ _ _ _ _ (by omega) (by omega) (by omega)
theorem p_whose {hand at_ wide rim fill wall ceiling puff period second sec bc : Int32} {ks ss ts km sm tm : Nat → Int32} (ho : OkO hand at_ wide rim fill wall ceiling puff period second) (hb0 : 0 ≤ bc.toInt) (hb5 : bc.toInt ≤ 5) (h1 : AEq 5 ss sm) (h2 : AEq 5 ts tm) (h3 : AEq 5 ks km) (x1 x2 x3 : Int32) (rf : Nat → Int32) (u1 u2 u3 u4 u5 u6 u7 u8 v1 v2 v3 v4 v5 : Int32) :
    ∃ r rf' a1 a2 a3 a4 a5 a6 a7 a8 b1 b2 b3 b4 b5, fX5_whose x1 x2 x3 rf hand at_ wide rim fill wall ceiling puff period sec bc u1 u2 u3 u4 u5 u6 u7 u8 ss ts ks = some (r, rf', a1, a2, a3, a4, a5, a6, a7, a8) ∧ fX6_whose x1 x2 x3 hand at_ wide rim fill wall ceiling puff period sec bc v1 v2 v3 v4 v5 rf sm tm km = some (r, b1, b2, b3, b4, b5, rf') := by
  unfold fX5_whose fX6_whose
  obtain ⟨r, q1, q2, q4, q5⟩ := noThrow_eq x1 x2
  rw [q1, q2]
  dsimp only [b1_p]
  rcases q4 with rfl | rfl | rfl
  · rw [if_pos rfl, if_pos (show (0 : Int32) ≤ 0 by decide)]
    obtain ⟨v, w1, w2, w3, w4, w5, w6, w7, w8, y1, y2, y3, y4, y5, e1, e2⟩ := whose_l (sec := sec) ho hb0 hb5 h1 h2 h3 rf x1 x2 x3 100 0 0 u1 u2 u3 u4 u5 u6 u7 u8 v1 v2 v3 v4 v5 (by decide) (by show (0 : Int) ≤ bc.toInt; omega) (by show bc.toInt - 0 < 100; omega)
    rw [e1, e2]
    exact ⟨_, _, _, _, _, _, _, _, _, _, _, _, _, _, _, rfl, rfl⟩
  · obtain ⟨a', e1, e2⟩ := refuse_eq (x := -4) (by decide) rf
    rw [if_neg (by decide), if_neg (by decide), e1, e2]
    exact ⟨_, _, _, _, _, _, _, _, _, _, _, _, _, _, _, rfl, rfl⟩
  · obtain ⟨a', e1, e2⟩ := refuse_eq (x := -6) (by decide) rf
    rw [if_neg (by decide), if_neg (by decide), e1, e2]
    exact ⟨_, _, _, _, _, _, _, _, _, _, _, _, _, _, _, rfl, rfl⟩
theorem p_fly {hand at_ wide rim fill wall ceiling puff period second sec bc : Int32} {ks ss ts km sm tm : Nat → Int32} (ho : OkO hand at_ wide rim fill wall ceiling puff period second) (hb0 : 0 ≤ bc.toInt) (hb5 : bc.toInt ≤ 5) (h1 : AEq 5 ss sm) (h2 : AEq 5 ts tm) (h3 : AEq 5 ks km) (x1 x2 x3 x4 : Int32) (rf : Nat → Int32) (u1 u2 u3 u4 u5 u6 u7 u8 v1 v2 v3 v4 v5 : Int32) :
    ∃ r rf' a1 a2 a3 a4 a5 a6 a7 a8 b1 b2 b3 b4 b5, fX5_fly x1 x2 x3 x4 hand at_ wide rim fill wall ceiling puff period sec bc rf u1 u2 u3 u4 u5 u6 u7 u8 ss ts ks = some (r, rf', a1, a2, a3, a4, a5, a6, a7, a8) ∧ fX6_fly x1 x2 x3 x4 hand at_ wide rim fill wall ceiling puff period sec bc v1 v2 v3 v4 v5 rf sm tm km = some (r, b1, b2, b3, b4, b5, rf') := by
  unfold fX5_fly fX6_fly
  rw [isBall_eq hb0 hb5]
  rcases refThrow x1 x2 x3 hb5 with ⟨hb, q1, q2⟩ | ⟨hb, q1, r, q2, q3, q4, q5⟩
  · obtain ⟨a', e1, e2⟩ := refuse_eq (x := -1) (by decide) rf
    rw [q1, q2]
    dsimp only [b1_p]
    rw [if_neg (by decide), if_pos rfl, e1, e2]
    exact ⟨_, _, _, _, _, _, _, _, _, _, _, _, _, _, _, rfl, rfl⟩
  · rw [q1, q2]
    dsimp only [b1_p]
    rw [if_neg (show ¬ ((1 : Int32) = 0) by decide), q3]
    try dsimp only [b1_p, b2_p, b3_p, b4_p, b5_p, b6_p, b7_p, b8_p, b9_p, b10_p, b13_p, b14_p, b16_p]
    rcases q4 with rfl | rfl | rfl
    · rw [if_pos rfl, if_pos (show (0 : Int32) ≤ 0 by decide)]
      unfold fX6_within
      by_cases c1 : x4 < 0
      · obtain ⟨a', e1, e2⟩ := refuse_eq (x := -2) (by decide) rf
        rw [if_pos c1, if_pos c1]
        try dsimp only [b1_p, b2_p, b3_p, b4_p, b5_p, b6_p, b7_p, b8_p, b9_p, b10_p, b13_p, b14_p, b16_p]
        rw [if_pos rfl, e1, e2]
        exact ⟨_, _, _, _, _, _, _, _, _, _, _, _, _, _, _, rfl, rfl⟩
      · by_cases c2 : x4 ≤ 4
        · rw [if_neg c1, if_neg c1, if_pos c2, if_neg ((i_le_lt _ _).mp c2)]
          try dsimp only [b1_p, b2_p, b3_p, b4_p, b5_p, b6_p, b7_p, b8_p, b9_p, b10_p, b13_p, b14_p, b16_p]
          rw [if_neg (show ¬ ((1 : Int32) = 0) by decide)]
          obtain ⟨e, c, st, g, k, h, p, r, e1, e2, -⟩ := fly_eq (sec := sec) ho hb h1 h2 h3 x2 x3
          rw [e1, e2]
          dsimp only [b8_p, b6_p]
          by_cases z0 : x4 = 0
          · rw [if_pos z0, if_pos z0]; exact ⟨_, _, _, _, _, _, _, _, _, _, _, _, _, _, _, rfl, rfl⟩
          rw [if_neg z0, if_neg z0]
          by_cases z1 : x4 = 1
          · rw [if_pos z1, if_pos z1]; exact ⟨_, _, _, _, _, _, _, _, _, _, _, _, _, _, _, rfl, rfl⟩
          rw [if_neg z1, if_neg z1]
          by_cases z2 : x4 = 2
          · rw [if_pos z2, if_pos z2]; exact ⟨_, _, _, _, _, _, _, _, _, _, _, _, _, _, _, rfl, rfl⟩
          rw [if_neg z2, if_neg z2]
          by_cases z3 : x4 = 3
          · rw [if_pos z3, if_pos z3]; exact ⟨_, _, _, _, _, _, _, _, _, _, _, _, _, _, _, rfl, rfl⟩
          rw [if_neg z3, if_neg z3]
          exact ⟨_, _, _, _, _, _, _, _, _, _, _, _, _, _, _, rfl, rfl⟩
        · obtain ⟨a', e1, e2⟩ := refuse_eq (x := -2) (by decide) rf
          have c2' : 4 < x4 := by
            rw [i_le_lt] at c2
            exact Decidable.not_not.mp c2
          rw [if_neg c1, if_neg c1, if_neg c2, if_pos c2']
          try dsimp only [b1_p, b2_p, b3_p, b4_p, b5_p, b6_p, b7_p, b8_p, b9_p, b10_p, b13_p, b14_p, b16_p]
          rw [if_pos rfl, e1, e2]
          exact ⟨_, _, _, _, _, _, _, _, _, _, _, _, _, _, _, rfl, rfl⟩
    · obtain ⟨a', e1, e2⟩ := refuse_eq (x := -4) (by decide) rf
      rw [if_neg (by decide), if_neg (by decide), e1, e2]
      exact ⟨_, _, _, _, _, _, _, _, _, _, _, _, _, _, _, rfl, rfl⟩
    · obtain ⟨a', e1, e2⟩ := refuse_eq (x := -6) (by decide) rf
      rw [if_neg (by decide), if_neg (by decide), e1, e2]
      exact ⟨_, _, _, _, _, _, _, _, _, _, _, _, _, _, _, rfl, rfl⟩
/-! images: become, keep, again; then when, crumpled, fills, farthest, judge, lots -/
theorem cl_nat {x : Int32} (h : 0 ≤ x.toInt) : ((x.toNatClampNeg : Nat) : Int) = x.toInt := by
  show ((x.toInt.toNat : Nat) : Int) = x.toInt
  omega
theorem upd_ext {k g : Nat → Int32} {x : Int32} (h0 : 0 ≤ x.toInt) (h : ∀ i : Nat, (i : Int) < x.toInt → k i = g i) : ∀ i : Nat, (i : Int) < x.toInt + 1 → upd k x.toNatClampNeg (g x.toNatClampNeg) i = g i := by
  intro i hi
  have e := cl_nat h0
  unfold upd
  by_cases q : i = x.toNatClampNeg
  · rw [if_pos q, q]
  · rw [if_neg q]; exact h i (by omega)
theorem i_ge5 (x : Int32) : 5 ≤ x ↔ 5 ≤ x.toInt := by rw [fa_le]; exact Iff.rfl
theorem become_l (kO sO tO : Nat → Int32) (hand at_ wide rim fill wall ceiling puff period sec score thr bc : Int32) : ∀ (n : Nat) (x2 : Int32) (k s t : Nat → Int32), 0 ≤ x2.toInt → x2.toInt ≤ 5 → 5 - x2.toInt < n → (∀ i : Nat, (i : Int) < x2.toInt → k i = kO i) → (∀ i : Nat, (i : Int) < x2.toInt → s i = sO i) → (∀ i : Nat, (i : Int) < x2.toInt → t i = tO i) →
    ∃ k' s' t', lX3_become_106 kO sO tO n x2 hand at_ wide rim fill wall ceiling puff period sec score thr bc k s t = some (hand, at_, wide, rim, fill, wall, ceiling, puff, period, sec, score, thr, bc, k', s', t') ∧ AEq 5 k' kO ∧ AEq 5 s' sO ∧ AEq 5 t' tO := by
  intro n
  induction n with
  | zero => intro x2 k s t a b d; omega
  | succ n ih =>
    intro x2 k s t a b d hk hs ht
    rw [lX3_become_106]
    by_cases hc : 5 ≤ x2
    · rw [if_pos hc]
      have hc' := (i_ge5 x2).mp hc
      exact ⟨k, s, t, rfl, fun i hi => hk i (by omega), fun i hi => hs i (by omega), fun i hi => ht i (by omega)⟩
    · have hc' : x2.toInt < 5 := by
        have : ¬ 5 ≤ x2.toInt := fun q => hc ((i_ge5 x2).mpr q)
        omega
      have e1 : (x2 + 1).toInt = x2.toInt + 1 := i_add1 (by omega)
      have hi : x2.toInt < ((5 : Nat) : Int) := hc'
      rw [if_neg hc, g_in_p a hi, g_in_p a hi, g_in_p a hi, g_in_p a hi, g_in_p a hi, g_in_p a hi]
      exact ih _ _ _ _ (by omega) (by omega) (by omega) (by rw [e1]; exact upd_ext a hk) (by rw [e1]; exact upd_ext a hs) (by rw [e1]; exact upd_ext a ht)
theorem become_eq (hand at_ wide rim fill wall ceiling puff period sec score thr bc : Int32) (kO kT sO sT tO tT : Nat → Int32) : ∃ k' s' t', fX3_become hand at_ wide rim fill wall ceiling puff period sec score thr bc kO kT sO sT tO tT = some (hand, at_, wide, rim, fill, wall, ceiling, puff, period, sec, score, thr, bc, k', s', t') ∧ AEq 5 k' kO ∧ AEq 5 s' sO ∧ AEq 5 t' tO := by
  unfold fX3_become
  exact become_l kO sO tO hand at_ wide rim fill wall ceiling puff period sec score thr bc 100 0 kT sT tT (by decide) (by decide) (by decide) (fun i hi => by have : (i : Int) < 0 := hi; omega) (fun i hi => by have : (i : Int) < 0 := hi; omega) (fun i hi => by have : (i : Int) < 0 := hi; omega)
/-- what the reference's image holds -/
def Img (A : Nat → Int32) (hand at_ wide rim fill wall ceiling puff period sec score thr bc : Int32) (ks ss ts : Nat → Int32) : Prop :=
  (∀ i : Nat, i < 5 → A i = ks i ∧ A (5 + i) = ss i ∧ A (10 + i) = ts i) ∧ A 15 = hand ∧ A 16 = at_ ∧ A 17 = wide ∧ A 18 = rim ∧ A 19 = fill ∧ A 20 = wall ∧ A 21 = ceiling ∧ A 22 = puff ∧ A 23 = period ∧ A 24 = sec ∧ A 25 = score ∧ A 26 = thr ∧ A 27 = bc
theorem i_add5 {x : Int32} (h0 : 0 ≤ x.toInt) (h5 : x.toInt < 5) : ((5 + x).toInt = 5 + x.toInt ∧ (5 + x).toNatClampNeg = 5 + x.toNatClampNeg) ∧ ((10 + x).toInt = 10 + x.toInt ∧ (10 + x).toNatClampNeg = 10 + x.toNatClampNeg) := by
  have e5 : (5 + x).toInt = 5 + x.toInt := fb_addI (x := 5) (y := x) (by show _ ≤ (5 : Int) + _; omega) (by show (5 : Int) + _ < _; omega)
  have e10 : (10 + x).toInt = 10 + x.toInt := fb_addI (x := 10) (y := x) (by show _ ≤ (10 : Int) + _; omega) (by show (10 : Int) + _ < _; omega)
  refine ⟨⟨e5, ?_⟩, ⟨e10, ?_⟩⟩
  · show (5 + x).toInt.toNat = 5 + x.toInt.toNat
    rw [e5]; omega
  · show (10 + x).toInt.toNat = 10 + x.toInt.toNat
    rw [e10]; omega
theorem keep_l (hand at_ wide rim fill wall ceiling puff period sec score thr bc : Int32) (ks ss ts : Nat → Int32) : ∀ (n : Nat) (x2 : Int32) (A : Nat → Int32), 0 ≤ x2.toInt → x2.toInt ≤ 5 → 5 - x2.toInt < n → (∀ i : Nat, (i : Int) < x2.toInt → A i = ks i ∧ A (5 + i) = ss i ∧ A (10 + i) = ts i) →
    ∃ A', lX6_keep_2 hand at_ wide rim fill wall ceiling puff period sec score thr bc ks ss ts n x2 A = some A' ∧ Img A' hand at_ wide rim fill wall ceiling puff period sec score thr bc ks ss ts := by
  intro n
  induction n with
  | zero => intro x2 A a b d; omega
  | succ n ih =>
    intro x2 A a b d hA
    rw [lX6_keep_2]
    by_cases hc : 5 ≤ x2
    · have hc' := (i_ge5 x2).mp hc
      rw [if_pos hc]
      repeat rw [g_in_p (by decide) (by decide)]
      refine ⟨_, rfl, ?_⟩
      refine ⟨fun i hi => ?_, rfl, rfl, rfl, rfl, rfl, rfl, rfl, rfl, rfl, rfl, rfl, rfl, rfl⟩
      obtain ⟨q1, q2, q3⟩ := hA i (by omega)
      rw [← q1, ← q2, ← q3]
      have hn : ∀ j : Nat, j < 15 → ∀ (f : Nat → Int32) (c : Nat) (v : Int32), 15 ≤ c → upd f c v j = f j := by
        intro j hj f c v hcv
        unfold upd
        rw [if_neg (by omega)]
      refine ⟨?_, ?_, ?_⟩
      all_goals
        repeat rw [hn _ (by omega) _ _ _ (by decide)]
    · have hc' : x2.toInt < 5 := by
        have : ¬ 5 ≤ x2.toInt := fun q => hc ((i_ge5 x2).mpr q)
        omega
      have e1 : (x2 + 1).toInt = x2.toInt + 1 := i_add1 (by omega)
      have hi : x2.toInt < ((5 : Nat) : Int) := hc'
      have hi28 : x2.toInt < ((28 : Nat) : Int) := by show x2.toInt < 28; omega
      obtain ⟨⟨e5, n5⟩, ⟨e10, n10⟩⟩ := i_add5 a hc'
      rw [if_neg hc, g_in_p a hi, g_in_p a hi28, g_in_p a hi, g_in_p (by omega) (by show _ < (28 : Int); omega), g_in_p a hi, g_in_p (by omega) (by show _ < (28 : Int); omega)]
      refine ih _ _ (by omega) (by omega) (by omega) ?_
      rw [e1, n5, n10]
      intro i hi2
      have en := cl_nat a
      have up : ∀ (f : Nat → Int32) (c : Nat) (v : Int32) (j : Nat), upd f c v j = if j = c then v else f j := fun _ _ _ _ => rfl
      simp only [up]
      by_cases q : i = x2.toNatClampNeg
      · subst q
        refine ⟨?_, ?_, ?_⟩
        · rw [if_neg (by omega), if_neg (by omega), if_pos rfl]
        · rw [if_neg (by omega), if_pos rfl]
        · rw [if_pos rfl]
      · obtain ⟨q1, q2, q3⟩ := hA i (by omega)
        refine ⟨?_, ?_, ?_⟩
        · rw [if_neg (by omega), if_neg (by omega), if_neg q]; exact q1
        · rw [if_neg (by omega), if_neg (by omega), if_neg (by omega)]; exact q2
        · rw [if_neg (by omega), if_neg (by omega), if_neg (by omega)]; exact q3
theorem keep_eq (hand at_ wide rim fill wall ceiling puff period sec score thr bc : Int32) (ks A ss ts : Nat → Int32) : ∃ A', fX6_keep hand at_ wide rim fill wall ceiling puff period sec score thr bc ks A ss ts = some A' ∧ Img A' hand at_ wide rim fill wall ceiling puff period sec score thr bc ks ss ts := by
  unfold fX6_keep
  exact keep_l hand at_ wide rim fill wall ceiling puff period sec score thr bc ks ss ts 100 0 A (by decide) (by decide) (by decide) (fun i hi => by have : (i : Int) < 0 := hi; omega)
theorem again_l (A : Nat → Int32) {hand at_ wide rim fill wall ceiling puff period sec score thr bc : Int32} {ks ss ts : Nat → Int32} (hI : Img A hand at_ wide rim fill wall ceiling puff period sec score thr bc ks ss ts) : ∀ (n : Nat) (x2 : Int32) (k s t : Nat → Int32), 0 ≤ x2.toInt → x2.toInt ≤ 5 → 5 - x2.toInt < n → (∀ i : Nat, (i : Int) < x2.toInt → k i = ks i) → (∀ i : Nat, (i : Int) < x2.toInt → s i = ss i) → (∀ i : Nat, (i : Int) < x2.toInt → t i = ts i) →
    ∃ k' s' t', lX6_again_2 A n x2 k s t = some (hand, at_, wide, rim, fill, wall, ceiling, puff, period, sec, score, thr, bc, k', s', t') ∧ AEq 5 k' ks ∧ AEq 5 s' ss ∧ AEq 5 t' ts := by
  intro n
  induction n with
  | zero => intro x2 k s t a b d; omega
  | succ n ih =>
    intro x2 k s t a b d hk hs ht
    rw [lX6_again_2]
    by_cases hc : 5 ≤ x2
    · have hc' := (i_ge5 x2).mp hc
      obtain ⟨-, p15, p16, p17, p18, p19, p20, p21, p22, p23, p24, p25, p26, p27⟩ := hI
      rw [if_pos hc]
      repeat rw [g_in_p (by decide) (by decide)]
      refine ⟨k, s, t, ?_, fun i hi => hk i (by omega), fun i hi => hs i (by omega), fun i hi => ht i (by omega)⟩
      rw [← p15, ← p16, ← p17, ← p18, ← p19, ← p20, ← p21, ← p22, ← p23, ← p24, ← p25, ← p26, ← p27]
      rfl
    · have hc' : x2.toInt < 5 := by
        have : ¬ 5 ≤ x2.toInt := fun q => hc ((i_ge5 x2).mpr q)
        omega
      have e1 : (x2 + 1).toInt = x2.toInt + 1 := i_add1 (by omega)
      have hi : x2.toInt < ((5 : Nat) : Int) := hc'
      have hi28 : x2.toInt < ((28 : Nat) : Int) := by show x2.toInt < 28; omega
      obtain ⟨⟨e5, n5⟩, ⟨e10, n10⟩⟩ := i_add5 a hc'
      have hlt : x2.toNatClampNeg < 5 := by have := cl_nat a; omega
      obtain ⟨q1, q2, q3⟩ := hI.1 _ hlt
      rw [if_neg hc, g_in_p a hi28, g_in_p a hi, g_in_p (by omega) (by show _ < (28 : Int); omega), g_in_p a hi, g_in_p (by omega) (by show _ < (28 : Int); omega), g_in_p a hi]
      rw [n5, n10, q1, q2, q3]
      exact ih _ _ _ _ (by omega) (by omega) (by omega) (by rw [e1]; exact upd_ext a hk) (by rw [e1]; exact upd_ext a hs) (by rw [e1]; exact upd_ext a ht)
theorem again_eq (A : Nat → Int32) {hand at_ wide rim fill wall ceiling puff period sec score thr bc : Int32} {ks ss ts : Nat → Int32} (hI : Img A hand at_ wide rim fill wall ceiling puff period sec score thr bc ks ss ts) (k s t : Nat → Int32) : ∃ k' s' t', fX6_again A k s t = some (hand, at_, wide, rim, fill, wall, ceiling, puff, period, sec, score, thr, bc, k', s', t') ∧ AEq 5 k' ks ∧ AEq 5 s' ss ∧ AEq 5 t' ts := by
  unfold fX6_again
  exact again_l A hI 100 0 k s t (by decide) (by decide) (by decide) (fun i hi => by have : (i : Int) < 0 := hi; omega) (fun i hi => by have : (i : Int) < 0 := hi; omega) (fun i hi => by have : (i : Int) < 0 := hi; omega)
theorem AEq.sy {n : Nat} {f g : Nat → Int32} (h : AEq n f g) : AEq n g f := fun i hi => (h i hi).symm
theorem AEq.tr {n : Nat} {f g k : Nat → Int32} (h : AEq n f g) (h2 : AEq n g k) : AEq n f k := fun i hi => (h i hi).trans (h2 i hi)
theorem OkO.fil {hand at_ wide rim fill wall ceiling puff period second f : Int32} (ho : OkO hand at_ wide rim fill wall ceiling puff period second) (h : 0 ≤ f.toInt ∧ f.toInt ≤ 9) : OkO hand at_ wide rim f wall ceiling puff period second := by
  obtain ⟨q1, q2, q3, q4, q5, q6⟩ := ho
  exact ⟨q1, q2, q3, q4, h, q6⟩
theorem when_l {hand at_ wide rim fill wall ceiling puff period second sec bc ball : Int32} {kq sq tq km sm tm : Nat → Int32} (ho : OkO hand at_ wide rim fill wall ceiling puff period second) (hb : bOK ball bc) (h1 : AEq 5 sq sm) (h2 : AEq 5 tq tm) (h3 : AEq 5 kq km) (score thr : Int32) (rf : Nat → Int32) (pa ri : Int32) :
    ∀ (n : Nat) (la ms : Int32) (u1 u2 u3 u4 u5 u6 u7 u8 v1 v2 v3 v4 v5 : Int32), 0 ≤ la.toInt → la.toInt ≤ 9 → 9 - la.toInt < n → ((fun a b => ∃ v ms u1 u2 u3 u4 u5 u6 u7 u8 v1 v2 v3 v4 v5, a = some (v, rf, hand, at_, wide, rim, fill, wall, ceiling, puff, period, ms, score, thr, bc, kq, sq, tq, u1, u2, u3, u4, u5, u6, u7, u8) ∧ b = some (v, v1, v2, v3, v4, v5, rf)) (lX5_when_35 ball pa ri sec n la rf hand at_ wide rim fill wall ceiling puff period ms score thr bc kq sq tq u1 u2 u3 u4 u5 u6 u7 u8) (lX6_when_37 ball pa ri hand at_ wide rim fill wall ceiling puff period sec sm tm km n la v1 v2 v3 v4 v5 rf) : Prop) := by
  intro n
  induction n with
  | zero => intro la ms u1 u2 u3 u4 u5 u6 u7 u8 v1 v2 v3 v4 v5 a b d; omega
  | succ n ih =>
    intro la ms u1 u2 u3 u4 u5 u6 u7 u8 v1 v2 v3 v4 v5 a b d
    rw [lX5_when_35, lX6_when_37]
    by_cases hc : 9 ≤ la
    · rw [if_pos hc, if_pos hc]
      exact ⟨_, _, _, _, _, _, _, _, _, _, _, _, _, _, _, rfl, rfl⟩
    · have hc' : la.toInt < 9 := by
        rw [fa_le] at hc
        have h' : ¬ (9 : Int) ≤ la.toInt := hc
        omega
      have e6 : (la + 1).toInt = la.toInt + 1 := i_add1 (by omega)
      rw [if_neg hc, if_neg hc]
      unfold fX5_endsIn
      obtain ⟨e, c, st, g, k, h, p, r, e1, e2, -⟩ := fly_eq (sec := sec + la) ho hb h1 h2 h3 pa ri
      rw [e1, e2]
      dsimp only [b8_p, b6_p]
      by_cases he : e = 0
      · rw [if_pos he, if_pos he]
        dsimp only [b9_p]
        rw [if_neg (by decide)]
        exact ⟨_, _, _, _, _, _, _, _, _, _, _, _, _, _, _, rfl, rfl⟩
      · rw [if_neg he, if_neg he]
        dsimp only [b9_p]
        rw [if_pos rfl]
        exact ih _ _ _ _ _ _ _ _ _ _ _ _ _ _ _ (by omega) (by omega) (by omega)
theorem p_when {hand at_ wide rim fill wall ceiling puff period second sec bc : Int32} {ks ss ts km sm tm : Nat → Int32} (ho : OkO hand at_ wide rim fill wall ceiling puff period second) (hb0 : 0 ≤ bc.toInt) (hb5 : bc.toInt ≤ 5) (h1 : AEq 5 ss sm) (h2 : AEq 5 ts tm) (h3 : AEq 5 ks km) (x1 x2 x3 score thr : Int32) (rf : Nat → Int32) (n1 n2 n3 n4 n5 n6 n7 n8 n9 n10 n11 n12 n13 : Int32) (nk ns nt : Nat → Int32) (u1 u2 u3 u4 u5 u6 u7 u8 v1 v2 v3 v4 v5 : Int32) :
    ∃ r rf' c1 c2 c3 c4 c5 c6 c7 c8 c9 c10 c11 c12 c13 ck cs ct a1 a2 a3 a4 a5 a6 a7 a8 b1 b2 b3 b4 b5, fX5_when x1 x2 x3 hand at_ wide rim fill wall ceiling puff period sec score thr bc rf n1 n2 n3 n4 n5 n6 n7 n8 n9 n10 n11 n12 n13 ks nk ss ns ts nt u1 u2 u3 u4 u5 u6 u7 u8 = some (r, rf', c1, c2, c3, c4, c5, c6, c7, c8, c9, c10, c11, c12, c13, ck, cs, ct, a1, a2, a3, a4, a5, a6, a7, a8) ∧ fX6_when x1 x2 x3 hand at_ wide rim fill wall ceiling puff period sec bc v1 v2 v3 v4 v5 rf sm tm km = some (r, b1, b2, b3, b4, b5, rf') := by
  unfold fX5_when fX6_when
  rw [isBall_eq hb0 hb5]
  rcases refThrow x1 x2 x3 hb5 with ⟨hb, q1, q2⟩ | ⟨hb, q1, r, q2, q3, q4, q5⟩
  · obtain ⟨a', e1, e2⟩ := refuse_eq (x := -1) (by decide) rf
    rw [q1, q2]
    dsimp only [b1_p]
    rw [if_neg (by decide), if_pos rfl, e1, e2]
    exact ⟨_, _, _, _, _, _, _, _, _, _, _, _, _, _, _, _, _, _, _, _, _, _, _, _, _, _, _, _, _, _, _, rfl, rfl⟩
  · rw [q1, q2]
    dsimp only [b1_p]
    rw [if_neg (show ¬ ((1 : Int32) = 0) by decide), q3]
    try dsimp only [b1_p, b2_p, b3_p, b4_p, b5_p, b6_p, b7_p, b8_p, b9_p, b10_p, b13_p, b14_p, b16_p]
    rcases q4 with rfl | rfl | rfl
    · rw [if_pos rfl, if_pos (show (0 : Int32) ≤ 0 by decide)]
      obtain ⟨kq, sq, tq, e0, g3, g1, g2⟩ := become_eq hand at_ wide rim fill wall ceiling puff period sec score thr bc ks nk ss ns ts nt
      rw [e0]
      dsimp only [b16_p]
      obtain ⟨v, ms, w1, w2, w3, w4, w5, w6, w7, w8, y1, y2, y3, y4, y5, e1, e2⟩ := when_l (sec := sec) ho hb (g1.tr h1) (g2.tr h2) (g3.tr h3) score thr rf x2 x3 100 0 sec u1 u2 u3 u4 u5 u6 u7 u8 v1 v2 v3 v4 v5 (by decide) (by decide) (by decide)
      rw [e1, e2]
      exact ⟨_, _, _, _, _, _, _, _, _, _, _, _, _, _, _, _, _, _, _, _, _, _, _, _, _, _, _, _, _, _, _, rfl, rfl⟩
    · obtain ⟨a', e1, e2⟩ := refuse_eq (x := -4) (by decide) rf
      rw [if_neg (by decide), if_neg (by decide), e1, e2]
      exact ⟨_, _, _, _, _, _, _, _, _, _, _, _, _, _, _, _, _, _, _, _, _, _, _, _, _, _, _, _, _, _, _, rfl, rfl⟩
    · obtain ⟨a', e1, e2⟩ := refuse_eq (x := -6) (by decide) rf
      rw [if_neg (by decide), if_neg (by decide), e1, e2]
      exact ⟨_, _, _, _, _, _, _, _, _, _, _, _, _, _, _, _, _, _, _, _, _, _, _, _, _, _, _, _, _, _, _, rfl, rfl⟩
/-! crumpled, fills: the reference puts back what it changed -/
theorem i_le9 (x : Int32) : 9 < x ↔ 9 < x.toInt := by rw [fa_lt]; exact Iff.rfl
theorem i_le10 (x : Int32) : 10 ≤ x ↔ 10 ≤ x.toInt := by rw [fa_le]; exact Iff.rfl
theorem setT {ball bc : Int32} (hb : bOK ball bc) (v : Int32) (t : Nat → Int32) : fX3_setTight ball v bc t = some (upd t ball.toNatClampNeg v) := by
  unfold fX3_setTight
  rw [hb_yes hb]
  dsimp only [b1_p]
  rw [if_neg (by decide), g_in_p hb.1 (by have := hb.2; show ball.toInt < 5; omega)]
theorem crump_l {hand at_ wide rim fill wall ceiling puff period second sec bc ball : Int32} {kq sq km sm : Nat → Int32} (ho : OkO hand at_ wide rim fill wall ceiling puff period second) (hb : bOK ball bc) (h1 : AEq 5 sq sm) (h3 : AEq 5 kq km) (score thr : Int32) (rf t0 : Nat → Int32) {was : Int32} (hwas : was = t0 ball.toNatClampNeg) (pa ri : Int32) :
    ∀ (n : Nat) (bi ti : Int32) (tq tm : Nat → Int32) (u1 u2 u3 u4 u5 u6 u7 u8 v1 v2 v3 v4 v5 : Int32), 0 ≤ ti.toInt → ti.toInt ≤ 10 → 10 - ti.toInt < n → AEq 5 tq tm → (∀ i : Nat, i < 5 → i ≠ ball.toNatClampNeg → tm i = t0 i) →
      ∃ v tq' tm' a1 a2 a3 a4 a5 a6 a7 a8 b1 b2 b3 b4 b5, lX5_crumpled_38 ball pa ri n bi ti rf hand at_ wide rim fill wall ceiling puff period sec score thr bc kq sq tq u1 u2 u3 u4 u5 u6 u7 u8 = some (v, rf, hand, at_, wide, rim, fill, wall, ceiling, puff, period, sec, score, thr, bc, kq, sq, tq', a1, a2, a3, a4, a5, a6, a7, a8) ∧ lX6_crumpled_48 ball pa ri hand at_ wide rim fill wall ceiling puff period sec sm km n was bi ti v1 v2 v3 v4 v5 rf tm = some (v, b1, b2, b3, b4, b5, rf, tm') ∧ AEq 5 tm' t0 := by
  intro n
  induction n with
  | zero => intro bi ti tq tm u1 u2 u3 u4 u5 u6 u7 u8 v1 v2 v3 v4 v5 a b d; omega
  | succ n ih =>
    intro bi ti tq tm u1 u2 u3 u4 u5 u6 u7 u8 v1 v2 v3 v4 v5 a b d ht h0
    have hi : ball.toInt < ((5 : Nat) : Int) := by have := hb.2; show ball.toInt < 5; omega
    rw [lX5_crumpled_38, lX6_crumpled_48]
    by_cases hc : 9 < ti
    · have hc' := (i_le9 ti).mp hc
      rw [if_pos hc, if_pos ((i_le10 ti).mpr (by omega)), g_in_p hb.1 hi]
      refine ⟨_, _, _, _, _, _, _, _, _, _, _, _, _, _, _, _, rfl, rfl, ?_⟩
      intro i hi5
      unfold upd
      by_cases q : i = ball.toNatClampNeg
      · rw [if_pos q, hwas, q]
      · rw [if_neg q]; exact h0 i hi5 q
    · have hc' : ¬ 9 < ti.toInt := fun q => hc ((i_le9 ti).mpr q)
      have e6 : (ti + 1).toInt = ti.toInt + 1 := i_add1 (by omega)
      rw [if_neg hc, if_neg (fun q => hc ((i_le9 ti).mpr (by have := (i_le10 ti).mp q; omega))), g_in_p hb.1 hi, setT hb]
      dsimp only [b1_p]
      have ht' := ht.up ball.toNatClampNeg ti
      obtain ⟨f, w1, w2, w3, w4, w5, w6, w7, w8, q1, q2, q3⟩ := in_eq (sec := sec) ho hb h1 ht' h3 pa ri
      rw [q1, q2]
      dsimp only [b9_p, b6_p]
      unfold jX5_crumpled_78 jX6_crumpled_82
      have h0' : ∀ i : Nat, i < 5 → i ≠ ball.toNatClampNeg → upd tm ball.toNatClampNeg ti i = t0 i := by
        intro i hi5 q
        unfold upd
        rw [if_neg q]; exact h0 i hi5 q
      by_cases hf : f = 0
      · rw [if_pos hf, if_pos hf]
        exact ih _ _ _ _ _ _ _ _ _ _ _ _ _ _ _ _ _ (by omega) (by omega) (by omega) ht' h0'
      · rw [if_neg hf, if_neg hf]
        exact ih _ _ _ _ _ _ _ _ _ _ _ _ _ _ _ _ _ (by omega) (by omega) (by omega) ht' h0'
theorem p_crumpled {hand at_ wide rim fill wall ceiling puff period second sec bc : Int32} {ks ss ts km sm tm : Nat → Int32} (ho : OkO hand at_ wide rim fill wall ceiling puff period second) (hb0 : 0 ≤ bc.toInt) (hb5 : bc.toInt ≤ 5) (h1 : AEq 5 ss sm) (h2 : AEq 5 ts tm) (h3 : AEq 5 ks km) (x1 x2 x3 score thr : Int32) (rf : Nat → Int32) (n1 n2 n3 n4 n5 n6 n7 n8 n9 n10 n11 n12 n13 : Int32) (nk ns nt : Nat → Int32) (u1 u2 u3 u4 u5 u6 u7 u8 v1 v2 v3 v4 v5 : Int32) :
    ∃ r rf' c1 c2 c3 c4 c5 c6 c7 c8 c9 c10 c11 c12 c13 ck cs ct a1 a2 a3 a4 a5 a6 a7 a8 b1 b2 b3 b4 b5 tm', fX5_crumpled x1 x2 x3 hand at_ wide rim fill wall ceiling puff period sec score thr bc rf n1 n2 n3 n4 n5 n6 n7 n8 n9 n10 n11 n12 n13 ks nk ss ns ts nt u1 u2 u3 u4 u5 u6 u7 u8 = some (r, rf', c1, c2, c3, c4, c5, c6, c7, c8, c9, c10, c11, c12, c13, ck, cs, ct, a1, a2, a3, a4, a5, a6, a7, a8) ∧ fX6_crumpled x1 x2 x3 hand at_ wide rim fill wall ceiling puff period sec bc v1 v2 v3 v4 v5 rf tm sm km = some (r, b1, b2, b3, b4, b5, rf', tm') ∧ AEq 5 tm' tm := by
  unfold fX5_crumpled fX6_crumpled
  rw [isBall_eq hb0 hb5]
  rcases refThrow x1 x2 x3 hb5 with ⟨hb, q1, q2⟩ | ⟨hb, q1, r, q2, q3, q4, q5⟩
  · obtain ⟨a', e1, e2⟩ := refuse_eq (x := -1) (by decide) rf
    rw [q1, q2]
    dsimp only [b1_p]
    rw [if_neg (by decide), if_pos rfl, e1, e2]
    exact ⟨_, _, _, _, _, _, _, _, _, _, _, _, _, _, _, _, _, _, _, _, _, _, _, _, _, _, _, _, _, _, _, _, rfl, rfl, AEq.rf⟩
  · rw [q1, q2]
    dsimp only [b1_p]
    rw [if_neg (show ¬ ((1 : Int32) = 0) by decide), q3]
    try dsimp only [b1_p, b2_p, b3_p, b4_p, b5_p, b6_p, b7_p, b8_p, b9_p, b10_p, b13_p, b14_p, b16_p]
    rcases q4 with rfl | rfl | rfl
    · rw [if_pos rfl, if_pos (show (0 : Int32) ≤ 0 by decide)]
      obtain ⟨kq, sq, tq, e0, g3, g1, g2⟩ := become_eq hand at_ wide rim fill wall ceiling puff period sec score thr bc ks nk ss ns ts nt
      rw [e0]
      dsimp only [b16_p]
      have hi : x1.toInt < ((5 : Nat) : Int) := by have := hb.2; show x1.toInt < 5; omega
      rw [g_in_p hb.1 hi]
      obtain ⟨v, tq', tm', w1, w2, w3, w4, w5, w6, w7, w8, y1, y2, y3, y4, y5, e1, e2, e3⟩ := crump_l (sec := sec) ho hb (g1.tr h1) (g3.tr h3) score thr rf tm rfl x2 x3 100 0 0 tq tm u1 u2 u3 u4 u5 u6 u7 u8 v1 v2 v3 v4 v5 (by decide) (by decide) (by decide) (g2.tr h2) (fun _ _ _ => rfl)
      rw [e1, e2]
      exact ⟨_, _, _, _, _, _, _, _, _, _, _, _, _, _, _, _, _, _, _, _, _, _, _, _, _, _, _, _, _, _, _, _, rfl, rfl, e3⟩
    · obtain ⟨a', e1, e2⟩ := refuse_eq (x := -4) (by decide) rf
      rw [if_neg (by decide), if_neg (by decide), e1, e2]
      exact ⟨_, _, _, _, _, _, _, _, _, _, _, _, _, _, _, _, _, _, _, _, _, _, _, _, _, _, _, _, _, _, _, _, rfl, rfl, AEq.rf⟩
    · obtain ⟨a', e1, e2⟩ := refuse_eq (x := -6) (by decide) rf
      rw [if_neg (by decide), if_neg (by decide), e1, e2]
      exact ⟨_, _, _, _, _, _, _, _, _, _, _, _, _, _, _, _, _, _, _, _, _, _, _, _, _, _, _, _, _, _, _, _, rfl, rfl, AEq.rf⟩
theorem fills_l {hand at_ wide rim fill wall ceiling puff period second sec bc ball : Int32} {kq sq tq km sm tm : Nat → Int32} (ho : OkO hand at_ wide rim fill wall ceiling puff period second) (hb : bOK ball bc) (h1 : AEq 5 sq sm) (h2 : AEq 5 tq tm) (h3 : AEq 5 kq km) (score thr : Int32) (rf : Nat → Int32) (was pa ri : Int32) :
    ∀ (n : Nat) (bi ti fq fm : Int32) (u1 u2 u3 u4 u5 u6 u7 u8 v1 v2 v3 v4 v5 : Int32), 0 ≤ ti.toInt → ti.toInt ≤ 10 → 10 - ti.toInt < n →
      ∃ v fq' a1 a2 a3 a4 a5 a6 a7 a8 b1 b2 b3 b4 b5, lX5_fills_38 ball pa ri n bi ti rf hand at_ wide rim fq wall ceiling puff period sec score thr bc kq sq tq u1 u2 u3 u4 u5 u6 u7 u8 = some (v, rf, hand, at_, wide, rim, fq', wall, ceiling, puff, period, sec, score, thr, bc, kq, sq, tq, a1, a2, a3, a4, a5, a6, a7, a8) ∧ lX6_fills_46 ball pa ri hand at_ wide rim wall ceiling puff period sec sm tm km n was bi ti v1 v2 v3 v4 v5 rf = some (v, was, b1, b2, b3, b4, b5, rf) := by
  intro n
  induction n with
  | zero => intro bi ti fq fm u1 u2 u3 u4 u5 u6 u7 u8 v1 v2 v3 v4 v5 a b d; omega
  | succ n ih =>
    intro bi ti fq fm u1 u2 u3 u4 u5 u6 u7 u8 v1 v2 v3 v4 v5 a b d
    rw [lX5_fills_38, lX6_fills_46]
    by_cases hc : 9 < ti
    · have hc' := (i_le9 ti).mp hc
      rw [if_pos hc, if_pos ((i_le10 ti).mpr (by omega))]
      exact ⟨_, _, _, _, _, _, _, _, _, _, _, _, _, _, _, rfl, rfl⟩
    · have hc' : ¬ 9 < ti.toInt := fun q => hc ((i_le9 ti).mpr q)
      have e6 : (ti + 1).toInt = ti.toInt + 1 := i_add1 (by omega)
      rw [if_neg hc, if_neg (fun q => hc ((i_le9 ti).mpr (by have := (i_le10 ti).mp q; omega)))]
      obtain ⟨f, w1, w2, w3, w4, w5, w6, w7, w8, q1, q2, q3⟩ := in_eq (sec := sec) (OkO.fil ho (f := ti) ⟨by omega, by omega⟩) hb h1 h2 h3 pa ri
      rw [q1, q2]
      dsimp only [b9_p, b6_p]
      unfold jX5_fills_77 jX6_fills_78
      by_cases hf : f = 0
      · rw [if_pos hf, if_pos hf]
        exact ih _ _ _ fm _ _ _ _ _ _ _ _ _ _ _ _ _ (by omega) (by omega) (by omega)
      · rw [if_neg hf, if_neg hf]
        exact ih _ _ _ fm _ _ _ _ _ _ _ _ _ _ _ _ _ (by omega) (by omega) (by omega)
theorem p_fills {hand at_ wide rim fill wall ceiling puff period second sec bc : Int32} {ks ss ts km sm tm : Nat → Int32} (ho : OkO hand at_ wide rim fill wall ceiling puff period second) (hb0 : 0 ≤ bc.toInt) (hb5 : bc.toInt ≤ 5) (h1 : AEq 5 ss sm) (h2 : AEq 5 ts tm) (h3 : AEq 5 ks km) (x1 x2 x3 score thr : Int32) (rf : Nat → Int32) (n1 n2 n3 n4 n5 n6 n7 n8 n9 n10 n11 n12 n13 : Int32) (nk ns nt : Nat → Int32) (u1 u2 u3 u4 u5 u6 u7 u8 v1 v2 v3 v4 v5 : Int32) :
    ∃ r rf' c1 c2 c3 c4 c5 c6 c7 c8 c9 c10 c11 c12 c13 ck cs ct a1 a2 a3 a4 a5 a6 a7 a8 b1 b2 b3 b4 b5, fX5_fills x1 x2 x3 hand at_ wide rim fill wall ceiling puff period sec score thr bc rf n1 n2 n3 n4 n5 n6 n7 n8 n9 n10 n11 n12 n13 ks nk ss ns ts nt u1 u2 u3 u4 u5 u6 u7 u8 = some (r, rf', c1, c2, c3, c4, c5, c6, c7, c8, c9, c10, c11, c12, c13, ck, cs, ct, a1, a2, a3, a4, a5, a6, a7, a8) ∧ fX6_fills x1 x2 x3 hand at_ wide rim fill wall ceiling puff period sec bc v1 v2 v3 v4 v5 rf sm tm km = some (r, fill, b1, b2, b3, b4, b5, rf') := by
  unfold fX5_fills fX6_fills
  rw [isBall_eq hb0 hb5]
  rcases refThrow x1 x2 x3 hb5 with ⟨hb, q1, q2⟩ | ⟨hb, q1, r, q2, q3, q4, q5⟩
  · obtain ⟨a', e1, e2⟩ := refuse_eq (x := -1) (by decide) rf
    rw [q1, q2]
    dsimp only [b1_p]
    rw [if_neg (by decide), if_pos rfl, e1, e2]
    exact ⟨_, _, _, _, _, _, _, _, _, _, _, _, _, _, _, _, _, _, _, _, _, _, _, _, _, _, _, _, _, _, _, rfl, rfl⟩
  · rw [q1, q2]
    dsimp only [b1_p]
    rw [if_neg (show ¬ ((1 : Int32) = 0) by decide), q3]
    try dsimp only [b1_p, b2_p, b3_p, b4_p, b5_p, b6_p, b7_p, b8_p, b9_p, b10_p, b13_p, b14_p, b16_p]
    rcases q4 with rfl | rfl | rfl
    · rw [if_pos rfl, if_pos (show (0 : Int32) ≤ 0 by decide)]
      obtain ⟨kq, sq, tq, e0, g3, g1, g2⟩ := become_eq hand at_ wide rim fill wall ceiling puff period sec score thr bc ks nk ss ns ts nt
      rw [e0]
      dsimp only [b16_p]
      obtain ⟨v, fq', w1, w2, w3, w4, w5, w6, w7, w8, y1, y2, y3, y4, y5, e1, e2⟩ := fills_l (sec := sec) ho hb (g1.tr h1) (g2.tr h2) (g3.tr h3) score thr rf fill x2 x3 100 0 0 fill fill u1 u2 u3 u4 u5 u6 u7 u8 v1 v2 v3 v4 v5 (by decide) (by decide) (by decide)
      rw [e1, e2]
      exact ⟨_, _, _, _, _, _, _, _, _, _, _, _, _, _, _, _, _, _, _, _, _, _, _, _, _, _, _, _, _, _, _, rfl, rfl⟩
    · obtain ⟨a', e1, e2⟩ := refuse_eq (x := -4) (by decide) rf
      rw [if_neg (by decide), if_neg (by decide), e1, e2]
      exact ⟨_, _, _, _, _, _, _, _, _, _, _, _, _, _, _, _, _, _, _, _, _, _, _, _, _, _, _, _, _, _, _, rfl, rfl⟩
    · obtain ⟨a', e1, e2⟩ := refuse_eq (x := -6) (by decide) rf
      rw [if_neg (by decide), if_neg (by decide), e1, e2]
      exact ⟨_, _, _, _, _, _, _, _, _, _, _, _, _, _, _, _, _, _, _, _, _, _, _, _, _, _, _, _, _, _, _, rfl, rfl⟩
theorem throw_eq {hand at_ wide rim fill wall ceiling puff period second sec bc ball : Int32} {ks ss ts km sm tm : Nat → Int32} (ho : OkO hand at_ wide rim fill wall ceiling puff period second) (hb : bOK ball bc) (h1 : AEq 5 ss sm) (h2 : AEq 5 ts tm) (h3 : AEq 5 ks km) (score thr pa ri : Int32) : ∃ e fl sc u1 u2 u3 u4 u5 u6 u7 u8, fX5_thrown ball pa ri hand at_ wide rim fill wall ceiling puff period sec score thr bc ss ts ks = some (e, u1, u2, u3, u4, u5, u6, u7, u8, fl, sec + 1, sc, thr + 1) ∧ fX6_goes ball pa ri hand at_ wide rim fill wall ceiling puff period sec score thr sm tm km = some (e, fl, sec + 1, sc, thr + 1, u1, u2, u3, u4, u5) ∧ (0 ≤ fl.toInt ∧ fl.toInt ≤ 9) := by
  obtain ⟨e, c, st, g, k, h, p, r, e1, e2, hf⟩ := fly_eq (sec := sec) ho hb h1 h2 h3 pa ri
  obtain ⟨-, -, -, -, f9, -⟩ := ho
  unfold fX5_thrown fX6_goes fX3_noteThrow
  rw [e1, e2]
  dsimp only [b8_p, b6_p]
  by_cases he : e = 0
  · have hlt := hf he
    rw [fa_lt] at hlt
    have hlt' : fill.toInt < 9 := hlt
    have ef : (fill + 1).toInt = fill.toInt + 1 := i_add1 (by omega)
    rw [if_pos he, if_pos he]
    dsimp only [b4_p]
    exact ⟨e, fill + 1, score + 1, e, c, st, g, k, h, p, r, rfl, rfl, by omega⟩
  · rw [if_neg he, if_neg he]
    dsimp only [b4_p]
    exact ⟨e, fill, score, e, c, st, g, k, h, p, r, rfl, rfl, f9⟩
theorem p_throwIt {hand at_ wide rim fill wall ceiling puff period second sec bc : Int32} {ks ss ts km sm tm : Nat → Int32} (ho : OkO hand at_ wide rim fill wall ceiling puff period second) (hb0 : 0 ≤ bc.toInt) (hb5 : bc.toInt ≤ 5) (h1 : AEq 5 ss sm) (h2 : AEq 5 ts tm) (h3 : AEq 5 ks km) (x1 x2 x3 score thr : Int32) (rf : Nat → Int32) (hs0 : 0 ≤ sec.toInt) (hs9 : sec.toInt ≤ 9999) (u1 u2 u3 u4 u5 u6 u7 u8 v1 v2 v3 v4 v5 : Int32) :
    ∃ r rf' fl se sc th a1 a2 a3 a4 a5 a6 a7 a8 b1 b2 b3 b4 b5, fX5_throwIt x1 x2 x3 hand at_ wide rim fill wall ceiling puff period sec score thr bc rf u1 u2 u3 u4 u5 u6 u7 u8 ss ts ks = some (r, fl, se, sc, th, rf', a1, a2, a3, a4, a5, a6, a7, a8) ∧ fX6_throwIt x1 x2 x3 hand at_ wide rim fill wall ceiling puff period sec score thr bc v1 v2 v3 v4 v5 rf sm tm km = some (r, fl, se, sc, th, b1, b2, b3, b4, b5, rf') ∧ (0 ≤ fl.toInt ∧ fl.toInt ≤ 9) ∧ 0 ≤ se.toInt ∧ se.toInt ≤ 9999 := by
  have f9 : 0 ≤ fill.toInt ∧ fill.toInt ≤ 9 := ho.2.2.2.2.1
  unfold fX5_throwIt fX6_throwIt
  rw [isBall_eq hb0 hb5]
  rcases refThrow x1 x2 x3 hb5 with ⟨hb, q1, q2⟩ | ⟨hb, q1, r, q2, q3, q4, q5⟩
  · obtain ⟨a', e1, e2⟩ := refuse_eq (x := -1) (by decide) rf
    rw [q1, q2]
    dsimp only [b1_p]
    rw [if_neg (by decide), if_pos rfl, e1, e2]
    exact ⟨_, _, _, _, _, _, _, _, _, _, _, _, _, _, _, _, _, _, _, rfl, rfl, f9, hs0, hs9⟩
  · rw [q1, q2]
    dsimp only [b1_p]
    rw [if_neg (show ¬ ((1 : Int32) = 0) by decide), q3]
    try dsimp only [b1_p, b2_p, b3_p, b4_p, b5_p, b6_p, b7_p, b8_p, b9_p, b10_p, b13_p, b14_p, b16_p]
    rcases q4 with rfl | rfl | rfl
    · rw [if_pos rfl, if_pos (show (0 : Int32) ≤ 0 by decide)]
      by_cases hs : sec = 9999
      · have hs' : ¬ sec < 9999 := by rw [hs]; decide
        obtain ⟨a', e1, e2⟩ := refuse_eq (x := -6) (by decide) rf
        rw [if_neg hs', if_pos hs, e1, e2]
        exact ⟨_, _, _, _, _, _, _, _, _, _, _, _, _, _, _, _, _, _, _, rfl, rfl, f9, hs0, hs9⟩
      · have hs2 : sec.toInt < 9999 := by
          rw [fa_eq] at hs
          have hs' : ¬ sec.toInt = 9999 := hs
          omega
        have hs' : sec < 9999 := by rw [fa_lt]; exact hs2
        have es : (sec + 1).toInt = sec.toInt + 1 := i_add1 (by omega)
        rw [if_pos hs', if_neg hs]
        obtain ⟨e, fl, sc, w1, w2, w3, w4, w5, w6, w7, w8, e1, e2, e3⟩ := throw_eq (sec := sec) ho hb h1 h2 h3 score thr x2 x3
        rw [e1, e2]
        exact ⟨_, _, _, _, _, _, _, _, _, _, _, _, _, _, _, _, _, _, _, rfl, rfl, e3, by omega, by omega⟩
    · obtain ⟨a', e1, e2⟩ := refuse_eq (x := -4) (by decide) rf
      rw [if_neg (by decide), if_neg (by decide), e1, e2]
      exact ⟨_, _, _, _, _, _, _, _, _, _, _, _, _, _, _, _, _, _, _, rfl, rfl, f9, hs0, hs9⟩
    · obtain ⟨a', e1, e2⟩ := refuse_eq (x := -6) (by decide) rf
      rw [if_neg (by decide), if_neg (by decide), e1, e2]
      exact ⟨_, _, _, _, _, _, _, _, _, _, _, _, _, _, _, _, _, _, _, rfl, rfl, f9, hs0, hs9⟩
/-! farthest; judge; lots -/
theorem far_in_done {hand wide rim fill wall ceiling puff period sec ball : Int32} {km sm tm : Nat → Int32} (was fo fa pa : Int32) (rf : Nat → Int32) (hf : 0 ≤ fo.toInt) (kM : Int32 → Int32 → Int32 → Int32 → Int32 → Int32 → Int32 → Int32 → Int32 → Int32 → (Nat → Int32) → Option (Int32 × Int32 × Int32 × Int32 × Int32 × Int32 × Int32 × (Nat → Int32))) :
    ∀ (n : Nat) (ri v1 v2 v3 v4 v5 : Int32), ri.toInt ≤ 16 → 16 - ri.toInt < n → lX6_farthest_67 ball hand wide rim fill wall ceiling puff period sec sm tm km n was fo fa pa ri fa v1 v2 v3 v4 v5 rf kM = kM was fo fa (pa + 1) fa v1 v2 v3 v4 v5 rf := by
  have hf' : 0 ≤ fo := by rw [fa_le]; exact hf
  intro n
  induction n with
  | zero => intro ri v1 v2 v3 v4 v5 a b; omega
  | succ n ih =>
    intro ri v1 v2 v3 v4 v5 a b
    rw [lX6_farthest_67]
    by_cases hc : 16 ≤ ri
    · rw [if_pos hc]
    · have hc' : ri.toInt < 16 := by
        rw [fa_le] at hc
        have h' : ¬ (16 : Int) ≤ ri.toInt := hc
        omega
      have e6 : (ri + 1).toInt = ri.toInt + 1 := by
        have := fb_rng ri
        exact fb_addI (x := ri) (y := 1) (by show _ ≤ ri.toInt + 1; omega) (by show ri.toInt + 1 < _; omega)
      rw [if_neg hc, if_pos hf']
      unfold jX6_farthest_93
      exact ih _ _ _ _ _ _ (by omega) (by omega)
theorem far_out_done {hand wide rim fill wall ceiling puff period sec ball : Int32} {km sm tm : Nat → Int32} (was fo fa : Int32) (rf : Nat → Int32) (hf : 0 ≤ fo.toInt) (kM : Int32 → Int32 → Int32 → Int32 → Int32 → Int32 → Int32 → Int32 → (Nat → Int32) → Option (Int32 × Int32 × Int32 × Int32 × Int32 × Int32 × Int32 × (Nat → Int32))) :
    ∀ (n : Nat) (pa v1 v2 v3 v4 v5 : Int32), pa.toInt ≤ 10 → 10 - pa.toInt < n → lX6_farthest_56 ball hand wide rim fill wall ceiling puff period sec sm tm km n was fo fa pa fa v1 v2 v3 v4 v5 rf kM = kM was fo (fa + (-1)) v1 v2 v3 v4 v5 rf := by
  intro n
  induction n with
  | zero => intro pa v1 v2 v3 v4 v5 a b; omega
  | succ n ih =>
    intro pa v1 v2 v3 v4 v5 a b
    rw [lX6_farthest_56]
    by_cases hc : 10 ≤ pa
    · rw [if_pos hc]
    · have hc' : pa.toInt < 10 := by
        rw [fa_le] at hc
        have h' : ¬ (10 : Int) ≤ pa.toInt := hc
        omega
      have e6 : (pa + 1).toInt = pa.toInt + 1 := by
        have := fb_rng pa
        exact fb_addI (x := pa) (y := 1) (by show _ ≤ pa.toInt + 1; omega) (by show pa.toInt + 1 < _; omega)
      rw [if_neg hc]
      rw [far_in_done was fo fa pa rf hf _ 100 (-5) v1 v2 v3 v4 v5 (by decide) (by decide)]
      exact ih _ _ _ _ _ _ (by omega) (by omega)
theorem far_in {hand fa wide rim fill wall ceiling puff period second sec bc ball : Int32} {kq sq tq km sm tm : Nat → Int32} (ho : OkO hand fa wide rim fill wall ceiling puff period second) (hb : bOK ball bc) (h1 : AEq 5 sq sm) (h2 : AEq 5 tq tm) (h3 : AEq 5 kq km) (P : Option (Int32 × Int32 × Int32 × Int32 × Int32 × Int32 × Int32 × Int32 × Int32) → Option (Int32 × Int32 × Int32 × Int32 × Int32 × Int32 × Int32 × (Nat → Int32)) → Prop) (was pa : Int32) (rf : Nat → Int32) {kC : Int32 → Int32 → Int32 → Int32 → Int32 → Int32 → Int32 → Int32 → Int32 → Option (Int32 × Int32 × Int32 × Int32 × Int32 × Int32 × Int32 × Int32 × Int32)} {kM : Int32 → Int32 → Int32 → Int32 → Int32 → Int32 → Int32 → Int32 → Int32 → Int32 → (Nat → Int32) → Option (Int32 × Int32 × Int32 × Int32 × Int32 × Int32 × Int32 × (Nat → Int32))}
    (hfound : ∀ (u1 u2 u3 u4 u5 u6 u7 u8 v1 v2 v3 v4 v5 : Int32), P (some (1, u1, u2, u3, u4, u5, u6, u7, u8)) (kM was fa fa (pa + 1) fa v1 v2 v3 v4 v5 rf)) (hk : ∀ (u1 u2 u3 u4 u5 u6 u7 u8 v1 v2 v3 v4 v5 : Int32), P (kC (pa + 1) u1 u2 u3 u4 u5 u6 u7 u8) (kM was (-9) fa (pa + 1) fa v1 v2 v3 v4 v5 rf)) :
    ∀ (n : Nat) (ri : Int32) (u1 u2 u3 u4 u5 u6 u7 u8 v1 v2 v3 v4 v5 : Int32), -5 ≤ ri.toInt → ri.toInt ≤ 16 → 16 - ri.toInt < n → P (lX5_someThrowEndsIn_12 ball hand fa wide rim fill wall ceiling puff period sec bc sq tq kq n pa ri u1 u2 u3 u4 u5 u6 u7 u8 kC) (lX6_farthest_67 ball hand wide rim fill wall ceiling puff period sec sm tm km n was (-9) fa pa ri fa v1 v2 v3 v4 v5 rf kM) := by
  intro n
  induction n with
  | zero => intro ri u1 u2 u3 u4 u5 u6 u7 u8 v1 v2 v3 v4 v5 a b d; omega
  | succ n ih =>
    intro ri u1 u2 u3 u4 u5 u6 u7 u8 v1 v2 v3 v4 v5 a b d
    rw [lX5_someThrowEndsIn_12, lX6_farthest_67]
    by_cases hc : 15 < ri
    · rw [if_pos hc, if_pos ((i_ge16 ri).mp hc)]
      exact hk _ _ _ _ _ _ _ _ _ _ _ _ _
    · have hc' := i_n15 hc
      have e6 : (ri + 1).toInt = ri.toInt + 1 := i_add1 (by omega)
      rw [if_neg hc, if_neg (fun q => hc ((i_ge16 ri).mpr q)), if_neg (by decide)]
      obtain ⟨f, w1, w2, w3, w4, w5, w6, w7, w8, q1, q2, q3⟩ := in_eq (sec := sec) ho hb h1 h2 h3 pa ri
      rw [q1, q2]
      dsimp only [b9_p, b6_p]
      unfold jX6_farthest_93
      by_cases hf : f = 0
      · rw [if_pos hf, if_pos hf]
        exact ih _ _ _ _ _ _ _ _ _ _ _ _ _ _ (by omega) (by omega) (by omega)
      · rw [if_neg hf, if_neg hf]
        have h0 : 0 ≤ fa.toInt := by have := ho.2.1; omega
        try dsimp only []
        rw [far_in_done was fa fa pa rf h0 kM n (ri + 1) w1 w2 w3 w4 w5 (by omega) (by omega)]
        exact hfound _ _ _ _ _ _ _ _ _ _ _ _ _
theorem far_out {hand fa wide rim fill wall ceiling puff period second sec bc ball : Int32} {kq sq tq km sm tm : Nat → Int32} (ho : OkO hand fa wide rim fill wall ceiling puff period second) (hb : bOK ball bc) (h1 : AEq 5 sq sm) (h2 : AEq 5 tq tm) (h3 : AEq 5 kq km) (P : Option (Int32 × Int32 × Int32 × Int32 × Int32 × Int32 × Int32 × Int32 × Int32) → Option (Int32 × Int32 × Int32 × Int32 × Int32 × Int32 × Int32 × (Nat → Int32)) → Prop) (was : Int32) (rf : Nat → Int32) {kM : Int32 → Int32 → Int32 → Int32 → Int32 → Int32 → Int32 → Int32 → (Nat → Int32) → Option (Int32 × Int32 × Int32 × Int32 × Int32 × Int32 × Int32 × (Nat → Int32))}
    (hfound : ∀ (u1 u2 u3 u4 u5 u6 u7 u8 v1 v2 v3 v4 v5 : Int32), P (some (1, u1, u2, u3, u4, u5, u6, u7, u8)) (kM was fa (fa + (-1)) v1 v2 v3 v4 v5 rf)) (hnone : ∀ (u1 u2 u3 u4 u5 u6 u7 u8 v1 v2 v3 v4 v5 : Int32), P (some (0, u1, u2, u3, u4, u5, u6, u7, u8)) (kM was (-9) (fa + (-1)) v1 v2 v3 v4 v5 rf)) :
    ∀ (n : Nat) (pa : Int32) (u1 u2 u3 u4 u5 u6 u7 u8 v1 v2 v3 v4 v5 : Int32), 1 ≤ pa.toInt → pa.toInt ≤ 10 → 10 - pa.toInt < n → P (lX5_someThrowEndsIn_2 ball hand fa wide rim fill wall ceiling puff period sec bc sq tq kq n pa u1 u2 u3 u4 u5 u6 u7 u8) (lX6_farthest_56 ball hand wide rim fill wall ceiling puff period sec sm tm km n was (-9) fa pa fa v1 v2 v3 v4 v5 rf kM) := by
  intro n
  induction n with
  | zero => intro pa u1 u2 u3 u4 u5 u6 u7 u8 v1 v2 v3 v4 v5 a b d; omega
  | succ n ih =>
    intro pa u1 u2 u3 u4 u5 u6 u7 u8 v1 v2 v3 v4 v5 a b d
    rw [lX5_someThrowEndsIn_2, lX6_farthest_56]
    by_cases hc : 9 < pa
    · rw [if_pos hc, if_pos ((i_ge10 pa).mp hc)]
      exact hnone _ _ _ _ _ _ _ _ _ _ _ _ _
    · have hc' := i_n9 hc
      have e6 : (pa + 1).toInt = pa.toInt + 1 := i_add1 (by omega)
      rw [if_neg hc, if_neg (fun q => hc ((i_ge10 pa).mpr q))]
      refine far_in (sec := sec) ho hb h1 h2 h3 P was pa rf (fun u1 u2 u3 u4 u5 u6 u7 u8 v1 v2 v3 v4 v5 => ?_) (fun u1 u2 u3 u4 u5 u6 u7 u8 v1 v2 v3 v4 v5 => ih (pa + 1) u1 u2 u3 u4 u5 u6 u7 u8 v1 v2 v3 v4 v5 (by omega) (by omega) (by omega)) 100 (-5) u1 u2 u3 u4 u5 u6 u7 u8 v1 v2 v3 v4 v5 (by decide) (by decide) (by decide)
      have h0 : 0 ≤ fa.toInt := by have := ho.2.1; omega
      rw [far_out_done was fa fa rf h0 kM n (pa + 1) v1 v2 v3 v4 v5 (by omega) (by omega)]
      exact hfound _ _ _ _ _ _ _ _ _ _ _ _ _
theorem setBin_ok {fa wide rim wall : Int32} (hf : 1 ≤ fa.toInt ∧ fa.toInt ≤ 40) (hw : 1 ≤ wide.toInt ∧ wide.toInt ≤ 5) (hr : 1 ≤ rim.toInt ∧ rim.toInt ≤ 9) (qa qw qr : Int32) :
    fX3_setBin fa wide rim qa qw qr wall = if fa.toInt + wide.toInt ≤ wall.toInt then some (1, fa, wide, rim) else some (0, qa, qw, qr) := by
  unfold fX3_setBin fX3_isWithin
  have e1 : (fa + wide).toInt = fa.toInt + wide.toInt := fb_addI (by omega) (by omega)
  have c1 : 1 ≤ fa := by rw [fa_le]; exact hf.1
  have c2 : fa ≤ 40 := by rw [fa_le]; exact hf.2
  have c3 : 1 ≤ wide := by rw [fa_le]; exact hw.1
  have c4 : wide ≤ 5 := by rw [fa_le]; exact hw.2
  have c5 : 1 ≤ rim := by rw [fa_le]; exact hr.1
  have c6 : rim ≤ 9 := by rw [fa_le]; exact hr.2
  have d1 : ¬ fa < 1 := (i_lt_of _ _).mpr c1
  have d2 : ¬ 40 < fa := (i_lt_of _ _).mpr c2
  have d3 : ¬ wide < 1 := (i_lt_of _ _).mpr c3
  have d4 : ¬ 5 < wide := (i_lt_of _ _).mpr c4
  have d5 : ¬ rim < 1 := (i_lt_of _ _).mpr c5
  have d6 : ¬ 9 < rim := (i_lt_of _ _).mpr c6
  have n1 : ¬ ((1 : Int32) = 0) := by decide
  by_cases h : fa.toInt + wide.toInt ≤ wall.toInt
  · have h' : fa + wide ≤ wall := by rw [fa_le, e1]; exact h
    simp only [c1, c2, c3, c4, c5, c6, d1, d2, d3, d4, d5, d6, n1, h, h', b1_p, if_true, if_false]
  · have h' : ¬ fa + wide ≤ wall := by rw [fa_le, e1]; exact h
    simp only [c1, c2, c3, c4, c5, c6, d1, d2, d3, d4, d5, d6, n1, h, h', b1_p, if_true, if_false]
theorem OkO.at {hand at_ wide rim fill wall ceiling puff period second f : Int32} (ho : OkO hand at_ wide rim fill wall ceiling puff period second) (h : 1 ≤ f.toInt ∧ f.toInt ≤ 40) (h2 : f.toInt + wide.toInt ≤ wall.toInt) : OkO hand f wide rim fill wall ceiling puff period second := by
  obtain ⟨q1, q2, q3, q4, q5, q6, q7, q8, q9, q10, q11⟩ := ho
  exact ⟨q1, h, q3, q4, q5, q6, q7, q8, q9, h2, q11⟩
theorem far_l {hand at_ wide rim fill wall ceiling puff period second sec bc ball : Int32} {kq sq tq km sm tm : Nat → Int32} (ho : OkO hand at_ wide rim fill wall ceiling puff period second) (hb : bOK ball bc) (h1 : AEq 5 sq sm) (h2 : AEq 5 tq tm) (h3 : AEq 5 kq km) (score thr was : Int32) (rf : Nat → Int32) :
    ∀ (j n k : Nat) (fa qa : Int32) (u1 u2 u3 u4 u5 u6 u7 u8 v1 v2 v3 v4 v5 : Int32), fa.toInt = (j : Int) → fa.toInt ≤ 40 → fa.toInt + wide.toInt ≤ wall.toInt → j < n → j < k → ∃ v qa' a1 a2 a3 a4 a5 a6 a7 a8 b1 b2 b3 b4 b5, lX5_farthest_31 ball wide rim n fa rf hand qa wide rim fill wall ceiling puff period sec score thr bc kq sq tq u1 u2 u3 u4 u5 u6 u7 u8 = some (v, rf, hand, qa', wide, rim, fill, wall, ceiling, puff, period, sec, score, thr, bc, kq, sq, tq, a1, a2, a3, a4, a5, a6, a7, a8) ∧ lX6_farthest_38 ball hand wide rim fill wall ceiling puff period sec sm tm km k was (-9) fa v1 v2 v3 v4 v5 rf = some (v, was, b1, b2, b3, b4, b5, rf) := by
  intro j
  induction j with
  | zero =>
    intro n k fa qa u1 u2 u3 u4 u5 u6 u7 u8 v1 v2 v3 v4 v5 a b d hn hk
    obtain ⟨n, rfl⟩ : ∃ z, n = z + 1 := ⟨n - 1, by omega⟩
    obtain ⟨k, rfl⟩ : ∃ z, k = z + 1 := ⟨k - 1, by omega⟩
    rw [lX5_farthest_31, lX6_farthest_38]
    have c1 : fa < 1 := by rw [fa_lt]; show fa.toInt < 1; omega
    have c2 : fa ≤ 0 := by rw [fa_le]; show fa.toInt ≤ 0; omega
    rw [if_pos c1, if_pos c2]
    exact ⟨_, _, _, _, _, _, _, _, _, _, _, _, _, _, _, rfl, rfl⟩
  | succ j ih =>
    intro n k fa qa u1 u2 u3 u4 u5 u6 u7 u8 v1 v2 v3 v4 v5 a b d hn hk
    obtain ⟨n, rfl⟩ : ∃ z, n = z + 1 := ⟨n - 1, by omega⟩
    obtain ⟨k, rfl⟩ : ∃ z, k = z + 1 := ⟨k - 1, by omega⟩
    rw [lX5_farthest_31, lX6_farthest_38]
    have hfa : 1 ≤ fa.toInt := by omega
    have c1 : ¬ fa < 1 := by rw [fa_lt]; show ¬ fa.toInt < 1; omega
    have c2 : ¬ fa ≤ 0 := by rw [fa_le]; show ¬ fa.toInt ≤ 0; omega
    rw [if_neg c1, if_neg c2, if_neg (by decide)]
    rw [setBin_ok ⟨hfa, b⟩ ho.2.2.1 ho.2.2.2.1, if_pos d]
    dsimp only [b4_p]
    rw [if_neg (show ¬ ((1 : Int32) = 0) by decide)]
    have em : (fa + (-1)).toInt = fa.toInt - 1 := fb_addI (x := fa) (y := -1) (by show _ ≤ fa.toInt + (-1); omega) (by show fa.toInt + (-1) < _; omega)
    unfold fX5_someThrowEndsIn
    refine far_out (sec := sec) (OkO.at ho ⟨hfa, b⟩ d) hb h1 h2 h3 (fun x y => ∃ v qa' a1 a2 a3 a4 a5 a6 a7 a8 b1 b2 b3 b4 b5, b9 x (fun r6 w7 w8 w9 w10 w11 w12 w13 w14 => if r6 = 0 then jX5_farthest_75 fa rf hand fa wide rim fill wall ceiling puff period sec score thr bc kq sq tq w7 w8 w9 w10 w11 w12 w13 w14 (lX5_farthest_31 ball wide rim n) else some (fa, rf, hand, fa, wide, rim, fill, wall, ceiling, puff, period, sec, score, thr, bc, kq, sq, tq, w7, w8, w9, w10, w11, w12, w13, w14)) = some (v, rf, hand, qa', wide, rim, fill, wall, ceiling, puff, period, sec, score, thr, bc, kq, sq, tq, a1, a2, a3, a4, a5, a6, a7, a8) ∧ y = some (v, was, b1, b2, b3, b4, b5, rf)) was rf (fun u1 u2 u3 u4 u5 u6 u7 u8 v1 v2 v3 v4 v5 => ?_) (fun u1 u2 u3 u4 u5 u6 u7 u8 v1 v2 v3 v4 v5 => ?_) 100 1 u1 u2 u3 u4 u5 u6 u7 u8 v1 v2 v3 v4 v5 (by decide) (by decide) (by decide)
    · dsimp only [b9_p]
      rw [if_neg (show ¬ ((1 : Int32) = 0) by decide)]
      obtain ⟨k, rfl⟩ : ∃ z, k = z + 1 := ⟨k - 1, by omega⟩
      rw [lX6_farthest_38]
      have c3 : 0 ≤ fa := by rw [fa_le]; show (0 : Int) ≤ fa.toInt; omega
      by_cases c4 : fa + (-1) ≤ 0
      · rw [if_pos c4]
        exact ⟨_, _, _, _, _, _, _, _, _, _, _, _, _, _, _, rfl, rfl⟩
      · rw [if_neg c4, if_pos c3]
        exact ⟨_, _, _, _, _, _, _, _, _, _, _, _, _, _, _, rfl, rfl⟩
    · dsimp only [b9_p]
      rw [if_pos rfl]
      unfold jX5_farthest_75
      exact ih n k (fa + (-1)) fa u1 u2 u3 u4 u5 u6 u7 u8 v1 v2 v3 v4 v5 (by omega) (by omega) (by omega) (by omega) (by omega)
theorem far_skip {hand at_ wide rim fill wall ceiling puff period second sec bc ball : Int32} {kq sq tq km sm tm : Nat → Int32} (ho : OkO hand at_ wide rim fill wall ceiling puff period second) (hb : bOK ball bc) (h1 : AEq 5 sq sm) (h2 : AEq 5 tq tm) (h3 : AEq 5 kq km) (score thr was : Int32) (rf : Nat → Int32) {st : Int32} (hst : 1 ≤ st.toInt ∧ st.toInt + wide.toInt ≤ wall.toInt ∧ (st.toInt = 40 ∨ st.toInt + wide.toInt = wall.toInt)) (k : Nat) (hk : st.toInt < k) (b1_ b2_ b3_ b4_ b5_ : Int32) :
    ∀ (j n : Nat) (fa : Int32) (u1 u2 u3 u4 u5 u6 u7 u8 v1 v2 v3 v4 v5 : Int32), fa.toInt = st.toInt + (j : Int) → fa.toInt ≤ 40 → fa.toInt < n → ∃ v qa' a1 a2 a3 a4 a5 a6 a7 a8 b1 b2 b3 b4 b5, lX5_farthest_31 ball wide rim n fa rf hand at_ wide rim fill wall ceiling puff period sec score thr bc kq sq tq u1 u2 u3 u4 u5 u6 u7 u8 = some (v, rf, hand, qa', wide, rim, fill, wall, ceiling, puff, period, sec, score, thr, bc, kq, sq, tq, a1, a2, a3, a4, a5, a6, a7, a8) ∧ lX6_farthest_38 ball hand wide rim fill wall ceiling puff period sec sm tm km k was (-9) st v1 v2 v3 v4 v5 rf = some (v, was, b1, b2, b3, b4, b5, rf) := by
  intro j
  induction j with
  | zero =>
    intro n fa u1 u2 u3 u4 u5 u6 u7 u8 v1 v2 v3 v4 v5 a b d
    have e : fa = st := by rw [fa_eq]; omega
    subst e
    exact far_l (sec := sec) ho hb h1 h2 h3 score thr was rf fa.toInt.toNat n k fa at_ u1 u2 u3 u4 u5 u6 u7 u8 v1 v2 v3 v4 v5 (by omega) b hst.2.1 (by omega) (by omega)
  | succ j ih =>
    intro n fa u1 u2 u3 u4 u5 u6 u7 u8 v1 v2 v3 v4 v5 a b d
    obtain ⟨n, rfl⟩ : ∃ z, n = z + 1 := ⟨n - 1, by omega⟩
    rw [lX5_farthest_31]
    have c1 : ¬ fa < 1 := by rw [fa_lt]; show ¬ fa.toInt < 1; omega
    rw [if_neg c1, setBin_ok ⟨by omega, b⟩ ho.2.2.1 ho.2.2.2.1, if_neg (by omega)]
    dsimp only [b4_p]
    rw [if_pos rfl]
    unfold jX5_farthest_75
    have em : (fa + (-1)).toInt = fa.toInt - 1 := fb_addI (x := fa) (y := -1) (by show _ ≤ fa.toInt + (-1); omega) (by show fa.toInt + (-1) < _; omega)
    exact ih n (fa + (-1)) u1 u2 u3 u4 u5 u6 u7 u8 v1 v2 v3 v4 v5 (by omega) (by omega) (by omega)
theorem p_farthest {hand at_ wide rim fill wall ceiling puff period second sec bc : Int32} {ks ss ts km sm tm : Nat → Int32} (ho : OkO hand at_ wide rim fill wall ceiling puff period second) (hb0 : 0 ≤ bc.toInt) (hb5 : bc.toInt ≤ 5) (h1 : AEq 5 ss sm) (h2 : AEq 5 ts tm) (h3 : AEq 5 ks km) (x1 score thr : Int32) (rf : Nat → Int32) (n1 n2 n3 n4 n5 n6 n7 n8 n9 n10 n11 n12 n13 : Int32) (nk ns nt : Nat → Int32) (u1 u2 u3 u4 u5 u6 u7 u8 v1 v2 v3 v4 v5 : Int32) :
    ∃ r rf' c1 c2 c3 c4 c5 c6 c7 c8 c9 c10 c11 c12 c13 ck cs ct a1 a2 a3 a4 a5 a6 a7 a8 b1 b2 b3 b4 b5, fX5_farthest x1 hand at_ wide rim fill wall ceiling puff period sec score thr bc rf n1 n2 n3 n4 n5 n6 n7 n8 n9 n10 n11 n12 n13 ks nk ss ns ts nt u1 u2 u3 u4 u5 u6 u7 u8 = some (r, rf', c1, c2, c3, c4, c5, c6, c7, c8, c9, c10, c11, c12, c13, ck, cs, ct, a1, a2, a3, a4, a5, a6, a7, a8) ∧ fX6_farthest x1 hand at_ wide rim fill wall ceiling puff period sec bc v1 v2 v3 v4 v5 rf sm tm km = some (r, at_, b1, b2, b3, b4, b5, rf') := by
  unfold fX5_farthest fX6_farthest
  rw [isBall_eq hb0 hb5]
  by_cases hb : bOK x1 bc
  · rw [hb_yes hb]
    dsimp only [b1_p]
    rw [if_neg (show ¬ ((1 : Int32) = 0) by decide), if_neg (show ¬ ((1 : Int32) = 0) by decide)]
    obtain ⟨kq, sq, tq, e0, g3, g1, g2⟩ := become_eq hand at_ wide rim fill wall ceiling puff period sec score thr bc ks nk ss ns ts nt
    rw [e0]
    dsimp only [b16_p]
    obtain ⟨o1, o2, o3, o4, o5, o6, o7, o8, o9, o10, o11⟩ := id ho
    have ew : (wall - wide).toInt = wall.toInt - wide.toInt := fb_subI (by omega) (by omega)
    obtain ⟨st, hst⟩ : ∃ st, (if wall - wide < 40 then wall - wide else (40 : Int32)) = st := ⟨_, rfl⟩
    have hs : st.toInt = if wall.toInt - wide.toInt < 40 then wall.toInt - wide.toInt else 40 := by
      rw [← hst]
      by_cases q : wall - wide < 40
      · have q' : wall.toInt - wide.toInt < 40 := by rw [fa_lt, ew] at q; exact q
        rw [if_pos q, if_pos q', ew]
      · have q' : ¬ wall.toInt - wide.toInt < 40 := by rw [fa_lt, ew] at q; exact q
        rw [if_neg q, if_neg q']; rfl
    rw [hst]
    have hst2 : 1 ≤ st.toInt ∧ st.toInt + wide.toInt ≤ wall.toInt ∧ (st.toInt = 40 ∨ st.toInt + wide.toInt = wall.toInt) ∧ st.toInt ≤ 40 := by
      by_cases q : wall.toInt - wide.toInt < 40
      · rw [if_pos q] at hs; omega
      · rw [if_neg q] at hs; omega
    obtain ⟨v, qa, w1, w2, w3, w4, w5, w6, w7, w8, y1, y2, y3, y4, y5, e1, e2⟩ := far_skip (sec := sec) ho hb (g1.tr h1) (g2.tr h2) (g3.tr h3) score thr at_ rf ⟨hst2.1, hst2.2.1, hst2.2.2.1⟩ 100 (by omega) 0 0 0 0 0 (40 - st.toInt).toNat 100 40 u1 u2 u3 u4 u5 u6 u7 u8 v1 v2 v3 v4 v5 (by show (40 : Int) = _; omega) (by decide) (by decide)
    rw [e1, e2]
    exact ⟨_, _, _, _, _, _, _, _, _, _, _, _, _, _, _, _, _, _, _, _, _, _, _, _, _, _, _, _, _, _, _, rfl, rfl⟩
  · rw [hb_no hb5 hb]
    obtain ⟨a', e1, e2⟩ := refuse_eq (x := -1) (by decide) rf
    dsimp only [b1_p]
    rw [if_pos rfl, if_pos rfl, e1, e2]
    exact ⟨_, _, _, _, _, _, _, _, _, _, _, _, _, _, _, _, _, _, _, _, _, _, _, _, _, _, _, _, _, _, _, rfl, rfl⟩
