/-! THE PURE PART: the class's functions and the reference's, as read off the bytecode, say the same. Numbers first. -/
theorem fb_rng (x : Int32) : -2147483648 ≤ x.toInt ∧ x.toInt < 2147483648 := by
  have h1 := Int32.le_toInt x
  have h2 := Int32.toInt_lt x
  omega
theorem fb_bmod {z : Int} (h1 : -2147483648 ≤ z) (h2 : z < 2147483648) : z.bmod (2 ^ 32) = z := by
  rw [Int.bmod_eq_of_le (by omega) (by omega)]
theorem fb_addI {x y : Int32} (h1 : -2147483648 ≤ x.toInt + y.toInt) (h2 : x.toInt + y.toInt < 2147483648) : (x + y).toInt = x.toInt + y.toInt := by
  rw [Int32.toInt_add, fb_bmod h1 h2]
theorem fb_subI {x y : Int32} (h1 : -2147483648 ≤ x.toInt - y.toInt) (h2 : x.toInt - y.toInt < 2147483648) : (x - y).toInt = x.toInt - y.toInt := by
  rw [Int32.toInt_sub, fb_bmod h1 h2]
theorem fb_mulI {x y : Int32} (h1 : -2147483648 ≤ x.toInt * y.toInt) (h2 : x.toInt * y.toInt < 2147483648) : (x * y).toInt = x.toInt * y.toInt := by
  rw [Int32.toInt_mul, fb_bmod h1 h2]
theorem fa_lt (a b : Int32) : a < b ↔ a.toInt < b.toInt := Int32.lt_iff_toInt_lt
theorem fa_le (a b : Int32) : a ≤ b ↔ a.toInt ≤ b.toInt := Int32.le_iff_toInt_le
theorem fa_eq (a b : Int32) : a = b ↔ a.toInt = b.toInt := Int32.toInt_inj.symm
theorem i_add1 {x : Int32} (h : x.toInt < 2147483647) : (x + 1).toInt = x.toInt + 1 := by
  have h1 := fb_rng x
  exact fb_addI (x := x) (y := 1) (by show _ ≤ x.toInt + 1; omega) (by show x.toInt + 1 < _; omega)
/-- one step's strikes at ceiling, wall, start: cell, struck, height, pace, rise -/
def sS (cell struck height pace rise wall ceiling : Int32) : Int32 × Int32 × Int32 × Int32 × Int32 :=
  (if 0 ≤ (if cell ≤ wall then cell else 2 * wall - cell) then (if cell ≤ wall then cell else 2 * wall - cell) else 0,
   if cell ≤ wall then (if height ≤ ceiling then struck else struck ||| 1) else (if height ≤ ceiling then struck else struck ||| 1) ||| 2,
   if height ≤ ceiling then height else 2 * ceiling - height,
   if 0 ≤ (if cell ≤ wall then cell else 2 * wall - cell) then (if cell ≤ wall then pace else -pace / 2) else 0,
   if height ≤ ceiling then rise else -rise)
theorem strike_c (cell struck height pace rise wall ceiling : Int32) : fX0_strikeCeilingAndWall cell struck height pace rise wall ceiling = some (sS cell struck height pace rise wall ceiling) := by
  unfold fX0_strikeCeilingAndWall jX0_strikeCeilingAndWall_45 jX0_strikeCeilingAndWall_92 sS
  by_cases h1 : height ≤ ceiling <;> by_cases h2 : cell ≤ wall
  · by_cases h3 : 0 ≤ cell <;> simp only [h1, h2, h3, if_true, if_false]
  · by_cases h3 : 0 ≤ 2 * wall - cell <;> simp only [h1, h2, h3, if_true, if_false]
  · by_cases h3 : 0 ≤ cell <;> simp only [h1, h2, h3, if_true, if_false]
  · by_cases h3 : 0 ≤ 2 * wall - cell <;> simp only [h1, h2, h3, if_true, if_false]
theorem strike_m (ball second first wide rim fill wall ceiling puff period : Int32) (kindA : Nat → Int32) (pace rise height drag was st0 cell steps highest struck : Int32) (kk : Int32 → Int32 → Int32 → Int32 → Int32 → Int32 → Int32 → Int32 → Option (Int32 × Int32 × Int32 × Int32 × Int32 × Int32)) {c k h p r : Int32}
    (hs : sS (cell + pace) struck (height + rise) pace rise wall ceiling = (c, k, h, p, r)) :
    jX6_flies_68 ball second first wide rim fill wall ceiling puff period kindA pace rise height drag was st0 cell steps highest struck kk = jX6_flies_174 ball second first wide rim fill puff period kindA p r h drag was st0 c steps highest k kk := by
  unfold sS at hs
  simp only [Prod.mk.injEq] at hs
  obtain ⟨e1, e2, e3, e4, e5⟩ := hs
  subst e1; subst e2; subst e3; subst e4; subst e5
  unfold jX6_flies_68 jX6_flies_119 jX6_flies_160
  by_cases h1 : height + rise ≤ ceiling <;> by_cases h2 : cell + pace ≤ wall
  · by_cases h3 : 0 ≤ cell + pace <;> simp only [h1, h2, h3, if_true, if_false]
  · by_cases h3 : 0 ≤ 2 * wall - (cell + pace) <;> simp only [h1, h2, h3, if_true, if_false]
  · by_cases h3 : 0 ≤ cell + pace <;> simp only [h1, h2, h3, if_true, if_false]
  · by_cases h3 : 0 ≤ 2 * wall - (cell + pace) <;> simp only [h1, h2, h3, if_true, if_false]
/-- pace gets less -/
def nz (p drag : Int32) : Int32 := if p ≤ 0 then (if p + drag < (0 : Int32) then p + drag else (0 : Int32)) else (if (0 : Int32) < p - drag then p - drag else (0 : Int32))
theorem nz_c (p drag : Int32) : fX0_nearerZero p drag = some (nz p drag) := by
  unfold fX0_nearerZero nz
  by_cases h : p ≤ 0 <;> simp only [h, if_true, if_false]
/-- what the reference does behind the end of a step -/
def aft (ball second puff period : Int32) (kindA : Nat → Int32) (drag steps : Int32) (kk : Int32 → Int32 → Int32 → Int32 → Int32 → Int32 → Int32 → Int32 → Option (Int32 × Int32 × Int32 × Int32 × Int32 × Int32)) (e c g k h p r : Int32) : Option (Int32 × Int32 × Int32 × Int32 × Int32 × Int32) :=
  if e = -1 then jX6_flies_385 ball second puff period kindA r h drag (nz p drag) c steps g k kk else some (e, e, c, steps, g, k)
theorem floor_eq (at_ ball second puff period : Int32) (kindA : Nat → Int32) (drag c k h p r g G steps : Int32) (kk : Int32 → Int32 → Int32 → Int32 → Int32 → Int32 → Int32 → Int32 → Option (Int32 × Int32 × Int32 × Int32 × Int32 × Int32))
    (hG : (if g < h then h else g) = G) : ∃ e, jX0_step_92 at_ (-1) c G k h p r = some (e, c, G, k, h, p, r) ∧ jX6_flies_319 ball second at_ puff period kindA p r h drag c steps g k kk = aft ball second puff period kindA drag steps kk e c G k h p r ∧ ¬ e = 0 := by
  unfold jX0_step_92 jX6_flies_319 aft nz
  rw [hG]
  by_cases h1 : 0 < h
  · refine ⟨-1, ?_, ?_, by decide⟩
    · simp only [h1, if_true]
    · by_cases h2 : p ≤ 0 <;> simp only [h1, h2, if_true, if_false]
  · by_cases h2 : at_ ≤ c
    · refine ⟨2, ?_, ?_, by decide⟩ <;> simp only [h1, h2, if_true, if_false]
      rw [if_neg (by decide)]
    · refine ⟨1, ?_, ?_, by decide⟩ <;> simp only [h1, h2, if_true, if_false]
      rw [if_neg (by decide)]
theorem i_lt_of (a b : Int32) : ¬ a < b ↔ b ≤ a := by rw [fa_lt, fa_le]; omega
/-- what the numbers of an office are -/
def OkO (hand at_ wide rim fill wall ceiling puff period second : Int32) : Prop :=
  (0 ≤ hand.toInt ∧ hand.toInt ≤ 9) ∧ (1 ≤ at_.toInt ∧ at_.toInt ≤ 40) ∧ (1 ≤ wide.toInt ∧ wide.toInt ≤ 5) ∧ (1 ≤ rim.toInt ∧ rim.toInt ≤ 9) ∧ (0 ≤ fill.toInt ∧ fill.toInt ≤ 9) ∧ (5 ≤ wall.toInt ∧ wall.toInt ≤ 60) ∧ (10 ≤ ceiling.toInt ∧ ceiling.toInt ≤ 60) ∧ (-3 ≤ puff.toInt ∧ puff.toInt ≤ 3) ∧ (1 ≤ period.toInt ∧ period.toInt ≤ 9) ∧ at_.toInt + wide.toInt ≤ wall.toInt ∧ 0 ≤ second.toInt
theorem over_eq {at_ wide : Int32} (ha : 1 ≤ at_.toInt ∧ at_.toInt ≤ 40) (hw : 1 ≤ wide.toInt ∧ wide.toInt ≤ 5) (c : Int32) : fX3_isOverBin c at_ wide = fX6_within c at_ (at_ + wide - 1) := by
  unfold fX3_isOverBin fX6_within
  have e1 : (at_ + wide).toInt = at_.toInt + wide.toInt := fb_addI (by omega) (by omega)
  have e2 : (at_ + wide - 1).toInt = at_.toInt + wide.toInt - 1 := by
    rw [fb_subI (x := at_ + wide) (y := 1) (by show _ ≤ _ - (1 : Int); omega) (by show _ - (1 : Int) < _; omega), e1]; rfl
  by_cases h1 : c < at_
  · simp only [h1, if_true]
  · have e : (at_ + wide ≤ c) ↔ (at_ + wide - 1 < c) := by rw [fa_le, fa_lt, e1, e2]; omega
    by_cases h2 : at_ + wide ≤ c
    · simp only [h1, h2, e.mp h2, if_true, if_false]
    · simp only [h1, h2, fun q => h2 (e.mpr q), if_false]
theorem step_eq {at_ wide rim fill wall ceiling : Int32} (ha : 1 ≤ at_.toInt ∧ at_.toInt ≤ 40) (hw : 1 ≤ wide.toInt ∧ wide.toInt ≤ 5) (hr : 1 ≤ rim.toInt ∧ rim.toInt ≤ 9) (hf : 0 ≤ fill.toInt ∧ fill.toInt ≤ 9)
    (ball second puff period : Int32) (kindA : Nat → Int32) (drag cell steps greatest struck height pace rise : Int32) (kk : Int32 → Int32 → Int32 → Int32 → Int32 → Int32 → Int32 → Int32 → Option (Int32 × Int32 × Int32 × Int32 × Int32 × Int32))
    (hg : height ≤ greatest) : ∃ e c g k h p r, fX0_step (-1) cell greatest struck height pace rise at_ wide rim fill wall ceiling = some (e, c, g, k, h, p, r) ∧ (e = -1 → h ≤ g) ∧ (e = 0 → fill < 9) ∧
      jX6_flies_68 ball second at_ wide rim fill wall ceiling puff period kindA pace rise height drag height (if 0 ≤ rise then 0 else 1) cell steps greatest struck kk = aft ball second puff period kindA drag steps kk e c g k h p r := by
  obtain ⟨⟨c, k, h, p, r⟩, hs⟩ : ∃ z, sS (cell + pace) struck (height + rise) pace rise wall ceiling = z := ⟨_, rfl⟩
  rw [strike_m (hs := hs)]
  have e17 : fX0_step (-1) cell greatest struck height pace rise at_ wide rim fill wall ceiling = jX0_step_17 at_ wide rim fill wall ceiling height (if 0 ≤ rise then 0 else 1) (-1) cell greatest struck height pace rise := by
    unfold fX0_step
    by_cases h0 : 0 ≤ rise <;> simp only [h0, if_true, if_false]
  rw [e17]
  unfold jX0_step_17
  rw [strike_c, hs]
  simp only [b5]
  unfold jX6_flies_174
  generalize hst : (if 0 ≤ rise then (0 : Int32) else 1) = st0
  have hG : h ≤ (if greatest < h then h else greatest) := by
    by_cases q : greatest < h
    · rw [if_pos q]; exact Int32.le_refl h
    · rw [if_neg q]; exact (i_lt_of _ _).mp q
  obtain ⟨e, f1, f2, f3⟩ := floor_eq at_ ball second puff period kindA drag c k h p r greatest _ steps kk rfl
  by_cases h1 : st0 = 0
  · rw [if_pos h1, if_pos h1]
    exact ⟨e, c, _, k, h, p, r, f1, fun _ => hG, fun q => absurd q f3, f2⟩
  rw [if_neg h1, if_neg h1]
  by_cases h2 : height ≤ rim
  · rw [if_pos h2, if_pos h2]
    exact ⟨e, c, _, k, h, p, r, f1, fun _ => hG, fun q => absurd q f3, f2⟩
  rw [if_neg h2, if_neg h2]
  by_cases h3 : rim < h
  · rw [if_pos h3, if_pos h3]
    exact ⟨e, c, _, k, h, p, r, f1, fun _ => hG, fun q => absurd q f3, f2⟩
  rw [if_neg h3, if_neg h3]
  unfold fX0_comeDownToRim
  rw [over_eq ha hw]
  obtain ⟨ov, hov⟩ : ∃ ov, fX6_within c at_ (at_ + wide - 1) = some ov := by
    unfold fX6_within
    by_cases q1 : c < at_
    · exact ⟨0, by rw [if_pos q1]⟩
    · by_cases q2 : at_ + wide - 1 < c
      · exact ⟨0, by rw [if_neg q1, if_pos q2]⟩
      · exact ⟨1, by rw [if_neg q1, if_neg q2]⟩
  rw [hov]
  simp only [b1]
  by_cases h4 : ov = 0
  · rw [if_pos h4, if_pos h4]
    unfold fX3_isBesideBin jX6_flies_287
    have n1 : ¬ ((1 : Int32) = 0) := by decide
    have hbn : (if greatest < h then h else greatest) = greatest ∧ (if greatest < rim + 1 then rim + 1 else greatest) = greatest := by
      have e1 : (rim + 1).toInt = rim.toInt + 1 := i_add1 (by omega)
      rw [fa_le] at h2 hg
      rw [fa_lt] at h3
      refine ⟨if_neg ?_, if_neg ?_⟩
      · rw [fa_lt]; omega
      · rw [fa_lt, e1]; omega
    obtain ⟨e', f1', f2', f3'⟩ := floor_eq at_ ball second puff period kindA drag c (k ||| 4) (rim + 1) (-p) 1 greatest (if greatest < h then h else greatest) steps kk (by rw [hbn.2, hbn.1])
    have hG' : rim + 1 ≤ (if greatest < h then h else greatest) := by
      rw [hbn.1, fa_le, i_add1 (by omega)]
      rw [fa_le] at h2 hg
      omega
    by_cases h5 : c = at_ - 1
    · by_cases h7 : k &&& 4 = 0
      · simp only [h5, h7, n1, b1, b5, if_true, if_false]
        rw [h5] at f1' f2'
        exact ⟨e', _, _, _, _, _, _, f1', fun _ => hG', fun q => absurd q f3', f2'⟩
      · simp only [h5, h7, n1, b1, b5, if_true, if_false]
        rw [h5] at f1 f2
        exact ⟨e, _, _, _, _, _, _, f1, fun _ => hG, fun q => absurd q f3, f2⟩
    · by_cases h6 : c = at_ + wide
      · by_cases h7 : k &&& 4 = 0
        · simp only [h5, h6, h7, n1, b1, b5, if_true, if_false]
          rw [h6] at f1' f2' h5
          simp only [h5, if_false]
          exact ⟨e', _, _, _, _, _, _, f1', fun _ => hG', fun q => absurd q f3', f2'⟩
        · simp only [h5, h6, h7, n1, b1, b5, if_true, if_false]
          rw [h6] at f1 f2 h5
          simp only [h5, if_false]
          exact ⟨e, _, _, _, _, _, _, f1, fun _ => hG, fun q => absurd q f3, f2⟩
      · simp only [h5, h6, n1, b1, b5, if_true, if_false]
        exact ⟨e, _, _, _, _, _, _, f1, fun _ => hG, fun q => absurd q f3, f2⟩
  · rw [if_neg h4, if_neg h4]
    have e9 : (fill < 9) ↔ ¬ (fill = 9) := by
      rw [fa_lt, fa_eq]
      show fill.toInt < 9 ↔ ¬ (fill.toInt = 9)
      omega
    by_cases h8 : fill = 9
    · have h9 : ¬ fill < 9 := fun q => e9.mp q h8
      simp only [h8, h9, b5, if_true, if_false]
      rw [h8] at h9
      simp only [h9, if_false]
      refine ⟨3, c, _, k, h, p, r, ?_, fun q => absurd q (by decide), fun q => absurd q (by decide), ?_⟩
      · unfold jX0_step_92; rw [if_neg (by decide)]
      · unfold aft; rw [if_neg (by decide)]
    · have h9 : fill < 9 := e9.mpr h8
      simp only [h8, h9, b5, if_true, if_false]
      refine ⟨0, c, _, k, h, p, r, ?_, fun q => absurd q (by decide), fun _ => h9, ?_⟩
      · unfold jX0_step_92; rw [if_neg (by decide)]
      · unfold aft; rw [if_neg (by decide)]
/-- the fan blows -/
theorem blow_c {sec period : Int32} (hp : 1 ≤ period.toInt) : fX3_blowsIn sec period = some (if sec - sec / period * period = 0 then 1 else 0) := by
  unfold fX3_blowsIn
  have h1 : ¬ period ≤ 0 := by rw [fa_le]; show ¬ period.toInt ≤ 0; omega
  have h2 : ¬ period = 0 := by rw [fa_eq]; show ¬ period.toInt = 0; omega
  rw [if_neg h1, g_nz_p h2]
  by_cases h : sec - sec / period * period = 0 <;> simp only [h, if_true, if_false]
theorem fl_loop {at_ wide rim fill wall ceiling period second ball puff drag fall fan : Int32} {kindA : Nat → Int32} (ha : 1 ≤ at_.toInt ∧ at_.toInt ≤ 40) (hw : 1 ≤ wide.toInt ∧ wide.toInt ≤ 5) (hr : 1 ≤ rim.toInt ∧ rim.toInt ≤ 9) (hf : 0 ≤ fill.toInt ∧ fill.toInt ≤ 9) (hp : 1 ≤ period.toInt)
    (hfall : fX6_fall ball kindA = some fall) (hblown : fX6_blown ball puff kindA = some fan) :
    ∀ (n : Nat) (cell steps greatest struck height pace rise : Int32), 0 ≤ steps.toInt → steps.toInt ≤ 60 → 60 - steps.toInt < n → height ≤ greatest →
      ∃ e c st g k h p r, lX0_run_68 at_ wide rim fill wall ceiling period second (n + 1) drag fall fan (-1) cell steps greatest struck height pace rise = some (e, c, st, g, k, h, p, r) ∧
        lX6_flies_36 ball second at_ wide rim fill wall ceiling puff period kindA (n + 1) pace rise height drag cell steps greatest struck = some (e, e, c, st, g, k) ∧ (e = 0 → fill < 9) := by
  intro n
  induction n with
  | zero => intro cell steps greatest struck height pace rise h1 h2 h3; omega
  | succ n ih =>
    intro cell steps greatest struck height pace rise h1 h2 h3 hg
    rw [lX0_run_68, lX6_flies_36, if_pos rfl]
    have e60 : (60 ≤ steps) ↔ (60 ≤ steps.toInt) := by rw [fa_le]; exact Iff.rfl
    by_cases h60 : 60 ≤ steps
    · rw [if_pos h60, if_pos h60, if_pos rfl]
      exact ⟨1, cell, steps, greatest, struck, height, pace, rise, rfl, rfl, fun q => absurd q (by decide)⟩
    rw [if_neg h60, if_neg h60]
    have h60' : steps.toInt < 60 := by
      have := fun q => h60 (e60.mpr q)
      omega
    obtain ⟨e, c, g, k, h, p, r, s1, s2, s9, s3⟩ := step_eq (wall := wall) (ceiling := ceiling) ha hw hr hf ball second puff period kindA drag cell (steps + 1) greatest struck height pace rise (lX6_flies_36 ball second at_ wide rim fill wall ceiling puff period kindA (n + 1)) hg
    have s4 : (if 0 ≤ rise then jX6_flies_68 ball second at_ wide rim fill wall ceiling puff period kindA pace rise height drag height 0 cell (steps + 1) greatest struck (lX6_flies_36 ball second at_ wide rim fill wall ceiling puff period kindA (n + 1)) else jX6_flies_68 ball second at_ wide rim fill wall ceiling puff period kindA pace rise height drag height 1 cell (steps + 1) greatest struck (lX6_flies_36 ball second at_ wide rim fill wall ceiling puff period kindA (n + 1))) = aft ball second puff period kindA drag (steps + 1) (lX6_flies_36 ball second at_ wide rim fill wall ceiling puff period kindA (n + 1)) e c g k h p r := by
      rw [← s3]
      by_cases q : 0 ≤ rise <;> simp only [q, if_true, if_false]
    rw [s4, s1]
    simp only [b7]
    rw [nz_c]
    simp only [b1]
    rw [blow_c hp]
    simp only []
    have es : (steps + 1).toInt = steps.toInt + 1 := i_add1 (by omega)
    by_cases he : e = -1
    · subst he
      have hgh := s2 rfl
      unfold aft
      rw [if_pos rfl]
      unfold jX6_flies_385 jX6_flies_419
      rw [hfall]
      simp only [b1]
      have hp0 : ¬ period = 0 := by rw [fa_eq]; show ¬ period.toInt = 0; omega
      rw [g_nz_p hp0, hblown]
      simp only []
      by_cases hb : second + (steps + 1) / 4 - (second + (steps + 1) / 4) / period * period = 0
      · simp only [hb, if_true, if_false, show ¬ ((1 : Int32) = 0) by decide]
        exact ih c (steps + 1) g k h (nz p drag + fan) (r - fall) (by omega) (by omega) (by omega) hgh
      · simp only [hb, if_true, if_false]
        exact ih c (steps + 1) g k h (nz p drag) (r - fall) (by omega) (by omega) (by omega) hgh
    · unfold aft
      rw [if_neg he]
      by_cases hb : second + (steps + 1) / 4 - (second + (steps + 1) / 4) / period * period = 0
      · simp only [hb, if_true, if_false, show ¬ ((1 : Int32) = 0) by decide]
        rw [lX0_run_68, if_neg he, if_neg he]
        exact ⟨e, c, _, g, k, h, _, _, rfl, rfl, s9⟩
      · simp only [hb, if_true, if_false]
        rw [lX0_run_68, if_neg he, if_neg he]
        exact ⟨e, c, _, g, k, h, _, _, rfl, rfl, s9⟩
/-- a ball that is there -/
def bOK (ball bc : Int32) : Prop := 0 ≤ ball.toInt ∧ ball.toInt < bc.toInt ∧ bc.toInt ≤ 5
def AEq (n : Nat) (f g : Nat → Int32) : Prop := ∀ i, i < n → f i = g i
theorem AEq.rf {n : Nat} {f : Nat → Int32} : AEq n f f := fun _ _ => rfl
theorem clamp_lt {x : Int32} {n : Nat} (h1 : x.toInt < n) (hn : 0 < n) : x.toNatClampNeg < n := by
  show x.toInt.toNat < n
  omega
theorem hb_yes {ball bc : Int32} (h : bOK ball bc) : fX3_hasBall ball bc = some 1 := by
  obtain ⟨h1, h2, h3⟩ := h
  unfold fX3_hasBall
  rw [if_neg (by rw [fa_lt]; show ¬ ball.toInt < 0; omega), if_neg (by rw [fa_le]; omega), if_neg (by rw [fa_le]; show ¬ (5 : Int) ≤ ball.toInt; omega)]
theorem hb_no {ball bc : Int32} (hb : bc.toInt ≤ 5) (h : ¬ bOK ball bc) : fX3_hasBall ball bc = some 0 := by
  unfold fX3_hasBall
  by_cases h1 : ball < 0
  · rw [if_pos h1]
  · by_cases h2 : bc ≤ ball
    · rw [if_neg h1, if_pos h2]
    · exfalso
      apply h
      rw [fa_lt] at h1
      rw [fa_le] at h2
      have h1' : ¬ ball.toInt < 0 := h1
      exact ⟨by omega, by omega, hb⟩
theorem kind_c {ball bc : Int32} (h : bOK ball bc) (ks : Nat → Int32) : fX3_kindOf ball bc ks = some (ks ball.toNatClampNeg) := by
  unfold fX3_kindOf
  rw [hb_yes h]
  simp only [b1]
  rw [if_neg (by decide), g_in_p h.1 (by have := h.2; show ball.toInt < 5; omega)]
theorem size_c {ball bc : Int32} (h : bOK ball bc) (ks : Nat → Int32) : fX3_sizeOf ball bc ks = some (ks ball.toNatClampNeg) := by
  unfold fX3_sizeOf
  rw [hb_yes h]
  simp only [b1]
  rw [if_neg (by decide), g_in_p h.1 (by have := h.2; show ball.toInt < 5; omega)]
theorem tight_c {ball bc : Int32} (h : bOK ball bc) (ks : Nat → Int32) : fX3_tightOf ball bc ks = some (ks ball.toNatClampNeg) := by
  unfold fX3_tightOf
  rw [hb_yes h]
  simp only [b1]
  rw [if_neg (by decide), g_in_p h.1 (by have := h.2; show ball.toInt < 5; omega)]
theorem drag_eq {ball bc : Int32} (h : bOK ball bc) (ss ts ks : Nat → Int32) : fX3_dragOf ball bc ss ts ks = fX6_drag ball ss ts ks := by
  unfold fX3_dragOf fX6_drag
  rw [size_c h, tight_c h, kind_c h]
  have hi : ball.toInt < ((5 : Nat) : Int) := by have := h.2; show ball.toInt < 5; omega
  rw [g_in_p h.1 hi, g_in_p h.1 hi, g_in_p h.1 hi]
  simp only [b1]
theorem fall_eq {ball bc : Int32} (h : bOK ball bc) (ks : Nat → Int32) : fX3_fallOf ball bc ks = fX6_fall ball ks := by
  unfold fX3_fallOf fX6_fall
  rw [kind_c h]
  have hi : ball.toInt < ((5 : Nat) : Int) := by have := h.2; show ball.toInt < 5; omega
  rw [g_in_p h.1 hi, g_in_p h.1 hi]
  simp only [b1]
theorem fan_eq {ball bc : Int32} (h : bOK ball bc) (puff : Int32) (ks : Nat → Int32) : fX3_fanOf ball puff bc ks = fX6_blown ball puff ks := by
  unfold fX3_fanOf fX6_blown
  rw [kind_c h]
  have hi : ball.toInt < ((5 : Nat) : Int) := by have := h.2; show ball.toInt < 5; omega
  rw [g_in_p h.1 hi]
  simp only [b1]
theorem drag_some {ball bc : Int32} (h : bOK ball bc) (ss ts ks : Nat → Int32) : ∃ d, fX6_drag ball ss ts ks = some d := by
  unfold fX6_drag
  have hi : ball.toInt < ((5 : Nat) : Int) := by have := h.2; show ball.toInt < 5; omega
  rw [g_in_p h.1 hi, g_in_p h.1 hi, g_in_p h.1 hi]
  repeat' split
  all_goals exact ⟨_, rfl⟩
theorem fall_some {ball bc : Int32} (h : bOK ball bc) (ks : Nat → Int32) : ∃ d, fX6_fall ball ks = some d := by
  unfold fX6_fall
  have hi : ball.toInt < ((5 : Nat) : Int) := by have := h.2; show ball.toInt < 5; omega
  rw [g_in_p h.1 hi, g_in_p h.1 hi]
  repeat' split
  all_goals exact ⟨_, rfl⟩
theorem fan_some {ball bc : Int32} (h : bOK ball bc) (puff : Int32) (ks : Nat → Int32) : ∃ d, fX6_blown ball puff ks = some d := by
  unfold fX6_blown
  have hi : ball.toInt < ((5 : Nat) : Int) := by have := h.2; show ball.toInt < 5; omega
  rw [g_in_p h.1 hi]
  repeat' split
  all_goals exact ⟨_, rfl⟩
theorem drag_ar {ball bc : Int32} (h : bOK ball bc) {ss ts ks ss' ts' ks' : Nat → Int32} (h1 : AEq 5 ss ss') (h2 : AEq 5 ts ts') (h3 : AEq 5 ks ks') : fX6_drag ball ss ts ks = fX6_drag ball ss' ts' ks' := by
  have hi : ball.toNatClampNeg < 5 := clamp_lt (by have := h.2; show ball.toInt < 5; omega) (by decide)
  unfold fX6_drag
  rw [h1 _ hi, h2 _ hi, h3 _ hi]
theorem fall_ar {ball bc : Int32} (h : bOK ball bc) {ks ks' : Nat → Int32} (h3 : AEq 5 ks ks') : fX6_fall ball ks = fX6_fall ball ks' := by
  have hi : ball.toNatClampNeg < 5 := clamp_lt (by have := h.2; show ball.toInt < 5; omega) (by decide)
  unfold fX6_fall
  rw [h3 _ hi]
theorem fan_ar {ball bc : Int32} (h : bOK ball bc) (puff : Int32) {ks ks' : Nat → Int32} (h3 : AEq 5 ks ks') : fX6_blown ball puff ks = fX6_blown ball puff ks' := by
  have hi : ball.toNatClampNeg < 5 := clamp_lt (by have := h.2; show ball.toInt < 5; omega) (by decide)
  unfold fX6_blown
  rw [h3 _ hi]
/-- A FLIGHT: both fly alike -/
theorem fly_eq {hand at_ wide rim fill wall ceiling puff period second sec ball bc : Int32} {ss ts ks ss' ts' ks' : Nat → Int32} (ho : OkO hand at_ wide rim fill wall ceiling puff period second) (hb : bOK ball bc) (h1 : AEq 5 ss ss') (h2 : AEq 5 ts ts') (h3 : AEq 5 ks ks') (pace rise : Int32) :
    ∃ e c st g k h p r, fX0_run ball pace rise hand at_ wide rim fill wall ceiling puff period sec bc ss ts ks = some (e, c, st, g, k, h, p, r) ∧ fX6_flies ball pace rise sec hand at_ wide rim fill wall ceiling puff period ss' ts' ks' = some (e, e, c, st, g, k) ∧ (e = 0 → fill < 9) := by
  obtain ⟨-, ha, hw, hr, hf, -, -, -, hp, -⟩ := ho
  unfold fX0_run fX6_flies
  rw [drag_eq hb, drag_ar hb h1 h2 h3, fall_eq hb, fan_eq hb]
  obtain ⟨d, hd⟩ := drag_some hb ss' ts' ks'
  obtain ⟨fa, hfa⟩ := fall_some hb ks'
  obtain ⟨fn, hfn⟩ := fan_some hb puff ks'
  rw [fall_ar hb h3, fan_ar hb puff h3, hd, hfa, hfn]
  simp only [b1]
  exact fl_loop ha hw hr hf hp.1 hfa hfn 99 0 0 hand 0 hand pace rise (Int.le_refl _) (by decide) (by decide) (Int32.le_refl _)
