/-! the small calls -/
theorem refuse_eq {x : Int32} (h : x = -1 ∨ x = -2 ∨ x = -3 ∨ x = -4 ∨ x = -6) (a : Nat → Int32) : ∃ a', fX5_refuse x a = some (x, a') ∧ fX6_no x a = some (x, a') := by
  rcases h with rfl | rfl | rfl | rfl | rfl
  all_goals
    unfold fX5_refuse fX6_no
    rw [if_neg (by decide), if_neg (by decide), g_in_p (by decide) (by decide), g_in_p (by decide) (by decide)]
    exact ⟨_, rfl, rfl⟩
theorem isBall_eq {ball bc : Int32} (h0 : 0 ≤ bc.toInt) (h5 : bc.toInt ≤ 5) : fX6_isBall ball bc = fX3_hasBall ball bc := by
  have e1 : (bc - 1).toInt = bc.toInt - 1 := fb_subI (x := bc) (y := 1) (by show _ ≤ _ - (1 : Int); omega) (by show _ - (1 : Int) < _; omega)
  unfold fX6_isBall fX6_within
  by_cases hb : bOK ball bc
  · rw [hb_yes hb]
    obtain ⟨h1, h2, h3⟩ := hb
    rw [if_neg (by rw [fa_lt]; show ¬ ball.toInt < 0; omega), if_neg (by rw [fa_lt, e1]; omega)]
    simp only [b1]
    rw [g_b_p (Or.inr rfl)]
  · rw [hb_no h5 hb]
    by_cases h1 : ball < 0
    · rw [if_pos h1]
      simp only [b1]
      rw [g_b_p (Or.inl rfl)]
    · have h2 : bc - 1 < ball := by
        rw [fa_lt, e1]
        rw [fa_lt] at h1
        have h1' : ¬ ball.toInt < 0 := h1
        have : ¬ ball.toInt < bc.toInt := fun q => hb ⟨by omega, q, h5⟩
        omega
      rw [if_neg h1, if_pos h2]
      simp only [b1]
      rw [g_b_p (Or.inl rfl)]
theorem hasBall_01 (ball bc : Int32) : fX3_hasBall ball bc = some 0 ∨ fX3_hasBall ball bc = some 1 := by
  unfold fX3_hasBall
  repeat' split
  all_goals first | exact Or.inl rfl | exact Or.inr rfl
/-- the two refusals of pace and rise -/
theorem noThrow_eq (pace rise : Int32) : ∃ r, fX5_refusalOfPaceAndRise pace rise = some r ∧ fX6_noThrow pace rise = some r ∧ (r = 0 ∨ r = -4 ∨ r = -6) ∧ (r = 0 → (1 ≤ pace.toInt ∧ pace.toInt ≤ 9) ∧ (-5 ≤ rise.toInt ∧ rise.toInt ≤ 15)) := by
  unfold fX5_refusalOfPaceAndRise fX6_noThrow
  by_cases h1 : pace < 1
  · simp only [h1, if_true]
    exact ⟨-4, rfl, rfl, by decide, fun q => absurd q (by decide)⟩
  · by_cases h2 : (-5) ≤ rise
    · by_cases h3 : 9 < pace
      · simp only [h1, h2, h3, if_true, if_false]
        exact ⟨-6, rfl, rfl, by decide, fun q => absurd q (by decide)⟩
      · by_cases h4 : rise ≤ 15
        · simp only [h1, h2, h3, h4, if_true, if_false]
          refine ⟨0, rfl, rfl, by decide, fun _ => ?_⟩
          rw [fa_lt] at h1 h3
          rw [fa_le] at h2 h4
          have h1' : ¬ pace.toInt < 1 := h1
          have h3' : ¬ 9 < pace.toInt := h3
          have h2' : -5 ≤ rise.toInt := h2
          have h4' : rise.toInt ≤ 15 := h4
          exact ⟨⟨by omega, by omega⟩, ⟨by omega, by omega⟩⟩
        · simp only [h1, h2, h3, h4, if_true, if_false]
          exact ⟨-6, rfl, rfl, by decide, fun q => absurd q (by decide)⟩
    · simp only [h1, h2, if_false]
      exact ⟨-4, rfl, rfl, by decide, fun q => absurd q (by decide)⟩
/-- the refusal of a throw, in both: the class asks for all at once, the reference for the ball first -/
theorem refThrow (ball pace rise : Int32) {bc : Int32} (h5 : bc.toInt ≤ 5) :
    (¬ bOK ball bc ∧ fX3_hasBall ball bc = some 0 ∧ fX5_refusalOfThrow ball pace rise bc = some (-1)) ∨
    (bOK ball bc ∧ fX3_hasBall ball bc = some 1 ∧ ∃ r, fX5_refusalOfThrow ball pace rise bc = some r ∧ fX6_noThrow pace rise = some r ∧ (r = 0 ∨ r = -4 ∨ r = -6) ∧ (r = 0 → (1 ≤ pace.toInt ∧ pace.toInt ≤ 9) ∧ (-5 ≤ rise.toInt ∧ rise.toInt ≤ 15))) := by
  by_cases hb : bOK ball bc
  · refine Or.inr ⟨hb, hb_yes hb, ?_⟩
    obtain ⟨r, h1, h2, h3, h4⟩ := noThrow_eq pace rise
    refine ⟨r, ?_, h2, h3, h4⟩
    unfold fX5_refusalOfThrow
    rw [hb_yes hb, h1]
    simp only [b1]
    rw [if_neg (by decide)]
  · refine Or.inl ⟨hb, hb_no h5 hb, ?_⟩
    unfold fX5_refusalOfThrow
    rw [hb_no h5 hb]
    simp only [b1]
    rw [if_pos rfl]
/-- letter -/
theorem p_letter (c : Int32) (rf : Nat → Int32) {len : Int32} (lt : Nat → Int32) (h0 : 0 ≤ len.toInt) (h1 : len.toInt ≤ 80) :
    ∃ r rf' len' lt', fX5_letter c rf len lt = some (r, rf', len', lt') ∧ fX6_letter c len rf lt = some (r, len', rf', lt') ∧ 0 ≤ len'.toInt ∧ len'.toInt ≤ 80 := by
  unfold fX5_letter fX6_letter
  by_cases hc : 0 ≤ c
  · by_cases hc2 : 255 < c
    · obtain ⟨a', e1, e2⟩ := refuse_eq (x := -6) (by decide) rf
      simp only [hc, hc2, if_true, e1, e2, b2]
      exact ⟨_, _, _, _, rfl, rfl, h0, h1⟩
    · unfold fX4_hasRoom fX4_add
      by_cases h8 : len = 80
      · subst h8
        obtain ⟨a', e1, e2⟩ := refuse_eq (x := -6) (by decide) rf
        simp only [hc, hc2, if_true, if_false, e1, e2, b1, b2, show ((80 : Int32) ≤ 80) from by decide]
        exact ⟨_, _, _, _, rfl, rfl, by decide, by decide⟩
      · have h8' : ¬ 80 ≤ len := by
          rw [fa_le]
          rw [fa_eq] at h8
          have h8' : ¬ len.toInt = 80 := h8
          show ¬ (80 : Int) ≤ len.toInt
          omega
        have hl : len.toInt < 80 := by
          rw [fa_le] at h8'
          have h8' : ¬ (80 : Int) ≤ len.toInt := h8'
          omega
        have hn : ¬ len < 0 := by rw [fa_lt]; show ¬ len.toInt < 0; omega
        have e1 : (len + 1).toInt = len.toInt + 1 := i_add1 (by omega)
        simp only [hc, hc2, h8, h8', hn, if_true, if_false, b1, show ¬ ((1 : Int32) = 0) from by decide]
        rw [g_in_p h0 (by show len.toInt < 80; omega), g_in_p h0 (by show len.toInt < 80; omega)]
        simp only [b3]
        exact ⟨_, _, _, _, rfl, rfl, by omega, by omega⟩
  · obtain ⟨a', e1, e2⟩ := refuse_eq (x := -4) (by decide) rf
    simp only [hc, if_false, e1, e2, b2]
    exact ⟨_, _, _, _, rfl, rfl, h0, h1⟩
/-- pass -/
theorem p_pass (x : Int32) (rf : Nat → Int32) {sec : Int32} (h0 : 0 ≤ sec.toInt) (h1 : sec.toInt ≤ 9999) :
    ∃ r rf' sec', fX5_pass x rf sec = some (r, rf', sec') ∧ fX6_pass x sec rf = some (r, sec', rf') ∧ 0 ≤ sec'.toInt ∧ sec'.toInt ≤ 9999 := by
  unfold fX5_pass fX6_pass
  by_cases hc : 1 ≤ x
  · by_cases hc2 : 99 < x
    · obtain ⟨a', e1, e2⟩ := refuse_eq (x := -6) (by decide) rf
      simp only [hc, hc2, if_true, e1, e2, b2]
      exact ⟨_, _, _, rfl, rfl, h0, h1⟩
    · by_cases hc3 : sec + x ≤ 9999
      · simp only [hc, hc2, hc3, if_true, if_false]
        rw [fa_le] at hc hc3
        rw [fa_lt] at hc2
        have hc' : 1 ≤ x.toInt := hc
        have hc2' : ¬ 99 < x.toInt := hc2
        have hc3' : (sec + x).toInt ≤ 9999 := hc3
        have e1 : (sec + x).toInt = sec.toInt + x.toInt := fb_addI (by omega) (by omega)
        exact ⟨_, _, _, rfl, rfl, by omega, by omega⟩
      · obtain ⟨a', e1, e2⟩ := refuse_eq (x := -6) (by decide) rf
        simp only [hc, hc2, hc3, if_true, if_false, e1, e2, b2]
        exact ⟨_, _, _, rfl, rfl, h0, h1⟩
  · obtain ⟨a', e1, e2⟩ := refuse_eq (x := -4) (by decide) rf
    simp only [hc, if_false, e1, e2, b2]
    exact ⟨_, _, _, rfl, rfl, h0, h1⟩
/-- row -/
theorem p_row (x : Int32) (rf : Nat → Int32) {tc : Int32} (tl : Nat → Int32) (h0 : 0 ≤ tc.toInt) (h1 : tc.toInt ≤ 12) :
    ∃ r tc' rf' tl', fX5_row x tc rf tl = some (r, tc', rf', tl') ∧ fX6_row x tc rf tl = some (r, tc', rf', tl') ∧ 0 ≤ tc'.toInt ∧ tc'.toInt ≤ 12 := by
  unfold fX5_row fX6_row
  by_cases hc : 0 ≤ x
  · by_cases hc2 : 9999 < x
    · obtain ⟨a', e1, e2⟩ := refuse_eq (x := -6) (by decide) rf
      simp only [hc, hc2, if_true, e1, e2, b2]
      exact ⟨_, _, _, _, rfl, rfl, h0, h1⟩
    · by_cases h8 : tc = 12
      · subst h8
        obtain ⟨a', e1, e2⟩ := refuse_eq (x := -6) (by decide) rf
        simp only [hc, hc2, if_true, if_false, e1, e2, b2, show ¬ ((12 : Int32) < 12) from by decide]
        exact ⟨_, _, _, _, rfl, rfl, by decide, by decide⟩
      · have hl : tc.toInt < 12 := by
          rw [fa_eq] at h8
          have h8' : ¬ tc.toInt = 12 := h8
          omega
        have h8' : tc < 12 := by rw [fa_lt]; exact hl
        have e1 : (tc + 1).toInt = tc.toInt + 1 := i_add1 (by omega)
        simp only [hc, hc2, h8, h8', if_true, if_false]
        rw [g_in_p h0 (by show tc.toInt < 12; omega), g_in_p h0 (by show tc.toInt < 12; omega)]
        exact ⟨_, _, _, _, rfl, rfl, by omega, by omega⟩
  · obtain ⟨a', e1, e2⟩ := refuse_eq (x := -4) (by decide) rf
    simp only [hc, if_false, e1, e2, b2]
    exact ⟨_, _, _, _, rfl, rfl, h0, h1⟩
theorem AEq.up {n : Nat} {f g : Nat → Int32} (h : AEq n f g) (k : Nat) (x : Int32) : AEq n (upd f k x) (upd g k x) := by
  intro i hi
  unfold upd
  by_cases e : i = k
  · rw [if_pos e, if_pos e]
  · rw [if_neg e, if_neg e]; exact h i hi
/-- crumple -/
theorem p_crumple (ball v : Int32) {bc : Int32} (rf : Nat → Int32) {ts ts' : Nat → Int32} (h0 : 0 ≤ bc.toInt) (h5 : bc.toInt ≤ 5) (ht : AEq 5 ts ts') :
    ∃ r rf' a b, fX5_crumple ball v bc rf ts = some (r, rf', a) ∧ fX6_crumple ball v bc rf ts' = some (r, rf', b) ∧ AEq 5 a b := by
  unfold fX5_crumple fX6_crumple
  rw [isBall_eq h0 h5]
  by_cases hb : bOK ball bc
  · rw [hb_yes hb]
    simp only [b1]
    rw [if_neg (by decide), if_neg (by decide)]
    by_cases h1 : 0 ≤ v
    · by_cases h2 : v ≤ 9
      · have hi : ball.toInt < ((5 : Nat) : Int) := by have := hb.2; show ball.toInt < 5; omega
        rw [if_pos h1, if_pos h1, if_pos h2, if_pos h2, tight_c hb, g_in_p hb.1 hi, g_in_p hb.1 hi]
        unfold fX3_setTight
        rw [hb_yes hb]
        simp only [b1]
        rw [if_neg (by decide), g_in_p hb.1 hi]
        simp only [b1]
        refine ⟨_, _, _, _, rfl, ?_, ht.up _ _⟩
        rw [ht _ (clamp_lt hi (by decide))]
      · obtain ⟨a', e1, e2⟩ := refuse_eq (x := -6) (by decide) rf
        rw [if_pos h1, if_pos h1, if_neg h2, if_neg h2, e1, e2]
        exact ⟨_, _, _, _, rfl, rfl, ht⟩
    · obtain ⟨a', e1, e2⟩ := refuse_eq (x := -4) (by decide) rf
      rw [if_neg h1, if_neg h1, e1, e2]
      exact ⟨_, _, _, _, rfl, rfl, ht⟩
  · rw [hb_no h5 hb]
    obtain ⟨a', e1, e2⟩ := refuse_eq (x := -1) (by decide) rf
    simp only [b1]
    rw [if_pos rfl, if_pos rfl, e1, e2]
    exact ⟨_, _, _, _, rfl, rfl, ht⟩
