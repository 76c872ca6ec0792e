/-! odds: the numbers are few, the kernel counts them out -/
theorem refuseL_eq {x : Int32} (h : x = -1 ∨ x = -2 ∨ x = -3 ∨ x = -4 ∨ x = -6) (a : Nat → Int32) : ∃ v a', fX5_refuseLong x a = some (v, a') ∧ fX6_noLong x a = some (v, a') := by
  obtain ⟨a', e1, e2⟩ := refuse_eq h a
  unfold fX5_refuseLong fX6_noLong
  rw [e1, e2]
  exact ⟨_, _, rfl, rfl⟩
/-- the reference's sum does not look at what it carries along -/
theorem soM_rf (x1 x2 x3 x4 : Int32) (rf : Nat → Int32) : ∀ (n : Nat) (x5 x7 : Int64) (x9 : Int32), lX6_soMany_69 x1 x2 x3 x4 n x5 x7 x9 rf = (lX6_soMany_69 x1 x2 x3 x4 n x5 x7 x9 (fun _ => 0)).map (fun q => (q.1, rf)) := by
  intro n
  induction n with
  | zero => intro x5 x7 x9; rfl
  | succ n ih =>
    intro x5 x7 x9
    rw [lX6_soMany_69, lX6_soMany_69]
    unfold jX6_soMany_96 jX6_soMany_130
    simp only [ih]
    by_cases h1 : x1 < x9
    · rw [if_pos h1, if_pos h1]
      cases fX6_power 9 x1 with
      | none => rfl
      | some p =>
        simp only [b1]
        cases fX6_part x5 p x4 with
        | none => rfl
        | some q => rfl
    · rw [if_neg h1, if_neg h1]
      have key : ∀ (y : Int64), (if x9 < x2 then Option.map (fun q => (q.1, rf)) (lX6_soMany_69 x1 x2 x3 x4 n x5 y (x9 + 1) fun _ => 0) else b1 (fX6_power x3.toInt64 x9) fun r1 => b1 (fX6_power (9 - x3).toInt64 (x1 - x9)) fun r3 => Option.map (fun q => (q.1, rf)) (lX6_soMany_69 x1 x2 x3 x4 n (x5 + y * r1 * r3) y (x9 + 1) fun _ => 0)) = Option.map (fun q => (q.1, rf)) (if x9 < x2 then lX6_soMany_69 x1 x2 x3 x4 n x5 y (x9 + 1) fun _ => 0 else b1 (fX6_power x3.toInt64 x9) fun r1 => b1 (fX6_power (9 - x3).toInt64 (x1 - x9)) fun r3 => lX6_soMany_69 x1 x2 x3 x4 n (x5 + y * r1 * r3) y (x9 + 1) fun _ => 0) := by
        intro y
        by_cases h2 : x9 < x2
        · rw [if_pos h2, if_pos h2]
        · rw [if_neg h2, if_neg h2]
          cases fX6_power x3.toInt64 x9 with
          | none => rfl
          | some p =>
            simp only [b1]
            cases fX6_power (9 - x3).toInt64 (x1 - x9) with
            | none => rfl
            | some q => rfl
      by_cases h3 : x9 ≤ 0
      · rw [if_pos h3, if_pos h3]
        exact key x7
      · rw [if_neg h3, if_neg h3]
        unfold g_nzl
        by_cases h4 : x9.toInt64 = 0
        · rw [if_pos h4, if_pos h4]; rfl
        · rw [if_neg h4, if_neg h4]
          exact key _
/-- the check: both parts, for one n, m, k -/
def ckS (n m k : Nat) : Bool := match fX2_atLeast (nI n) (nI m) (nI k), lX6_soMany_69 (nI n) (nI m) (nI k) 0 100 0 1 0 (fun _ => 0), lX6_soMany_69 (nI n) (nI m) (nI k) 1 100 0 1 0 (fun _ => 0) with
  | some (a, b), some (x, _), some (y, _) => decide (a = x) && decide (b = y)
  | _, _, _ => false
def ckR (n k : Nat) : Bool := match fX2_atLeast (nI n) (nI n) (nI k), fX6_power (nI k).toInt64 (nI n), fX6_power 9 (nI n) with
  | some (a, b), some p, some q => (match fX6_part p q 0, fX6_part p q 1 with
    | some x, some y => decide (a = x) && decide (b = y)
    | _, _ => false)
  | _, _, _ => false
set_option maxRecDepth 100000 in
theorem ckR_all : (List.range 16).all (fun n => (List.range 10).all (fun k => ckR n k)) = true := by decide +kernel
set_option maxRecDepth 100000 in
theorem ckS_0 : (List.range 1).all (fun m => (List.range 10).all (fun k => ckS 0 m k)) = true := by decide +kernel
set_option maxRecDepth 100000 in
theorem ckS_1 : (List.range 2).all (fun m => (List.range 10).all (fun k => ckS 1 m k)) = true := by decide +kernel
set_option maxRecDepth 100000 in
theorem ckS_2 : (List.range 3).all (fun m => (List.range 10).all (fun k => ckS 2 m k)) = true := by decide +kernel
set_option maxRecDepth 100000 in
theorem ckS_3 : (List.range 4).all (fun m => (List.range 10).all (fun k => ckS 3 m k)) = true := by decide +kernel
set_option maxRecDepth 100000 in
theorem ckS_4 : (List.range 5).all (fun m => (List.range 10).all (fun k => ckS 4 m k)) = true := by decide +kernel
set_option maxRecDepth 100000 in
theorem ckS_5 : (List.range 6).all (fun m => (List.range 10).all (fun k => ckS 5 m k)) = true := by decide +kernel
set_option maxRecDepth 100000 in
theorem ckS_6 : (List.range 7).all (fun m => (List.range 10).all (fun k => ckS 6 m k)) = true := by decide +kernel
set_option maxRecDepth 100000 in
theorem ckS_7 : (List.range 8).all (fun m => (List.range 10).all (fun k => ckS 7 m k)) = true := by decide +kernel
set_option maxRecDepth 100000 in
theorem ckS_8 : (List.range 9).all (fun m => (List.range 10).all (fun k => ckS 8 m k)) = true := by decide +kernel
set_option maxRecDepth 100000 in
theorem ckS_9 : (List.range 10).all (fun m => (List.range 10).all (fun k => ckS 9 m k)) = true := by decide +kernel
set_option maxRecDepth 100000 in
theorem ckS_10 : (List.range 11).all (fun m => (List.range 10).all (fun k => ckS 10 m k)) = true := by decide +kernel
set_option maxRecDepth 100000 in
theorem ckS_11 : (List.range 12).all (fun m => (List.range 10).all (fun k => ckS 11 m k)) = true := by decide +kernel
set_option maxRecDepth 100000 in
theorem ckS_12 : (List.range 13).all (fun m => (List.range 10).all (fun k => ckS 12 m k)) = true := by decide +kernel
set_option maxRecDepth 100000 in
theorem ckS_13 : (List.range 14).all (fun m => (List.range 10).all (fun k => ckS 13 m k)) = true := by decide +kernel
set_option maxRecDepth 100000 in
theorem ckS_14 : (List.range 15).all (fun m => (List.range 10).all (fun k => ckS 14 m k)) = true := by decide +kernel
set_option maxRecDepth 100000 in
theorem ckS_15 : (List.range 16).all (fun m => (List.range 10).all (fun k => ckS 15 m k)) = true := by decide +kernel
theorem all_r {n : Nat} {p : Nat → Bool} (h : (List.range n).all p = true) {i : Nat} (hi : i < n) : p i = true := List.all_eq_true.mp h i (List.mem_range.mpr hi)
theorem ckS_at {n m k : Nat} (hn : n < 16) (hm : m ≤ n) (hk : k < 10) : ckS n m k = true := by
  have key : ∀ j, ((List.range (j + 1)).all (fun m => (List.range 10).all (fun k => ckS j m k)) = true) → n = j → ckS n m k = true := by
    intro j h e
    subst e
    exact all_r (all_r h (i := m) (by omega)) hk
  rcases (by omega : n = 0 ∨ n = 1 ∨ n = 2 ∨ n = 3 ∨ n = 4 ∨ n = 5 ∨ n = 6 ∨ n = 7 ∨ n = 8 ∨ n = 9 ∨ n = 10 ∨ n = 11 ∨ n = 12 ∨ n = 13 ∨ n = 14 ∨ n = 15) with e | e | e | e | e | e | e | e | e | e | e | e | e | e | e | e
  · exact key 0 ckS_0 e
  · exact key 1 ckS_1 e
  · exact key 2 ckS_2 e
  · exact key 3 ckS_3 e
  · exact key 4 ckS_4 e
  · exact key 5 ckS_5 e
  · exact key 6 ckS_6 e
  · exact key 7 ckS_7 e
  · exact key 8 ckS_8 e
  · exact key 9 ckS_9 e
  · exact key 10 ckS_10 e
  · exact key 11 ckS_11 e
  · exact key 12 ckS_12 e
  · exact key 13 ckS_13 e
  · exact key 14 ckS_14 e
  · exact key 15 ckS_15 e
theorem ckS_use {n m k : Nat} (h : ckS n m k = true) : ∃ a b f g, fX2_atLeast (nI n) (nI m) (nI k) = some (a, b) ∧ lX6_soMany_69 (nI n) (nI m) (nI k) 0 100 0 1 0 (fun _ => 0) = some (a, f) ∧ lX6_soMany_69 (nI n) (nI m) (nI k) 1 100 0 1 0 (fun _ => 0) = some (b, g) := by
  unfold ckS at h
  split at h
  · next a b x f y g e1 e2 e3 =>
    rw [Bool.and_eq_true, decide_eq_true_eq, decide_eq_true_eq] at h
    obtain ⟨rfl, rfl⟩ := h
    exact ⟨_, _, _, _, e1, e2, e3⟩
  · cases h
theorem ckR_use {n k : Nat} (h : ckR n k = true) : ∃ a b p q, fX2_atLeast (nI n) (nI n) (nI k) = some (a, b) ∧ fX6_power (nI k).toInt64 (nI n) = some p ∧ fX6_power 9 (nI n) = some q ∧ fX6_part p q 0 = some a ∧ fX6_part p q 1 = some b := by
  unfold ckR at h
  split at h
  · next a b p q e1 e2 e3 =>
    split at h
    · next x y f1 f2 =>
      rw [Bool.and_eq_true, decide_eq_true_eq, decide_eq_true_eq] at h
      obtain ⟨rfl, rfl⟩ := h
      exact ⟨_, _, _, _, e1, e2, e3, f1, f2⟩
    · cases h
  · cases h
theorem i_nat {x : Int32} (h0 : ¬ x < 0) {N : Nat} (hN : N < 2 ^ 31) (h : x.toInt ≤ N) : ∃ j : Nat, j ≤ N ∧ x = nI j := by
  obtain ⟨j, hj, rfl⟩ := nI_of h0
  rw [nI_toInt hj] at h
  exact ⟨j, by omega, rfl⟩
theorem within01 (p : Int32) : (p = 0 ∧ fX6_within p 0 1 = some 1) ∨ (p = 1 ∧ fX6_within p 0 1 = some 1) ∨ (¬ p = 0 ∧ ¬ p = 1 ∧ fX6_within p 0 1 = some 0) := by
  by_cases w0 : p = 0
  · subst w0; exact Or.inl ⟨rfl, rfl⟩
  · by_cases w1 : p = 1
    · subst w1; exact Or.inr (Or.inl ⟨rfl, rfl⟩)
    · refine Or.inr (Or.inr ⟨w0, w1, ?_⟩)
      unfold fX6_within
      by_cases q1 : p < 0
      · rw [if_pos q1]
      · have q2 : 1 < p := by
          rw [fa_lt] at q1
          rw [fa_eq] at w0 w1
          rw [fa_lt]
          have q1' : ¬ p.toInt < 0 := q1
          have w0' : ¬ p.toInt = 0 := w0
          have w1' : ¬ p.toInt = 1 := w1
          show (1 : Int) < p.toInt
          omega
        rw [if_neg q1, if_pos q2]
theorem p_inRow (x1 x2 x3 : Int32) (rf : Nat → Int32) (oa ob : Int64) : ∃ v rf' oa' ob', fX5_inRow x1 x2 x3 rf oa ob = some (v, rf', oa', ob') ∧ fX6_inRow x1 x2 x3 rf = some (v, rf') := by
  obtain ⟨v4, a4, r4, s4⟩ := refuseL_eq (x := -4) (by decide) rf
  obtain ⟨v6, a6, r6, s6⟩ := refuseL_eq (x := -6) (by decide) rf
  obtain ⟨v2, a2, r2, s2⟩ := refuseL_eq (x := -2) (by decide) rf
  unfold fX5_inRow fX6_inRow
  rw [r4, s4, r6, s6, s2]
  by_cases c1 : x1 < 0
  · rw [if_pos c1, if_pos c1]; exact ⟨_, _, _, _, rfl, rfl⟩
  rw [if_neg c1, if_neg c1]
  by_cases c2 : 0 ≤ x2
  · by_cases c3 : 15 < x1
    · rw [if_pos c2, if_pos c2, if_pos c3, if_pos c3]; exact ⟨_, _, _, _, rfl, rfl⟩
    · by_cases c4 : x2 ≤ 9
      · rw [if_pos c2, if_pos c2, if_neg c3, if_neg c3, if_pos c4, if_pos c4]
        obtain ⟨n, hn, rfl⟩ := i_nat c1 (N := 15) (by decide) (by rw [fa_lt] at c3; have c3' : ¬ (15 : Int) < x1.toInt := c3; show x1.toInt ≤ 15; omega)
        obtain ⟨k, hk, rfl⟩ := i_nat (x := x2) ((i_lt_of _ _).mpr c2) (N := 9) (by decide) (by rw [fa_le] at c4; exact c4)
        obtain ⟨a, b, p, q, e1, e2, e3, e4, e5⟩ := ckR_use (all_r (all_r ckR_all (i := n) (by omega)) (i := k) (by omega))
        unfold fX5_partOfOdds jX5_partOfOdds_18
        rcases within01 x3 with ⟨w, w'⟩ | ⟨w, w'⟩ | ⟨w, w1, w'⟩
        · subst w
          rw [w', e1, e2, e3]
          simp only [b1, b2]
          rw [if_pos rfl, if_pos rfl, if_neg (by decide), e4]
          exact ⟨_, _, _, _, rfl, rfl⟩
        · subst w
          rw [w', e1, e2, e3]
          simp only [b1, b2]
          rw [if_neg (by decide), if_pos rfl, if_neg (by decide), if_neg (by decide), e5]
          exact ⟨_, _, _, _, rfl, rfl⟩
        · rw [w', r2]
          simp only [b1]
          rw [if_neg w, if_neg w1, if_pos rfl]
          exact ⟨_, _, _, _, rfl, rfl⟩
      · rw [if_pos c2, if_pos c2, if_neg c3, if_neg c3, if_neg c4, if_neg c4]; exact ⟨_, _, _, _, rfl, rfl⟩
  · rw [if_neg c2, if_neg c2]; exact ⟨_, _, _, _, rfl, rfl⟩
theorem p_soMany (x1 x2 x3 x4 : Int32) (rf : Nat → Int32) (oa ob : Int64) : ∃ v rf' oa' ob', fX5_soMany x1 x2 x3 x4 rf oa ob = some (v, rf', oa', ob') ∧ fX6_soMany x1 x2 x3 x4 rf = some (v, rf') := by
  obtain ⟨v4, a4, r4, s4⟩ := refuseL_eq (x := -4) (by decide) rf
  obtain ⟨v6, a6, r6, s6⟩ := refuseL_eq (x := -6) (by decide) rf
  obtain ⟨v2, a2, r2, s2⟩ := refuseL_eq (x := -2) (by decide) rf
  unfold fX5_soMany fX6_soMany
  rw [r4, s4, r6, s6, s2, soM_rf]
  by_cases c1 : x1 < 0
  · rw [if_pos c1, if_pos c1]; exact ⟨_, _, _, _, rfl, rfl⟩
  rw [if_neg c1, if_neg c1]
  by_cases c0 : x2 < 0
  · rw [if_pos c0, if_pos c0]; exact ⟨_, _, _, _, rfl, rfl⟩
  rw [if_neg c0, if_neg c0]
  by_cases c2 : 0 ≤ x3
  · by_cases c3 : 15 < x1
    · rw [if_pos c2, if_pos c2, if_pos c3, if_pos c3]; exact ⟨_, _, _, _, rfl, rfl⟩
    · by_cases c5 : x1 < x2
      · rw [if_pos c2, if_pos c2, if_neg c3, if_neg c3, if_pos c5, if_pos c5]; exact ⟨_, _, _, _, rfl, rfl⟩
      · by_cases c4 : x3 ≤ 9
        · rw [if_pos c2, if_pos c2, if_neg c3, if_neg c3, if_neg c5, if_neg c5, if_pos c4, if_pos c4]
          have hx1 : x1.toInt ≤ 15 := by
            rw [fa_lt] at c3
            have c3' : ¬ (15 : Int) < x1.toInt := c3
            omega
          have hx2 : x2.toInt ≤ x1.toInt := by
            rw [fa_lt] at c5
            omega
          obtain ⟨n, hn, rfl⟩ := i_nat c1 (N := 15) (by decide) hx1
          obtain ⟨m, hm, rfl⟩ := i_nat c0 (N := 15) (by decide) (by show x2.toInt ≤ 15; omega)
          obtain ⟨k, hk, rfl⟩ := i_nat (x := x3) ((i_lt_of _ _).mpr c2) (N := 9) (by decide) (by rw [fa_le] at c4; exact c4)
          rw [nI_toInt (by omega), nI_toInt (by omega)] at hx2
          obtain ⟨a, b, f, g, e1, e2, e3⟩ := ckS_use (ckS_at (n := n) (m := m) (k := k) (by omega) (by omega) (by omega))
          unfold fX5_partOfOdds jX5_partOfOdds_18
          rcases within01 x4 with ⟨w, w'⟩ | ⟨w, w'⟩ | ⟨w, w1, w'⟩
          · subst w
            rw [w', e1, e2]
            simp only [b1, b2]
            rw [if_pos rfl, if_pos rfl, if_neg (by decide)]
            exact ⟨_, _, _, _, rfl, rfl⟩
          · subst w
            rw [w', e1, e3]
            simp only [b1, b2]
            rw [if_neg (by decide), if_pos rfl, if_neg (by decide), if_neg (by decide)]
            exact ⟨_, _, _, _, rfl, rfl⟩
          · rw [w', r2]
            simp only [b1]
            rw [if_neg w, if_neg w1, if_pos rfl]
            exact ⟨_, _, _, _, rfl, rfl⟩
        · rw [if_pos c2, if_pos c2, if_neg c3, if_neg c3, if_neg c5, if_neg c5, if_neg c4, if_neg c4]; exact ⟨_, _, _, _, rfl, rfl⟩
  · rw [if_neg c2, if_neg c2]; exact ⟨_, _, _, _, rfl, rfl⟩
