/-! best, off, whose: the pace and rise loops side by side -/
theorem i_ge16 (x : Int32) : 15 < x ↔ 16 ≤ x := by
  rw [fa_lt, fa_le]
  show (15 : Int) < x.toInt ↔ (16 : Int) ≤ x.toInt
  omega
theorem i_ge10 (x : Int32) : 9 < x ↔ 10 ≤ x := by
  rw [fa_lt, fa_le]
  show (9 : Int) < x.toInt ↔ (10 : Int) ≤ x.toInt
  omega
theorem i_n15 {x : Int32} (h : ¬ 15 < x) : x.toInt ≤ 15 := by
  rw [fa_lt] at h
  have h' : ¬ (15 : Int) < x.toInt := h
  omega
theorem i_n9 {x : Int32} (h : ¬ 9 < x) : x.toInt ≤ 9 := by
  rw [fa_lt] at h
  have h' : ¬ (9 : Int) < x.toInt := h
  omega
theorem by_eq (a b : Int32) : a + b - (-5) = a + 5 + b := by
  rw [Int32.sub_eq_add_neg, Int32.add_assoc, Int32.add_assoc, Int32.add_comm b]
  rfl
theorem i_le_lt (a b : Int32) : a ≤ b ↔ ¬ b < a := by rw [fa_le, fa_lt]; omega
theorem best_in {hand at_ wide rim fill wall ceiling puff period second sec bc ball : Int32} {ks ss ts km sm tm : Nat → Int32} (ho : OkO hand at_ wide rim fill wall ceiling puff period second) (hb : bOK ball bc) (h1 : AEq 5 ss sm) (h2 : AEq 5 ts tm) (h3 : AEq 5 ks km) (P : Option (Int32 × (Nat → Int32) × Int32 × Int32 × Int32 × Int32 × Int32 × Int32 × Int32 × Int32) → Option (Int32 × Int32 × Int32 × Int32 × Int32 × Int32 × (Nat → Int32)) → Prop) {pa : Int32} {rf : Nat → Int32} {kC : Int32 → Int32 → Int32 → (Nat → Int32) → Int32 → Int32 → Int32 → Int32 → Int32 → Int32 → Int32 → Int32 → Option (Int32 × (Nat → Int32) × Int32 × Int32 × Int32 × Int32 × Int32 × Int32 × Int32 × Int32)} {kM : Int32 → Int32 → Int32 → Int32 → Int32 → Int32 → Int32 → Int32 → (Nat → Int32) → Option (Int32 × Int32 × Int32 × Int32 × Int32 × Int32 × (Nat → Int32))} (hp : -50 ≤ pa.toInt ∧ pa.toInt ≤ 50)
    (hk : ∀ (mo by_ : Int32) (u1 u2 u3 u4 u5 u6 u7 u8 v1 v2 v3 v4 v5 : Int32), P (kC mo by_ (pa + 1) rf u1 u2 u3 u4 u5 u6 u7 u8) (kM mo by_ (pa + 1) v1 v2 v3 v4 v5 rf)) :
    ∀ (n : Nat) (mo by_ ri : Int32) (u1 u2 u3 u4 u5 u6 u7 u8 v1 v2 v3 v4 v5 : Int32), -5 ≤ ri.toInt → ri.toInt ≤ 16 → 16 - ri.toInt < n → P (lX5_best_37 ball hand at_ wide rim fill wall ceiling puff period sec bc ss ts ks n mo by_ pa ri rf u1 u2 u3 u4 u5 u6 u7 u8 kC) (lX6_best_49 ball hand at_ wide rim fill wall ceiling puff period sec sm tm km n mo by_ pa ri v1 v2 v3 v4 v5 rf kM) := by
  intro n
  induction n with
  | zero => intro mo by_ ri u1 u2 u3 u4 u5 u6 u7 u8 v1 v2 v3 v4 v5 a b d; omega
  | succ n ih =>
    intro mo by_ ri u1 u2 u3 u4 u5 u6 u7 u8 v1 v2 v3 v4 v5 a b d
    rw [lX5_best_37, lX6_best_49]
    by_cases hc : 15 < ri
    · rw [if_pos hc, if_pos ((i_ge16 ri).mp hc)]
      exact hk _ _ _ _ _ _ _ _ _ _ _ _ _ _ _
    · have hc' := i_n15 hc
      have e6 : (ri + 1).toInt = ri.toInt + 1 := i_add1 (by omega)
      rw [if_neg hc, if_neg (fun q => hc ((i_ge16 ri).mpr q))]
      obtain ⟨v, w1, w2, w3, w4, w5, w6, w7, w8, y1, y2, y3, y4, y5, e1, e2⟩ := good_eq (sec := sec) ho hb h1 h2 h3 (pace := pa) (rise := ri) ⟨by omega, by omega⟩ ⟨by omega, by omega⟩ u1 u2 u3 u4 u5 u6 u7 u8 v1 v2 v3 v4 v5
      rw [e1, e2]
      simp only [b9, b6]
      unfold jX5_best_79 jX6_best_91
      by_cases hv : v ≤ mo
      · rw [if_pos hv, if_neg ((i_le_lt _ _).mp hv)]
        exact ih _ _ _ _ _ _ _ _ _ _ _ _ _ _ _ _ (by omega) (by omega) (by omega)
      · have hv' : mo < v := by
          rw [i_le_lt] at hv
          exact Decidable.not_not.mp hv
        rw [if_neg hv, if_pos hv', by_eq]
        exact ih _ _ _ _ _ _ _ _ _ _ _ _ _ _ _ _ (by omega) (by omega) (by omega)
theorem best_out {hand at_ wide rim fill wall ceiling puff period second sec bc ball : Int32} {ks ss ts km sm tm : Nat → Int32} (ho : OkO hand at_ wide rim fill wall ceiling puff period second) (hb : bOK ball bc) (h1 : AEq 5 ss sm) (h2 : AEq 5 ts tm) (h3 : AEq 5 ks km) (rf : Nat → Int32) (what : Int32) :
    ∀ (n : Nat) (mo by_ pa : Int32) (u1 u2 u3 u4 u5 u6 u7 u8 v1 v2 v3 v4 v5 : Int32), 1 ≤ pa.toInt → pa.toInt ≤ 10 → 10 - pa.toInt < n → ((fun a b => ∃ v u1 u2 u3 u4 u5 u6 u7 u8 v1 v2 v3 v4 v5, a = some (v, rf, u1, u2, u3, u4, u5, u6, u7, u8) ∧ b = some (v, v1, v2, v3, v4, v5, rf)) (lX5_best_26 ball what hand at_ wide rim fill wall ceiling puff period sec bc ss ts ks n mo by_ pa rf u1 u2 u3 u4 u5 u6 u7 u8) (lX6_best_38 ball what hand at_ wide rim fill wall ceiling puff period sec sm tm km n mo by_ pa v1 v2 v3 v4 v5 rf) : Prop) := by
  intro n
  induction n with
  | zero => intro mo by_ pa u1 u2 u3 u4 u5 u6 u7 u8 v1 v2 v3 v4 v5 a b d; omega
  | succ n ih =>
    intro mo by_ pa u1 u2 u3 u4 u5 u6 u7 u8 v1 v2 v3 v4 v5 a b d
    rw [lX5_best_26, lX6_best_38]
    by_cases hc : 9 < pa
    · rw [if_pos hc, if_pos ((i_ge10 pa).mp hc)]
      by_cases hw : what = 0
      · rw [if_pos hw, if_pos hw]
        exact ⟨_, _, _, _, _, _, _, _, _, _, _, _, _, _, rfl, rfl⟩
      · rw [if_neg hw, if_neg hw]
        exact ⟨_, _, _, _, _, _, _, _, _, _, _, _, _, _, rfl, rfl⟩
    · have hc' := i_n9 hc
      have e6 : (pa + 1).toInt = pa.toInt + 1 := i_add1 (by omega)
      rw [if_neg hc, if_neg (fun q => hc ((i_ge10 pa).mpr q))]
      exact best_in (sec := sec) ho hb h1 h2 h3 (fun a b => ∃ v u1 u2 u3 u4 u5 u6 u7 u8 v1 v2 v3 v4 v5, a = some (v, rf, u1, u2, u3, u4, u5, u6, u7, u8) ∧ b = some (v, v1, v2, v3, v4, v5, rf)) ⟨by omega, by omega⟩ (fun z1 z2 u1 u2 u3 u4 u5 u6 u7 u8 v1 v2 v3 v4 v5 => ih z1 z2 (pa + 1) u1 u2 u3 u4 u5 u6 u7 u8 v1 v2 v3 v4 v5 (by omega) (by omega) (by omega)) 100 mo by_ (-5) u1 u2 u3 u4 u5 u6 u7 u8 v1 v2 v3 v4 v5 (by decide) (by decide) (by decide)
theorem what_eq (ball what : Int32) {bc : Int32} (h5 : bc.toInt ≤ 5) :
    (¬ bOK ball bc ∧ fX3_hasBall ball bc = some 0 ∧ fX5_refusalOfBallAndPart ball what bc = some (-1)) ∨
    (bOK ball bc ∧ fX3_hasBall ball bc = some 1 ∧ fX5_refusalOfBallAndPart ball what bc = some (-2) ∧ fX6_within what 0 1 = some 0) ∨
    (bOK ball bc ∧ fX3_hasBall ball bc = some 1 ∧ fX5_refusalOfBallAndPart ball what bc = some 0 ∧ fX6_within what 0 1 = some 1) := by
  unfold fX5_refusalOfBallAndPart fX6_within
  by_cases hb : bOK ball bc
  · rw [hb_yes hb]
    simp only [b1]
    by_cases w0 : what = 0
    · refine Or.inr (Or.inr ⟨hb, rfl, ?_, ?_⟩)
      · rw [if_neg (by decide), if_pos w0]
      · rw [w0]; rfl
    · by_cases w1 : what = 1
      · refine Or.inr (Or.inr ⟨hb, rfl, ?_, ?_⟩)
        · rw [if_neg (by decide), if_neg w0, if_pos w1]
        · rw [w1]; rfl
      · refine Or.inr (Or.inl ⟨hb, rfl, ?_, ?_⟩)
        · rw [if_neg (by decide), if_neg w0, if_neg w1]
        · by_cases q1 : what < 0
          · rw [if_pos q1]
          · have q2 : 1 < what := by
              rw [fa_lt] at q1
              rw [fa_eq] at w0 w1
              rw [fa_lt]
              have q1' : ¬ what.toInt < 0 := q1
              have w0' : ¬ what.toInt = 0 := w0
              have w1' : ¬ what.toInt = 1 := w1
              show (1 : Int) < what.toInt
              omega
            rw [if_neg q1, if_pos q2]
  · refine Or.inl ⟨hb, hb_no h5 hb, ?_⟩
    rw [hb_no h5 hb]
    simp only [b1]
    rw [if_pos rfl]
theorem p_best {hand at_ wide rim fill wall ceiling puff period second sec bc : Int32} {ks ss ts km sm tm : Nat → Int32} (ho : OkO hand at_ wide rim fill wall ceiling puff period second) (hb0 : 0 ≤ bc.toInt) (hb5 : bc.toInt ≤ 5) (h1 : AEq 5 ss sm) (h2 : AEq 5 ts tm) (h3 : AEq 5 ks km) (x1 x2 : Int32) (rf : Nat → Int32) (u1 u2 u3 u4 u5 u6 u7 u8 v1 v2 v3 v4 v5 : Int32) :
    ∃ r rf' a1 a2 a3 a4 a5 a6 a7 a8 b1 b2 b3 b4 b5, fX5_best x1 x2 hand at_ wide rim fill wall ceiling puff period sec bc rf u1 u2 u3 u4 u5 u6 u7 u8 ss ts ks = some (r, rf', a1, a2, a3, a4, a5, a6, a7, a8) ∧ fX6_best x1 x2 hand at_ wide rim fill wall ceiling puff period sec bc v1 v2 v3 v4 v5 rf sm tm km = some (r, b1, b2, b3, b4, b5, rf') := by
  unfold fX5_best fX6_best
  rw [isBall_eq hb0 hb5]
  rcases what_eq x1 x2 hb5 with ⟨hb, q1, q2⟩ | ⟨hb, q1, q2, q3⟩ | ⟨hb, q1, q2, q3⟩
  · obtain ⟨a', e1, e2⟩ := refuse_eq (x := -1) (by decide) rf
    rw [q1, q2]
    simp only [b1]
    rw [if_neg (by decide), if_pos rfl, e1, e2]
    exact ⟨_, _, _, _, _, _, _, _, _, _, _, _, _, _, _, rfl, rfl⟩
  · obtain ⟨a', e1, e2⟩ := refuse_eq (x := -2) (by decide) rf
    rw [q1, q2]
    simp only [b1]
    rw [if_neg (show ¬ ((1 : Int32) = 0) by decide), q3]
    simp only []
    rw [if_neg (by decide), if_pos rfl, e1, e2]
    exact ⟨_, _, _, _, _, _, _, _, _, _, _, _, _, _, _, rfl, rfl⟩
  · rw [q1, q2]
    simp only [b1]
    rw [if_neg (show ¬ ((1 : Int32) = 0) by decide), q3]
    simp only []
    rw [if_pos rfl, if_neg (show ¬ ((1 : Int32) = 0) by decide)]
    obtain ⟨v, w1, w2, w3, w4, w5, w6, w7, w8, y1, y2, y3, y4, y5, e1, e2⟩ := best_out (sec := sec) ho hb h1 h2 h3 rf x2 100 (-1) 0 1 u1 u2 u3 u4 u5 u6 u7 u8 v1 v2 v3 v4 v5 (by decide) (by decide) (by decide)
    rw [e1, e2]
    exact ⟨_, _, _, _, _, _, _, _, _, _, _, _, _, _, _, rfl, rfl⟩
theorem off_in {hand at_ wide rim fill wall ceiling puff period second sec bc ball : Int32} {ks ss ts km sm tm : Nat → Int32} (ho : OkO hand at_ wide rim fill wall ceiling puff period second) (hb : bOK ball bc) (h1 : AEq 5 ss sm) (h2 : AEq 5 ts tm) (h3 : AEq 5 ks km) (P : Option (Int32 × (Nat → Int32) × Int32 × Int32 × Int32 × Int32 × Int32 × Int32 × Int32 × Int32) → Option (Int32 × Int32 × Int32 × Int32 × Int32 × Int32 × (Nat → Int32)) → Prop) {pa : Int32} {rf : Nat → Int32} (what : Int32) {kC : Int32 → Int32 → (Nat → Int32) → Int32 → Int32 → Int32 → Int32 → Int32 → Int32 → Int32 → Int32 → Option (Int32 × (Nat → Int32) × Int32 × Int32 × Int32 × Int32 × Int32 × Int32 × Int32 × Int32)} {kM : Int32 → Int32 → Int32 → Int32 → Int32 → Int32 → Int32 → (Nat → Int32) → Option (Int32 × Int32 × Int32 × Int32 × Int32 × Int32 × (Nat → Int32))}
    (hk : ∀ (ma : Int32) (u1 u2 u3 u4 u5 u6 u7 u8 v1 v2 v3 v4 v5 : Int32), P (kC ma (pa + 1) rf u1 u2 u3 u4 u5 u6 u7 u8) (kM ma (pa + 1) v1 v2 v3 v4 v5 rf)) :
    ∀ (n : Nat) (ma ri : Int32) (u1 u2 u3 u4 u5 u6 u7 u8 v1 v2 v3 v4 v5 : Int32), -5 ≤ ri.toInt → ri.toInt ≤ 16 → 16 - ri.toInt < n → P (lX5_off_34 ball what hand at_ wide rim fill wall ceiling puff period sec bc ss ts ks n ma pa ri rf u1 u2 u3 u4 u5 u6 u7 u8 kC) (lX6_off_46 ball what hand at_ wide rim fill wall ceiling puff period sec sm tm km n ma pa ri v1 v2 v3 v4 v5 rf kM) := by
  intro n
  induction n with
  | zero => intro ma ri u1 u2 u3 u4 u5 u6 u7 u8 v1 v2 v3 v4 v5 a b d; omega
  | succ n ih =>
    intro ma ri u1 u2 u3 u4 u5 u6 u7 u8 v1 v2 v3 v4 v5 a b d
    rw [lX5_off_34, lX6_off_46]
    by_cases hc : 15 < ri
    · rw [if_pos hc, if_pos ((i_ge16 ri).mp hc)]
      exact hk _ _ _ _ _ _ _ _ _ _ _ _ _ _
    · have hc' := i_n15 hc
      have e6 : (ri + 1).toInt = ri.toInt + 1 := i_add1 (by omega)
      rw [if_neg hc, if_neg (fun q => hc ((i_ge16 ri).mpr q))]
      obtain ⟨f, w1, w2, w3, w4, w5, w6, w7, w8, q1, q2, q3⟩ := in_eq (sec := sec) ho hb h1 h2 h3 pa ri
      rw [q1, q2]
      simp only [b9, b6]
      unfold jX5_off_68 jX6_off_91 jX6_off_94 fX5_struckAsAsked
      by_cases hf : f = 0
      · rw [if_pos hf, if_pos hf]
        exact ih _ _ _ _ _ _ _ _ _ _ _ _ _ _ _ (by omega) (by omega) (by omega)
      · rw [if_neg hf, if_neg hf]
        have n1 : ¬ ((1 : Int32) = 0) := by decide
        by_cases hw : what = 0
        · by_cases hs : w5 &&& 2 = 0
          · simp only [hw, hs, if_true, if_false, b1]
            rw [← hw]
            exact ih _ _ _ _ _ _ _ _ _ _ _ _ _ _ _ (by omega) (by omega) (by omega)
          · simp only [hw, hs, n1, if_true, if_false, b1]
            rw [← hw]
            exact ih _ _ _ _ _ _ _ _ _ _ _ _ _ _ _ (by omega) (by omega) (by omega)
        · by_cases hs : w5 = 0
          · simp only [hw, hs, n1, if_true, if_false, b1]
            exact ih _ _ _ _ _ _ _ _ _ _ _ _ _ _ _ (by omega) (by omega) (by omega)
          · simp only [hw, hs, if_true, if_false, b1]
            exact ih _ _ _ _ _ _ _ _ _ _ _ _ _ _ _ (by omega) (by omega) (by omega)
theorem off_out {hand at_ wide rim fill wall ceiling puff period second sec bc ball : Int32} {ks ss ts km sm tm : Nat → Int32} (ho : OkO hand at_ wide rim fill wall ceiling puff period second) (hb : bOK ball bc) (h1 : AEq 5 ss sm) (h2 : AEq 5 ts tm) (h3 : AEq 5 ks km) (rf : Nat → Int32) (what : Int32) :
    ∀ (n : Nat) (ma pa : Int32) (u1 u2 u3 u4 u5 u6 u7 u8 v1 v2 v3 v4 v5 : Int32), 1 ≤ pa.toInt → pa.toInt ≤ 10 → 10 - pa.toInt < n → ((fun a b => ∃ v u1 u2 u3 u4 u5 u6 u7 u8 v1 v2 v3 v4 v5, a = some (v, rf, u1, u2, u3, u4, u5, u6, u7, u8) ∧ b = some (v, v1, v2, v3, v4, v5, rf)) (lX5_off_23 ball what hand at_ wide rim fill wall ceiling puff period sec bc ss ts ks n ma pa rf u1 u2 u3 u4 u5 u6 u7 u8) (lX6_off_35 ball what hand at_ wide rim fill wall ceiling puff period sec sm tm km n ma pa v1 v2 v3 v4 v5 rf) : Prop) := by
  intro n
  induction n with
  | zero => intro ma pa u1 u2 u3 u4 u5 u6 u7 u8 v1 v2 v3 v4 v5 a b d; omega
  | succ n ih =>
    intro ma pa u1 u2 u3 u4 u5 u6 u7 u8 v1 v2 v3 v4 v5 a b d
    rw [lX5_off_23, lX6_off_35]
    by_cases hc : 9 < pa
    · rw [if_pos hc, if_pos ((i_ge10 pa).mp hc)]
      exact ⟨_, _, _, _, _, _, _, _, _, _, _, _, _, _, rfl, rfl⟩
    · have hc' := i_n9 hc
      have e6 : (pa + 1).toInt = pa.toInt + 1 := i_add1 (by omega)
      rw [if_neg hc, if_neg (fun q => hc ((i_ge10 pa).mpr q))]
      exact off_in (sec := sec) ho hb h1 h2 h3 (fun a b => ∃ v u1 u2 u3 u4 u5 u6 u7 u8 v1 v2 v3 v4 v5, a = some (v, rf, u1, u2, u3, u4, u5, u6, u7, u8) ∧ b = some (v, v1, v2, v3, v4, v5, rf)) what (fun z1 u1 u2 u3 u4 u5 u6 u7 u8 v1 v2 v3 v4 v5 => ih z1 (pa + 1) u1 u2 u3 u4 u5 u6 u7 u8 v1 v2 v3 v4 v5 (by omega) (by omega) (by omega)) 100 ma (-5) u1 u2 u3 u4 u5 u6 u7 u8 v1 v2 v3 v4 v5 (by decide) (by decide) (by decide)
theorem p_off {hand at_ wide rim fill wall ceiling puff period second sec bc : Int32} {ks ss ts km sm tm : Nat → Int32} (ho : OkO hand at_ wide rim fill wall ceiling puff period second) (hb0 : 0 ≤ bc.toInt) (hb5 : bc.toInt ≤ 5) (h1 : AEq 5 ss sm) (h2 : AEq 5 ts tm) (h3 : AEq 5 ks km) (x1 x2 : Int32) (rf : Nat → Int32) (u1 u2 u3 u4 u5 u6 u7 u8 v1 v2 v3 v4 v5 : Int32) :
    ∃ r rf' a1 a2 a3 a4 a5 a6 a7 a8 b1 b2 b3 b4 b5, fX5_off x1 x2 hand at_ wide rim fill wall ceiling puff period sec bc rf u1 u2 u3 u4 u5 u6 u7 u8 ss ts ks = some (r, rf', a1, a2, a3, a4, a5, a6, a7, a8) ∧ fX6_off x1 x2 hand at_ wide rim fill wall ceiling puff period sec bc v1 v2 v3 v4 v5 rf sm tm km = some (r, b1, b2, b3, b4, b5, rf') := by
  unfold fX5_off fX6_off
  rw [isBall_eq hb0 hb5]
  rcases what_eq x1 x2 hb5 with ⟨hb, q1, q2⟩ | ⟨hb, q1, q2, q3⟩ | ⟨hb, q1, q2, q3⟩
  · obtain ⟨a', e1, e2⟩ := refuse_eq (x := -1) (by decide) rf
    rw [q1, q2]
    simp only [b1]
    rw [if_neg (by decide), if_pos rfl, e1, e2]
    exact ⟨_, _, _, _, _, _, _, _, _, _, _, _, _, _, _, rfl, rfl⟩
  · obtain ⟨a', e1, e2⟩ := refuse_eq (x := -2) (by decide) rf
    rw [q1, q2]
    simp only [b1]
    rw [if_neg (show ¬ ((1 : Int32) = 0) by decide), q3]
    simp only []
    rw [if_neg (by decide), if_pos rfl, e1, e2]
    exact ⟨_, _, _, _, _, _, _, _, _, _, _, _, _, _, _, rfl, rfl⟩
  · rw [q1, q2]
    simp only [b1]
    rw [if_neg (show ¬ ((1 : Int32) = 0) by decide), q3]
    simp only []
    rw [if_pos rfl, if_neg (show ¬ ((1 : Int32) = 0) by decide)]
    obtain ⟨v, w1, w2, w3, w4, w5, w6, w7, w8, y1, y2, y3, y4, y5, e1, e2⟩ := off_out (sec := sec) ho hb h1 h2 h3 rf x2 100 0 1 u1 u2 u3 u4 u5 u6 u7 u8 v1 v2 v3 v4 v5 (by decide) (by decide) (by decide)
    rw [e1, e2]
    exact ⟨_, _, _, _, _, _, _, _, _, _, _, _, _, _, _, rfl, rfl⟩
theorem whose_l {hand at_ wide rim fill wall ceiling puff period second sec bc : Int32} {ks ss ts km sm tm : Nat → Int32} (ho : OkO hand at_ wide rim fill wall ceiling puff period second) (hb0 : 0 ≤ bc.toInt) (hb5 : bc.toInt ≤ 5) (h1 : AEq 5 ss sm) (h2 : AEq 5 ts tm) (h3 : AEq 5 ks km) (rf : Nat → Int32) (pa ri ce : Int32) :
    ∀ (n : Nat) (bi ball : Int32) (u1 u2 u3 u4 u5 u6 u7 u8 v1 v2 v3 v4 v5 : Int32), 0 ≤ ball.toInt → ball.toInt ≤ bc.toInt → bc.toInt - ball.toInt < n → ((fun a b => ∃ v u1 u2 u3 u4 u5 u6 u7 u8 v1 v2 v3 v4 v5, a = some (v, rf, u1, u2, u3, u4, u5, u6, u7, u8) ∧ b = some (v, v1, v2, v3, v4, v5, rf)) (lX5_whose_26 pa ri ce hand at_ wide rim fill wall ceiling puff period sec bc ss ts ks n bi ball rf u1 u2 u3 u4 u5 u6 u7 u8) (lX6_whose_26 pa ri ce hand at_ wide rim fill wall ceiling puff period sec bc sm tm km n bi ball v1 v2 v3 v4 v5 rf) : Prop) := by
  intro n
  induction n with
  | zero => intro bi ball u1 u2 u3 u4 u5 u6 u7 u8 v1 v2 v3 v4 v5 a b d; omega
  | succ n ih =>
    intro bi ball u1 u2 u3 u4 u5 u6 u7 u8 v1 v2 v3 v4 v5 a b d
    rw [lX5_whose_26, lX6_whose_26]
    by_cases hc : bc ≤ ball
    · rw [if_pos hc, if_pos hc]
      exact ⟨_, _, _, _, _, _, _, _, _, _, _, _, _, _, rfl, rfl⟩
    · rw [if_neg hc, if_neg hc]
      have hc' : ball.toInt < bc.toInt := by
        rw [fa_le] at hc; omega
      have hb : bOK ball bc := ⟨a, hc', hb5⟩
      have e6 : (ball + 1).toInt = ball.toInt + 1 := i_add1 (by omega)
      obtain ⟨e, c, st, g, k, h, p, r, e1, e2, -⟩ := fly_eq (sec := sec) ho hb h1 h2 h3 pa ri
      rw [e1, e2]
      simp only [b8, b6]
      unfold jX5_whose_73 jX6_whose_65
      by_cases hq : c = ce
      · rw [if_pos hq, if_pos hq]
        exact ih _ _ _ _ _ _ _ _ _ _ _ _ _ _ _ (by omega) (by omega) (by omega)
      · rw [if_neg hq, if_neg hq]
        exact ih _ _ _ _ _ _ _ _ _ _ _ _ _ _ _ (by omega) (by omega) (by omega)
theorem p_whose {hand at_ wide rim fill wall ceiling puff period second sec bc : Int32} {ks ss ts km sm tm : Nat → Int32} (ho : OkO hand at_ wide rim fill wall ceiling puff period second) (hb0 : 0 ≤ bc.toInt) (hb5 : bc.toInt ≤ 5) (h1 : AEq 5 ss sm) (h2 : AEq 5 ts tm) (h3 : AEq 5 ks km) (x1 x2 x3 : Int32) (rf : Nat → Int32) (u1 u2 u3 u4 u5 u6 u7 u8 v1 v2 v3 v4 v5 : Int32) :
    ∃ r rf' a1 a2 a3 a4 a5 a6 a7 a8 b1 b2 b3 b4 b5, fX5_whose x1 x2 x3 rf hand at_ wide rim fill wall ceiling puff period sec bc u1 u2 u3 u4 u5 u6 u7 u8 ss ts ks = some (r, rf', a1, a2, a3, a4, a5, a6, a7, a8) ∧ fX6_whose x1 x2 x3 hand at_ wide rim fill wall ceiling puff period sec bc v1 v2 v3 v4 v5 rf sm tm km = some (r, b1, b2, b3, b4, b5, rf') := by
  unfold fX5_whose fX6_whose
  obtain ⟨r, q1, q2, q4, q5⟩ := noThrow_eq x1 x2
  rw [q1, q2]
  simp only [b1]
  rcases q4 with rfl | rfl | rfl
  · rw [if_pos rfl, if_pos (by decide)]
    obtain ⟨v, w1, w2, w3, w4, w5, w6, w7, w8, y1, y2, y3, y4, y5, e1, e2⟩ := whose_l (sec := sec) ho hb0 hb5 h1 h2 h3 rf x1 x2 x3 100 0 0 u1 u2 u3 u4 u5 u6 u7 u8 v1 v2 v3 v4 v5 (by decide) (by show (0 : Int) ≤ bc.toInt; omega) (by show bc.toInt - 0 < 100; omega)
    rw [e1, e2]
    exact ⟨_, _, _, _, _, _, _, _, _, _, _, _, _, _, _, rfl, rfl⟩
  · obtain ⟨a', e1, e2⟩ := refuse_eq (x := -4) (by decide) rf
    rw [if_neg (by decide), if_neg (by decide), e1, e2]
    exact ⟨_, _, _, _, _, _, _, _, _, _, _, _, _, _, _, rfl, rfl⟩
  · obtain ⟨a', e1, e2⟩ := refuse_eq (x := -6) (by decide) rf
    rw [if_neg (by decide), if_neg (by decide), e1, e2]
    exact ⟨_, _, _, _, _, _, _, _, _, _, _, _, _, _, _, rfl, rfl⟩
theorem p_fly {hand at_ wide rim fill wall ceiling puff period second sec bc : Int32} {ks ss ts km sm tm : Nat → Int32} (ho : OkO hand at_ wide rim fill wall ceiling puff period second) (hb0 : 0 ≤ bc.toInt) (hb5 : bc.toInt ≤ 5) (h1 : AEq 5 ss sm) (h2 : AEq 5 ts tm) (h3 : AEq 5 ks km) (x1 x2 x3 x4 : Int32) (rf : Nat → Int32) (u1 u2 u3 u4 u5 u6 u7 u8 v1 v2 v3 v4 v5 : Int32) :
    ∃ r rf' a1 a2 a3 a4 a5 a6 a7 a8 b1 b2 b3 b4 b5, fX5_fly x1 x2 x3 x4 hand at_ wide rim fill wall ceiling puff period sec bc rf u1 u2 u3 u4 u5 u6 u7 u8 ss ts ks = some (r, rf', a1, a2, a3, a4, a5, a6, a7, a8) ∧ fX6_fly x1 x2 x3 x4 hand at_ wide rim fill wall ceiling puff period sec bc v1 v2 v3 v4 v5 rf sm tm km = some (r, b1, b2, b3, b4, b5, rf') := by
  unfold fX5_fly fX6_fly
  rw [isBall_eq hb0 hb5]
  rcases refThrow x1 x2 x3 hb5 with ⟨hb, q1, q2⟩ | ⟨hb, q1, r, q2, q3, q4, q5⟩
  · obtain ⟨a', e1, e2⟩ := refuse_eq (x := -1) (by decide) rf
    rw [q1, q2]
    simp only [b1]
    rw [if_neg (by decide), if_pos rfl, e1, e2]
    exact ⟨_, _, _, _, _, _, _, _, _, _, _, _, _, _, _, rfl, rfl⟩
  · rw [q1, q2]
    simp only [b1]
    rw [if_neg (show ¬ ((1 : Int32) = 0) by decide), q3]
    simp only []
    rcases q4 with rfl | rfl | rfl
    · rw [if_pos rfl, if_pos (by decide)]
      unfold fX6_within
      by_cases c1 : x4 < 0
      · obtain ⟨a', e1, e2⟩ := refuse_eq (x := -2) (by decide) rf
        rw [if_pos c1, if_pos c1]
        simp only []
        rw [if_pos rfl, e1, e2]
        exact ⟨_, _, _, _, _, _, _, _, _, _, _, _, _, _, _, rfl, rfl⟩
      · by_cases c2 : x4 ≤ 4
        · rw [if_neg c1, if_neg c1, if_pos c2, if_neg ((i_le_lt _ _).mp c2)]
          simp only []
          rw [if_neg (show ¬ ((1 : Int32) = 0) by decide)]
          obtain ⟨e, c, st, g, k, h, p, r, e1, e2, -⟩ := fly_eq (sec := sec) ho hb h1 h2 h3 x2 x3
          rw [e1, e2]
          simp only [b8, b6]
          by_cases z0 : x4 = 0
          · rw [if_pos z0, if_pos z0]; exact ⟨_, _, _, _, _, _, _, _, _, _, _, _, _, _, _, rfl, rfl⟩
          rw [if_neg z0, if_neg z0]
          by_cases z1 : x4 = 1
          · rw [if_pos z1, if_pos z1]; exact ⟨_, _, _, _, _, _, _, _, _, _, _, _, _, _, _, rfl, rfl⟩
          rw [if_neg z1, if_neg z1]
          by_cases z2 : x4 = 2
          · rw [if_pos z2, if_pos z2]; exact ⟨_, _, _, _, _, _, _, _, _, _, _, _, _, _, _, rfl, rfl⟩
          rw [if_neg z2, if_neg z2]
          by_cases z3 : x4 = 3
          · rw [if_pos z3, if_pos z3]; exact ⟨_, _, _, _, _, _, _, _, _, _, _, _, _, _, _, rfl, rfl⟩
          rw [if_neg z3, if_neg z3]
          exact ⟨_, _, _, _, _, _, _, _, _, _, _, _, _, _, _, rfl, rfl⟩
        · obtain ⟨a', e1, e2⟩ := refuse_eq (x := -2) (by decide) rf
          have c2' : 4 < x4 := by
            rw [i_le_lt] at c2
            exact Decidable.not_not.mp c2
          rw [if_neg c1, if_neg c1, if_neg c2, if_pos c2']
          simp only []
          rw [if_pos rfl, e1, e2]
          exact ⟨_, _, _, _, _, _, _, _, _, _, _, _, _, _, _, rfl, rfl⟩
    · obtain ⟨a', e1, e2⟩ := refuse_eq (x := -4) (by decide) rf
      rw [if_neg (by decide), if_neg (by decide), e1, e2]
      exact ⟨_, _, _, _, _, _, _, _, _, _, _, _, _, _, _, rfl, rfl⟩
    · obtain ⟨a', e1, e2⟩ := refuse_eq (x := -6) (by decide) rf
      rw [if_neg (by decide), if_neg (by decide), e1, e2]
      exact ⟨_, _, _, _, _, _, _, _, _, _, _, _, _, _, _, rfl, rfl⟩
