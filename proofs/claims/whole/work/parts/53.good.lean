/-! the searching calls: both sides look at the same flights -/
theorem in_eq {hand at_ wide rim fill wall ceiling puff period second sec bc ball : Int32} {ks ss ts km sm tm : Nat → Int32} (ho : OkO hand at_ wide rim fill wall ceiling puff period second) (hb : bOK ball bc) (h1 : AEq 5 ss sm) (h2 : AEq 5 ts tm) (h3 : AEq 5 ks km) (pace rise : Int32) : ∃ f u1 u2 u3 u4 u5 u6 u7 u8, fX5_endsIn ball pace rise hand at_ wide rim fill wall ceiling puff period sec bc ss ts ks = some (f, u1, u2, u3, u4, u5, u6, u7, u8) ∧ fX6_isIn ball pace rise hand at_ wide rim fill wall ceiling puff period sec sm tm km = some (f, u1, u2, u3, u4, u5) ∧ (f = 0 ∨ f = 1) := by
  obtain ⟨e, c, st, g, k, h, p, r, e1, e2, -⟩ := fly_eq (sec := sec) ho hb h1 h2 h3 pace rise
  by_cases he : e = 0
  · refine ⟨1, e, c, st, g, k, h, p, r, ?_, ?_, Or.inr rfl⟩
    · unfold fX5_endsIn; rw [e1]; simp only [b8]; rw [if_pos he]
    · unfold fX6_isIn; rw [e2]; simp only [b6]; rw [if_pos he]
  · refine ⟨0, e, c, st, g, k, h, p, r, ?_, ?_, Or.inl rfl⟩
    · unfold fX5_endsIn; rw [e1]; simp only [b8]; rw [if_neg he]
    · unfold fX6_isIn; rw [e2]; simp only [b6]; rw [if_neg he]
theorem good_in {hand at_ wide rim fill wall ceiling puff period second sec bc ball : Int32} {ks ss ts km sm tm : Nat → Int32} (ho : OkO hand at_ wide rim fill wall ceiling puff period second) (hb : bOK ball bc) (h1 : AEq 5 ss sm) (h2 : AEq 5 ts tm) (h3 : AEq 5 ks km) (P : Option (Int32 × Int32 × Int32 × Int32 × Int32 × Int32 × Int32 × Int32 × Int32) → Option (Int32 × Int32 × Int32 × Int32 × Int32 × Int32) → Prop) {x3 x5 : Int32} {kC : Int32 → Int32 → Int32 → Int32 → Int32 → Int32 → Int32 → Int32 → Int32 → Int32 → Option (Int32 × Int32 × Int32 × Int32 × Int32 × Int32 × Int32 × Int32 × Int32)} {kM : Int32 → Int32 → Int32 → Int32 → Int32 → Int32 → Int32 → Option (Int32 × Int32 × Int32 × Int32 × Int32 × Int32)} (hx : -100 ≤ x3.toInt ∧ x3.toInt ≤ 100)
    (hk : ∀ (x4 : Int32) (u1 u2 u3 u4 u5 u6 u7 u8 v1 v2 v3 v4 v5 : Int32), P (kC x4 (x5 + 1) u1 u2 u3 u4 u5 u6 u7 u8) (kM x4 (x5 + 1) v1 v2 v3 v4 v5)) :
    ∀ (n : Nat) (x4 x6 : Int32) (u1 u2 u3 u4 u5 u6 u7 u8 v1 v2 v3 v4 v5 : Int32), x6.toInt ≤ x3.toInt + 2 → x3.toInt + 2 - x6.toInt < n → P (lX5_goodWithSlips_21 ball x3 hand at_ wide rim fill wall ceiling puff period sec bc ss ts ks n x4 x5 x6 u1 u2 u3 u4 u5 u6 u7 u8 kC) (lX6_goodOf_21 ball x3 hand at_ wide rim fill wall ceiling puff period sec sm tm km n x4 x5 x6 v1 v2 v3 v4 v5 kM) := by
  intro n
  induction n with
  | zero => intro x4 x6 u1 u2 u3 u4 u5 u6 u7 u8 v1 v2 v3 v4 v5 a b; omega
  | succ n ih =>
    intro x4 x6 u1 u2 u3 u4 u5 u6 u7 u8 v1 v2 v3 v4 v5 a b
    rw [lX5_goodWithSlips_21, lX6_goodOf_21]
    have e3 : (x3 + 1).toInt = x3.toInt + 1 := i_add1 (by omega)
    by_cases hc : x3 + 1 < x6
    · rw [if_pos hc, if_pos hc]
      exact hk _ _ _ _ _ _ _ _ _ _ _ _ _ _
    · have hc' : x6.toInt ≤ x3.toInt + 1 := by
        rw [fa_lt, e3] at hc; omega
      have e6 : (x6 + 1).toInt = x6.toInt + 1 := i_add1 (by omega)
      rw [if_neg hc, if_neg hc]
      obtain ⟨f, w1, w2, w3, w4, w5, w6, w7, w8, q1, q2, q3⟩ := in_eq (sec := sec) ho hb h1 h2 h3 x5 x6
      rw [q1, q2]
      simp only [b9, b6]
      unfold jX5_goodWithSlips_48 jX6_goodOf_44
      by_cases hf : f = 0
      · rw [if_pos hf, if_pos hf]
        exact ih _ _ _ _ _ _ _ _ _ _ _ _ _ _ _ (by omega) (by omega)
      · rw [if_neg hf, if_neg hf]
        exact ih _ _ _ _ _ _ _ _ _ _ _ _ _ _ _ (by omega) (by omega)
theorem good_out {hand at_ wide rim fill wall ceiling puff period second sec bc ball : Int32} {ks ss ts km sm tm : Nat → Int32} (ho : OkO hand at_ wide rim fill wall ceiling puff period second) (hb : bOK ball bc) (h1 : AEq 5 ss sm) (h2 : AEq 5 ts tm) (h3 : AEq 5 ks km) {x2 x3 : Int32} (hx2 : -100 ≤ x2.toInt ∧ x2.toInt ≤ 100) (hx : -99 ≤ x3.toInt ∧ x3.toInt ≤ 100) :
    ∀ (n : Nat) (x4 x5 : Int32) (u1 u2 u3 u4 u5 u6 u7 u8 v1 v2 v3 v4 v5 : Int32), x5.toInt ≤ x2.toInt + 2 → x2.toInt + 2 - x5.toInt < n → ((fun a b => ∃ v u1 u2 u3 u4 u5 u6 u7 u8 v1 v2 v3 v4 v5, a = some (v, u1, u2, u3, u4, u5, u6, u7, u8) ∧ b = some (v, v1, v2, v3, v4, v5)) (lX5_goodWithSlips_8 ball x2 x3 hand at_ wide rim fill wall ceiling puff period sec bc ss ts ks n x4 x5 u1 u2 u3 u4 u5 u6 u7 u8) (lX6_goodOf_8 ball x2 x3 hand at_ wide rim fill wall ceiling puff period sec sm tm km n x4 x5 v1 v2 v3 v4 v5) : Prop) := by
  intro n
  induction n with
  | zero => intro x4 x5 u1 u2 u3 u4 u5 u6 u7 u8 v1 v2 v3 v4 v5 a b; omega
  | succ n ih =>
    intro x4 x5 u1 u2 u3 u4 u5 u6 u7 u8 v1 v2 v3 v4 v5 a b
    rw [lX5_goodWithSlips_8, lX6_goodOf_8]
    have e2 : (x2 + 1).toInt = x2.toInt + 1 := i_add1 (by omega)
    have e3 : (x3 - 1).toInt = x3.toInt - 1 := fb_subI (x := x3) (y := 1) (by show _ ≤ _ - (1 : Int); omega) (by show _ - (1 : Int) < _; omega)
    by_cases hc : x2 + 1 < x5
    · rw [if_pos hc, if_pos hc]
      exact ⟨_, _, _, _, _, _, _, _, _, _, _, _, _, _, rfl, rfl⟩
    · have hc' : x5.toInt ≤ x2.toInt + 1 := by
        rw [fa_lt, e2] at hc; omega
      have e6 : (x5 + 1).toInt = x5.toInt + 1 := i_add1 (by omega)
      rw [if_neg hc, if_neg hc]
      exact good_in (sec := sec) ho hb h1 h2 h3 (fun a b => ∃ v u1 u2 u3 u4 u5 u6 u7 u8 v1 v2 v3 v4 v5, a = some (v, u1, u2, u3, u4, u5, u6, u7, u8) ∧ b = some (v, v1, v2, v3, v4, v5)) ⟨by omega, by omega⟩ (fun z4 u1 u2 u3 u4 u5 u6 u7 u8 v1 v2 v3 v4 v5 => ih z4 (x5 + 1) u1 u2 u3 u4 u5 u6 u7 u8 v1 v2 v3 v4 v5 (by omega) (by omega)) 100 x4 (x3 - 1) u1 u2 u3 u4 u5 u6 u7 u8 v1 v2 v3 v4 v5 (by omega) (by omega)
theorem good_eq {hand at_ wide rim fill wall ceiling puff period second sec bc ball : Int32} {ks ss ts km sm tm : Nat → Int32} (ho : OkO hand at_ wide rim fill wall ceiling puff period second) (hb : bOK ball bc) (h1 : AEq 5 ss sm) (h2 : AEq 5 ts tm) (h3 : AEq 5 ks km) {pace rise : Int32} (hx2 : -50 ≤ pace.toInt ∧ pace.toInt ≤ 50) (hx : -50 ≤ rise.toInt ∧ rise.toInt ≤ 50) (u1 u2 u3 u4 u5 u6 u7 u8 v1 v2 v3 v4 v5 : Int32) :
    (fun a b => ∃ v u1 u2 u3 u4 u5 u6 u7 u8 v1 v2 v3 v4 v5, a = some (v, u1, u2, u3, u4, u5, u6, u7, u8) ∧ b = some (v, v1, v2, v3, v4, v5)) (fX5_goodWithSlips ball pace rise u1 u2 u3 u4 u5 u6 u7 u8 hand at_ wide rim fill wall ceiling puff period sec bc ss ts ks) (fX6_goodOf ball pace rise hand at_ wide rim fill wall ceiling puff period sec v1 v2 v3 v4 v5 sm tm km) := by
  unfold fX5_goodWithSlips fX6_goodOf
  have e3 : (pace - 1).toInt = pace.toInt - 1 := fb_subI (x := pace) (y := 1) (by show _ ≤ _ - (1 : Int); omega) (by show _ - (1 : Int) < _; omega)
  exact good_out (sec := sec) ho hb h1 h2 h3 ⟨by omega, by omega⟩ ⟨by omega, by omega⟩ 100 0 (pace - 1) u1 u2 u3 u4 u5 u6 u7 u8 v1 v2 v3 v4 v5 (by omega) (by omega)
theorem p_good {hand at_ wide rim fill wall ceiling puff period second sec bc : Int32} {ks ss ts km sm tm : Nat → Int32} (ho : OkO hand at_ wide rim fill wall ceiling puff period second) (hb0 : 0 ≤ bc.toInt) (hb5 : bc.toInt ≤ 5) (h1 : AEq 5 ss sm) (h2 : AEq 5 ts tm) (h3 : AEq 5 ks km) (x1 x2 x3 : Int32) (rf : Nat → Int32) (u1 u2 u3 u4 u5 u6 u7 u8 v1 v2 v3 v4 v5 : Int32) :
    ∃ r rf' a1 a2 a3 a4 a5 a6 a7 a8 b1 b2 b3 b4 b5, fX5_good x1 x2 x3 hand at_ wide rim fill wall ceiling puff period sec bc rf u1 u2 u3 u4 u5 u6 u7 u8 ss ts ks = some (r, rf', a1, a2, a3, a4, a5, a6, a7, a8) ∧ fX6_good x1 x2 x3 hand at_ wide rim fill wall ceiling puff period sec bc v1 v2 v3 v4 v5 rf sm tm km = some (r, b1, b2, b3, b4, b5, rf') := by
  unfold fX5_good fX6_good
  rw [isBall_eq hb0 hb5]
  rcases refThrow x1 x2 x3 hb5 with ⟨hb, q1, q2⟩ | ⟨hb, q1, r, q2, q3, q4, q5⟩
  · obtain ⟨a', e1, e2⟩ := refuse_eq (x := -1) (by decide) rf
    rw [q1, q2]
    simp only [b1]
    rw [if_neg (by decide), if_pos rfl, e1, e2]
    exact ⟨_, _, _, _, _, _, _, _, _, _, _, _, _, _, _, rfl, rfl⟩
  · rw [q1, q2]
    simp only [b1]
    rw [if_neg (show ¬ ((1 : Int32) = 0) by decide), q3]
    simp only []
    rcases q4 with rfl | rfl | rfl
    · rw [if_pos rfl, if_pos (by decide)]
      obtain ⟨hp, hr⟩ := q5 rfl
      obtain ⟨v, w1, w2, w3, w4, w5, w6, w7, w8, y1, y2, y3, y4, y5, e1, e2⟩ := good_eq (sec := sec) ho hb h1 h2 h3 (pace := x2) (rise := x3) ⟨by omega, by omega⟩ ⟨by omega, by omega⟩ u1 u2 u3 u4 u5 u6 u7 u8 v1 v2 v3 v4 v5
      rw [e1, e2]
      exact ⟨_, _, _, _, _, _, _, _, _, _, _, _, _, _, _, rfl, rfl⟩
    · obtain ⟨a', e1, e2⟩ := refuse_eq (x := -4) (by decide) rf
      rw [if_neg (by decide), if_neg (by decide), e1, e2]
      exact ⟨_, _, _, _, _, _, _, _, _, _, _, _, _, _, _, rfl, rfl⟩
    · obtain ⟨a', e1, e2⟩ := refuse_eq (x := -6) (by decide) rf
      rw [if_neg (by decide), if_neg (by decide), e1, e2]
      exact ⟨_, _, _, _, _, _, _, _, _, _, _, _, _, _, _, rfl, rfl⟩
