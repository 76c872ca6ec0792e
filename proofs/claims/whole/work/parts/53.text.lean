/-! the office told in letters: reading -/
def Pl (len p : Int32) : Prop := 0 ≤ p.toInt ∧ p.toInt ≤ len.toInt ∧ len.toInt ≤ 80
theorem Pl.nx {len p : Int32} (h : Pl len p) (h2 : p.toInt < len.toInt) : Pl len (p + 1) ∧ (p + 1).toInt = p.toInt + 1 := by
  obtain ⟨a, b, c⟩ := h
  have e : (p + 1).toInt = p.toInt + 1 := i_add1 (by omega)
  exact ⟨⟨by omega, by omega, c⟩, e⟩
/-- the letter at a place, or none -/
def lh (len p : Int32) (L : Nat → Int32) : Int32 := if len ≤ p then -1 else L p.toNatClampNeg
theorem lh_in {len p : Int32} (h2 : p.toInt < len.toInt) (L : Nat → Int32) : lh len p L = L p.toNatClampNeg := if_neg (by rw [fa_le]; omega)
theorem lh_out {len p : Int32} (h2 : len.toInt ≤ p.toInt) (L : Nat → Int32) : lh len p L = -1 := if_pos (by rw [fa_le]; exact h2)
theorem lh_lt {len p c : Int32} {L : Nat → Int32} (hc : ¬ c = -1) (e : lh len p L = c) : p.toInt < len.toInt := by
  by_cases q : len.toInt ≤ p.toInt
  · rw [lh_out q] at e; exact absurd e.symm hc
  · omega
theorem lh_c {len p : Int32} (h : Pl len p) (L : Nat → Int32) : fX4_letterHere len p L = some (lh len p L) := by
  obtain ⟨a, b, c⟩ := h
  unfold fX4_letterHere lh
  rw [if_neg (show ¬ p < 0 by rw [fa_lt]; show ¬ p.toInt < 0; omega)]
  by_cases q : len ≤ p
  · rw [if_pos q, if_pos q]
  · rw [if_neg q, if_neg q]
    have q' : p.toInt < len.toInt := by rw [fa_le] at q; omega
    rw [if_neg (show ¬ 80 ≤ p by rw [fa_le]; show ¬ (80 : Int) ≤ p.toInt; omega), g_in_p a (by show p.toInt < 80; omega)]
theorem pass_y {len p c : Int32} (h : Pl len p) {L : Nat → Int32} (e : lh len p L = c) : fX4_passLetter c len p L = some (1, p + 1) := by
  unfold fX4_passLetter
  rw [lh_c h]
  dsimp only [b1_p]
  rw [if_pos e]
theorem pass_n {len p c : Int32} (h : Pl len p) {L : Nat → Int32} (e : ¬ lh len p L = c) : fX4_passLetter c len p L = some (0, p) := by
  unfold fX4_passLetter
  rw [lh_c h]
  dsimp only [b1_p]
  rw [if_neg e]
theorem is_y {len p c : Int32} (h : Pl len p) (hc : ¬ c = -1) {L : Nat → Int32} (e : lh len p L = c) : fX6_is c len p L = some (1, p + 1) := by
  have q := lh_lt hc e
  rw [lh_in q] at e
  unfold fX6_is
  rw [if_neg (show ¬ p = len by rw [fa_eq]; omega), g_in_p h.1 (by have := h.2.2; show p.toInt < 80; omega), if_pos e]
theorem is_n {len p c : Int32} (h : Pl len p) {L : Nat → Int32} (e : ¬ lh len p L = c) : fX6_is c len p L = some (0, p) := by
  unfold fX6_is
  by_cases q : p = len
  · rw [if_pos q]
  · have q' : p.toInt < len.toInt := by have := h.2.1; rw [fa_eq] at q; omega
    rw [lh_in q'] at e
    rw [if_neg q, g_in_p h.1 (by have := h.2.2; show p.toInt < 80; omega), if_neg e]
/-- no digit -/
def nd_L (c : Int32) : Prop := c < 48 ∨ 57 < c
theorem dg_01 {len p : Int32} (h : Pl len p) (L : Nat → Int32) : (nd_L (lh len p L) ∧ fX6_isDigit len p L = some 0) ∨
    (fX6_isDigit len p L = some 1 ∧ ¬ lh len p L < 48 ∧ ¬ 57 < lh len p L ∧ lh len p L = L p.toNatClampNeg ∧ p.toInt < len.toInt ∧ 0 ≤ (lh len p L - 48).toInt ∧ (lh len p L - 48).toInt ≤ 9) := by
  unfold fX6_isDigit nd_L
  by_cases q : len.toInt ≤ p.toInt
  · rw [lh_out q, if_pos (show len ≤ p by rw [fa_le]; exact q)]
    exact Or.inl ⟨Or.inl (by decide), rfl⟩
  · have q' : p.toInt < len.toInt := by omega
    have hi : p.toInt < ((80 : Nat) : Int) := by have := h.2.2; show p.toInt < 80; omega
    rw [lh_in q', if_neg (show ¬ len ≤ p by rw [fa_le]; exact q), g_in_p h.1 hi, g_in_p h.1 hi]
    generalize L p.toNatClampNeg = c
    by_cases q1 : c < 48
    · rw [if_pos q1]; exact Or.inl ⟨Or.inl q1, rfl⟩
    · by_cases q2 : 57 < c
      · rw [if_neg q1, if_pos q2]; exact Or.inl ⟨Or.inr q2, rfl⟩
      · rw [if_neg q1, if_neg q2]
        have r1 := q1
        have r2 := q2
        rw [fa_lt] at r1 r2
        have q1' : ¬ c.toInt < 48 := r1
        have q2' : ¬ 57 < c.toInt := r2
        have e : (c - 48).toInt = c.toInt - 48 := fb_subI (x := c) (y := 48) (by show _ ≤ _ - (48 : Int); omega) (by show _ - (48 : Int) < _; omega)
        exact Or.inr ⟨rfl, q1, q2, rfl, q', by omega, by omega⟩
theorem z_ad (v c : Int32) : v + (c - 48) = v + c - 48 := by
  rw [Int32.sub_eq_add_neg, Int32.sub_eq_add_neg, Int32.add_assoc]
theorem z_0 (v : Int32) : 10 * 0 + v = v := by
  rw [show (10 : Int32) * 0 = 0 from by decide, Int32.zero_add]
/-- the number's loop: one digit more, enough, no digit -/
theorem rn_go {len p x1 x2 x4 c : Int32} {n : Nat} {L : Nat → Int32} (h1 : Pl len (p + 1)) (hx : ¬ x1 ≤ x4) (c1 : ¬ c < 48) (c2 : ¬ 57 < c) : lX4_readNumber_10 x1 len L (n + 1) x2 c x4 p = lX4_readNumber_10 x1 len L n (10 * (if 0 < x2 then x2 else 0) + c - 48) (lh len (p + 1) L) (x4 + 1) (p + 1) := by
  rw [lX4_readNumber_10, if_neg hx, if_neg c1, if_neg c2, lh_c h1, b1_p]
theorem rn_en {len p x1 x2 x4 c : Int32} {n : Nat} {L : Nat → Int32} (hx : x1 ≤ x4) : lX4_readNumber_10 x1 len L (n + 1) x2 c x4 p = some (x2, p) := by
  rw [lX4_readNumber_10, if_pos hx]
theorem rn_no {len p x1 x2 x4 c : Int32} {n : Nat} {L : Nat → Int32} (hx : ¬ x1 ≤ x4) (hc : nd_L c) : lX4_readNumber_10 x1 len L (n + 1) x2 c x4 p = some (x2, p) := by
  rw [lX4_readNumber_10, if_neg hx]
  by_cases q : c < 48
  · rw [if_pos q]
  · rw [if_neg q, if_pos (hc.resolve_left q)]
theorem mx_0 {v : Int32} (h : 0 ≤ v.toInt) : (if 0 < v then v else 0) = v := by
  by_cases q : 0 < v
  · rw [if_pos q]
  · rw [if_neg q]
    rw [fa_lt] at q
    have q' : ¬ (0 : Int) < v.toInt := q
    rw [fa_eq]
    show (0 : Int) = v.toInt
    omega
theorem mx_1 : (if (0 : Int32) < -1 then (-1 : Int32) else 0) = 0 := by decide
/-- one digit -/
theorem num1 {len p : Int32} (h : Pl len p) (L : Nat → Int32) : (fX4_readNumber 1 len p L = some (-1, p) ∧ ∀ val, fX6_number 1 len p val L = some (0, p, val)) ∨
    (∃ v q, fX4_readNumber 1 len p L = some (v, q) ∧ (∀ val, fX6_number 1 len p val L = some (1, q, v)) ∧ 0 ≤ v.toInt ∧ v.toInt ≤ 9 ∧ Pl len q ∧ p.toInt < q.toInt) := by
  rcases dg_01 h L with ⟨e1, e2⟩ | ⟨e2, c1, c2, e1, hl, h0, h9⟩
  · refine Or.inl ⟨?_, fun val => ?_⟩
    · unfold fX4_readNumber
      rw [lh_c h, b1_p, rn_no (by decide) e1]
    · unfold fX6_number
      rw [e2]
      dsimp only [b1_p]
      rw [if_pos rfl]
  · obtain ⟨h1, e3⟩ := h.nx hl
    have hi : p.toInt < ((80 : Nat) : Int) := by have := h.2.2; show p.toInt < 80; omega
    refine Or.inr ⟨lh len p L - 48, p + 1, ?_, fun val => ?_, h0, h9, h1, by omega⟩
    · unfold fX4_readNumber
      rw [lh_c h, b1_p, rn_go h1 (by decide) c1 c2, rn_en (by decide), mx_1, z_0]
    · unfold fX6_number
      rw [e2]
      dsimp only [b1_p]
      rw [if_neg (show ¬ (1 : Int32) = 0 by decide), lX6_number_16, if_neg (show ¬ (1 : Int32) ≤ 0 by decide), e2]
      dsimp only [b1_p]
      rw [if_neg (show ¬ (1 : Int32) = 0 by decide), g_in_p h.1 hi, lX6_number_16, if_pos (show (1 : Int32) ≤ 0 + 1 by decide), z_0, e1]
/-- one digit or two -/
theorem num2 {len p : Int32} (h : Pl len p) (L : Nat → Int32) : (fX4_readNumber 2 len p L = some (-1, p) ∧ ∀ val, fX6_number 2 len p val L = some (0, p, val)) ∨
    (∃ v q, fX4_readNumber 2 len p L = some (v, q) ∧ (∀ val, fX6_number 2 len p val L = some (1, q, v)) ∧ 0 ≤ v.toInt ∧ v.toInt ≤ 99 ∧ Pl len q ∧ p.toInt < q.toInt) := by
  rcases dg_01 h L with ⟨e1, e2⟩ | ⟨e2, c1, c2, e1, hl, h0, h9⟩
  · refine Or.inl ⟨?_, fun val => ?_⟩
    · unfold fX4_readNumber
      rw [lh_c h, b1_p, rn_no (by decide) e1]
    · unfold fX6_number
      rw [e2]
      dsimp only [b1_p]
      rw [if_pos rfl]
  · obtain ⟨h1, e3⟩ := h.nx hl
    have hi : p.toInt < ((80 : Nat) : Int) := by have := h.2.2; show p.toInt < 80; omega
    rcases dg_01 h1 L with ⟨f1, f2⟩ | ⟨f2, d1, d2, f1, hl2, k0, k9⟩
    · refine Or.inr ⟨lh len p L - 48, p + 1, ?_, fun val => ?_, h0, by omega, h1, by omega⟩
      · unfold fX4_readNumber
        rw [lh_c h, b1_p, rn_go h1 (by decide) c1 c2, mx_1, z_0, rn_no (by decide) f1]
      · unfold fX6_number
        rw [e2]
        dsimp only [b1_p]
        rw [if_neg (show ¬ (1 : Int32) = 0 by decide), lX6_number_16, if_neg (show ¬ (2 : Int32) ≤ 0 by decide), e2]
        dsimp only [b1_p]
        rw [if_neg (show ¬ (1 : Int32) = 0 by decide), g_in_p h.1 hi, lX6_number_16, if_neg (show ¬ (2 : Int32) ≤ 0 + 1 by decide), f2]
        dsimp only [b1_p]
        rw [if_pos rfl, z_0, e1]
    · obtain ⟨h2, e4⟩ := h1.nx hl2
      have hi1 : (p + 1).toInt < ((80 : Nat) : Int) := by have := h.2.2; show (p + 1).toInt < 80; omega
      have g1 : (10 * (lh len p L - 48)).toInt = 10 * (lh len p L - 48).toInt := fb_mulI (x := 10) (y := lh len p L - 48) (by show _ ≤ (10 : Int) * _; omega) (by show (10 : Int) * _ < _; omega)
      have g2 : (10 * (lh len p L - 48) + (lh len (p + 1) L - 48)).toInt = 10 * (lh len p L - 48).toInt + (lh len (p + 1) L - 48).toInt := by
        rw [← g1]
        exact fb_addI (by omega) (by omega)
      refine Or.inr ⟨10 * (lh len p L - 48) + (lh len (p + 1) L - 48), p + 1 + 1, ?_, fun val => ?_, by omega, by omega, h2, by omega⟩
      · unfold fX4_readNumber
        rw [lh_c h, b1_p, rn_go h1 (by decide) c1 c2, mx_1, z_0, rn_go h2 (by decide) d1 d2, mx_0 h0, rn_en (by decide), z_ad]
      · unfold fX6_number
        rw [e2]
        dsimp only [b1_p]
        rw [if_neg (show ¬ (1 : Int32) = 0 by decide), lX6_number_16, if_neg (show ¬ (2 : Int32) ≤ 0 by decide), e2]
        dsimp only [b1_p]
        rw [if_neg (show ¬ (1 : Int32) = 0 by decide), g_in_p h.1 hi, lX6_number_16, if_neg (show ¬ (2 : Int32) ≤ 0 + 1 by decide), f2]
        dsimp only [b1_p]
        rw [if_neg (show ¬ (1 : Int32) = 0 by decide), g_in_p h1.1 hi1, lX6_number_16, if_pos (show (2 : Int32) ≤ 0 + 1 + 1 by decide), f1, z_ad, e1, z_0]
/-- what reads into a field -/
theorem rf_n {x len p v q : Int32} {L : Nat → Int32} (a : fX4_readNumber x len p L = some (v, q)) (h : v < 0) : fX4_readFirst x len p L = some (0, q, v) := by
  unfold fX4_readFirst
  rw [a, b2_p, if_pos h]
theorem rf_y {x len p v q : Int32} {L : Nat → Int32} (a : fX4_readNumber x len p L = some (v, q)) (h : ¬ v < 0) : fX4_readFirst x len p L = some (1, q, v) := by
  unfold fX4_readFirst
  rw [a, b2_p, if_neg h]
theorem td_0 {len p q t : Int32} {L : Nat → Int32} (a : fX4_readNumber 1 len p L = some (-1, q)) : fX4_readTwoDigits len p t L = some (0, q, -1, t) := by
  unfold fX4_readTwoDigits
  rw [a, b2_p, if_neg (show ¬ (0 : Int32) ≤ -1 by decide)]
theorem td_1 {len p q q2 x t : Int32} {L : Nat → Int32} (a : fX4_readNumber 1 len p L = some (x, q)) (hx : 0 ≤ x) (b : fX4_readNumber 1 len q L = some (-1, q2)) : fX4_readTwoDigits len p t L = some (0, q2, x, -1) := by
  unfold fX4_readTwoDigits
  rw [a, b2_p, if_pos hx, b, b2_p, if_pos (show (-1 : Int32) < 0 by decide)]
theorem td_2 {len p q q2 x y t : Int32} {L : Nat → Int32} (a : fX4_readNumber 1 len p L = some (x, q)) (hx : 0 ≤ x) (b : fX4_readNumber 1 len q L = some (y, q2)) (hy : ¬ y < 0) : fX4_readTwoDigits len p t L = some (1, q2, x, y) := by
  unfold fX4_readTwoDigits
  rw [a, b2_p, if_pos hx, b, b2_p, if_neg hy]
theorem rk_n {len p : Int32} (h : Pl len p) {L : Nat → Int32} (k : fX4_kindOfLetter (lh len p L) = some (-1)) : fX4_readKind len p L = some (0, p, -1) := by
  unfold fX4_readKind
  rw [lh_c h, b1_p, k, b1_p, if_neg (show ¬ (0 : Int32) ≤ -1 by decide)]
theorem rk_y {len p r : Int32} (h : Pl len p) {L : Nat → Int32} (k : fX4_kindOfLetter (lh len p L) = some r) (r0 : 0 ≤ r) : fX4_readKind len p L = some (1, p + 1, r) := by
  unfold fX4_readKind
  rw [lh_c h, b1_p, k, b1_p, if_pos r0]
theorem wi_eq (x a b : Int32) : fX6_within x a b = fX3_isWithin x a b := rfl
theorem wi_01 (x a b : Int32) : (fX3_isWithin x a b = some 1 ∧ a.toInt ≤ x.toInt ∧ x.toInt ≤ b.toInt) ∨ (fX3_isWithin x a b = some 0 ∧ ¬ (a.toInt ≤ x.toInt ∧ x.toInt ≤ b.toInt)) := by
  unfold fX3_isWithin
  by_cases q1 : x < a
  · rw [if_pos q1]
    rw [fa_lt] at q1
    exact Or.inr ⟨rfl, by omega⟩
  · by_cases q2 : b < x
    · rw [if_neg q1, if_pos q2]
      rw [fa_lt] at q2
      exact Or.inr ⟨rfl, by omega⟩
    · rw [if_neg q1, if_neg q2]
      rw [fa_lt] at q1 q2
      exact Or.inl ⟨rfl, by omega, by omega⟩
theorem k10 : ((1 : Int32) = 0) = False := eq_false (by decide)
theorem k01 : ((0 : Int32) = 1) = False := eq_false (by decide)
theorem k_t {α : Type} {p : Prop} [Decidable p] (h : p) (a b : α) : (if p then a else b) = a := if_pos h
