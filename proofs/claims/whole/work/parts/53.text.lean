/-! the office told in letters: reading -/
def Pl (len p : Int32) : Prop := 0 ≤ p.toInt ∧ p.toInt ≤ len.toInt ∧ len.toInt ≤ 80
theorem Pl.nx {len p : Int32} (h : Pl len p) (h2 : p.toInt < len.toInt) : Pl len (p + 1) ∧ (p + 1).toInt = p.toInt + 1 := by
  obtain ⟨a, b, c⟩ := h
  have e : (p + 1).toInt = p.toInt + 1 := i_add1 (by omega)
  exact ⟨⟨by omega, by omega, c⟩, e⟩
/-- the letter at a place, or none -/
def lh (len p : Int32) (L : Nat → Int32) : Int32 := if len ≤ p then -1 else L p.toNatClampNeg
theorem lh_in {len p : Int32} (h2 : p.toInt < len.toInt) (L : Nat → Int32) : lh len p L = L p.toNatClampNeg := if_neg (by rw [fa_le]; omega)
theorem lh_out {len p : Int32} (h2 : len.toInt ≤ p.toInt) (L : Nat → Int32) : lh len p L = -1 := if_pos (by rw [fa_le]; exact h2)
theorem lh_lt {len p c : Int32} {L : Nat → Int32} (hc : ¬ c = -1) (e : lh len p L = c) : p.toInt < len.toInt := by
  by_cases q : len.toInt ≤ p.toInt
  · rw [lh_out q] at e; exact absurd e.symm hc
  · omega
theorem lh_c {len p : Int32} (h : Pl len p) (L : Nat → Int32) : fX4_letterHere len p L = some (lh len p L) := by
  obtain ⟨a, b, c⟩ := h
  unfold fX4_letterHere lh
  rw [if_neg (show ¬ p < 0 by rw [fa_lt]; show ¬ p.toInt < 0; omega)]
  by_cases q : len ≤ p
  · rw [if_pos q, if_pos q]
  · rw [if_neg q, if_neg q]
    have q' : p.toInt < len.toInt := by rw [fa_le] at q; omega
    rw [if_neg (show ¬ 80 ≤ p by rw [fa_le]; show ¬ (80 : Int) ≤ p.toInt; omega), g_in_p a (by show p.toInt < 80; omega)]
theorem pass_y {len p c : Int32} (h : Pl len p) {L : Nat → Int32} (e : lh len p L = c) : fX4_passLetter c len p L = some (1, p + 1) := by
  unfold fX4_passLetter
  rw [lh_c h]
  dsimp only [b1_p]
  rw [if_pos e]
theorem pass_n {len p c : Int32} (h : Pl len p) {L : Nat → Int32} (e : ¬ lh len p L = c) : fX4_passLetter c len p L = some (0, p) := by
  unfold fX4_passLetter
  rw [lh_c h]
  dsimp only [b1_p]
  rw [if_neg e]
theorem is_y {len p c : Int32} (h : Pl len p) (hc : ¬ c = -1) {L : Nat → Int32} (e : lh len p L = c) : fX6_is c len p L = some (1, p + 1) := by
  have q := lh_lt hc e
  rw [lh_in q] at e
  unfold fX6_is
  rw [if_neg (show ¬ p = len by rw [fa_eq]; omega), g_in_p h.1 (by have := h.2.2; show p.toInt < 80; omega), if_pos e]
theorem is_n {len p c : Int32} (h : Pl len p) {L : Nat → Int32} (e : ¬ lh len p L = c) : fX6_is c len p L = some (0, p) := by
  unfold fX6_is
  by_cases q : p = len
  · rw [if_pos q]
  · have q' : p.toInt < len.toInt := by have := h.2.1; rw [fa_eq] at q; omega
    rw [lh_in q'] at e
    rw [if_neg q, g_in_p h.1 (by have := h.2.2; show p.toInt < 80; omega), if_neg e]
def dg (len p : Int32) (L : Nat → Int32) : Int32 := if lh len p L < 48 then -1 else if 57 < lh len p L then -1 else lh len p L - 48
theorem dg_c {len p : Int32} (h : Pl len p) (L : Nat → Int32) : fX4_digitHere len p L = some (dg len p L) := by
  unfold fX4_digitHere dg
  rw [lh_c h]
  dsimp only [b1_p]
  by_cases q : lh len p L < 48
  · rw [if_pos q, if_pos q]
  · by_cases q2 : 57 < lh len p L
    · rw [if_neg q, if_neg q, if_pos q2, if_pos q2]
    · rw [if_neg q, if_neg q, if_neg q2, if_neg q2]
theorem dg_01 {len p : Int32} (h : Pl len p) (L : Nat → Int32) : (dg len p L = -1 ∧ fX6_isDigit len p L = some 0) ∨
    (fX6_isDigit len p L = some 1 ∧ dg len p L = L p.toNatClampNeg - 48 ∧ p.toInt < len.toInt ∧ 0 ≤ (dg len p L).toInt ∧ (dg len p L).toInt ≤ 9) := by
  unfold dg fX6_isDigit
  by_cases q : len.toInt ≤ p.toInt
  · rw [lh_out q, if_pos (show len ≤ p by rw [fa_le]; exact q)]
    exact Or.inl ⟨if_pos (by decide), rfl⟩
  · have q' : p.toInt < len.toInt := by omega
    have hi : p.toInt < ((80 : Nat) : Int) := by have := h.2.2; show p.toInt < 80; omega
    rw [lh_in q', if_neg (show ¬ len ≤ p by rw [fa_le]; exact q), g_in_p h.1 hi, g_in_p h.1 hi]
    generalize L p.toNatClampNeg = c
    by_cases q1 : c < 48
    · rw [if_pos q1, if_pos q1]; exact Or.inl ⟨rfl, rfl⟩
    · by_cases q2 : 57 < c
      · rw [if_neg q1, if_neg q1, if_pos q2, if_pos q2]; exact Or.inl ⟨rfl, rfl⟩
      · rw [if_neg q1, if_neg q1, if_neg q2, if_neg q2]
        rw [fa_lt] at q1 q2
        have q1' : ¬ c.toInt < 48 := q1
        have q2' : ¬ 57 < c.toInt := q2
        have e : (c - 48).toInt = c.toInt - 48 := fb_subI (x := c) (y := 48) (by show _ ≤ _ - (48 : Int); omega) (by show _ - (48 : Int) < _; omega)
        exact Or.inr ⟨rfl, rfl, q', by omega, by omega⟩
theorem z_ad (v c : Int32) : v + (c - 48) = v + c - 48 := by
  rw [Int32.sub_eq_add_neg, Int32.sub_eq_add_neg, Int32.add_assoc]
theorem z_0 (v : Int32) : 10 * 0 + v = v := by
  rw [show (10 : Int32) * 0 = 0 from by decide, Int32.zero_add]
/-- one digit -/
theorem num1 {len p : Int32} (h : Pl len p) (L : Nat → Int32) : (fX4_readNumber 1 len p L = some (-1, p) ∧ ∀ val, fX6_number 1 len p val L = some (0, p, val)) ∨
    (∃ v q, fX4_readNumber 1 len p L = some (v, q) ∧ (∀ val, fX6_number 1 len p val L = some (1, q, v)) ∧ 0 ≤ v.toInt ∧ v.toInt ≤ 9 ∧ Pl len q ∧ p.toInt < q.toInt) := by
  rcases dg_01 h L with ⟨e1, e2⟩ | ⟨e2, e1, hl, h0, h9⟩
  · refine Or.inl ⟨?_, fun val => ?_⟩
    · unfold fX4_readNumber
      rw [dg_c h, e1]
      dsimp only [b1_p]
      rw [if_neg (by decide)]
    · unfold fX6_number
      rw [e2]
      dsimp only [b1_p]
      rw [if_pos rfl]
  · obtain ⟨h1, e3⟩ := h.nx hl
    have hi : p.toInt < ((80 : Nat) : Int) := by have := h.2.2; show p.toInt < 80; omega
    have n0 : ¬ dg len p L < 0 := by rw [fa_lt]; show ¬ (dg len p L).toInt < 0; omega
    have p0 : 0 ≤ dg len p L := by rw [fa_le]; exact h0
    refine Or.inr ⟨dg len p L, p + 1, ?_, fun val => ?_, h0, h9, h1, by omega⟩
    · unfold fX4_readNumber
      rw [dg_c h]
      dsimp only [b1_p]
      rw [if_pos p0, lX4_readNumber_16, if_neg (show ¬ (1 : Int32) ≤ 0 by decide), if_neg n0, dg_c h1]
      dsimp only [b1_p]
      rw [lX4_readNumber_16, if_pos (show (1 : Int32) ≤ 0 + 1 by decide), z_0]
    · unfold fX6_number
      rw [e2]
      dsimp only [b1_p]
      rw [if_neg (show ¬ (1 : Int32) = 0 by decide), lX6_number_16, if_neg (show ¬ (1 : Int32) ≤ 0 by decide), e2]
      dsimp only [b1_p]
      rw [if_neg (show ¬ (1 : Int32) = 0 by decide), g_in_p h.1 hi, lX6_number_16, if_pos (show (1 : Int32) ≤ 0 + 1 by decide), z_0, e1]
/-- one digit or two -/
theorem num2 {len p : Int32} (h : Pl len p) (L : Nat → Int32) : (fX4_readNumber 2 len p L = some (-1, p) ∧ ∀ val, fX6_number 2 len p val L = some (0, p, val)) ∨
    (∃ v q, fX4_readNumber 2 len p L = some (v, q) ∧ (∀ val, fX6_number 2 len p val L = some (1, q, v)) ∧ 0 ≤ v.toInt ∧ v.toInt ≤ 99 ∧ Pl len q ∧ p.toInt < q.toInt) := by
  rcases dg_01 h L with ⟨e1, e2⟩ | ⟨e2, e1, hl, h0, h9⟩
  · refine Or.inl ⟨?_, fun val => ?_⟩
    · unfold fX4_readNumber
      rw [dg_c h, e1]
      dsimp only [b1_p]
      rw [if_neg (by decide)]
    · unfold fX6_number
      rw [e2]
      dsimp only [b1_p]
      rw [if_pos rfl]
  · obtain ⟨h1, e3⟩ := h.nx hl
    have hi : p.toInt < ((80 : Nat) : Int) := by have := h.2.2; show p.toInt < 80; omega
    have n0 : ¬ dg len p L < 0 := by rw [fa_lt]; show ¬ (dg len p L).toInt < 0; omega
    have p0 : 0 ≤ dg len p L := by rw [fa_le]; exact h0
    rcases dg_01 h1 L with ⟨f1, f2⟩ | ⟨f2, f1, hl2, k0, k9⟩
    · refine Or.inr ⟨dg len p L, p + 1, ?_, fun val => ?_, h0, by omega, h1, by omega⟩
      · unfold fX4_readNumber
        rw [dg_c h]
        dsimp only [b1_p]
        rw [if_pos p0, lX4_readNumber_16, if_neg (show ¬ (2 : Int32) ≤ 0 by decide), if_neg n0, dg_c h1]
        dsimp only [b1_p]
        rw [lX4_readNumber_16, if_neg (show ¬ (2 : Int32) ≤ 0 + 1 by decide), f1, if_pos (show (-1 : Int32) < 0 by decide), z_0]
      · unfold fX6_number
        rw [e2]
        dsimp only [b1_p]
        rw [if_neg (show ¬ (1 : Int32) = 0 by decide), lX6_number_16, if_neg (show ¬ (2 : Int32) ≤ 0 by decide), e2]
        dsimp only [b1_p]
        rw [if_neg (show ¬ (1 : Int32) = 0 by decide), g_in_p h.1 hi, lX6_number_16, if_neg (show ¬ (2 : Int32) ≤ 0 + 1 by decide), f2]
        dsimp only [b1_p]
        rw [if_pos rfl, z_0, e1]
    · obtain ⟨h2, e4⟩ := h1.nx hl2
      have hi1 : (p + 1).toInt < ((80 : Nat) : Int) := by have := h.2.2; show (p + 1).toInt < 80; omega
      have m0 : ¬ dg len (p + 1) L < 0 := by rw [fa_lt]; show ¬ (dg len (p + 1) L).toInt < 0; omega
      have g1 : (10 * dg len p L).toInt = 10 * (dg len p L).toInt := fb_mulI (x := 10) (y := dg len p L) (by show _ ≤ (10 : Int) * _; omega) (by show (10 : Int) * _ < _; omega)
      have g2 : (10 * dg len p L + dg len (p + 1) L).toInt = 10 * (dg len p L).toInt + (dg len (p + 1) L).toInt := by
        rw [← g1]
        exact fb_addI (by omega) (by omega)
      refine Or.inr ⟨10 * dg len p L + dg len (p + 1) L, p + 1 + 1, ?_, fun val => ?_, by omega, by omega, h2, by omega⟩
      · unfold fX4_readNumber
        rw [dg_c h]
        dsimp only [b1_p]
        rw [if_pos p0, lX4_readNumber_16, if_neg (show ¬ (2 : Int32) ≤ 0 by decide), if_neg n0, dg_c h1]
        dsimp only [b1_p]
        rw [lX4_readNumber_16, if_neg (show ¬ (2 : Int32) ≤ 0 + 1 by decide), if_neg m0, dg_c h2]
        dsimp only [b1_p]
        rw [lX4_readNumber_16, if_pos (show (2 : Int32) ≤ 0 + 1 + 1 by decide), z_0]
      · unfold fX6_number
        rw [e2]
        dsimp only [b1_p]
        rw [if_neg (show ¬ (1 : Int32) = 0 by decide), lX6_number_16, if_neg (show ¬ (2 : Int32) ≤ 0 by decide), e2]
        dsimp only [b1_p]
        rw [if_neg (show ¬ (1 : Int32) = 0 by decide), g_in_p h.1 hi, lX6_number_16, if_neg (show ¬ (2 : Int32) ≤ 0 + 1 by decide), f2]
        dsimp only [b1_p]
        rw [if_neg (show ¬ (1 : Int32) = 0 by decide), g_in_p h1.1 hi1, lX6_number_16, if_pos (show (2 : Int32) ≤ 0 + 1 + 1 by decide), f1, z_ad, e1, z_0]
theorem wi_eq (x a b : Int32) : fX6_within x a b = fX3_isWithin x a b := rfl
theorem wi_01 (x a b : Int32) : (fX3_isWithin x a b = some 1 ∧ a.toInt ≤ x.toInt ∧ x.toInt ≤ b.toInt) ∨ (fX3_isWithin x a b = some 0 ∧ ¬ (a.toInt ≤ x.toInt ∧ x.toInt ≤ b.toInt)) := by
  unfold fX3_isWithin
  by_cases q1 : x < a
  · rw [if_pos q1]
    rw [fa_lt] at q1
    exact Or.inr ⟨rfl, by omega⟩
  · by_cases q2 : b < x
    · rw [if_neg q1, if_pos q2]
      rw [fa_lt] at q2
      exact Or.inr ⟨rfl, by omega⟩
    · rw [if_neg q1, if_neg q2]
      rw [fa_lt] at q1 q2
      exact Or.inl ⟨rfl, by omega, by omega⟩
theorem k10 : ((1 : Int32) = 0) = False := eq_false (by decide)
theorem k01 : ((0 : Int32) = 1) = False := eq_false (by decide)
theorem k_t {α : Type} {p : Prop} [Decidable p] (h : p) (a b : α) : (if p then a else b) = a := if_pos h
