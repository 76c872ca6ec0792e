/-! the office told in letters: reading -/
def Pl (len p : Int32) : Prop := 0 ≤ p.toInt ∧ p.toInt ≤ len.toInt ∧ len.toInt ≤ 80
theorem Pl.nx {len p : Int32} (h : Pl len p) (h2 : p.toInt < len.toInt) : Pl len (p + 1) ∧ (p + 1).toInt = p.toInt + 1 := by
  obtain ⟨a, b, c⟩ := h
  have e : (p + 1).toInt = p.toInt + 1 := i_add1 (by omega)
  exact ⟨⟨by omega, by omega, c⟩, e⟩
/-- the letter at a place, or none -/
def lh (len p : Int32) (L : Nat → Int32) : Int32 := if len ≤ p then -1 else L p.toNatClampNeg
theorem lh_in {len p : Int32} (h2 : p.toInt < len.toInt) (L : Nat → Int32) : lh len p L = L p.toNatClampNeg := if_neg (by rw [fa_le]; omega)
theorem lh_out {len p : Int32} (h2 : len.toInt ≤ p.toInt) (L : Nat → Int32) : lh len p L = -1 := if_pos (by rw [fa_le]; exact h2)
theorem lh_lt {len p c : Int32} {L : Nat → Int32} (hc : ¬ c = -1) (e : lh len p L = c) : p.toInt < len.toInt := by
  by_cases q : len.toInt ≤ p.toInt
  · rw [lh_out q] at e; exact absurd e.symm hc
  · omega
theorem lh_c {len p : Int32} (h : Pl len p) (L : Nat → Int32) : fX4_letterHere len p L = some (lh len p L) := by
  obtain ⟨a, b, c⟩ := h
  unfold fX4_letterHere lh
  rw [if_neg (show ¬ p < 0 by rw [fa_lt]; show ¬ p.toInt < 0; omega)]
  by_cases q : len ≤ p
  · rw [if_pos q, if_pos q]
  · rw [if_neg q, if_neg q]
    have q' : p.toInt < len.toInt := by rw [fa_le] at q; omega
    rw [if_neg (show ¬ 80 ≤ p by rw [fa_le]; show ¬ (80 : Int) ≤ p.toInt; omega), g_in_p a (by show p.toInt < 80; omega)]
theorem pass_y {len p c : Int32} (h : Pl len p) {L : Nat → Int32} (e : lh len p L = c) : fX4_passLetter c len p L = some (1, p + 1) := by
  unfold fX4_passLetter
  rw [lh_c h]
  dsimp only [b1_p]
  rw [if_pos e]
theorem pass_n {len p c : Int32} (h : Pl len p) {L : Nat → Int32} (e : ¬ lh len p L = c) : fX4_passLetter c len p L = some (0, p) := by
  unfold fX4_passLetter
  rw [lh_c h]
  dsimp only [b1_p]
  rw [if_neg e]
theorem is_y {len p c : Int32} (h : Pl len p) (hc : ¬ c = -1) {L : Nat → Int32} (e : lh len p L = c) : fX6_is c len p L = some (1, p + 1) := by
  have q := lh_lt hc e
  rw [lh_in q] at e
  unfold fX6_is
  rw [if_neg (show ¬ p = len by rw [fa_eq]; omega), g_in_p h.1 (by have := h.2.2; show p.toInt < 80; omega), if_pos e]
theorem is_n {len p c : Int32} (h : Pl len p) {L : Nat → Int32} (e : ¬ lh len p L = c) : fX6_is c len p L = some (0, p) := by
  unfold fX6_is
  by_cases q : p = len
  · rw [if_pos q]
  · have q' : p.toInt < len.toInt := by have := h.2.1; rw [fa_eq] at q; omega
    rw [lh_in q'] at e
    rw [if_neg q, g_in_p h.1 (by have := h.2.2; show p.toInt < 80; omega), if_neg e]
def dg (len p : Int32) (L : Nat → Int32) : Int32 := if lh len p L < 48 then -1 else if 57 < lh len p L then -1 else lh len p L - 48
theorem dg_c {len p : Int32} (h : Pl len p) (L : Nat → Int32) : fX4_digitHere len p L = some (dg len p L) := by
  unfold fX4_digitHere dg
  rw [lh_c h]
  dsimp only [b1_p]
  by_cases q : lh len p L < 48
  · rw [if_pos q, if_pos q]
  · by_cases q2 : 57 < lh len p L
    · rw [if_neg q, if_neg q, if_pos q2, if_pos q2]
    · rw [if_neg q, if_neg q, if_neg q2, if_neg q2]
theorem dg_01 {len p : Int32} (h : Pl len p) (L : Nat → Int32) : (dg len p L = -1 ∧ fX6_isDigit len p L = some 0) ∨
    (fX6_isDigit len p L = some 1 ∧ dg len p L = L p.toNatClampNeg - 48 ∧ p.toInt < len.toInt ∧ 0 ≤ (dg len p L).toInt ∧ (dg len p L).toInt ≤ 9) := by
  unfold dg fX6_isDigit
  by_cases q : len.toInt ≤ p.toInt
  · rw [lh_out q, if_pos (show len ≤ p by rw [fa_le]; exact q)]
    exact Or.inl ⟨if_pos (by decide), rfl⟩
  · have q' : p.toInt < len.toInt := by omega
    have hi : p.toInt < ((80 : Nat) : Int) := by have := h.2.2; show p.toInt < 80; omega
    rw [lh_in q', if_neg (show ¬ len ≤ p by rw [fa_le]; exact q), g_in_p h.1 hi, g_in_p h.1 hi]
    generalize L p.toNatClampNeg = c
    by_cases q1 : c < 48
    · rw [if_pos q1, if_pos q1]; exact Or.inl ⟨rfl, rfl⟩
    · by_cases q2 : 57 < c
      · rw [if_neg q1, if_neg q1, if_pos q2, if_pos q2]; exact Or.inl ⟨rfl, rfl⟩
      · rw [if_neg q1, if_neg q1, if_neg q2, if_neg q2]
        rw [fa_lt] at q1 q2
        have q1' : ¬ c.toInt < 48 := q1
        have q2' : ¬ 57 < c.toInt := q2
        have e : (c - 48).toInt = c.toInt - 48 := fb_subI (x := c) (y := 48) (by show _ ≤ _ - (48 : Int); omega) (by show _ - (48 : Int) < _; omega)
        exact Or.inr ⟨rfl, rfl, q', by omega, by omega⟩
theorem z_ad (v c : Int32) : v + (c - 48) = v + c - 48 := by
  rw [Int32.sub_eq_add_neg, Int32.sub_eq_add_neg, Int32.add_assoc]
theorem z_0 (v : Int32) : 10 * 0 + v = v := by
  rw [show (10 : Int32) * 0 = 0 from by decide, Int32.zero_add]
/-- one digit -/
theorem num1 {len p : Int32} (h : Pl len p) (L : Nat → Int32) : (fX4_readNumber 1 len p L = some (-1, p) ∧ ∀ val, fX6_number 1 len p val L = some (0, p, val)) ∨
    (∃ v q, fX4_readNumber 1 len p L = some (v, q) ∧ (∀ val, fX6_number 1 len p val L = some (1, q, v)) ∧ 0 ≤ v.toInt ∧ v.toInt ≤ 9 ∧ Pl len q ∧ p.toInt < q.toInt) := by
  rcases dg_01 h L with ⟨e1, e2⟩ | ⟨e2, e1, hl, h0, h9⟩
  · refine Or.inl ⟨?_, fun val => ?_⟩
    · unfold fX4_readNumber
      rw [dg_c h, e1]
      dsimp only [b1_p]
      rw [if_neg (by decide)]
    · unfold fX6_number
      rw [e2]
      dsimp only [b1_p]
      rw [if_pos rfl]
  · obtain ⟨h1, e3⟩ := h.nx hl
    have hi : p.toInt < ((80 : Nat) : Int) := by have := h.2.2; show p.toInt < 80; omega
    have n0 : ¬ dg len p L < 0 := by rw [fa_lt]; show ¬ (dg len p L).toInt < 0; omega
    have p0 : 0 ≤ dg len p L := by rw [fa_le]; exact h0
    refine Or.inr ⟨dg len p L, p + 1, ?_, fun val => ?_, h0, h9, h1, by omega⟩
    · unfold fX4_readNumber
      rw [dg_c h]
      dsimp only [b1_p]
      rw [if_pos p0, lX4_readNumber_16, if_neg (show ¬ (1 : Int32) ≤ 0 by decide), if_neg n0, dg_c h1]
      dsimp only [b1_p]
      rw [lX4_readNumber_16, if_pos (show (1 : Int32) ≤ 0 + 1 by decide), z_0]
    · unfold fX6_number
      rw [e2]
      dsimp only [b1_p]
      rw [if_neg (show ¬ (1 : Int32) = 0 by decide), lX6_number_16, if_neg (show ¬ (1 : Int32) ≤ 0 by decide), e2]
      dsimp only [b1_p]
      rw [if_neg (show ¬ (1 : Int32) = 0 by decide), g_in_p h.1 hi, lX6_number_16, if_pos (show (1 : Int32) ≤ 0 + 1 by decide), z_0, e1]
/-- one digit or two -/
theorem num2 {len p : Int32} (h : Pl len p) (L : Nat → Int32) : (fX4_readNumber 2 len p L = some (-1, p) ∧ ∀ val, fX6_number 2 len p val L = some (0, p, val)) ∨
    (∃ v q, fX4_readNumber 2 len p L = some (v, q) ∧ (∀ val, fX6_number 2 len p val L = some (1, q, v)) ∧ 0 ≤ v.toInt ∧ v.toInt ≤ 99 ∧ Pl len q ∧ p.toInt < q.toInt) := by
  rcases dg_01 h L with ⟨e1, e2⟩ | ⟨e2, e1, hl, h0, h9⟩
  · refine Or.inl ⟨?_, fun val => ?_⟩
    · unfold fX4_readNumber
      rw [dg_c h, e1]
      dsimp only [b1_p]
      rw [if_neg (by decide)]
    · unfold fX6_number
      rw [e2]
      dsimp only [b1_p]
      rw [if_pos rfl]
  · obtain ⟨h1, e3⟩ := h.nx hl
    have hi : p.toInt < ((80 : Nat) : Int) := by have := h.2.2; show p.toInt < 80; omega
    have n0 : ¬ dg len p L < 0 := by rw [fa_lt]; show ¬ (dg len p L).toInt < 0; omega
    have p0 : 0 ≤ dg len p L := by rw [fa_le]; exact h0
    rcases dg_01 h1 L with ⟨f1, f2⟩ | ⟨f2, f1, hl2, k0, k9⟩
    · refine Or.inr ⟨dg len p L, p + 1, ?_, fun val => ?_, h0, by omega, h1, by omega⟩
      · unfold fX4_readNumber
        rw [dg_c h]
        dsimp only [b1_p]
        rw [if_pos p0, lX4_readNumber_16, if_neg (show ¬ (2 : Int32) ≤ 0 by decide), if_neg n0, dg_c h1]
        dsimp only [b1_p]
        rw [lX4_readNumber_16, if_neg (show ¬ (2 : Int32) ≤ 0 + 1 by decide), f1, if_pos (show (-1 : Int32) < 0 by decide), z_0]
      · unfold fX6_number
        rw [e2]
        dsimp only [b1_p]
        rw [if_neg (show ¬ (1 : Int32) = 0 by decide), lX6_number_16, if_neg (show ¬ (2 : Int32) ≤ 0 by decide), e2]
        dsimp only [b1_p]
        rw [if_neg (show ¬ (1 : Int32) = 0 by decide), g_in_p h.1 hi, lX6_number_16, if_neg (show ¬ (2 : Int32) ≤ 0 + 1 by decide), f2]
        dsimp only [b1_p]
        rw [if_pos rfl, z_0, e1]
    · obtain ⟨h2, e4⟩ := h1.nx hl2
      have hi1 : (p + 1).toInt < ((80 : Nat) : Int) := by have := h.2.2; show (p + 1).toInt < 80; omega
      have m0 : ¬ dg len (p + 1) L < 0 := by rw [fa_lt]; show ¬ (dg len (p + 1) L).toInt < 0; omega
      have g1 : (10 * dg len p L).toInt = 10 * (dg len p L).toInt := fb_mulI (x := 10) (y := dg len p L) (by show _ ≤ (10 : Int) * _; omega) (by show (10 : Int) * _ < _; omega)
      have g2 : (10 * dg len p L + dg len (p + 1) L).toInt = 10 * (dg len p L).toInt + (dg len (p + 1) L).toInt := by
        rw [← g1]
        exact fb_addI (by omega) (by omega)
      refine Or.inr ⟨10 * dg len p L + dg len (p + 1) L, p + 1 + 1, ?_, fun val => ?_, by omega, by omega, h2, by omega⟩
      · unfold fX4_readNumber
        rw [dg_c h]
        dsimp only [b1_p]
        rw [if_pos p0, lX4_readNumber_16, if_neg (show ¬ (2 : Int32) ≤ 0 by decide), if_neg n0, dg_c h1]
        dsimp only [b1_p]
        rw [lX4_readNumber_16, if_neg (show ¬ (2 : Int32) ≤ 0 + 1 by decide), if_neg m0, dg_c h2]
        dsimp only [b1_p]
        rw [lX4_readNumber_16, if_pos (show (2 : Int32) ≤ 0 + 1 + 1 by decide), z_0]
      · unfold fX6_number
        rw [e2]
        dsimp only [b1_p]
        rw [if_neg (show ¬ (1 : Int32) = 0 by decide), lX6_number_16, if_neg (show ¬ (2 : Int32) ≤ 0 by decide), e2]
        dsimp only [b1_p]
        rw [if_neg (show ¬ (1 : Int32) = 0 by decide), g_in_p h.1 hi, lX6_number_16, if_neg (show ¬ (2 : Int32) ≤ 0 + 1 by decide), f2]
        dsimp only [b1_p]
        rw [if_neg (show ¬ (1 : Int32) = 0 by decide), g_in_p h1.1 hi1, lX6_number_16, if_pos (show (2 : Int32) ≤ 0 + 1 + 1 by decide), f1, z_ad, e1, z_0]
theorem wi_eq (x a b : Int32) : fX6_within x a b = fX3_isWithin x a b := rfl
theorem wi_01 (x a b : Int32) : (fX3_isWithin x a b = some 1 ∧ a.toInt ≤ x.toInt ∧ x.toInt ≤ b.toInt) ∨ (fX3_isWithin x a b = some 0 ∧ ¬ (a.toInt ≤ x.toInt ∧ x.toInt ≤ b.toInt)) := by
  unfold fX3_isWithin
  by_cases q1 : x < a
  · rw [if_pos q1]
    rw [fa_lt] at q1
    exact Or.inr ⟨rfl, by omega⟩
  · by_cases q2 : b < x
    · rw [if_neg q1, if_pos q2]
      rw [fa_lt] at q2
      exact Or.inr ⟨rfl, by omega⟩
    · rw [if_neg q1, if_neg q2]
      rw [fa_lt] at q1 q2
      exact Or.inl ⟨rfl, by omega, by omega⟩
theorem k10 : ((1 : Int32) = 0) = False := eq_false (by decide)
theorem k01 : ((0 : Int32) = 1) = False := eq_false (by decide)
theorem k_t {α : Type} {p : Prop} [Decidable p] (h : p) (a b : α) : (if p then a else b) = a := if_pos h
/-! a statement: read and told, in both -/
def RefSays (x : Int32) (len p q : Int32) (L : Nat → Int32) : Prop := ∀ (hand at_ wide rim fill wall ceiling puff period bc val : Int32) (km sm tm : Nat → Int32), ∃ val', fX6_statement 0 hand at_ wide rim fill wall ceiling puff period bc len p val L km sm tm = some (x, hand, at_, wide, rim, fill, wall, ceiling, puff, period, bc, q, val', km, sm, tm)
def RefTell (len p q w f s t : Int32) (L : Nat → Int32) : Prop := ∀ (hand at_ wide rim fill wall ceiling puff period bc val second : Int32) (ks ss ts km sm tm : Nat → Int32), OkO hand at_ wide rim fill wall ceiling puff period second → 0 ≤ bc.toInt → bc.toInt ≤ 5 → AEq 5 ks km → AEq 5 ss sm → AEq 5 ts tm →
  ∃ (r val' hand' at_' wide' rim' fill' wall' ceiling' puff' period' bc' : Int32) (k1 s1 t1 k2 s2 t2 : Nat → Int32), fX4_tellStatement w f s t hand at_ wide rim fill wall ceiling puff period bc ks ss ts = some (r, hand', at_', wide', rim', fill', wall', ceiling', puff', period', bc', k1, s1, t1) ∧ fX6_statement 1 hand at_ wide rim fill wall ceiling puff period bc len p val L km sm tm = some (r, hand', at_', wide', rim', fill', wall', ceiling', puff', period', bc', q, val', k2, s2, t2) ∧
    OkO hand' at_' wide' rim' fill' wall' ceiling' puff' period' second ∧ 0 ≤ bc'.toInt ∧ bc'.toInt ≤ 5 ∧ AEq 5 k1 k2 ∧ AEq 5 s1 s2 ∧ AEq 5 t1 t2 ∧ (r = 0 ∨ r = 1)
def Res (len p f s t : Int32) (L : Nat → Int32) : Prop :=
  (∃ q w f' s' t', fX4_readStatement len p f s t L = some (0, q, w, f', s', t') ∧ Pl len q ∧ (RefSays (-1) len p q L ∨ (RefSays 1 len p q L ∧ ¬ lh len q L = 59))) ∨
  (∃ q w f' s' t', fX4_readStatement len p f s t L = some (1, q + 1, w, f', s', t') ∧ Pl len q ∧ p.toInt + 2 ≤ q.toInt ∧ lh len q L = 59 ∧ RefSays 1 len p q L ∧ RefTell len p q w f' s' t' L)
theorem tailN {len p q w f' s' t' f s t : Int32} {L : Nat → Int32} (hq : Pl len q) (hcl : fX4_readStatement len p f s t L = some (0, q, w, f', s', t')) (hn : RefSays (-1) len p q L) : Res len p f s t L := Or.inl ⟨q, w, f', s', t', hcl, hq, Or.inl hn⟩
theorem tailA {len p q w f' s' t' f s t : Int32} {L : Nat → Int32} (hq : Pl len q) (hpq : p.toInt + 2 ≤ q.toInt)
    (hcl : fX4_readStatement len p f s t L = b2 (fX4_passLetter 59 len q L) (fun r w' => if r = 0 then some (0, w', w, f', s', t') else some (1, w', w, f', s', t')))
    (hy : RefSays 1 len p q L) (ht : RefTell len p q w f' s' t' L) : Res len p f s t L := by
  by_cases e : lh len q L = 59
  · refine Or.inr ⟨q, w, f', s', t', ?_, hq, hpq, e, hy, ht⟩
    rw [hcl, pass_y hq e]
    dsimp only [b2_p]
    rw [if_neg (by decide)]
  · refine Or.inl ⟨q, w, f', s', t', ?_, hq, Or.inr ⟨hy, e⟩⟩
    rw [hcl, pass_n hq e]
    dsimp only [b2_p]
    rw [if_pos rfl]
theorem st_99 {len p : Int32} (hp : Pl len p) {L : Nat → Int32} (c : lh len p L = 99) (f s t : Int32) : Res len p f s t L := by
  have hl := lh_lt (by decide) c
  obtain ⟨h1, e1⟩ := hp.nx hl
  have k99 : ¬ (99 : Int32) = -1 := by decide
  have n98 : ¬ lh len p L = 98 := by rw [c]; decide
  have n119 : ¬ lh len p L = 119 := by rw [c]; decide
  rcases num2 h1 L with ⟨a1, a2⟩ | ⟨v, q, a1, a2, v0, v9, hq, hpq⟩
  · refine tailN (w := 99) (f' := -1) (s' := s) (t' := t) h1 ?_ ?_
    · unfold fX4_readStatement
      rw [lh_c hp, c]
      dsimp only [b1_p]
      rw [if_neg (by decide), if_pos rfl]
      rw [a1]
      dsimp only [b2_p]
      rw [if_pos (by decide)]
    · intro hand at_ wide rim fill wall ceiling puff period bc val km sm tm
      refine ⟨val, ?_⟩
      unfold fX6_statement
      simp only [is_n hp n98, is_n hp n119, is_y hp k99 c, b1_p, b2_p, b3_p, b4_p, wi_eq, eq_self, if_true, k10, if_false, a2]
  · have vn : ¬ v < 0 := by rw [fa_lt]; show ¬ v.toInt < 0; omega
    refine tailA (w := 99) (f' := v) (s' := s) (t' := t) hq (by omega) ?_ ?_ ?_
    · unfold fX4_readStatement
      rw [lh_c hp, c]
      dsimp only [b1_p]
      rw [if_neg (by decide), if_pos rfl]
      rw [a1]
      dsimp only [b2_p]
      rw [if_neg vn]
    · intro hand at_ wide rim fill wall ceiling puff period bc val km sm tm
      refine ⟨v, ?_⟩
      unfold fX6_statement
      simp only [is_n hp n98, is_n hp n119, is_y hp k99 c, b1_p, b2_p, b3_p, b4_p, wi_eq, eq_self, if_true, k10, if_false, a2]
    · intro hand at_ wide rim fill wall ceiling puff period bc val second ks ss ts km sm tm ho hb0 hb5 h3 h1a h2a
      obtain ⟨o1, o2, o3, o4, o5, o6, o7, o8, o9, o10, o11⟩ := ho
      rcases wi_01 v 10 60 with ⟨w1, w2, w3⟩ | ⟨w1, w2⟩
      · have w2' : (10 : Int) ≤ v.toInt := w2
        have w3' : v.toInt ≤ (60 : Int) := w3
        refine ⟨1, v, hand, at_, wide, rim, fill, wall, v, puff, period, bc, ks, ss, ts, km, sm, tm, ?_, ?_, ?_, hb0, hb5, h3, h1a, h2a, by decide⟩
        · unfold fX4_tellStatement fX3_setCeiling
          rw [if_neg (by decide), if_pos rfl]
          simp only [w1, b1_p, b2_p, eq_self, if_true, k10, if_false]
          rw [g_b_p (by decide)]
        · unfold fX6_statement
          simp only [is_n hp n98, is_n hp n119, is_y hp k99 c, b1_p, b2_p, b3_p, b4_p, wi_eq, eq_self, if_true, k10, if_false, a2, w1]
        · exact ⟨o1, o2, o3, o4, o5, o6, ⟨by omega, by omega⟩, o8, o9, o10, o11⟩
      · skip
        refine ⟨0, v, hand, at_, wide, rim, fill, wall, ceiling, puff, period, bc, ks, ss, ts, km, sm, tm, ?_, ?_, ?_, hb0, hb5, h3, h1a, h2a, by decide⟩
        · unfold fX4_tellStatement fX3_setCeiling
          rw [if_neg (by decide), if_pos rfl]
          simp only [w1, b1_p, b2_p, eq_self, if_true, k10, if_false]
          rw [g_b_p (by decide)]
        · unfold fX6_statement
          simp only [is_n hp n98, is_n hp n119, is_y hp k99 c, b1_p, b2_p, b3_p, b4_p, wi_eq, eq_self, if_true, k10, if_false, a2, w1]
        · exact ⟨o1, o2, o3, o4, o5, o6, o7, o8, o9, o10, o11⟩
theorem st_104 {len p : Int32} (hp : Pl len p) {L : Nat → Int32} (c : lh len p L = 104) (f s t : Int32) : Res len p f s t L := by
  have hl := lh_lt (by decide) c
  obtain ⟨h1, e1⟩ := hp.nx hl
  have k104 : ¬ (104 : Int32) = -1 := by decide
  have n98 : ¬ lh len p L = 98 := by rw [c]; decide
  have n119 : ¬ lh len p L = 119 := by rw [c]; decide
  have n99 : ¬ lh len p L = 99 := by rw [c]; decide
  rcases num1 h1 L with ⟨a1, a2⟩ | ⟨v, q, a1, a2, v0, v9, hq, hpq⟩
  · refine tailN (w := 104) (f' := -1) (s' := s) (t' := t) h1 ?_ ?_
    · unfold fX4_readStatement
      rw [lh_c hp, c]
      dsimp only [b1_p]
      rw [if_neg (by decide), if_neg (by decide), if_neg (by decide), if_pos rfl]
      rw [a1]
      dsimp only [b2_p]
      rw [if_pos (by decide)]
    · intro hand at_ wide rim fill wall ceiling puff period bc val km sm tm
      refine ⟨val, ?_⟩
      unfold fX6_statement
      simp only [is_n hp n98, is_n hp n119, is_n hp n99, is_y hp k104 c, b1_p, b2_p, b3_p, b4_p, wi_eq, eq_self, if_true, k10, if_false, a2]
  · have vn : ¬ v < 0 := by rw [fa_lt]; show ¬ v.toInt < 0; omega
    refine tailA (w := 104) (f' := v) (s' := s) (t' := t) hq (by omega) ?_ ?_ ?_
    · unfold fX4_readStatement
      rw [lh_c hp, c]
      dsimp only [b1_p]
      rw [if_neg (by decide), if_neg (by decide), if_neg (by decide), if_pos rfl]
      rw [a1]
      dsimp only [b2_p]
      rw [if_neg vn]
    · intro hand at_ wide rim fill wall ceiling puff period bc val km sm tm
      refine ⟨v, ?_⟩
      unfold fX6_statement
      simp only [is_n hp n98, is_n hp n119, is_n hp n99, is_y hp k104 c, b1_p, b2_p, b3_p, b4_p, wi_eq, eq_self, if_true, k10, if_false, a2]
    · intro hand at_ wide rim fill wall ceiling puff period bc val second ks ss ts km sm tm ho hb0 hb5 h3 h1a h2a
      obtain ⟨o1, o2, o3, o4, o5, o6, o7, o8, o9, o10, o11⟩ := ho
      rcases wi_01 v 0 9 with ⟨w1, w2, w3⟩ | ⟨w1, w2⟩
      · have w2' : (0 : Int) ≤ v.toInt := w2
        have w3' : v.toInt ≤ (9 : Int) := w3
        refine ⟨1, v, v, at_, wide, rim, fill, wall, ceiling, puff, period, bc, ks, ss, ts, km, sm, tm, ?_, ?_, ?_, hb0, hb5, h3, h1a, h2a, by decide⟩
        · unfold fX4_tellStatement fX3_setHand
          rw [if_neg (by decide), if_neg (by decide), if_neg (by decide), if_pos rfl]
          simp only [w1, b1_p, b2_p, eq_self, if_true, k10, if_false]
          rw [g_b_p (by decide)]
        · unfold fX6_statement
          simp only [is_n hp n98, is_n hp n119, is_n hp n99, is_y hp k104 c, b1_p, b2_p, b3_p, b4_p, wi_eq, eq_self, if_true, k10, if_false, a2]
        · exact ⟨⟨by omega, by omega⟩, o2, o3, o4, o5, o6, o7, o8, o9, o10, o11⟩
      · exfalso
        apply w2
        have w2' : ((0 : Int) ≤ v.toInt ∧ v.toInt ≤ (9 : Int)) := ⟨by omega, by omega⟩
        exact w2'
theorem st_105 {len p : Int32} (hp : Pl len p) {L : Nat → Int32} (c : lh len p L = 105) (f s t : Int32) : Res len p f s t L := by
  have hl := lh_lt (by decide) c
  obtain ⟨h1, e1⟩ := hp.nx hl
  have k105 : ¬ (105 : Int32) = -1 := by decide
  have n98 : ¬ lh len p L = 98 := by rw [c]; decide
  have n119 : ¬ lh len p L = 119 := by rw [c]; decide
  have n99 : ¬ lh len p L = 99 := by rw [c]; decide
  have n104 : ¬ lh len p L = 104 := by rw [c]; decide
  rcases num1 h1 L with ⟨a1, a2⟩ | ⟨v, q, a1, a2, v0, v9, hq, hpq⟩
  · refine tailN (w := 105) (f' := -1) (s' := s) (t' := t) h1 ?_ ?_
    · unfold fX4_readStatement
      rw [lh_c hp, c]
      dsimp only [b1_p]
      rw [if_neg (by decide), if_neg (by decide), if_neg (by decide), if_neg (by decide), if_pos rfl]
      rw [a1]
      dsimp only [b2_p]
      rw [if_pos (by decide)]
    · intro hand at_ wide rim fill wall ceiling puff period bc val km sm tm
      refine ⟨val, ?_⟩
      unfold fX6_statement
      simp only [is_n hp n98, is_n hp n119, is_n hp n99, is_n hp n104, is_y hp k105 c, b1_p, b2_p, b3_p, b4_p, wi_eq, eq_self, if_true, k10, if_false, a2]
  · have vn : ¬ v < 0 := by rw [fa_lt]; show ¬ v.toInt < 0; omega
    refine tailA (w := 105) (f' := v) (s' := s) (t' := t) hq (by omega) ?_ ?_ ?_
    · unfold fX4_readStatement
      rw [lh_c hp, c]
      dsimp only [b1_p]
      rw [if_neg (by decide), if_neg (by decide), if_neg (by decide), if_neg (by decide), if_pos rfl]
      rw [a1]
      dsimp only [b2_p]
      rw [if_neg vn]
    · intro hand at_ wide rim fill wall ceiling puff period bc val km sm tm
      refine ⟨v, ?_⟩
      unfold fX6_statement
      simp only [is_n hp n98, is_n hp n119, is_n hp n99, is_n hp n104, is_y hp k105 c, b1_p, b2_p, b3_p, b4_p, wi_eq, eq_self, if_true, k10, if_false, a2]
    · intro hand at_ wide rim fill wall ceiling puff period bc val second ks ss ts km sm tm ho hb0 hb5 h3 h1a h2a
      obtain ⟨o1, o2, o3, o4, o5, o6, o7, o8, o9, o10, o11⟩ := ho
      rcases wi_01 v 0 9 with ⟨w1, w2, w3⟩ | ⟨w1, w2⟩
      · have w2' : (0 : Int) ≤ v.toInt := w2
        have w3' : v.toInt ≤ (9 : Int) := w3
        refine ⟨1, v, hand, at_, wide, rim, v, wall, ceiling, puff, period, bc, ks, ss, ts, km, sm, tm, ?_, ?_, ?_, hb0, hb5, h3, h1a, h2a, by decide⟩
        · unfold fX4_tellStatement fX3_setFill
          rw [if_neg (by decide), if_neg (by decide), if_neg (by decide), if_neg (by decide), if_pos rfl]
          simp only [w1, b1_p, b2_p, eq_self, if_true, k10, if_false]
          rw [g_b_p (by decide)]
        · unfold fX6_statement
          simp only [is_n hp n98, is_n hp n119, is_n hp n99, is_n hp n104, is_y hp k105 c, b1_p, b2_p, b3_p, b4_p, wi_eq, eq_self, if_true, k10, if_false, a2]
        · exact ⟨o1, o2, o3, o4, ⟨by omega, by omega⟩, o6, o7, o8, o9, o10, o11⟩
      · exfalso
        apply w2
        have w2' : ((0 : Int) ≤ v.toInt ∧ v.toInt ≤ (9 : Int)) := ⟨by omega, by omega⟩
        exact w2'
theorem st_119 {len p : Int32} (hp : Pl len p) {L : Nat → Int32} (c : lh len p L = 119) (f s t : Int32) : Res len p f s t L := by
  have hl := lh_lt (by decide) c
  obtain ⟨h1, e1⟩ := hp.nx hl
  have k119 : ¬ (119 : Int32) = -1 := by decide
  have n98 : ¬ lh len p L = 98 := by rw [c]; decide
  rcases num2 h1 L with ⟨a1, a2⟩ | ⟨v, q, a1, a2, v0, v9, hq, hpq⟩
  · refine tailN (w := 119) (f' := -1) (s' := s) (t' := t) h1 ?_ ?_
    · unfold fX4_readStatement
      rw [lh_c hp, c]
      dsimp only [b1_p]
      rw [if_neg (by decide), if_neg (by decide), if_neg (by decide), if_neg (by decide), if_neg (by decide), if_neg (by decide), if_pos rfl]
      rw [a1]
      dsimp only [b2_p]
      rw [if_pos (by decide)]
    · intro hand at_ wide rim fill wall ceiling puff period bc val km sm tm
      refine ⟨val, ?_⟩
      unfold fX6_statement
      simp only [is_n hp n98, is_y hp k119 c, b1_p, b2_p, b3_p, b4_p, wi_eq, eq_self, if_true, k10, if_false, a2]
  · have vn : ¬ v < 0 := by rw [fa_lt]; show ¬ v.toInt < 0; omega
    refine tailA (w := 119) (f' := v) (s' := s) (t' := t) hq (by omega) ?_ ?_ ?_
    · unfold fX4_readStatement
      rw [lh_c hp, c]
      dsimp only [b1_p]
      rw [if_neg (by decide), if_neg (by decide), if_neg (by decide), if_neg (by decide), if_neg (by decide), if_neg (by decide), if_pos rfl]
      rw [a1]
      dsimp only [b2_p]
      rw [if_neg vn]
    · intro hand at_ wide rim fill wall ceiling puff period bc val km sm tm
      refine ⟨v, ?_⟩
      unfold fX6_statement
      simp only [is_n hp n98, is_y hp k119 c, b1_p, b2_p, b3_p, b4_p, wi_eq, eq_self, if_true, k10, if_false, a2]
    · intro hand at_ wide rim fill wall ceiling puff period bc val second ks ss ts km sm tm ho hb0 hb5 h3 h1a h2a
      obtain ⟨o1, o2, o3, o4, o5, o6, o7, o8, o9, o10, o11⟩ := ho
      have ea : (at_ + wide).toInt = at_.toInt + wide.toInt := fb_addI (by omega) (by omega)
      rcases wi_01 v 5 60 with ⟨w1, w2, w3⟩ | ⟨w1, w2⟩
      · have w2' : (5 : Int) ≤ v.toInt := w2
        have w3' : v.toInt ≤ (60 : Int) := w3
        by_cases u : at_ + wide ≤ v
        · have u' := u
          rw [fa_le, ea] at u'
          refine ⟨1, v, hand, at_, wide, rim, fill, v, ceiling, puff, period, bc, ks, ss, ts, km, sm, tm, ?_, ?_, ?_, hb0, hb5, h3, h1a, h2a, by decide⟩
          · unfold fX4_tellStatement fX3_setWall
            rw [if_neg (by decide), if_neg (by decide), if_neg (by decide), if_neg (by decide), if_neg (by decide), if_pos rfl]
            simp only [w1, if_pos u, b1_p, b2_p, eq_self, if_true, k10, if_false]
            rw [g_b_p (by decide)]
          · unfold fX6_statement
            simp only [is_n hp n98, is_y hp k119 c, b1_p, b2_p, b3_p, b4_p, wi_eq, eq_self, if_true, k10, if_false, a2, w1, if_pos u]
          · exact ⟨o1, o2, o3, o4, o5, ⟨by omega, by omega⟩, o7, o8, o9, u', o11⟩
        · skip
          refine ⟨0, v, hand, at_, wide, rim, fill, wall, ceiling, puff, period, bc, ks, ss, ts, km, sm, tm, ?_, ?_, ?_, hb0, hb5, h3, h1a, h2a, by decide⟩
          · unfold fX4_tellStatement fX3_setWall
            rw [if_neg (by decide), if_neg (by decide), if_neg (by decide), if_neg (by decide), if_neg (by decide), if_pos rfl]
            simp only [w1, if_neg u, b1_p, b2_p, eq_self, if_true, k10, if_false]
            rw [g_b_p (by decide)]
          · unfold fX6_statement
            simp only [is_n hp n98, is_y hp k119 c, b1_p, b2_p, b3_p, b4_p, wi_eq, eq_self, if_true, k10, if_false, a2, w1, if_neg u]
          · exact ⟨o1, o2, o3, o4, o5, o6, o7, o8, o9, o10, o11⟩
      · skip
        refine ⟨0, v, hand, at_, wide, rim, fill, wall, ceiling, puff, period, bc, ks, ss, ts, km, sm, tm, ?_, ?_, ?_, hb0, hb5, h3, h1a, h2a, by decide⟩
        · unfold fX4_tellStatement fX3_setWall
          rw [if_neg (by decide), if_neg (by decide), if_neg (by decide), if_neg (by decide), if_neg (by decide), if_pos rfl]
          simp only [w1, b1_p, b2_p, eq_self, if_true, k10, if_false]
          rw [g_b_p (by decide)]
        · unfold fX6_statement
          simp only [is_n hp n98, is_y hp k119 c, b1_p, b2_p, b3_p, b4_p, wi_eq, eq_self, if_true, k10, if_false, a2, w1]
        · exact ⟨o1, o2, o3, o4, o5, o6, o7, o8, o9, o10, o11⟩
theorem st_98 {len p : Int32} (hp : Pl len p) {L : Nat → Int32} (c : lh len p L = 98) (f s t : Int32) : Res len p f s t L := by
  have hl := lh_lt (by decide) c
  obtain ⟨h1, e1⟩ := hp.nx hl
  have k98 : ¬ (98 : Int32) = -1 := by decide
  rcases num2 h1 L with ⟨a1, a2⟩ | ⟨v, q, a1, a2, v0, v9, hq, hpq⟩
  · refine tailN (w := 98) (f' := -1) (s' := s) (t' := t) h1 ?_ ?_
    · unfold fX4_readStatement
      rw [lh_c hp, c]
      dsimp only [b1_p]
      rw [if_pos rfl]
      unfold fX4_readBin
      rw [a1]
      dsimp only [b2_p]
      rw [if_pos (by decide)]
      dsimp only [b5_p]
      rw [if_pos rfl]
    · intro hand at_ wide rim fill wall ceiling puff period bc val km sm tm
      refine ⟨val, ?_⟩
      unfold fX6_statement
      simp only [is_y hp k98 c, b1_p, b2_p, b3_p, b4_p, wi_eq, eq_self, if_true, k10, if_false, a2]
  have vn : ¬ v < 0 := by rw [fa_lt]; show ¬ v.toInt < 0; omega
  by_cases cm : lh len q L = 44
  rotate_left
  · refine tailN (w := 98) (f' := v) (s' := s) (t' := t) hq ?_ ?_
    · unfold fX4_readStatement
      rw [lh_c hp, c]
      dsimp only [b1_p]
      rw [if_pos rfl]
      unfold fX4_readBin
      rw [a1]
      dsimp only [b2_p]
      rw [if_neg vn, pass_n hq cm]
      dsimp only [b2_p]
      rw [if_pos rfl]
      dsimp only [b5_p]
      rw [if_pos rfl]
    · intro hand at_ wide rim fill wall ceiling puff period bc val km sm tm
      refine ⟨v, ?_⟩
      unfold fX6_statement
      simp only [is_y hp k98 c, b1_p, b2_p, b3_p, b4_p, wi_eq, eq_self, if_true, k10, if_false, a2, is_n hq cm]
  have k44 : ¬ (44 : Int32) = -1 := by decide
  obtain ⟨hq1, eq1⟩ := hq.nx (lh_lt k44 cm)
  rcases num1 hq1 L with ⟨b1a, b2a⟩ | ⟨x, q2, b1a, b2a, x0, x9, hq2, hpq2⟩
  · refine tailN (w := 98) (f' := v) (s' := -1) (t' := t) hq1 ?_ ?_
    · unfold fX4_readStatement
      rw [lh_c hp, c]
      dsimp only [b1_p]
      rw [if_pos rfl]
      unfold fX4_readBin fX4_readTwoDigits
      rw [a1]
      dsimp only [b2_p]
      rw [if_neg vn, pass_y hq cm]
      dsimp only [b2_p]
      rw [if_neg (show ¬ (1 : Int32) = 0 by decide), b1a]
      dsimp only [b2_p]
      rw [if_neg (show ¬ (0 : Int32) ≤ -1 by decide)]
      dsimp only [b4_p]
      rw [if_pos rfl]
      dsimp only [b5_p]
      rw [if_pos rfl]
    · intro hand at_ wide rim fill wall ceiling puff period bc val km sm tm
      refine ⟨v, ?_⟩
      unfold fX6_statement
      simp only [is_y hp k98 c, b1_p, b2_p, b3_p, b4_p, wi_eq, eq_self, if_true, k10, if_false, a2, is_y hq k44 cm, b2a]
  have x0' : 0 ≤ x := by rw [fa_le]; exact x0
  rcases num1 hq2 L with ⟨c1a, c2a⟩ | ⟨y, q3, c1a, c2a, y0, y9, hq3, hpq3⟩
  · refine tailN (w := 98) (f' := v) (s' := x) (t' := -1) hq2 ?_ ?_
    · unfold fX4_readStatement
      rw [lh_c hp, c]
      dsimp only [b1_p]
      rw [if_pos rfl]
      unfold fX4_readBin fX4_readTwoDigits
      rw [a1]
      dsimp only [b2_p]
      rw [if_neg vn, pass_y hq cm]
      dsimp only [b2_p]
      rw [if_neg (show ¬ (1 : Int32) = 0 by decide), b1a]
      dsimp only [b2_p]
      rw [if_pos x0', c1a]
      dsimp only [b2_p]
      rw [if_pos (show (-1 : Int32) < 0 by decide)]
      dsimp only [b4_p]
      rw [if_pos rfl]
      dsimp only [b5_p]
      rw [if_pos rfl]
    · intro hand at_ wide rim fill wall ceiling puff period bc val km sm tm
      refine ⟨x, ?_⟩
      unfold fX6_statement
      simp only [is_y hp k98 c, b1_p, b2_p, b3_p, b4_p, wi_eq, eq_self, if_true, k10, if_false, a2, is_y hq k44 cm, b2a, c2a]
  have yn : ¬ y < 0 := by rw [fa_lt]; show ¬ y.toInt < 0; omega
  refine tailA (w := 98) (f' := v) (s' := x) (t' := y) hq3 (by omega) ?_ ?_ ?_
  · unfold fX4_readStatement
    rw [lh_c hp, c]
    dsimp only [b1_p]
    rw [if_pos rfl]
    unfold fX4_readBin fX4_readTwoDigits
    rw [a1]
    dsimp only [b2_p]
    rw [if_neg vn, pass_y hq cm]
    dsimp only [b2_p]
    rw [if_neg (show ¬ (1 : Int32) = 0 by decide), b1a]
    dsimp only [b2_p]
    rw [if_pos x0', c1a]
    dsimp only [b2_p]
    rw [if_neg yn]
    dsimp only [b4_p]
    rw [if_neg (show ¬ (1 : Int32) = 0 by decide)]
    dsimp only [b5_p]
    rw [if_neg (show ¬ (1 : Int32) = 0 by decide)]
  · intro hand at_ wide rim fill wall ceiling puff period bc val km sm tm
    refine ⟨y, ?_⟩
    unfold fX6_statement
    simp only [is_y hp k98 c, b1_p, b2_p, b3_p, b4_p, wi_eq, eq_self, if_true, k10, if_false, a2, is_y hq k44 cm, b2a, c2a]
  · intro hand at_ wide rim fill wall ceiling puff period bc val second ks ss ts km sm tm ho hb0 hb5 h3 h1a h2a
    have ho' := ho
    obtain ⟨o1, o2, o3, o4, o5, o6, o7, o8, o9, o10, o11⟩ := ho
    have ex : (v + x).toInt = v.toInt + x.toInt := fb_addI (by omega) (by omega)
    rcases wi_01 v 1 40 with ⟨w1, w2, w3⟩ | ⟨w1, w2⟩
    rotate_left
    · skip
      refine ⟨0, y, hand, at_, wide, rim, fill, wall, ceiling, puff, period, bc, ks, ss, ts, km, sm, tm, ?_, ?_, ?_, hb0, hb5, h3, h1a, h2a, by decide⟩
      · unfold fX4_tellStatement fX3_setBin
        rw [if_pos rfl]
        simp only [w1, b1_p, b4_p, eq_self, if_true, k10, if_false]
        rw [g_b_p (by decide)]
      · unfold fX6_statement
        simp only [is_y hp k98 c, b1_p, b2_p, b3_p, b4_p, wi_eq, eq_self, if_true, k10, if_false, a2, is_y hq k44 cm, b2a, c2a, w1]
      · exact ho'
    have w2' : (1 : Int) ≤ v.toInt := w2
    have w3' : v.toInt ≤ (40 : Int) := w3
    rcases wi_01 x 1 5 with ⟨m1, m2, m3⟩ | ⟨m1, m2⟩
    rotate_left
    · skip
      refine ⟨0, y, hand, at_, wide, rim, fill, wall, ceiling, puff, period, bc, ks, ss, ts, km, sm, tm, ?_, ?_, ?_, hb0, hb5, h3, h1a, h2a, by decide⟩
      · unfold fX4_tellStatement fX3_setBin
        rw [if_pos rfl]
        simp only [w1, m1, b1_p, b4_p, eq_self, if_true, k10, if_false]
        rw [g_b_p (by decide)]
      · unfold fX6_statement
        simp only [is_y hp k98 c, b1_p, b2_p, b3_p, b4_p, wi_eq, eq_self, if_true, k10, if_false, a2, is_y hq k44 cm, b2a, c2a, w1, m1]
      · exact ho'
    have m2' : (1 : Int) ≤ x.toInt := m2
    have m3' : x.toInt ≤ (5 : Int) := m3
    rcases wi_01 y 1 9 with ⟨r1, r2, r3⟩ | ⟨r1, r2⟩
    rotate_left
    · have y00 : y = 0 := by
        rw [fa_eq]
        show y.toInt = 0
        have r2' : ¬ ((1 : Int) ≤ y.toInt ∧ y.toInt ≤ (9 : Int)) := r2
        omega
      subst y00
      refine ⟨0, 0, hand, at_, wide, rim, fill, wall, ceiling, puff, period, bc, ks, ss, ts, km, sm, tm, ?_, ?_, ?_, hb0, hb5, h3, h1a, h2a, by decide⟩
      · unfold fX4_tellStatement fX3_setBin
        rw [if_pos rfl]
        simp only [w1, m1, r1, b1_p, b4_p, eq_self, if_true, k10, if_false]
        rw [g_b_p (by decide)]
      · unfold fX6_statement
        simp only [is_y hp k98 c, b1_p, b2_p, b3_p, b4_p, wi_eq, eq_self, if_true, k10, if_false, a2, is_y hq k44 cm, b2a, c2a, w1, m1]
      · exact ho'
    have r2' : (1 : Int) ≤ y.toInt := r2
    have r3' : y.toInt ≤ (9 : Int) := r3
    have yz : ¬ y = 0 := by
      rw [fa_eq]
      show ¬ y.toInt = 0
      omega
    by_cases u : v + x ≤ wall
    · have u' := u
      rw [fa_le, ex] at u'
      refine ⟨1, y, hand, v, x, y, fill, wall, ceiling, puff, period, bc, ks, ss, ts, km, sm, tm, ?_, ?_, ?_, hb0, hb5, h3, h1a, h2a, by decide⟩
      · unfold fX4_tellStatement fX3_setBin
        rw [if_pos rfl]
        simp only [w1, m1, r1, if_pos u, if_neg yz, b1_p, b4_p, eq_self, if_true, k10, if_false]
        rw [g_b_p (by decide)]
      · unfold fX6_statement
        simp only [is_y hp k98 c, b1_p, b2_p, b3_p, b4_p, wi_eq, eq_self, if_true, k10, if_false, a2, is_y hq k44 cm, b2a, c2a, w1, m1, r1, if_pos u, if_neg yz]
      · exact ⟨o1, ⟨w2', w3'⟩, ⟨m2', m3'⟩, ⟨r2', r3'⟩, o5, o6, o7, o8, o9, u', o11⟩
    · skip
      refine ⟨0, y, hand, at_, wide, rim, fill, wall, ceiling, puff, period, bc, ks, ss, ts, km, sm, tm, ?_, ?_, ?_, hb0, hb5, h3, h1a, h2a, by decide⟩
      · unfold fX4_tellStatement fX3_setBin
        rw [if_pos rfl]
        simp only [w1, m1, r1, if_neg u, if_neg yz, b1_p, b4_p, eq_self, if_true, k10, if_false]
        rw [g_b_p (by decide)]
      · unfold fX6_statement
        simp only [is_y hp k98 c, b1_p, b2_p, b3_p, b4_p, wi_eq, eq_self, if_true, k10, if_false, a2, is_y hq k44 cm, b2a, c2a, w1, m1, r1, if_neg u, if_neg yz]
      · exact ho'
theorem st_102 {len p : Int32} (hp : Pl len p) {L : Nat → Int32} (c : lh len p L = 102) (f s t : Int32) : Res len p f s t L := by
  have hl := lh_lt (by decide) c
  obtain ⟨h1, e1⟩ := hp.nx hl
  have k102 : ¬ (102 : Int32) = -1 := by decide
  have n98 : ¬ lh len p L = 98 := by rw [c]; decide
  have n119 : ¬ lh len p L = 119 := by rw [c]; decide
  have n99 : ¬ lh len p L = 99 := by rw [c]; decide
  have n104 : ¬ lh len p L = 104 := by rw [c]; decide
  have n105 : ¬ lh len p L = 105 := by rw [c]; decide
  have k43 : ¬ (43 : Int32) = -1 := by decide
  have k45 : ¬ (45 : Int32) = -1 := by decide
  by_cases hs : lh len (p + 1) L = 43 ∨ lh len (p + 1) L = 45
  rotate_left
  · have n43 : ¬ lh len (p + 1) L = 43 := fun q => hs (Or.inl q)
    have n45 : ¬ lh len (p + 1) L = 45 := fun q => hs (Or.inr q)
    refine tailN (w := 102) (f' := f) (s' := s) (t' := t) h1 ?_ ?_
    · unfold fX4_readStatement
      rw [lh_c hp, c]
      dsimp only [b1_p]
      rw [if_neg (by decide), if_neg (by decide), if_pos rfl]
      unfold fX4_readFan
      rw [lh_c h1]
      dsimp only [b1_p]
      rw [if_neg n43, if_neg n45]
      dsimp only [b4_p]
      rw [if_pos rfl]
    · intro hand at_ wide rim fill wall ceiling puff period bc val km sm tm
      refine ⟨val, ?_⟩
      unfold fX6_statement
      simp only [is_n hp n98, is_n hp n119, is_n hp n99, is_n hp n104, is_n hp n105, is_y hp k102 c, b1_p, b2_p, b3_p, b4_p, wi_eq, eq_self, if_true, k10, if_false, is_n h1 n45, is_n h1 n43]
  have hl1 : (p + 1).toInt < len.toInt := by
    rcases hs with q | q
    · exact lh_lt k43 q
    · exact lh_lt k45 q
  obtain ⟨h2, e2⟩ := h1.nx hl1
  -- the sign
  have key : ∃ neg : Int32 → Int32, (∀ v : Int32, v.toInt ≤ 9 → 0 ≤ v.toInt → (neg v).toInt ≤ 9 ∧ -9 ≤ (neg v).toInt) ∧
      (fX4_readFan len (p + 1) f s L = b2 (fX4_readNumber 1 len (p + 1 + 1) L) (fun r w => if 0 ≤ r then jX4_readFan_62 len L w (neg r) else some (0, w, r, s))) ∧
      (∀ (x1 hand at_ wide rim fill wall ceiling puff period bc val : Int32) (km sm tm : Nat → Int32), fX6_statement x1 hand at_ wide rim fill wall ceiling puff period bc len p val L km sm tm = b3 (fX6_number 1 len (p + 1 + 1) val L) (fun r a v => if r = 0 then some (-1, hand, at_, wide, rim, fill, wall, ceiling, puff, period, bc, a, v, km, sm, tm) else jX6_statement_360 x1 len L (neg v) hand at_ wide rim fill wall ceiling puff period bc a v km sm tm)) := by
    rcases hs with q | q
    · have n45 : ¬ lh len (p + 1) L = 45 := by rw [q]; decide
      refine ⟨fun v => v, fun v a b => ⟨a, by show (-9 : Int) ≤ v.toInt; omega⟩, ?_, ?_⟩
      · unfold fX4_readFan jX4_readFan_19
        rw [lh_c h1, q]
        dsimp only [b1_p]
        rw [if_pos rfl]
        simp only [if_neg (show ¬ (43 : Int32) = 45 by decide)]
      · intro x1 hand at_ wide rim fill wall ceiling puff period bc val km sm tm
        unfold fX6_statement jX6_statement_334
        simp only [is_n hp n98, is_n hp n119, is_n hp n99, is_n hp n104, is_n hp n105, is_y hp k102 c, b1_p, b2_p, b3_p, b4_p, wi_eq, eq_self, if_true, k10, if_false, is_n h1 n45, is_y h1 k43 q]
    · refine ⟨fun v => -v, fun v a b => ?_, ?_, ?_⟩
      · have en : (-v).toInt = - v.toInt := by
          have := fb_subI (x := 0) (y := v) (by show _ ≤ (0 : Int) - _; omega) (by show (0 : Int) - _ < _; omega)
          rw [Int32.zero_sub] at this
          rw [this]
          show (0 : Int) - v.toInt = - v.toInt
          omega
        show (-v).toInt ≤ 9 ∧ -9 ≤ (-v).toInt
        rw [en]
        exact ⟨by omega, by omega⟩
      · unfold fX4_readFan jX4_readFan_19
        rw [lh_c h1, q]
        dsimp only [b1_p]
        rw [if_neg (show ¬ (45 : Int32) = 43 by decide), if_pos rfl]
        simp only [eq_self, if_true]
      · intro x1 hand at_ wide rim fill wall ceiling puff period bc val km sm tm
        unfold fX6_statement jX6_statement_334
        simp only [is_n hp n98, is_n hp n119, is_n hp n99, is_n hp n104, is_n hp n105, is_y hp k102 c, b1_p, b2_p, b3_p, b4_p, wi_eq, eq_self, if_true, k10, if_false, is_y h1 k45 q]
  obtain ⟨neg, hneg, hF, hR⟩ := key
  rcases num1 h2 L with ⟨a1, a2⟩ | ⟨v, q, a1, a2, v0, v9, hq, hpq⟩
  · refine tailN (w := 102) (f' := -1) (s' := s) (t' := t) h2 ?_ ?_
    · unfold fX4_readStatement
      rw [lh_c hp, c]
      dsimp only [b1_p]
      rw [if_neg (by decide), if_neg (by decide), if_pos rfl]
      rw [hF, a1]
      dsimp only [b2_p]
      rw [if_neg (show ¬ (0 : Int32) ≤ -1 by decide)]
      dsimp only [b4_p]
      rw [if_pos rfl]
    · intro hand at_ wide rim fill wall ceiling puff period bc val km sm tm
      refine ⟨val, ?_⟩
      rw [hR, a2]
      dsimp only [b3_p]
      rw [if_pos rfl]
  have v0' : 0 ≤ v := by rw [fa_le]; exact v0
  rcases num1 hq L with ⟨b1a, b2a⟩ | ⟨x, q2, b1a, b2a, x0, x9, hq2, hpq2⟩
  · refine tailN (w := 102) (f' := neg v) (s' := -1) (t' := t) hq ?_ ?_
    · unfold fX4_readStatement
      rw [lh_c hp, c]
      dsimp only [b1_p]
      rw [if_neg (by decide), if_neg (by decide), if_pos rfl]
      rw [hF, a1]
      dsimp only [b2_p]
      rw [if_pos v0']
      unfold jX4_readFan_62
      rw [b1a]
      dsimp only [b2_p]
      rw [if_pos (show (-1 : Int32) < 0 by decide)]
      dsimp only [b4_p]
      rw [if_pos rfl]
    · intro hand at_ wide rim fill wall ceiling puff period bc val km sm tm
      refine ⟨v, ?_⟩
      rw [hR, a2]
      dsimp only [b3_p]
      rw [if_neg (show ¬ (1 : Int32) = 0 by decide)]
      unfold jX6_statement_360
      rw [b2a]
      dsimp only [b3_p]
      rw [if_pos rfl]
  have xn : ¬ x < 0 := by rw [fa_lt]; show ¬ x.toInt < 0; omega
  refine tailA (w := 102) (f' := neg v) (s' := x) (t' := t) hq2 (by omega) ?_ ?_ ?_
  · unfold fX4_readStatement
    rw [lh_c hp, c]
    dsimp only [b1_p]
    rw [if_neg (by decide), if_neg (by decide), if_pos rfl]
    rw [hF, a1]
    dsimp only [b2_p]
    rw [if_pos v0']
    unfold jX4_readFan_62
    rw [b1a]
    dsimp only [b2_p]
    rw [if_neg xn]
    dsimp only [b4_p]
    rw [if_neg (show ¬ (1 : Int32) = 0 by decide)]
  · intro hand at_ wide rim fill wall ceiling puff period bc val km sm tm
    refine ⟨x, ?_⟩
    rw [hR, a2]
    dsimp only [b3_p]
    rw [if_neg (show ¬ (1 : Int32) = 0 by decide)]
    unfold jX6_statement_360
    rw [b2a]
    dsimp only [b3_p]
    rw [if_neg (show ¬ (1 : Int32) = 0 by decide), if_pos rfl]
  · intro hand at_ wide rim fill wall ceiling puff period bc val second ks ss ts km sm tm ho hb0 hb5 h3 h1a h2a
    have ho' := ho
    obtain ⟨o1, o2, o3, o4, o5, o6, o7, o8, o9, o10, o11⟩ := ho
    have hR' := hR 1 hand at_ wide rim fill wall ceiling puff period bc val km sm tm
    rw [a2] at hR'
    dsimp only [b3_p] at hR'
    rw [if_neg (show ¬ (1 : Int32) = 0 by decide)] at hR'
    unfold jX6_statement_360 at hR'
    rw [b2a] at hR'
    dsimp only [b3_p] at hR'
    rw [if_neg (show ¬ (1 : Int32) = 0 by decide), if_neg (show ¬ (1 : Int32) = 0 by decide), wi_eq] at hR'
    unfold fX4_tellStatement fX3_setFan
    rw [if_neg (by decide), if_neg (by decide), if_pos rfl]
    rcases wi_01 (neg v) (-3) 3 with ⟨w1, w2, w3⟩ | ⟨w1, w2⟩
    rotate_left
    · rw [w1] at hR' ⊢
      dsimp only [b1_p] at hR' ⊢
      rw [if_pos rfl] at hR' ⊢
      dsimp only [b3_p]
      rw [g_b_p (by decide)]
      exact ⟨_, _, _, _, _, _, _, _, _, _, _, _, _, _, _, _, _, _, rfl, hR', ho', hb0, hb5, h3, h1a, h2a, by decide⟩
    have w2' : (-3 : Int) ≤ (neg v).toInt := w2
    have w3' : (neg v).toInt ≤ (3 : Int) := w3
    rw [w1] at hR' ⊢
    dsimp only [b1_p] at hR' ⊢
    rw [if_neg (show ¬ (1 : Int32) = 0 by decide)] at hR' ⊢
    by_cases xz : x = 0
    · subst xz
      rw [if_pos rfl] at hR'
      rw [show fX3_isWithin 0 1 9 = some 0 from by decide]
      dsimp only [b1_p]
      rw [if_pos rfl]
      dsimp only [b3_p]
      rw [g_b_p (by decide)]
      exact ⟨_, _, _, _, _, _, _, _, _, _, _, _, _, _, _, _, _, _, rfl, hR', ho', hb0, hb5, h3, h1a, h2a, by decide⟩
    · rw [if_neg xz] at hR'
      have x1 : 1 ≤ x.toInt := by
        rw [fa_eq] at xz
        have xz' : ¬ x.toInt = 0 := xz
        omega
      rcases wi_01 x 1 9 with ⟨m1, m2, m3⟩ | ⟨m1, m2⟩
      · rw [m1]
        dsimp only [b1_p]
        rw [if_neg (show ¬ (1 : Int32) = 0 by decide)]
        dsimp only [b3_p]
        rw [g_b_p (by decide)]
        exact ⟨_, _, _, _, _, _, _, _, _, _, _, _, _, _, _, _, _, _, rfl, hR', ⟨o1, o2, o3, o4, o5, o6, o7, ⟨w2', w3'⟩, ⟨x1, x9⟩, o10, o11⟩, hb0, hb5, h3, h1a, h2a, by decide⟩
      · exact absurd ⟨x1, x9⟩ m2
theorem kl_no {c : Int32} (h : c.toInt ≤ 0 ∨ 255 < c.toInt) : fX4_kindOfLetter c = some (-1) := by
  unfold fX4_kindOfLetter
  have n : ∀ k : Int32, 0 < k.toInt → k.toInt ≤ 255 → ¬ c = k := fun k h1 h2 e => by rw [e] at h; omega
  rw [if_neg (n 98 (by decide) (by decide)), if_neg (n 107 (by decide) (by decide)), if_neg (n 108 (by decide) (by decide)), if_neg (n 112 (by decide) (by decide)), if_neg (n 115 (by decide) (by decide)), if_neg (n 119 (by decide) (by decide))]
theorem kl_01 (c : Int32) : fX4_kindOfLetter c = some (-1) ∨ ∃ r, fX4_kindOfLetter c = some r ∧ 0 ≤ r := by
  unfold fX4_kindOfLetter
  repeat' split
  all_goals first | exact Or.inl rfl | exact Or.inr ⟨_, rfl, by decide⟩
theorem idx_all : ∀ a : Nat, a < 256 → fJ0_indexOf_0f7a4 (nI a) = fX4_kindOfLetter (nI a) ∨ a = 0 := by decide +kernel
theorem idx_eq {c : Int32} (h : 0 < c.toInt) : fJ0_indexOf_0f7a4 c = fX4_kindOfLetter c := by
  by_cases q : 255 < c.toInt
  · rw [kl_no (Or.inr q)]
    unfold fJ0_indexOf_0f7a4 fJ0_indexOf_7cf53 fJ1_indexOf_4cfef fJ1_canEncode_9a6ad
    rw [show fJ0_isLatin1_aae02 = some 1 from by decide, show fJ0_length_8abf5 = some 6 from by decide]
    dsimp only [b1_p]
    rw [if_neg (show ¬ (1 : Int32) = 0 by decide), if_neg (show ¬ c < 0 by rw [fa_lt]; show ¬ c.toInt < 0; omega), if_pos (show 255 < c by rw [fa_lt]; exact q)]
    dsimp only [b1_p]
    rw [if_pos rfl]
  · obtain ⟨a, ha, rfl⟩ := nI_of (x := c) (by rw [fa_lt]; show ¬ c.toInt < 0; omega)
    rw [nI_toInt ha] at h q
    rcases idx_all a (by omega) with e | e
    · exact e
    · omega
theorem ref112 {len p : Int32} (hp : Pl len p) {L : Nat → Int32} (c : lh len p L = 112) {r : Int32} (hk : fX4_kindOfLetter (lh len (p + 1) L) = some r) (x1 hand at_ wide rim fill wall ceiling puff period bc val : Int32) (km sm tm : Nat → Int32) : fX6_statement x1 hand at_ wide rim fill wall ceiling puff period bc len p val L km sm tm = jX6_statement_463 x1 len L r hand at_ wide rim fill wall ceiling puff period bc (p + 1) val km sm tm := by
  have hl := lh_lt (by decide) c
  obtain ⟨h1, e1⟩ := hp.nx hl
  have k112 : ¬ (112 : Int32) = -1 := by decide
  have n98 : ¬ lh len p L = 98 := by rw [c]; decide
  have n119 : ¬ lh len p L = 119 := by rw [c]; decide
  have n99 : ¬ lh len p L = 99 := by rw [c]; decide
  have n104 : ¬ lh len p L = 104 := by rw [c]; decide
  have n105 : ¬ lh len p L = 105 := by rw [c]; decide
  have n102 : ¬ lh len p L = 102 := by rw [c]; decide
  unfold fX6_statement jX6_statement_462
  simp only [is_n hp n98, is_n hp n119, is_n hp n99, is_n hp n104, is_n hp n105, is_n hp n102, is_y hp k112 c, b1_p, b2_p, b3_p, b4_p, wi_eq, eq_self, if_true, k10, if_false]
  by_cases q : len.toInt ≤ (p + 1).toInt
  · rw [lh_out q, kl_no (Or.inl (by decide))] at hk
    cases hk
    rw [if_pos (show len ≤ p + 1 by rw [fa_le]; exact q)]
  · have q' : (p + 1).toInt < len.toInt := by omega
    have hi : (p + 1).toInt < ((80 : Nat) : Int) := by have := hp.2.2; show (p + 1).toInt < 80; omega
    rw [lh_in q'] at hk
    rw [if_neg (show ¬ len ≤ p + 1 by rw [fa_le]; exact q), g_in_p h1.1 hi]
    by_cases z : L (p + 1).toNatClampNeg ≤ 0
    · rw [fa_le] at z
      rw [kl_no (Or.inl z)] at hk
      cases hk
      rw [if_pos (by rw [fa_le]; exact z)]
    · rw [if_neg z, g_in_p h1.1 hi]
      rw [fa_le] at z
      have z' : ¬ (L (p + 1).toNatClampNeg).toInt ≤ 0 := z
      rw [idx_eq (by omega), hk]
theorem st_112 {len p : Int32} (hp : Pl len p) {L : Nat → Int32} (c : lh len p L = 112) (f s t : Int32) : Res len p f s t L := by
  have hl := lh_lt (by decide) c
  obtain ⟨h1, e1⟩ := hp.nx hl
  rcases kl_01 (lh len (p + 1) L) with hk | ⟨r, hk, r0⟩
  · refine tailN (w := 112) (f' := -1) (s' := s) (t' := t) h1 ?_ ?_
    · unfold fX4_readStatement
      rw [lh_c hp, c]
      dsimp only [b1_p]
      rw [if_neg (by decide), if_neg (by decide), if_neg (by decide), if_neg (by decide), if_neg (by decide), if_pos rfl]
      unfold fX4_readBall
      rw [lh_c h1]
      dsimp only [b1_p]
      rw [hk]
      dsimp only [b1_p]
      rw [if_neg (show ¬ (0 : Int32) ≤ -1 by decide)]
      dsimp only [b5_p]
      rw [if_pos rfl]
    · intro hand at_ wide rim fill wall ceiling puff period bc val km sm tm
      refine ⟨val, ?_⟩
      rw [ref112 hp c hk]
      unfold jX6_statement_463
      rw [if_neg (show ¬ (0 : Int32) ≤ -1 by decide)]
  have hl1 : (p + 1).toInt < len.toInt := by
    by_cases q : len.toInt ≤ (p + 1).toInt
    · rw [lh_out q, kl_no (Or.inl (by decide))] at hk
      cases hk
      exact absurd r0 (by decide)
    · omega
  obtain ⟨h2, e2⟩ := h1.nx hl1
  rcases num1 h2 L with ⟨a1, a2⟩ | ⟨v, q, a1, a2, v0, v9, hq, hpq⟩
  · refine tailN (w := 112) (f' := r) (s' := -1) (t' := t) h2 ?_ ?_
    · unfold fX4_readStatement
      rw [lh_c hp, c]
      dsimp only [b1_p]
      rw [if_neg (by decide), if_neg (by decide), if_neg (by decide), if_neg (by decide), if_neg (by decide), if_pos rfl]
      unfold fX4_readBall fX4_readTwoDigits
      rw [lh_c h1]
      dsimp only [b1_p]
      rw [hk]
      dsimp only [b1_p]
      rw [if_pos r0, a1]
      dsimp only [b2_p]
      rw [if_neg (show ¬ (0 : Int32) ≤ -1 by decide)]
      dsimp only [b4_p]
      rw [g_b_p (by decide)]
      dsimp only [b5_p]
      rw [if_pos rfl]
    · intro hand at_ wide rim fill wall ceiling puff period bc val km sm tm
      refine ⟨val, ?_⟩
      rw [ref112 hp c hk]
      unfold jX6_statement_463
      rw [if_pos r0, a2]
      dsimp only [b3_p]
      rw [if_pos rfl]
  have v0' : 0 ≤ v := by rw [fa_le]; exact v0
  rcases num1 hq L with ⟨b1a, b2a⟩ | ⟨x, q2, b1a, b2a, x0, x9, hq2, hpq2⟩
  · refine tailN (w := 112) (f' := r) (s' := v) (t' := -1) hq ?_ ?_
    · unfold fX4_readStatement
      rw [lh_c hp, c]
      dsimp only [b1_p]
      rw [if_neg (by decide), if_neg (by decide), if_neg (by decide), if_neg (by decide), if_neg (by decide), if_pos rfl]
      unfold fX4_readBall fX4_readTwoDigits
      rw [lh_c h1]
      dsimp only [b1_p]
      rw [hk]
      dsimp only [b1_p]
      rw [if_pos r0, a1]
      dsimp only [b2_p]
      rw [if_pos v0', b1a]
      dsimp only [b2_p]
      rw [if_pos (show (-1 : Int32) < 0 by decide)]
      dsimp only [b4_p]
      rw [g_b_p (by decide)]
      dsimp only [b5_p]
      rw [if_pos rfl]
    · intro hand at_ wide rim fill wall ceiling puff period bc val km sm tm
      refine ⟨v, ?_⟩
      rw [ref112 hp c hk]
      unfold jX6_statement_463
      rw [if_pos r0, a2]
      dsimp only [b3_p]
      rw [if_neg (show ¬ (1 : Int32) = 0 by decide), b2a]
      dsimp only [b3_p]
      rw [if_pos rfl]
  have xn : ¬ x < 0 := by rw [fa_lt]; show ¬ x.toInt < 0; omega
  refine tailA (w := 112) (f' := r) (s' := v) (t' := x) hq2 (by omega) ?_ ?_ ?_
  · unfold fX4_readStatement
    rw [lh_c hp, c]
    dsimp only [b1_p]
    rw [if_neg (by decide), if_neg (by decide), if_neg (by decide), if_neg (by decide), if_neg (by decide), if_pos rfl]
    unfold fX4_readBall fX4_readTwoDigits
    rw [lh_c h1]
    dsimp only [b1_p]
    rw [hk]
    dsimp only [b1_p]
    rw [if_pos r0, a1]
    dsimp only [b2_p]
    rw [if_pos v0', b1a]
    dsimp only [b2_p]
    rw [if_neg xn]
    dsimp only [b4_p]
    rw [g_b_p (by decide)]
    dsimp only [b5_p]
    rw [if_neg (show ¬ (1 : Int32) = 0 by decide)]
  · intro hand at_ wide rim fill wall ceiling puff period bc val km sm tm
    refine ⟨x, ?_⟩
    rw [ref112 hp c hk]
    unfold jX6_statement_463
    rw [if_pos r0, a2]
    dsimp only [b3_p]
    rw [if_neg (show ¬ (1 : Int32) = 0 by decide), b2a]
    dsimp only [b3_p]
    rw [if_neg (show ¬ (1 : Int32) = 0 by decide), if_pos rfl]
  · intro hand at_ wide rim fill wall ceiling puff period bc val second ks ss ts km sm tm ho hb0 hb5 h3 h1a h2a
    have hR' := ref112 hp c hk 1 hand at_ wide rim fill wall ceiling puff period bc val km sm tm
    unfold jX6_statement_463 at hR'
    rw [if_pos r0, a2] at hR'
    dsimp only [b3_p] at hR'
    rw [if_neg (show ¬ (1 : Int32) = 0 by decide), b2a] at hR'
    dsimp only [b3_p] at hR'
    rw [if_neg (show ¬ (1 : Int32) = 0 by decide), if_neg (show ¬ (1 : Int32) = 0 by decide)] at hR'
    unfold fX4_tellStatement fX3_addBall
    rw [if_neg (by decide), if_neg (by decide), if_neg (by decide), if_neg (by decide), if_neg (by decide), if_neg (by decide)]
    rw [if_neg (show ¬ bc < 0 by rw [fa_lt]; show ¬ bc.toInt < 0; omega)]
    rcases wi_01 v 1 9 with ⟨m1, m2, m3⟩ | ⟨m1, m2⟩
    rotate_left
    · have vz : v = 0 := by
        rw [fa_eq]
        show v.toInt = 0
        have m2' : ¬ ((1 : Int) ≤ v.toInt ∧ v.toInt ≤ (9 : Int)) := m2
        omega
      rw [if_pos vz] at hR'
      rw [m1]
      dsimp only [b1_p]
      rw [if_pos rfl]
      by_cases f5 : 5 ≤ bc
      · rw [if_pos f5]
        dsimp only [b5_p]
        rw [g_b_p (by decide)]
        exact ⟨_, _, _, _, _, _, _, _, _, _, _, _, _, _, _, _, _, _, rfl, hR', ho, hb0, hb5, h3, h1a, h2a, by decide⟩
      · rw [if_neg f5]
        dsimp only [b5_p]
        rw [g_b_p (by decide)]
        exact ⟨_, _, _, _, _, _, _, _, _, _, _, _, _, _, _, _, _, _, rfl, hR', ho, hb0, hb5, h3, h1a, h2a, by decide⟩
    have m2' : (1 : Int) ≤ v.toInt := m2
    have vz : ¬ v = 0 := by
      rw [fa_eq]
      show ¬ v.toInt = 0
      omega
    rw [if_neg vz] at hR'
    by_cases f5 : 5 ≤ bc
    · have f5' : bc = 5 := by
        rw [fa_eq]
        rw [fa_le] at f5
        have f5'' : (5 : Int) ≤ bc.toInt := f5
        show bc.toInt = 5
        omega
      rw [if_pos f5'] at hR'
      rw [if_pos f5]
      dsimp only [b5_p]
      rw [g_b_p (by decide)]
      exact ⟨_, _, _, _, _, _, _, _, _, _, _, _, _, _, _, _, _, _, rfl, hR', ho, hb0, hb5, h3, h1a, h2a, by decide⟩
    · have b5' : bc.toInt < 5 := by
        rw [fa_le] at f5
        have f5'' : ¬ (5 : Int) ≤ bc.toInt := f5
        omega
      have f5' : ¬ bc = 5 := by
        rw [fa_eq]
        show ¬ bc.toInt = 5
        omega
      have hi : bc.toInt < ((5 : Nat) : Int) := b5'
      have e5 : (bc + 1).toInt = bc.toInt + 1 := i_add1 (by omega)
      rw [if_neg f5', g_in_p hb0 hi, g_in_p hb0 hi, g_in_p hb0 hi] at hR'
      rw [if_neg f5, m1]
      dsimp only [b1_p]
      rcases wi_01 x 0 9 with ⟨y1, y2, y3⟩ | ⟨y1, y2⟩
      · rw [if_neg (show ¬ (1 : Int32) = 0 by decide), y1]
        dsimp only [b1_p]
        rw [if_neg (show ¬ (1 : Int32) = 0 by decide), g_in_p hb0 hi, g_in_p hb0 hi, g_in_p hb0 hi]
        dsimp only [b5_p]
        rw [g_b_p (by decide)]
        exact ⟨_, _, _, _, _, _, _, _, _, _, _, _, _, _, _, _, _, _, rfl, hR', ho, by omega, by omega, h3.up _ _, h1a.up _ _, h2a.up _ _, by decide⟩
      · exact absurd ⟨x0, x9⟩ y2
theorem st_all {len p : Int32} (hp : Pl len p) (L : Nat → Int32) (f s t : Int32) : Res len p f s t L := by
  by_cases c98 : lh len p L = 98
  · exact st_98 hp c98 f s t
  by_cases c99 : lh len p L = 99
  · exact st_99 hp c99 f s t
  by_cases c102 : lh len p L = 102
  · exact st_102 hp c102 f s t
  by_cases c104 : lh len p L = 104
  · exact st_104 hp c104 f s t
  by_cases c105 : lh len p L = 105
  · exact st_105 hp c105 f s t
  by_cases c112 : lh len p L = 112
  · exact st_112 hp c112 f s t
  by_cases c119 : lh len p L = 119
  · exact st_119 hp c119 f s t
  refine tailN (w := lh len p L) (f' := f) (s' := s) (t' := t) hp ?_ ?_
  · unfold fX4_readStatement
    rw [lh_c hp]
    dsimp only [b1_p]
    rw [if_neg c98, if_neg c99, if_neg c102, if_neg c104, if_neg c105, if_neg c112, if_neg c119]
  · intro hand at_ wide rim fill wall ceiling puff period bc val km sm tm
    refine ⟨val, ?_⟩
    unfold fX6_statement
    simp only [is_n hp c98, is_n hp c119, is_n hp c99, is_n hp c104, is_n hp c105, is_n hp c102, is_n hp c112, b1_p, b2_p, b3_p, eq_self, if_true, k10, if_false]
/-! the office: counted, told, in both -/
theorem says_inj {x y len p q q' : Int32} {L : Nat → Int32} (h : RefSays x len p q L) (h' : RefSays y len p q' L) : x = y ∧ q = q' := by
  obtain ⟨v1, e1⟩ := h 0 0 0 0 0 0 0 0 0 0 0 L L L
  obtain ⟨v2, e2⟩ := h' 0 0 0 0 0 0 0 0 0 0 0 L L L
  have e := Option.some.inj (e1.symm.trans e2)
  exact ⟨congrArg (fun z => z.1) e, congrArg (fun z => z.2.2.2.2.2.2.2.2.2.2.2.1) e⟩
def Good (len : Int32) (L : Nat → Int32) : Nat → Int32 → Prop
  | 0, p => p = len
  | k + 1, p => ∃ q, Pl len q ∧ RefSays 1 len p q L ∧ lh len q L = 59 ∧ Good len L k (q + 1) ∧ p.toInt + 2 ≤ q.toInt
theorem cnt_l {len : Int32} (L : Nat → Int32) (hand at_ wide rim fill wall ceiling puff period sec score thr bc : Int32) (km sm tm ah : Nat → Int32) : ∀ (n : Nat) (x1 p w f s t val : Int32), Pl len p → 0 ≤ x1.toInt → 3 * x1.toInt ≤ p.toInt → p.toInt < len.toInt → 81 - p.toInt < n →
    (∃ q w' f' s' t' val', lX4_countStatements_7 len L n x1 p w f s t = some (0, q, w', f', s', t') ∧ lX6_office_7 L n 1 hand at_ wide rim fill wall ceiling puff period sec score thr bc len p val km sm tm ah = some (-1000 - q, hand, at_, wide, rim, fill, wall, ceiling, puff, period, sec, score, thr, bc, 0, q, val', km, sm, tm, ah) ∧ Pl len q) ∨
    (∃ (k : Nat) (c val' w' f' s' t' : Int32), Good len L (k + 1) p ∧ c.toInt = x1.toInt + (k + 1 : Nat) ∧ 3 * c.toInt ≤ 80 ∧ lX4_countStatements_7 len L n x1 p w f s t = some (c, len, w', f', s', t') ∧ lX6_office_7 L n 1 hand at_ wide rim fill wall ceiling puff period sec score thr bc len p val km sm tm ah = jX6_office_53 L 1 hand at_ wide rim fill wall ceiling puff period sec score thr bc len len val' km sm tm ah) := by
  intro n
  induction n with
  | zero => intro x1 p w f s t val hp a b d e; have := hp.2.2; omega
  | succ n ih =>
    intro x1 p w f s t val hp a b d e
    have h80 := hp.2.2
    obtain ⟨m, rfl⟩ : ∃ m, n = m + 1 := ⟨n - 1, by omega⟩
    have ex : (x1 + 1).toInt = x1.toInt + 1 := i_add1 (by omega)
    rw [lX4_countStatements_7, lX6_office_7, if_neg (show ¬ 80 ≤ x1 by rw [fa_le]; show ¬ (80 : Int) ≤ x1.toInt; omega), if_neg (show ¬ len ≤ p by rw [fa_le]; omega), if_neg (show ¬ (1 : Int32) = 0 by decide)]
    rcases st_all hp L f s t with ⟨q, w', f', s', t', e1, hq, h⟩ | ⟨q, w', f', s', t', e1, hq, hpq, e59, hy, -⟩
    · rw [e1]
      dsimp only [b6_p]
      rw [if_pos rfl]
      rcases h with hn | ⟨hy, e59⟩
      · obtain ⟨val', e2⟩ := hn hand at_ wide rim fill wall ceiling puff period bc val km sm tm
        rw [e2]
        dsimp only [b16_p]
        rw [if_neg (show ¬ (-1 : Int32) = 1 by decide)]
        unfold jX6_office_33 jX6_office_34
        rw [if_pos rfl, lX6_office_7, if_pos rfl]
        unfold jX6_office_53
        rw [if_pos rfl]
        exact Or.inl ⟨q, w', f', s', t', val', rfl, rfl, hq⟩
      · obtain ⟨val', e2⟩ := hy hand at_ wide rim fill wall ceiling puff period bc val km sm tm
        rw [e2]
        dsimp only [b16_p]
        rw [if_pos rfl, is_n hq e59]
        dsimp only [b2_p]
        rw [if_pos rfl]
        unfold jX6_office_33 jX6_office_34
        rw [if_pos rfl, lX6_office_7, if_pos rfl]
        unfold jX6_office_53
        rw [if_pos rfl]
        exact Or.inl ⟨q, w', f', s', t', val', rfl, rfl, hq⟩
    · obtain ⟨hq1, eq1⟩ := hq.nx (lh_lt (by decide) e59)
      have h81 := hq1.2.1
      obtain ⟨val', e2⟩ := hy hand at_ wide rim fill wall ceiling puff period bc val km sm tm
      rw [e1, e2]
      dsimp only [b6_p, b16_p]
      rw [if_neg (show ¬ (1 : Int32) = 0 by decide), if_pos rfl, is_y hq (by decide) e59]
      dsimp only [b2_p]
      rw [if_neg (show ¬ (1 : Int32) = 0 by decide)]
      unfold jX6_office_34
      rw [if_neg (show ¬ (1 : Int32) = 0 by decide)]
      by_cases z : q + 1 = len
      · rw [if_pos z, lX4_countStatements_7, if_neg (show ¬ 80 ≤ x1 + 1 by rw [fa_le]; show ¬ (80 : Int) ≤ (x1 + 1).toInt; omega), if_pos (show len ≤ q + 1 by rw [fa_le, z]; exact Int.le_refl _)]
        refine Or.inr ⟨0, x1 + 1, val', w', f', s', t', ⟨q, hq, hy, e59, z, hpq⟩, by omega, by omega, ?_, ?_⟩
        · rw [z]
        · rw [z]
      · have z' : (q + 1).toInt < len.toInt := by
          rw [fa_eq] at z
          omega
        rw [if_neg z]
        rcases ih (x1 + 1) (q + 1) w' f' s' t' val' hq1 (by omega) (by omega) z' (by omega) with ⟨q2, w2, f2, s2, t2, v2, e3, e4, hq2⟩ | ⟨k, c, v2, w2, f2, s2, t2, hg, hc, hc2, e3, e4⟩
        · exact Or.inl ⟨q2, w2, f2, s2, t2, v2, e3, e4, hq2⟩
        · exact Or.inr ⟨k + 1, c, v2, w2, f2, s2, t2, ⟨q, hq, hy, e59, hg, hpq⟩, by omega, hc2, e3, e4⟩
theorem tell_l {len c : Int32} (L : Nat → Int32) {hand0 at0 wide0 rim0 fill0 wall0 ceiling0 puff0 period0 sec score thr bc0 : Int32} {km0 sm0 tm0 ah : Nat → Int32} (hI : Img ah hand0 at0 wide0 rim0 fill0 wall0 ceiling0 puff0 period0 sec score thr bc0 km0 sm0 tm0) : ∀ (k n : Nat) (x3 p w f s t val hand at_ wide rim fill wall ceiling puff period bc : Int32) (ks ss ts km sm tm : Nat → Int32), Good len L k p → Pl len p → c.toInt = x3.toInt + (k : Nat) → k < n → OkO hand at_ wide rim fill wall ceiling puff period sec → 0 ≤ bc.toInt → bc.toInt ≤ 5 → AEq 5 ks km → AEq 5 ss sm → AEq 5 ts tm → c.toInt ≤ 80 → 0 ≤ x3.toInt →
    (∃ r p' w' f' s' t' hand' at_' wide' rim' fill' wall' ceiling' puff' period' bc' k1 s1 t1 q val' k2 s2 t2, lX4_tell_25 len L n c x3 p w f s t hand at_ wide rim fill wall ceiling puff period bc ks ss ts = some (r, p', w', f', s', t', hand', at_', wide', rim', fill', wall', ceiling', puff', period', bc', k1, s1, t1) ∧ lX6_office_86 L n x3 hand at_ wide rim fill wall ceiling puff period sec score thr bc len p val km sm tm ah = some (r, hand0, at0, wide0, rim0, fill0, wall0, ceiling0, puff0, period0, sec, score, thr, bc0, 0, q, val', k2, s2, t2, ah) ∧ r ≤ 0 ∧ AEq 5 k2 km0 ∧ AEq 5 s2 sm0 ∧ AEq 5 t2 tm0) ∨
    (∃ p' w' f' s' t' hand' at_' wide' rim' fill' wall' ceiling' puff' period' bc' k1 s1 t1 q val' k2 s2 t2, lX4_tell_25 len L n c x3 p w f s t hand at_ wide rim fill wall ceiling puff period bc ks ss ts = some (c, p', w', f', s', t', hand', at_', wide', rim', fill', wall', ceiling', puff', period', bc', k1, s1, t1) ∧ lX6_office_86 L n x3 hand at_ wide rim fill wall ceiling puff period sec score thr bc len p val km sm tm ah = some (c, hand', at_', wide', rim', fill', wall', ceiling', puff', period', sec, score, thr, bc', 0, q, val', k2, s2, t2, ah) ∧ OkO hand' at_' wide' rim' fill' wall' ceiling' puff' period' sec ∧ 0 ≤ bc'.toInt ∧ bc'.toInt ≤ 5 ∧ AEq 5 k1 k2 ∧ AEq 5 s1 s2 ∧ AEq 5 t1 t2) := by
  intro k
  induction k with
  | zero =>
    intro n x3 p w f s t val hand at_ wide rim fill wall ceiling puff period bc ks ss ts km sm tm hg hp hc hn ho hb0 hb5 h3 h1 h2 hc80 hx0
    obtain ⟨m, rfl⟩ : ∃ m, n = m + 1 := ⟨n - 1, by omega⟩
    have hcx : c = x3 := by rw [fa_eq]; omega
    have hg' : p = len := hg
    subst hcx
    subst hg'
    rw [lX4_tell_25, lX6_office_86, if_pos (show c ≤ c by rw [fa_le]; exact Int.le_refl _), if_pos (show p ≤ p by rw [fa_le]; exact Int.le_refl _)]
    exact Or.inr ⟨_, _, _, _, _, _, _, _, _, _, _, _, _, _, _, _, _, _, _, _, _, _, _, rfl, rfl, ho, hb0, hb5, h3, h1, h2⟩
  | succ k ih =>
    intro n x3 p w f s t val hand at_ wide rim fill wall ceiling puff period bc ks ss ts km sm tm hg hp hc hn ho hb0 hb5 h3 h1 h2 hc80 hx0
    obtain ⟨m, rfl⟩ : ∃ m, n = m + 1 := ⟨n - 1, by omega⟩
    obtain ⟨q, hq, hy, e59, hg2, hpq⟩ := hg
    have hql := hq.2.1
    have h80 := hp.2.2
    have hp0 := hp.1
    rw [lX4_tell_25, lX6_office_86, if_neg (show ¬ c ≤ x3 by rw [fa_le]; omega), if_neg (show ¬ len ≤ p by rw [fa_le]; omega)]
    rcases st_all hp L f s t with ⟨q', w', f', s', t', e1, hq', h⟩ | ⟨q', w', f', s', t', e1, hq', hpq', e59', hy', ht⟩
    · exfalso
      rcases h with hn' | ⟨hy', e59'⟩
      · exact absurd (says_inj hn' hy).1 (by decide)
      · have e := (says_inj hy' hy).2
        rw [e] at e59'
        exact e59' e59
    · have eqq := (says_inj hy' hy).2
      subst eqq
      obtain ⟨hq1, eq1⟩ := hq.nx (lh_lt (by decide) e59)
      obtain ⟨r, val', a1, a2, a3, a4, a5, a6, a7, a8, a9, bc', k1, s1, t1, k2, s2, t2, e2, e3, ho', hb0', hb5', h3', h1', h2', hr⟩ := ht hand at_ wide rim fill wall ceiling puff period bc val sec ks ss ts km sm tm ho hb0 hb5 h3 h1 h2
      rw [e1, e3]
      dsimp only [b6_p, b16_p]
      rw [if_neg (show ¬ (1 : Int32) = 0 by decide), e2]
      dsimp only [b14_p]
      rcases hr with rfl | rfl
      · obtain ⟨k4, s4, t4, e4, d3, d1, d2⟩ := again_eq ah hI k2 s2 t2
        rw [if_pos rfl, if_pos rfl, e4]
        dsimp only [b16_p]
        refine Or.inl ⟨-2000 - p, _, _, _, _, _, _, _, _, _, _, _, _, _, _, _, _, _, _, _, _, k4, s4, t4, rfl, rfl, ?_, d3, d1, d2⟩
        have e5 : (-2000 - p).toInt = -2000 - p.toInt := fb_subI (x := -2000) (y := p) (by show _ ≤ (-2000 : Int) - _; omega) (by show (-2000 : Int) - _ < _; omega)
        rw [fa_le, e5]
        show -2000 - p.toInt ≤ (0 : Int)
        omega
      · have ex : (x3 + 1).toInt = x3.toInt + 1 := i_add1 (by omega)
        rw [if_neg (show ¬ (1 : Int32) = 0 by decide), if_neg (show ¬ (1 : Int32) = 0 by decide), is_y hq (by decide) e59]
        dsimp only [b2_p]
        exact ih m (x3 + 1) (q' + 1) _ _ _ _ _ _ _ _ _ _ _ _ _ _ _ _ _ _ _ _ _ hg2 hq1 (by omega) (by omega) ho' hb0' hb5' h3' h1' h2' hc80 (by omega)
theorem p_office {hand at_ wide rim fill wall ceiling puff period sec score thr bc len : Int32} {ks ss ts km sm tm : Nat → Int32} (ho : OkO hand at_ wide rim fill wall ceiling puff period sec) (hb0 : 0 ≤ bc.toInt) (hb5 : bc.toInt ≤ 5) (h1 : AEq 5 ss sm) (h2 : AEq 5 ts tm) (h3 : AEq 5 ks km) (hl0 : 0 ≤ len.toInt) (hl80 : len.toInt ≤ 80) (wd f s t val : Int32) (nk ns nt L ah : Nat → Int32) :
    ∃ r c1 c2 c3 c4 c5 c6 c7 c8 c9 c10 c11 c12 c13 hand' at_' wide' rim' fill' wall' ceiling' puff' period' bc' k1 ck s1 cs t1 ct w1 w2 w3 w4 w5 q val' k2 s2 t2 ah', fX5_office hand at_ wide rim fill wall ceiling puff period sec score thr bc ks nk ss ns ts nt len wd f s t L = some (r, c1, c2, c3, c4, c5, c6, c7, c8, c9, c10, c11, c12, c13, hand', at_', wide', rim', fill', wall', ceiling', puff', period', sec, score, thr, bc', k1, ck, s1, cs, t1, ct, 0, w1, w2, w3, w4, w5) ∧
      fX6_office hand at_ wide rim fill wall ceiling puff period sec score thr bc len val L km sm tm ah = some (r, hand', at_', wide', rim', fill', wall', ceiling', puff', period', sec, score, thr, bc', 0, q, val', k2, s2, t2, ah') ∧ OkO hand' at_' wide' rim' fill' wall' ceiling' puff' period' sec ∧ 0 ≤ bc'.toInt ∧ bc'.toInt ≤ 5 ∧ AEq 5 s1 s2 ∧ AEq 5 t1 t2 ∧ AEq 5 k1 k2 := by
  unfold fX5_office fX6_office
  obtain ⟨kq, sq, tq, e0, g3, g1, g2⟩ := become_eq hand at_ wide rim fill wall ceiling puff period sec score thr bc ks nk ss ns ts nt
  rw [e0]
  dsimp only [b16_p]
  have hp : Pl len 0 := ⟨by decide, hl0, hl80⟩
  have z0 : (0 : Int32).toInt = 0 := by decide
  have bad : ∀ q : Int32, Pl len q → (-1000 - q) ≤ 0 := by
    intro q hq
    have a := hq.1
    have b := hq.2.1
    have e5 : (-1000 - q).toInt = -1000 - q.toInt := fb_subI (x := -1000) (y := q) (by show _ ≤ (-1000 : Int) - _; omega) (by show (-1000 : Int) - _ < _; omega)
    rw [fa_le, e5]
    show -1000 - q.toInt ≤ (0 : Int)
    omega
  have fin : ∀ q w' f' s' t' val', fX4_countStatements len wd f s t L = some (0, q, w', f', s', t') → lX6_office_7 L 100 1 hand at_ wide rim fill wall ceiling puff period sec score thr bc len 0 val km sm tm ah = some (-1000 - q, hand, at_, wide, rim, fill, wall, ceiling, puff, period, sec, score, thr, bc, 0, q, val', km, sm, tm, ah) → Pl len q →
      ∃ r c1 c2 c3 c4 c5 c6 c7 c8 c9 c10 c11 c12 c13 hand' at_' wide' rim' fill' wall' ceiling' puff' period' bc' k1 ck s1 cs t1 ct w1 w2 w3 w4 w5 q val' k2 s2 t2 ah', b19 (fX4_tell len wd f s t L hand at_ wide rim fill wall ceiling puff period bc kq sq tq) (fun r19 w20 w21 w22 w23 w24 w25 w26 w27 w28 w29 w30 w31 w32 w33 w34 w35 w36 w37 =>
  if r19 ≤ 0 then (
   b1 (fX4_clear) (fun w40 =>
   some (r19, w25, w26, w27, w28, w29, w30, w31, w32, w33, sec, score, thr, w34, hand, at_, wide, rim, fill, wall, ceiling, puff, period, sec, score, thr, bc, ks, w35, ss, w36, ts, w37, w40, w20, w21, w22, w23, w24)))
  else (
  b16 (fX3_become w25 w26 w27 w28 w29 w30 w31 w32 w33 sec score thr w34 w35 ks w36 ss w37 ts) (fun w43 w44 w45 w46 w47 w48 w49 w50 w51 w52 w53 w54 w55 w56 w57 w58 =>
  b1 (fX4_clear) (fun w61 =>
  some (r19, w25, w26, w27, w28, w29, w30, w31, w32, w33, sec, score, thr, w34, w43, w44, w45, w46, w47, w48, w49, w50, w51, w52, w53, w54, w55, w56, w35, w57, w36, w58, w37, w61, w20, w21, w22, w23, w24))))) = some (r, c1, c2, c3, c4, c5, c6, c7, c8, c9, c10, c11, c12, c13, hand', at_', wide', rim', fill', wall', ceiling', puff', period', sec, score, thr, bc', k1, ck, s1, cs, t1, ct, 0, w1, w2, w3, w4, w5) ∧
      lX6_office_7 L 100 1 hand at_ wide rim fill wall ceiling puff period sec score thr bc len 0 val km sm tm ah = some (r, hand', at_', wide', rim', fill', wall', ceiling', puff', period', sec, score, thr, bc', 0, q, val', k2, s2, t2, ah') ∧ OkO hand' at_' wide' rim' fill' wall' ceiling' puff' period' sec ∧ 0 ≤ bc'.toInt ∧ bc'.toInt ≤ 5 ∧ AEq 5 s1 s2 ∧ AEq 5 t1 t2 ∧ AEq 5 k1 k2 := by
    intro q w' f' s' t' val' e1 e2 hq
    unfold fX4_tell
    rw [e1]
    dsimp only [b6_p]
    rw [if_neg (show ¬ (0 : Int32) < 0 by decide)]
    dsimp only [b19_p]
    rw [if_pos (bad q hq)]
    unfold fX4_clear
    dsimp only [b1_p]
    exact ⟨_, _, _, _, _, _, _, _, _, _, _, _, _, _, _, _, _, _, _, _, _, _, _, _, _, _, _, _, _, _, _, _, _, _, _, _, _, _, _, _, _, rfl, e2, ho, hb0, hb5, h1, h2, h3⟩
  by_cases hz : len.toInt ≤ 0
  · have hlz : len = 0 := by rw [fa_eq]; show len.toInt = 0; omega
    subst hlz
    have e1 : fX4_countStatements 0 wd f s t L = some (0, 0, wd, f, s, t) := by
      unfold fX4_countStatements
      rw [lX4_countStatements_7, if_neg (by decide), if_pos (by decide)]
    rcases st_all hp L f s t with ⟨q, w', f', s', t', -, hq, h⟩ | ⟨q, w', f', s', t', -, hq, hpq, -⟩
    · have hq0 : q = 0 := by
        have a := hq.1
        have b := hq.2.1
        rw [fa_eq, z0]
        rw [z0] at b
        omega
      subst hq0
      rcases h with hn | ⟨hy, e59⟩
      · obtain ⟨val', e2⟩ := hn hand at_ wide rim fill wall ceiling puff period bc val km sm tm
        refine fin 0 wd f s t val' e1 ?_ hp
        rw [lX6_office_7, if_neg (show ¬ (1 : Int32) = 0 by decide), e2]
        dsimp only [b16_p]
        rw [if_neg (show ¬ (-1 : Int32) = 1 by decide)]
        unfold jX6_office_33 jX6_office_34
        rw [if_pos rfl, lX6_office_7, if_pos rfl]
        unfold jX6_office_53
        rw [if_pos rfl]
      · obtain ⟨val', e2⟩ := hy hand at_ wide rim fill wall ceiling puff period bc val km sm tm
        refine fin 0 wd f s t val' e1 ?_ hp
        rw [lX6_office_7, if_neg (show ¬ (1 : Int32) = 0 by decide), e2]
        dsimp only [b16_p]
        rw [if_pos rfl, is_n hq e59]
        dsimp only [b2_p]
        rw [if_pos rfl]
        unfold jX6_office_33 jX6_office_34
        rw [if_pos rfl, lX6_office_7, if_pos rfl]
        unfold jX6_office_53
        rw [if_pos rfl]
    · exfalso
      have b := hq.2.1
      rw [z0] at b hpq
      omega
  · rcases cnt_l L hand at_ wide rim fill wall ceiling puff period sec score thr bc km sm tm ah 100 0 0 wd f s t val hp (by decide) (by decide) (by rw [z0]; omega) (by rw [z0]; omega) with ⟨q, w', f', s', t', val', e1, e2, hq⟩ | ⟨k, c, val', w', f', s', t', hg, hc, hc80, e1, e2⟩
    · exact fin q w' f' s' t' val' e1 e2 hq
    · rw [z0] at hc
      obtain ⟨ah', ek, hI⟩ := keep_eq hand at_ wide rim fill wall ceiling puff period sec score thr bc km ah sm tm
      unfold fX4_tell fX4_countStatements
      rw [e1, e2]
      dsimp only [b6_p]
      rw [if_pos (show 0 < c by rw [fa_lt]; show 0 < c.toInt; omega)]
      unfold jX6_office_53
      rw [if_neg (show ¬ (1 : Int32) = 0 by decide), ek]
      dsimp only [b1_p]
      rcases tell_l (c := c) L hI (k + 1) 100 0 0 w' f' s' t' val' hand at_ wide rim fill wall ceiling puff period bc kq sq tq km sm tm hg hp (by rw [z0]; omega) (by omega) ho hb0 hb5 (g3.tr h3) (g1.tr h1) (g2.tr h2) (by omega) (by decide) with ⟨r, p', w2, f2, s2, t2, a1, a2, a3, a4, a5, a6, a7, a8, a9, bc', k1, s1, t1, q, v2, k3, s3, t3, e3, e4, hr, d3, d1, d2⟩ | ⟨p', w2, f2, s2, t2, a1, a2, a3, a4, a5, a6, a7, a8, a9, bc', k1, s1, t1, q, v2, k3, s3, t3, e3, e4, ho', hb0', hb5', d3, d1, d2⟩
      · rw [e3, e4]
        dsimp only [b19_p]
        rw [if_pos hr]
        unfold fX4_clear
        dsimp only [b1_p]
        exact ⟨_, _, _, _, _, _, _, _, _, _, _, _, _, _, _, _, _, _, _, _, _, _, _, _, _, _, _, _, _, _, _, _, _, _, _, _, _, _, _, _, _, rfl, rfl, ho, hb0, hb5, h1.tr d1.sy, h2.tr d2.sy, h3.tr d3.sy⟩
      · rw [e3, e4]
        dsimp only [b19_p]
        rw [if_neg (show ¬ c ≤ 0 by rw [fa_le]; show ¬ c.toInt ≤ 0; omega)]
        obtain ⟨k5, s5, t5, e5, y3, y1, y2⟩ := become_eq a1 a2 a3 a4 a5 a6 a7 a8 a9 sec score thr bc' k1 ks s1 ss t1 ts
        rw [e5]
        unfold fX4_clear
        dsimp only [b16_p, b1_p]
        exact ⟨_, _, _, _, _, _, _, _, _, _, _, _, _, _, _, _, _, _, _, _, _, _, _, _, _, _, _, _, _, _, _, _, _, _, _, _, _, _, _, _, _, rfl, rfl, ho', hb0', hb5', y1.tr d1, y2.tr d2, y3.tr d3⟩
