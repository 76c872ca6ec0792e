/-! a statement: read and told, in both -/
def RefSays (x : Int32) (len p q : Int32) (L : Nat → Int32) : Prop := ∀ (hand at_ wide rim fill wall ceiling puff period bc val : Int32) (km sm tm : Nat → Int32), ∃ val', fX6_statement 0 hand at_ wide rim fill wall ceiling puff period bc len p val L km sm tm = some (x, hand, at_, wide, rim, fill, wall, ceiling, puff, period, bc, q, val', km, sm, tm)
def RefTell (len p q w f s t : Int32) (L : Nat → Int32) : Prop := ∀ (hand at_ wide rim fill wall ceiling puff period bc val second : Int32) (ks ss ts km sm tm : Nat → Int32), OkO hand at_ wide rim fill wall ceiling puff period second → 0 ≤ bc.toInt → bc.toInt ≤ 5 → AEq 5 ks km → AEq 5 ss sm → AEq 5 ts tm →
  ∃ (r val' hand' at_' wide' rim' fill' wall' ceiling' puff' period' bc' : Int32) (k1 s1 t1 k2 s2 t2 : Nat → Int32), fX4_tellStatement w f s t hand at_ wide rim fill wall ceiling puff period bc ks ss ts = some (r, hand', at_', wide', rim', fill', wall', ceiling', puff', period', bc', k1, s1, t1) ∧ fX6_statement 1 hand at_ wide rim fill wall ceiling puff period bc len p val L km sm tm = some (r, hand', at_', wide', rim', fill', wall', ceiling', puff', period', bc', q, val', k2, s2, t2) ∧
    OkO hand' at_' wide' rim' fill' wall' ceiling' puff' period' second ∧ 0 ≤ bc'.toInt ∧ bc'.toInt ≤ 5 ∧ AEq 5 k1 k2 ∧ AEq 5 s1 s2 ∧ AEq 5 t1 t2 ∧ (r = 0 ∨ r = 1)
def Res (len p f s t : Int32) (L : Nat → Int32) : Prop :=
  (∃ q w f' s' t', fX4_readStatement len p f s t L = some (0, q, w, f', s', t') ∧ Pl len q ∧ (RefSays (-1) len p q L ∨ (RefSays 1 len p q L ∧ ¬ lh len q L = 59))) ∨
  (∃ q w f' s' t', fX4_readStatement len p f s t L = some (1, q + 1, w, f', s', t') ∧ Pl len q ∧ p.toInt + 2 ≤ q.toInt ∧ lh len q L = 59 ∧ RefSays 1 len p q L ∧ RefTell len p q w f' s' t' L)
theorem tailN {len p q w f' s' t' f s t : Int32} {L : Nat → Int32} (hq : Pl len q) (hcl : fX4_readStatement len p f s t L = some (0, q, w, f', s', t')) (hn : RefSays (-1) len p q L) : Res len p f s t L := Or.inl ⟨q, w, f', s', t', hcl, hq, Or.inl hn⟩
theorem tailA {len p q w f' s' t' f s t : Int32} {L : Nat → Int32} (hq : Pl len q) (hpq : p.toInt + 2 ≤ q.toInt)
    (hcl : fX4_readStatement len p f s t L = b2 (fX4_passLetter 59 len q L) (fun r w' => if r = 0 then some (0, w', w, f', s', t') else some (1, w', w, f', s', t')))
    (hy : RefSays 1 len p q L) (ht : RefTell len p q w f' s' t' L) : Res len p f s t L := by
  by_cases e : lh len q L = 59
  · refine Or.inr ⟨q, w, f', s', t', ?_, hq, hpq, e, hy, ht⟩
    rw [hcl, pass_y hq e]
    dsimp only [b2_p]
    rw [if_neg (by decide)]
  · refine Or.inl ⟨q, w, f', s', t', ?_, hq, Or.inr ⟨hy, e⟩⟩
    rw [hcl, pass_n hq e]
    dsimp only [b2_p]
    rw [if_pos rfl]
theorem st_99 {len p : Int32} (hp : Pl len p) {L : Nat → Int32} (c : lh len p L = 99) (f s t : Int32) : Res len p f s t L := by
  have hl := lh_lt (by decide) c
  obtain ⟨h1, e1⟩ := hp.nx hl
  have k99 : ¬ (99 : Int32) = -1 := by decide
  have n98 : ¬ lh len p L = 98 := by rw [c]; decide
  have n119 : ¬ lh len p L = 119 := by rw [c]; decide
  rcases num2 h1 L with ⟨a1, a2⟩ | ⟨v, q, a1, a2, v0, v9, hq, hpq⟩
  · refine tailN (w := 99) (f' := -1) (s' := s) (t' := t) h1 ?_ ?_
    · unfold fX4_readStatement
      rw [lh_c hp, c]
      dsimp only [b1_p]
      rw [if_neg (by decide), if_pos rfl]
      rw [rf_n a1 (by decide)]
      dsimp only [b3_p]
      rw [if_pos rfl]
    · intro hand at_ wide rim fill wall ceiling puff period bc val km sm tm
      refine ⟨val, ?_⟩
      unfold fX6_statement
      simp only [is_n hp n98, is_n hp n119, is_y hp k99 c, b1_p, b2_p, b3_p, b4_p, wi_eq, eq_self, if_true, k10, if_false, a2]
  · have vn : ¬ v < 0 := by rw [fa_lt]; show ¬ v.toInt < 0; omega
    refine tailA (w := 99) (f' := v) (s' := s) (t' := t) hq (by omega) ?_ ?_ ?_
    · unfold fX4_readStatement
      rw [lh_c hp, c]
      dsimp only [b1_p]
      rw [if_neg (by decide), if_pos rfl]
      rw [rf_y a1 vn]
      dsimp only [b3_p]
      rw [if_neg (show ¬ (1 : Int32) = 0 by decide)]
    · intro hand at_ wide rim fill wall ceiling puff period bc val km sm tm
      refine ⟨v, ?_⟩
      unfold fX6_statement
      simp only [is_n hp n98, is_n hp n119, is_y hp k99 c, b1_p, b2_p, b3_p, b4_p, wi_eq, eq_self, if_true, k10, if_false, a2]
    · intro hand at_ wide rim fill wall ceiling puff period bc val second ks ss ts km sm tm ho hb0 hb5 h3 h1a h2a
      obtain ⟨o1, o2, o3, o4, o5, o6, o7, o8, o9, o10, o11⟩ := ho
      rcases wi_01 v 10 60 with ⟨w1, w2, w3⟩ | ⟨w1, w2⟩
      · have w2' : (10 : Int) ≤ v.toInt := w2
        have w3' : v.toInt ≤ (60 : Int) := w3
        refine ⟨1, v, hand, at_, wide, rim, fill, wall, v, puff, period, bc, ks, ss, ts, km, sm, tm, ?_, ?_, ?_, hb0, hb5, h3, h1a, h2a, by decide⟩
        · unfold fX4_tellStatement fX3_setCeiling
          rw [if_neg (by decide), if_pos rfl]
          simp only [w1, b1_p, b2_p, eq_self, if_true, k10, if_false]
          rw [g_b_p (by decide)]
        · unfold fX6_statement
          simp only [is_n hp n98, is_n hp n119, is_y hp k99 c, b1_p, b2_p, b3_p, b4_p, wi_eq, eq_self, if_true, k10, if_false, a2, w1]
        · exact ⟨o1, o2, o3, o4, o5, o6, ⟨by omega, by omega⟩, o8, o9, o10, o11⟩
      · skip
        refine ⟨0, v, hand, at_, wide, rim, fill, wall, ceiling, puff, period, bc, ks, ss, ts, km, sm, tm, ?_, ?_, ?_, hb0, hb5, h3, h1a, h2a, by decide⟩
        · unfold fX4_tellStatement fX3_setCeiling
          rw [if_neg (by decide), if_pos rfl]
          simp only [w1, b1_p, b2_p, eq_self, if_true, k10, if_false]
          rw [g_b_p (by decide)]
        · unfold fX6_statement
          simp only [is_n hp n98, is_n hp n119, is_y hp k99 c, b1_p, b2_p, b3_p, b4_p, wi_eq, eq_self, if_true, k10, if_false, a2, w1]
        · exact ⟨o1, o2, o3, o4, o5, o6, o7, o8, o9, o10, o11⟩
theorem st_104 {len p : Int32} (hp : Pl len p) {L : Nat → Int32} (c : lh len p L = 104) (f s t : Int32) : Res len p f s t L := by
  have hl := lh_lt (by decide) c
  obtain ⟨h1, e1⟩ := hp.nx hl
  have k104 : ¬ (104 : Int32) = -1 := by decide
  have n98 : ¬ lh len p L = 98 := by rw [c]; decide
  have n119 : ¬ lh len p L = 119 := by rw [c]; decide
  have n99 : ¬ lh len p L = 99 := by rw [c]; decide
  rcases num1 h1 L with ⟨a1, a2⟩ | ⟨v, q, a1, a2, v0, v9, hq, hpq⟩
  · refine tailN (w := 104) (f' := -1) (s' := s) (t' := t) h1 ?_ ?_
    · unfold fX4_readStatement
      rw [lh_c hp, c]
      dsimp only [b1_p]
      rw [if_neg (by decide), if_neg (by decide), if_neg (by decide), if_pos rfl]
      rw [rf_n a1 (by decide)]
      dsimp only [b3_p]
      rw [if_pos rfl]
    · intro hand at_ wide rim fill wall ceiling puff period bc val km sm tm
      refine ⟨val, ?_⟩
      unfold fX6_statement
      simp only [is_n hp n98, is_n hp n119, is_n hp n99, is_y hp k104 c, b1_p, b2_p, b3_p, b4_p, wi_eq, eq_self, if_true, k10, if_false, a2]
  · have vn : ¬ v < 0 := by rw [fa_lt]; show ¬ v.toInt < 0; omega
    refine tailA (w := 104) (f' := v) (s' := s) (t' := t) hq (by omega) ?_ ?_ ?_
    · unfold fX4_readStatement
      rw [lh_c hp, c]
      dsimp only [b1_p]
      rw [if_neg (by decide), if_neg (by decide), if_neg (by decide), if_pos rfl]
      rw [rf_y a1 vn]
      dsimp only [b3_p]
      rw [if_neg (show ¬ (1 : Int32) = 0 by decide)]
    · intro hand at_ wide rim fill wall ceiling puff period bc val km sm tm
      refine ⟨v, ?_⟩
      unfold fX6_statement
      simp only [is_n hp n98, is_n hp n119, is_n hp n99, is_y hp k104 c, b1_p, b2_p, b3_p, b4_p, wi_eq, eq_self, if_true, k10, if_false, a2]
    · intro hand at_ wide rim fill wall ceiling puff period bc val second ks ss ts km sm tm ho hb0 hb5 h3 h1a h2a
      obtain ⟨o1, o2, o3, o4, o5, o6, o7, o8, o9, o10, o11⟩ := ho
      rcases wi_01 v 0 9 with ⟨w1, w2, w3⟩ | ⟨w1, w2⟩
      · have w2' : (0 : Int) ≤ v.toInt := w2
        have w3' : v.toInt ≤ (9 : Int) := w3
        refine ⟨1, v, v, at_, wide, rim, fill, wall, ceiling, puff, period, bc, ks, ss, ts, km, sm, tm, ?_, ?_, ?_, hb0, hb5, h3, h1a, h2a, by decide⟩
        · unfold fX4_tellStatement fX3_setHand
          rw [if_neg (by decide), if_neg (by decide), if_neg (by decide), if_pos rfl]
          simp only [w1, b1_p, b2_p, eq_self, if_true, k10, if_false]
          rw [g_b_p (by decide)]
        · unfold fX6_statement
          simp only [is_n hp n98, is_n hp n119, is_n hp n99, is_y hp k104 c, b1_p, b2_p, b3_p, b4_p, wi_eq, eq_self, if_true, k10, if_false, a2]
        · exact ⟨⟨by omega, by omega⟩, o2, o3, o4, o5, o6, o7, o8, o9, o10, o11⟩
      · exfalso
        apply w2
        have w2' : ((0 : Int) ≤ v.toInt ∧ v.toInt ≤ (9 : Int)) := ⟨by omega, by omega⟩
        exact w2'
theorem st_105 {len p : Int32} (hp : Pl len p) {L : Nat → Int32} (c : lh len p L = 105) (f s t : Int32) : Res len p f s t L := by
  have hl := lh_lt (by decide) c
  obtain ⟨h1, e1⟩ := hp.nx hl
  have k105 : ¬ (105 : Int32) = -1 := by decide
  have n98 : ¬ lh len p L = 98 := by rw [c]; decide
  have n119 : ¬ lh len p L = 119 := by rw [c]; decide
  have n99 : ¬ lh len p L = 99 := by rw [c]; decide
  have n104 : ¬ lh len p L = 104 := by rw [c]; decide
  rcases num1 h1 L with ⟨a1, a2⟩ | ⟨v, q, a1, a2, v0, v9, hq, hpq⟩
  · refine tailN (w := 105) (f' := -1) (s' := s) (t' := t) h1 ?_ ?_
    · unfold fX4_readStatement
      rw [lh_c hp, c]
      dsimp only [b1_p]
      rw [if_neg (by decide), if_neg (by decide), if_neg (by decide), if_neg (by decide), if_pos rfl]
      rw [rf_n a1 (by decide)]
      dsimp only [b3_p]
      rw [if_pos rfl]
    · intro hand at_ wide rim fill wall ceiling puff period bc val km sm tm
      refine ⟨val, ?_⟩
      unfold fX6_statement
      simp only [is_n hp n98, is_n hp n119, is_n hp n99, is_n hp n104, is_y hp k105 c, b1_p, b2_p, b3_p, b4_p, wi_eq, eq_self, if_true, k10, if_false, a2]
  · have vn : ¬ v < 0 := by rw [fa_lt]; show ¬ v.toInt < 0; omega
    refine tailA (w := 105) (f' := v) (s' := s) (t' := t) hq (by omega) ?_ ?_ ?_
    · unfold fX4_readStatement
      rw [lh_c hp, c]
      dsimp only [b1_p]
      rw [if_neg (by decide), if_neg (by decide), if_neg (by decide), if_neg (by decide), if_pos rfl]
      rw [rf_y a1 vn]
      dsimp only [b3_p]
      rw [if_neg (show ¬ (1 : Int32) = 0 by decide)]
    · intro hand at_ wide rim fill wall ceiling puff period bc val km sm tm
      refine ⟨v, ?_⟩
      unfold fX6_statement
      simp only [is_n hp n98, is_n hp n119, is_n hp n99, is_n hp n104, is_y hp k105 c, b1_p, b2_p, b3_p, b4_p, wi_eq, eq_self, if_true, k10, if_false, a2]
    · intro hand at_ wide rim fill wall ceiling puff period bc val second ks ss ts km sm tm ho hb0 hb5 h3 h1a h2a
      obtain ⟨o1, o2, o3, o4, o5, o6, o7, o8, o9, o10, o11⟩ := ho
      rcases wi_01 v 0 9 with ⟨w1, w2, w3⟩ | ⟨w1, w2⟩
      · have w2' : (0 : Int) ≤ v.toInt := w2
        have w3' : v.toInt ≤ (9 : Int) := w3
        refine ⟨1, v, hand, at_, wide, rim, v, wall, ceiling, puff, period, bc, ks, ss, ts, km, sm, tm, ?_, ?_, ?_, hb0, hb5, h3, h1a, h2a, by decide⟩
        · unfold fX4_tellStatement fX3_setFill
          rw [if_neg (by decide), if_neg (by decide), if_neg (by decide), if_neg (by decide), if_pos rfl]
          simp only [w1, b1_p, b2_p, eq_self, if_true, k10, if_false]
          rw [g_b_p (by decide)]
        · unfold fX6_statement
          simp only [is_n hp n98, is_n hp n119, is_n hp n99, is_n hp n104, is_y hp k105 c, b1_p, b2_p, b3_p, b4_p, wi_eq, eq_self, if_true, k10, if_false, a2]
        · exact ⟨o1, o2, o3, o4, ⟨by omega, by omega⟩, o6, o7, o8, o9, o10, o11⟩
      · exfalso
        apply w2
        have w2' : ((0 : Int) ≤ v.toInt ∧ v.toInt ≤ (9 : Int)) := ⟨by omega, by omega⟩
        exact w2'
theorem st_119 {len p : Int32} (hp : Pl len p) {L : Nat → Int32} (c : lh len p L = 119) (f s t : Int32) : Res len p f s t L := by
  have hl := lh_lt (by decide) c
  obtain ⟨h1, e1⟩ := hp.nx hl
  have k119 : ¬ (119 : Int32) = -1 := by decide
  have n98 : ¬ lh len p L = 98 := by rw [c]; decide
  rcases num2 h1 L with ⟨a1, a2⟩ | ⟨v, q, a1, a2, v0, v9, hq, hpq⟩
  · refine tailN (w := 119) (f' := -1) (s' := s) (t' := t) h1 ?_ ?_
    · unfold fX4_readStatement
      rw [lh_c hp, c]
      dsimp only [b1_p]
      rw [if_neg (by decide), if_neg (by decide), if_neg (by decide), if_neg (by decide), if_neg (by decide), if_neg (by decide), if_pos rfl]
      rw [rf_n a1 (by decide)]
      dsimp only [b3_p]
      rw [if_pos rfl]
    · intro hand at_ wide rim fill wall ceiling puff period bc val km sm tm
      refine ⟨val, ?_⟩
      unfold fX6_statement
      simp only [is_n hp n98, is_y hp k119 c, b1_p, b2_p, b3_p, b4_p, wi_eq, eq_self, if_true, k10, if_false, a2]
  · have vn : ¬ v < 0 := by rw [fa_lt]; show ¬ v.toInt < 0; omega
    refine tailA (w := 119) (f' := v) (s' := s) (t' := t) hq (by omega) ?_ ?_ ?_
    · unfold fX4_readStatement
      rw [lh_c hp, c]
      dsimp only [b1_p]
      rw [if_neg (by decide), if_neg (by decide), if_neg (by decide), if_neg (by decide), if_neg (by decide), if_neg (by decide), if_pos rfl]
      rw [rf_y a1 vn]
      dsimp only [b3_p]
      rw [if_neg (show ¬ (1 : Int32) = 0 by decide)]
    · intro hand at_ wide rim fill wall ceiling puff period bc val km sm tm
      refine ⟨v, ?_⟩
      unfold fX6_statement
      simp only [is_n hp n98, is_y hp k119 c, b1_p, b2_p, b3_p, b4_p, wi_eq, eq_self, if_true, k10, if_false, a2]
    · intro hand at_ wide rim fill wall ceiling puff period bc val second ks ss ts km sm tm ho hb0 hb5 h3 h1a h2a
      obtain ⟨o1, o2, o3, o4, o5, o6, o7, o8, o9, o10, o11⟩ := ho
      have ea : (at_ + wide).toInt = at_.toInt + wide.toInt := fb_addI (by omega) (by omega)
      rcases wi_01 v 5 60 with ⟨w1, w2, w3⟩ | ⟨w1, w2⟩
      · have w2' : (5 : Int) ≤ v.toInt := w2
        have w3' : v.toInt ≤ (60 : Int) := w3
        by_cases u : at_ + wide ≤ v
        · have u' := u
          rw [fa_le, ea] at u'
          refine ⟨1, v, hand, at_, wide, rim, fill, v, ceiling, puff, period, bc, ks, ss, ts, km, sm, tm, ?_, ?_, ?_, hb0, hb5, h3, h1a, h2a, by decide⟩
          · unfold fX4_tellStatement fX3_setWall
            rw [if_neg (by decide), if_neg (by decide), if_neg (by decide), if_neg (by decide), if_neg (by decide), if_pos rfl]
            simp only [w1, if_pos u, b1_p, b2_p, eq_self, if_true, k10, if_false]
            rw [g_b_p (by decide)]
          · unfold fX6_statement
            simp only [is_n hp n98, is_y hp k119 c, b1_p, b2_p, b3_p, b4_p, wi_eq, eq_self, if_true, k10, if_false, a2, w1, if_pos u]
          · exact ⟨o1, o2, o3, o4, o5, ⟨by omega, by omega⟩, o7, o8, o9, u', o11⟩
        · skip
          refine ⟨0, v, hand, at_, wide, rim, fill, wall, ceiling, puff, period, bc, ks, ss, ts, km, sm, tm, ?_, ?_, ?_, hb0, hb5, h3, h1a, h2a, by decide⟩
          · unfold fX4_tellStatement fX3_setWall
            rw [if_neg (by decide), if_neg (by decide), if_neg (by decide), if_neg (by decide), if_neg (by decide), if_pos rfl]
            simp only [w1, if_neg u, b1_p, b2_p, eq_self, if_true, k10, if_false]
            rw [g_b_p (by decide)]
          · unfold fX6_statement
            simp only [is_n hp n98, is_y hp k119 c, b1_p, b2_p, b3_p, b4_p, wi_eq, eq_self, if_true, k10, if_false, a2, w1, if_neg u]
          · exact ⟨o1, o2, o3, o4, o5, o6, o7, o8, o9, o10, o11⟩
      · skip
        refine ⟨0, v, hand, at_, wide, rim, fill, wall, ceiling, puff, period, bc, ks, ss, ts, km, sm, tm, ?_, ?_, ?_, hb0, hb5, h3, h1a, h2a, by decide⟩
        · unfold fX4_tellStatement fX3_setWall
          rw [if_neg (by decide), if_neg (by decide), if_neg (by decide), if_neg (by decide), if_neg (by decide), if_pos rfl]
          simp only [w1, b1_p, b2_p, eq_self, if_true, k10, if_false]
          rw [g_b_p (by decide)]
        · unfold fX6_statement
          simp only [is_n hp n98, is_y hp k119 c, b1_p, b2_p, b3_p, b4_p, wi_eq, eq_self, if_true, k10, if_false, a2, w1]
        · exact ⟨o1, o2, o3, o4, o5, o6, o7, o8, o9, o10, o11⟩
theorem st_98 {len p : Int32} (hp : Pl len p) {L : Nat → Int32} (c : lh len p L = 98) (f s t : Int32) : Res len p f s t L := by
  have hl := lh_lt (by decide) c
  obtain ⟨h1, e1⟩ := hp.nx hl
  have k98 : ¬ (98 : Int32) = -1 := by decide
  rcases num2 h1 L with ⟨a1, a2⟩ | ⟨v, q, a1, a2, v0, v9, hq, hpq⟩
  · refine tailN (w := 98) (f' := -1) (s' := s) (t' := t) h1 ?_ ?_
    · unfold fX4_readStatement
      rw [lh_c hp, c]
      dsimp only [b1_p]
      rw [if_pos rfl, rf_n a1 (by decide)]
      dsimp only [b3_p]
      rw [if_pos rfl]
    · intro hand at_ wide rim fill wall ceiling puff period bc val km sm tm
      refine ⟨val, ?_⟩
      unfold fX6_statement
      simp only [is_y hp k98 c, b1_p, b2_p, b3_p, b4_p, wi_eq, eq_self, if_true, k10, if_false, a2]
  have vn : ¬ v < 0 := by rw [fa_lt]; show ¬ v.toInt < 0; omega
  by_cases cm : lh len q L = 44
  rotate_left
  · refine tailN (w := 98) (f' := v) (s' := s) (t' := t) hq ?_ ?_
    · unfold fX4_readStatement
      rw [lh_c hp, c]
      dsimp only [b1_p]
      rw [if_pos rfl, rf_y a1 vn]
      dsimp only [b3_p]
      rw [if_neg (show ¬ (1 : Int32) = 0 by decide), pass_n hq cm]
      dsimp only [b2_p]
      rw [if_pos rfl]
    · intro hand at_ wide rim fill wall ceiling puff period bc val km sm tm
      refine ⟨v, ?_⟩
      unfold fX6_statement
      simp only [is_y hp k98 c, b1_p, b2_p, b3_p, b4_p, wi_eq, eq_self, if_true, k10, if_false, a2, is_n hq cm]
  have k44 : ¬ (44 : Int32) = -1 := by decide
  obtain ⟨hq1, eq1⟩ := hq.nx (lh_lt k44 cm)
  rcases num1 hq1 L with ⟨b1a, b2a⟩ | ⟨x, q2, b1a, b2a, x0, x9, hq2, hpq2⟩
  · refine tailN (w := 98) (f' := v) (s' := -1) (t' := t) hq1 ?_ ?_
    · unfold fX4_readStatement
      rw [lh_c hp, c]
      dsimp only [b1_p]
      rw [if_pos rfl, rf_y a1 vn]
      dsimp only [b3_p]
      rw [if_neg (show ¬ (1 : Int32) = 0 by decide), pass_y hq cm]
      dsimp only [b2_p]
      rw [if_neg (show ¬ (1 : Int32) = 0 by decide), td_0 b1a]
      dsimp only [b4_p]
      rw [if_pos rfl]
    · intro hand at_ wide rim fill wall ceiling puff period bc val km sm tm
      refine ⟨v, ?_⟩
      unfold fX6_statement
      simp only [is_y hp k98 c, b1_p, b2_p, b3_p, b4_p, wi_eq, eq_self, if_true, k10, if_false, a2, is_y hq k44 cm, b2a]
  have x0' : 0 ≤ x := by rw [fa_le]; exact x0
  rcases num1 hq2 L with ⟨c1a, c2a⟩ | ⟨y, q3, c1a, c2a, y0, y9, hq3, hpq3⟩
  · refine tailN (w := 98) (f' := v) (s' := x) (t' := -1) hq2 ?_ ?_
    · unfold fX4_readStatement
      rw [lh_c hp, c]
      dsimp only [b1_p]
      rw [if_pos rfl, rf_y a1 vn]
      dsimp only [b3_p]
      rw [if_neg (show ¬ (1 : Int32) = 0 by decide), pass_y hq cm]
      dsimp only [b2_p]
      rw [if_neg (show ¬ (1 : Int32) = 0 by decide), td_1 b1a x0' c1a]
      dsimp only [b4_p]
      rw [if_pos rfl]
    · intro hand at_ wide rim fill wall ceiling puff period bc val km sm tm
      refine ⟨x, ?_⟩
      unfold fX6_statement
      simp only [is_y hp k98 c, b1_p, b2_p, b3_p, b4_p, wi_eq, eq_self, if_true, k10, if_false, a2, is_y hq k44 cm, b2a, c2a]
  have yn : ¬ y < 0 := by rw [fa_lt]; show ¬ y.toInt < 0; omega
  refine tailA (w := 98) (f' := v) (s' := x) (t' := y) hq3 (by omega) ?_ ?_ ?_
  · unfold fX4_readStatement
    rw [lh_c hp, c]
    dsimp only [b1_p]
    rw [if_pos rfl, rf_y a1 vn]
    dsimp only [b3_p]
    rw [if_neg (show ¬ (1 : Int32) = 0 by decide), pass_y hq cm]
    dsimp only [b2_p]
    rw [if_neg (show ¬ (1 : Int32) = 0 by decide), td_2 b1a x0' c1a yn]
    dsimp only [b4_p]
    rw [if_neg (show ¬ (1 : Int32) = 0 by decide)]
  · intro hand at_ wide rim fill wall ceiling puff period bc val km sm tm
    refine ⟨y, ?_⟩
    unfold fX6_statement
    simp only [is_y hp k98 c, b1_p, b2_p, b3_p, b4_p, wi_eq, eq_self, if_true, k10, if_false, a2, is_y hq k44 cm, b2a, c2a]
  · intro hand at_ wide rim fill wall ceiling puff period bc val second ks ss ts km sm tm ho hb0 hb5 h3 h1a h2a
    have ho' := ho
    obtain ⟨o1, o2, o3, o4, o5, o6, o7, o8, o9, o10, o11⟩ := ho
    have ex : (v + x).toInt = v.toInt + x.toInt := fb_addI (by omega) (by omega)
    rcases wi_01 v 1 40 with ⟨w1, w2, w3⟩ | ⟨w1, w2⟩
    rotate_left
    · skip
      refine ⟨0, y, hand, at_, wide, rim, fill, wall, ceiling, puff, period, bc, ks, ss, ts, km, sm, tm, ?_, ?_, ?_, hb0, hb5, h3, h1a, h2a, by decide⟩
      · unfold fX4_tellStatement fX3_setBin
        rw [if_pos rfl]
        simp only [w1, b1_p, b4_p, eq_self, if_true, k10, if_false]
        rw [g_b_p (by decide)]
      · unfold fX6_statement
        simp only [is_y hp k98 c, b1_p, b2_p, b3_p, b4_p, wi_eq, eq_self, if_true, k10, if_false, a2, is_y hq k44 cm, b2a, c2a, w1]
      · exact ho'
    have w2' : (1 : Int) ≤ v.toInt := w2
    have w3' : v.toInt ≤ (40 : Int) := w3
    rcases wi_01 x 1 5 with ⟨m1, m2, m3⟩ | ⟨m1, m2⟩
    rotate_left
    · skip
      refine ⟨0, y, hand, at_, wide, rim, fill, wall, ceiling, puff, period, bc, ks, ss, ts, km, sm, tm, ?_, ?_, ?_, hb0, hb5, h3, h1a, h2a, by decide⟩
      · unfold fX4_tellStatement fX3_setBin
        rw [if_pos rfl]
        simp only [w1, m1, b1_p, b4_p, eq_self, if_true, k10, if_false]
        rw [g_b_p (by decide)]
      · unfold fX6_statement
        simp only [is_y hp k98 c, b1_p, b2_p, b3_p, b4_p, wi_eq, eq_self, if_true, k10, if_false, a2, is_y hq k44 cm, b2a, c2a, w1, m1]
      · exact ho'
    have m2' : (1 : Int) ≤ x.toInt := m2
    have m3' : x.toInt ≤ (5 : Int) := m3
    rcases wi_01 y 1 9 with ⟨r1, r2, r3⟩ | ⟨r1, r2⟩
    rotate_left
    · have y00 : y = 0 := by
        rw [fa_eq]
        show y.toInt = 0
        have r2' : ¬ ((1 : Int) ≤ y.toInt ∧ y.toInt ≤ (9 : Int)) := r2
        omega
      subst y00
      refine ⟨0, 0, hand, at_, wide, rim, fill, wall, ceiling, puff, period, bc, ks, ss, ts, km, sm, tm, ?_, ?_, ?_, hb0, hb5, h3, h1a, h2a, by decide⟩
      · unfold fX4_tellStatement fX3_setBin
        rw [if_pos rfl]
        simp only [w1, m1, r1, b1_p, b4_p, eq_self, if_true, k10, if_false]
        rw [g_b_p (by decide)]
      · unfold fX6_statement
        simp only [is_y hp k98 c, b1_p, b2_p, b3_p, b4_p, wi_eq, eq_self, if_true, k10, if_false, a2, is_y hq k44 cm, b2a, c2a, w1, m1]
      · exact ho'
    have r2' : (1 : Int) ≤ y.toInt := r2
    have r3' : y.toInt ≤ (9 : Int) := r3
    have yz : ¬ y = 0 := by
      rw [fa_eq]
      show ¬ y.toInt = 0
      omega
    by_cases u : v + x ≤ wall
    · have u' := u
      rw [fa_le, ex] at u'
      refine ⟨1, y, hand, v, x, y, fill, wall, ceiling, puff, period, bc, ks, ss, ts, km, sm, tm, ?_, ?_, ?_, hb0, hb5, h3, h1a, h2a, by decide⟩
      · unfold fX4_tellStatement fX3_setBin
        rw [if_pos rfl]
        simp only [w1, m1, r1, if_pos u, if_neg yz, b1_p, b4_p, eq_self, if_true, k10, if_false]
        rw [g_b_p (by decide)]
      · unfold fX6_statement
        simp only [is_y hp k98 c, b1_p, b2_p, b3_p, b4_p, wi_eq, eq_self, if_true, k10, if_false, a2, is_y hq k44 cm, b2a, c2a, w1, m1, r1, if_pos u, if_neg yz]
      · exact ⟨o1, ⟨w2', w3'⟩, ⟨m2', m3'⟩, ⟨r2', r3'⟩, o5, o6, o7, o8, o9, u', o11⟩
    · skip
      refine ⟨0, y, hand, at_, wide, rim, fill, wall, ceiling, puff, period, bc, ks, ss, ts, km, sm, tm, ?_, ?_, ?_, hb0, hb5, h3, h1a, h2a, by decide⟩
      · unfold fX4_tellStatement fX3_setBin
        rw [if_pos rfl]
        simp only [w1, m1, r1, if_neg u, if_neg yz, b1_p, b4_p, eq_self, if_true, k10, if_false]
        rw [g_b_p (by decide)]
      · unfold fX6_statement
        simp only [is_y hp k98 c, b1_p, b2_p, b3_p, b4_p, wi_eq, eq_self, if_true, k10, if_false, a2, is_y hq k44 cm, b2a, c2a, w1, m1, r1, if_neg u, if_neg yz]
      · exact ho'
theorem st_102 {len p : Int32} (hp : Pl len p) {L : Nat → Int32} (c : lh len p L = 102) (f s t : Int32) : Res len p f s t L := by
  have hl := lh_lt (by decide) c
  obtain ⟨h1, e1⟩ := hp.nx hl
  have k102 : ¬ (102 : Int32) = -1 := by decide
  have n98 : ¬ lh len p L = 98 := by rw [c]; decide
  have n119 : ¬ lh len p L = 119 := by rw [c]; decide
  have n99 : ¬ lh len p L = 99 := by rw [c]; decide
  have n104 : ¬ lh len p L = 104 := by rw [c]; decide
  have n105 : ¬ lh len p L = 105 := by rw [c]; decide
  have k43 : ¬ (43 : Int32) = -1 := by decide
  have k45 : ¬ (45 : Int32) = -1 := by decide
  by_cases hs : lh len (p + 1) L = 43 ∨ lh len (p + 1) L = 45
  rotate_left
  · have n43 : ¬ lh len (p + 1) L = 43 := fun q => hs (Or.inl q)
    have n45 : ¬ lh len (p + 1) L = 45 := fun q => hs (Or.inr q)
    refine tailN (w := 102) (f' := f) (s' := s) (t' := t) h1 ?_ ?_
    · unfold fX4_readStatement
      rw [lh_c hp, c]
      dsimp only [b1_p]
      rw [if_neg (by decide), if_neg (by decide), if_pos rfl]
      unfold fX4_readFan
      rw [lh_c h1]
      dsimp only [b1_p]
      rw [if_neg n43, if_neg n45]
      dsimp only [b4_p]
      rw [if_pos rfl]
    · intro hand at_ wide rim fill wall ceiling puff period bc val km sm tm
      refine ⟨val, ?_⟩
      unfold fX6_statement
      simp only [is_n hp n98, is_n hp n119, is_n hp n99, is_n hp n104, is_n hp n105, is_y hp k102 c, b1_p, b2_p, b3_p, b4_p, wi_eq, eq_self, if_true, k10, if_false, is_n h1 n45, is_n h1 n43]
  have hl1 : (p + 1).toInt < len.toInt := by
    rcases hs with q | q
    · exact lh_lt k43 q
    · exact lh_lt k45 q
  obtain ⟨h2, e2⟩ := h1.nx hl1
  -- the sign
  have key : ∃ neg : Int32 → Int32, (∀ v : Int32, v.toInt ≤ 9 → 0 ≤ v.toInt → (neg v).toInt ≤ 9 ∧ -9 ≤ (neg v).toInt) ∧
      (fX4_readFan len (p + 1) f s L = b3 (fX4_readFirst 1 len (p + 1 + 1) L) (fun r w v => if r = 0 then some (0, w, v, s) else jX4_readFan_54 len L w (neg v))) ∧
      (∀ (x1 hand at_ wide rim fill wall ceiling puff period bc val : Int32) (km sm tm : Nat → Int32), fX6_statement x1 hand at_ wide rim fill wall ceiling puff period bc len p val L km sm tm = b3 (fX6_number 1 len (p + 1 + 1) val L) (fun r a v => if r = 0 then some (-1, hand, at_, wide, rim, fill, wall, ceiling, puff, period, bc, a, v, km, sm, tm) else jX6_statement_360 x1 len L (neg v) hand at_ wide rim fill wall ceiling puff period bc a v km sm tm)) := by
    rcases hs with q | q
    · have n45 : ¬ lh len (p + 1) L = 45 := by rw [q]; decide
      refine ⟨fun v => v, fun v a b => ⟨a, by show (-9 : Int) ≤ v.toInt; omega⟩, ?_, ?_⟩
      · unfold fX4_readFan jX4_readFan_19
        rw [lh_c h1, q]
        dsimp only [b1_p]
        rw [if_pos rfl]
        simp only [if_neg (show ¬ (43 : Int32) = 45 by decide)]
      · intro x1 hand at_ wide rim fill wall ceiling puff period bc val km sm tm
        unfold fX6_statement jX6_statement_334
        simp only [is_n hp n98, is_n hp n119, is_n hp n99, is_n hp n104, is_n hp n105, is_y hp k102 c, b1_p, b2_p, b3_p, b4_p, wi_eq, eq_self, if_true, k10, if_false, is_n h1 n45, is_y h1 k43 q]
    · refine ⟨fun v => -v, fun v a b => ?_, ?_, ?_⟩
      · have en : (-v).toInt = - v.toInt := by
          have := fb_subI (x := 0) (y := v) (by show _ ≤ (0 : Int) - _; omega) (by show (0 : Int) - _ < _; omega)
          rw [Int32.zero_sub] at this
          rw [this]
          show (0 : Int) - v.toInt = - v.toInt
          omega
        show (-v).toInt ≤ 9 ∧ -9 ≤ (-v).toInt
        rw [en]
        exact ⟨by omega, by omega⟩
      · unfold fX4_readFan jX4_readFan_19
        rw [lh_c h1, q]
        dsimp only [b1_p]
        rw [if_neg (show ¬ (45 : Int32) = 43 by decide), if_pos rfl]
        simp only [eq_self, if_true]
      · intro x1 hand at_ wide rim fill wall ceiling puff period bc val km sm tm
        unfold fX6_statement jX6_statement_334
        simp only [is_n hp n98, is_n hp n119, is_n hp n99, is_n hp n104, is_n hp n105, is_y hp k102 c, b1_p, b2_p, b3_p, b4_p, wi_eq, eq_self, if_true, k10, if_false, is_y h1 k45 q]
  obtain ⟨neg, hneg, hF, hR⟩ := key
  rcases num1 h2 L with ⟨a1, a2⟩ | ⟨v, q, a1, a2, v0, v9, hq, hpq⟩
  · refine tailN (w := 102) (f' := -1) (s' := s) (t' := t) h2 ?_ ?_
    · unfold fX4_readStatement
      rw [lh_c hp, c]
      dsimp only [b1_p]
      rw [if_neg (by decide), if_neg (by decide), if_pos rfl]
      rw [hF, rf_n a1 (by decide)]
      dsimp only [b3_p]
      rw [if_pos rfl]
      dsimp only [b4_p]
      rw [if_pos rfl]
    · intro hand at_ wide rim fill wall ceiling puff period bc val km sm tm
      refine ⟨val, ?_⟩
      rw [hR, a2]
      dsimp only [b3_p]
      rw [if_pos rfl]
  have vn : ¬ v < 0 := by rw [fa_lt]; show ¬ v.toInt < 0; omega
  rcases num1 hq L with ⟨b1a, b2a⟩ | ⟨x, q2, b1a, b2a, x0, x9, hq2, hpq2⟩
  · refine tailN (w := 102) (f' := neg v) (s' := -1) (t' := t) hq ?_ ?_
    · unfold fX4_readStatement
      rw [lh_c hp, c]
      dsimp only [b1_p]
      rw [if_neg (by decide), if_neg (by decide), if_pos rfl]
      rw [hF, rf_y a1 vn]
      dsimp only [b3_p]
      rw [if_neg (show ¬ (1 : Int32) = 0 by decide)]
      unfold jX4_readFan_54
      rw [b1a]
      dsimp only [b2_p]
      rw [if_pos (show (-1 : Int32) < 0 by decide)]
      dsimp only [b4_p]
      rw [if_pos rfl]
    · intro hand at_ wide rim fill wall ceiling puff period bc val km sm tm
      refine ⟨v, ?_⟩
      rw [hR, a2]
      dsimp only [b3_p]
      rw [if_neg (show ¬ (1 : Int32) = 0 by decide)]
      unfold jX6_statement_360
      rw [b2a]
      dsimp only [b3_p]
      rw [if_pos rfl]
  have xn : ¬ x < 0 := by rw [fa_lt]; show ¬ x.toInt < 0; omega
  refine tailA (w := 102) (f' := neg v) (s' := x) (t' := t) hq2 (by omega) ?_ ?_ ?_
  · unfold fX4_readStatement
    rw [lh_c hp, c]
    dsimp only [b1_p]
    rw [if_neg (by decide), if_neg (by decide), if_pos rfl]
    rw [hF, rf_y a1 vn]
    dsimp only [b3_p]
    rw [if_neg (show ¬ (1 : Int32) = 0 by decide)]
    unfold jX4_readFan_54
    rw [b1a]
    dsimp only [b2_p]
    rw [if_neg xn]
    dsimp only [b4_p]
    rw [if_neg (show ¬ (1 : Int32) = 0 by decide)]
  · intro hand at_ wide rim fill wall ceiling puff period bc val km sm tm
    refine ⟨x, ?_⟩
    rw [hR, a2]
    dsimp only [b3_p]
    rw [if_neg (show ¬ (1 : Int32) = 0 by decide)]
    unfold jX6_statement_360
    rw [b2a]
    dsimp only [b3_p]
    rw [if_neg (show ¬ (1 : Int32) = 0 by decide), if_pos rfl]
  · intro hand at_ wide rim fill wall ceiling puff period bc val second ks ss ts km sm tm ho hb0 hb5 h3 h1a h2a
    have ho' := ho
    obtain ⟨o1, o2, o3, o4, o5, o6, o7, o8, o9, o10, o11⟩ := ho
    have hR' := hR 1 hand at_ wide rim fill wall ceiling puff period bc val km sm tm
    rw [a2] at hR'
    dsimp only [b3_p] at hR'
    rw [if_neg (show ¬ (1 : Int32) = 0 by decide)] at hR'
    unfold jX6_statement_360 at hR'
    rw [b2a] at hR'
    dsimp only [b3_p] at hR'
    rw [if_neg (show ¬ (1 : Int32) = 0 by decide), if_neg (show ¬ (1 : Int32) = 0 by decide), wi_eq] at hR'
    unfold fX4_tellStatement fX3_setFan
    rw [if_neg (by decide), if_neg (by decide), if_pos rfl]
    rcases wi_01 (neg v) (-3) 3 with ⟨w1, w2, w3⟩ | ⟨w1, w2⟩
    rotate_left
    · rw [w1] at hR' ⊢
      dsimp only [b1_p] at hR' ⊢
      rw [if_pos rfl] at hR' ⊢
      dsimp only [b3_p]
      rw [g_b_p (by decide)]
      exact ⟨_, _, _, _, _, _, _, _, _, _, _, _, _, _, _, _, _, _, rfl, hR', ho', hb0, hb5, h3, h1a, h2a, by decide⟩
    have w2' : (-3 : Int) ≤ (neg v).toInt := w2
    have w3' : (neg v).toInt ≤ (3 : Int) := w3
    rw [w1] at hR' ⊢
    dsimp only [b1_p] at hR' ⊢
    rw [if_neg (show ¬ (1 : Int32) = 0 by decide)] at hR' ⊢
    by_cases xz : x = 0
    · subst xz
      rw [if_pos rfl] at hR'
      rw [show fX3_isWithin 0 1 9 = some 0 from by decide]
      dsimp only [b1_p]
      rw [if_pos rfl]
      dsimp only [b3_p]
      rw [g_b_p (by decide)]
      exact ⟨_, _, _, _, _, _, _, _, _, _, _, _, _, _, _, _, _, _, rfl, hR', ho', hb0, hb5, h3, h1a, h2a, by decide⟩
    · rw [if_neg xz] at hR'
      have x1 : 1 ≤ x.toInt := by
        rw [fa_eq] at xz
        have xz' : ¬ x.toInt = 0 := xz
        omega
      rcases wi_01 x 1 9 with ⟨m1, m2, m3⟩ | ⟨m1, m2⟩
      · rw [m1]
        dsimp only [b1_p]
        rw [if_neg (show ¬ (1 : Int32) = 0 by decide)]
        dsimp only [b3_p]
        rw [g_b_p (by decide)]
        exact ⟨_, _, _, _, _, _, _, _, _, _, _, _, _, _, _, _, _, _, rfl, hR', ⟨o1, o2, o3, o4, o5, o6, o7, ⟨w2', w3'⟩, ⟨x1, x9⟩, o10, o11⟩, hb0, hb5, h3, h1a, h2a, by decide⟩
      · exact absurd ⟨x1, x9⟩ m2
theorem kl_no {c : Int32} (h : c.toInt ≤ 0 ∨ 255 < c.toInt) : fX4_kindOfLetter c = some (-1) := by
  unfold fX4_kindOfLetter
  have n : ∀ k : Int32, 0 < k.toInt → k.toInt ≤ 255 → ¬ c = k := fun k h1 h2 e => by rw [e] at h; omega
  rw [if_neg (n 98 (by decide) (by decide)), if_neg (n 107 (by decide) (by decide)), if_neg (n 108 (by decide) (by decide)), if_neg (n 112 (by decide) (by decide)), if_neg (n 115 (by decide) (by decide)), if_neg (n 119 (by decide) (by decide))]
theorem kl_01 (c : Int32) : fX4_kindOfLetter c = some (-1) ∨ ∃ r, fX4_kindOfLetter c = some r ∧ 0 ≤ r := by
  unfold fX4_kindOfLetter
  repeat' split
  all_goals first | exact Or.inl rfl | exact Or.inr ⟨_, rfl, by decide⟩
theorem idx_all : ∀ a : Nat, a < 256 → fJ0_indexOf_0f7a4 (nI a) = fX4_kindOfLetter (nI a) ∨ a = 0 := by decide +kernel
theorem idx_eq {c : Int32} (h : 0 < c.toInt) : fJ0_indexOf_0f7a4 c = fX4_kindOfLetter c := by
  by_cases q : 255 < c.toInt
  · rw [kl_no (Or.inr q)]
    unfold fJ0_indexOf_0f7a4 fJ0_indexOf_7cf53 fJ1_indexOf_4cfef fJ1_canEncode_9a6ad
    rw [show fJ0_isLatin1_aae02 = some 1 from by decide, show fJ0_length_8abf5 = some 6 from by decide]
    dsimp only [b1_p]
    rw [if_neg (show ¬ (1 : Int32) = 0 by decide), if_neg (show ¬ c < 0 by rw [fa_lt]; show ¬ c.toInt < 0; omega), if_pos (show 255 < c by rw [fa_lt]; exact q)]
    dsimp only [b1_p]
    rw [if_pos rfl]
    rfl
  · obtain ⟨a, ha, rfl⟩ := nI_of (x := c) (by rw [fa_lt]; show ¬ c.toInt < 0; omega)
    rw [nI_toInt ha] at h q
    rcases idx_all a (by omega) with e | e
    · exact e
    · omega
theorem ref112 {len p : Int32} (hp : Pl len p) {L : Nat → Int32} (c : lh len p L = 112) {r : Int32} (hk : fX4_kindOfLetter (lh len (p + 1) L) = some r) (x1 hand at_ wide rim fill wall ceiling puff period bc val : Int32) (km sm tm : Nat → Int32) : fX6_statement x1 hand at_ wide rim fill wall ceiling puff period bc len p val L km sm tm = jX6_statement_463 x1 len L r hand at_ wide rim fill wall ceiling puff period bc (p + 1) val km sm tm := by
  have hl := lh_lt (by decide) c
  obtain ⟨h1, e1⟩ := hp.nx hl
  have k112 : ¬ (112 : Int32) = -1 := by decide
  have n98 : ¬ lh len p L = 98 := by rw [c]; decide
  have n119 : ¬ lh len p L = 119 := by rw [c]; decide
  have n99 : ¬ lh len p L = 99 := by rw [c]; decide
  have n104 : ¬ lh len p L = 104 := by rw [c]; decide
  have n105 : ¬ lh len p L = 105 := by rw [c]; decide
  have n102 : ¬ lh len p L = 102 := by rw [c]; decide
  unfold fX6_statement jX6_statement_462
  simp only [is_n hp n98, is_n hp n119, is_n hp n99, is_n hp n104, is_n hp n105, is_n hp n102, is_y hp k112 c, b1_p, b2_p, b3_p, b4_p, wi_eq, eq_self, if_true, k10, if_false]
  by_cases q : len.toInt ≤ (p + 1).toInt
  · rw [lh_out q, kl_no (Or.inl (by decide))] at hk
    cases hk
    rw [if_pos (show len ≤ p + 1 by rw [fa_le]; exact q)]
  · have q' : (p + 1).toInt < len.toInt := by omega
    have hi : (p + 1).toInt < ((80 : Nat) : Int) := by have := hp.2.2; show (p + 1).toInt < 80; omega
    rw [lh_in q'] at hk
    rw [if_neg (show ¬ len ≤ p + 1 by rw [fa_le]; exact q), g_in_p h1.1 hi]
    by_cases z : L (p + 1).toNatClampNeg ≤ 0
    · rw [fa_le] at z
      rw [kl_no (Or.inl z)] at hk
      cases hk
      rw [if_pos (by rw [fa_le]; exact z)]
    · rw [if_neg z, g_in_p h1.1 hi]
      rw [fa_le] at z
      have z' : ¬ (L (p + 1).toNatClampNeg).toInt ≤ 0 := z
      rw [idx_eq (by omega), hk, b1_p]
theorem st_112 {len p : Int32} (hp : Pl len p) {L : Nat → Int32} (c : lh len p L = 112) (f s t : Int32) : Res len p f s t L := by
  have hl := lh_lt (by decide) c
  obtain ⟨h1, e1⟩ := hp.nx hl
  rcases kl_01 (lh len (p + 1) L) with hk | ⟨r, hk, r0⟩
  · refine tailN (w := 112) (f' := -1) (s' := s) (t' := t) h1 ?_ ?_
    · unfold fX4_readStatement
      rw [lh_c hp, c]
      dsimp only [b1_p]
      rw [if_neg (by decide), if_neg (by decide), if_neg (by decide), if_neg (by decide), if_neg (by decide), if_pos rfl]
      rw [rk_n h1 hk]
      dsimp only [b3_p]
      rw [if_pos rfl]
    · intro hand at_ wide rim fill wall ceiling puff period bc val km sm tm
      refine ⟨val, ?_⟩
      rw [ref112 hp c hk]
      unfold jX6_statement_463
      rw [if_neg (show ¬ (0 : Int32) ≤ -1 by decide)]
  have hl1 : (p + 1).toInt < len.toInt := by
    by_cases q : len.toInt ≤ (p + 1).toInt
    · rw [lh_out q, kl_no (Or.inl (by decide))] at hk
      cases hk
      exact absurd r0 (by decide)
    · omega
  obtain ⟨h2, e2⟩ := h1.nx hl1
  rcases num1 h2 L with ⟨a1, a2⟩ | ⟨v, q, a1, a2, v0, v9, hq, hpq⟩
  · refine tailN (w := 112) (f' := r) (s' := -1) (t' := t) h2 ?_ ?_
    · unfold fX4_readStatement
      rw [lh_c hp, c]
      dsimp only [b1_p]
      rw [if_neg (by decide), if_neg (by decide), if_neg (by decide), if_neg (by decide), if_neg (by decide), if_pos rfl]
      rw [rk_y h1 hk r0]
      dsimp only [b3_p]
      rw [if_neg (show ¬ (1 : Int32) = 0 by decide), td_0 a1]
      dsimp only [b4_p]
      rw [if_pos rfl]
    · intro hand at_ wide rim fill wall ceiling puff period bc val km sm tm
      refine ⟨val, ?_⟩
      rw [ref112 hp c hk]
      unfold jX6_statement_463
      rw [if_pos r0, a2]
      dsimp only [b3_p]
      rw [if_pos rfl]
  have v0' : 0 ≤ v := by rw [fa_le]; exact v0
  rcases num1 hq L with ⟨b1a, b2a⟩ | ⟨x, q2, b1a, b2a, x0, x9, hq2, hpq2⟩
  · refine tailN (w := 112) (f' := r) (s' := v) (t' := -1) hq ?_ ?_
    · unfold fX4_readStatement
      rw [lh_c hp, c]
      dsimp only [b1_p]
      rw [if_neg (by decide), if_neg (by decide), if_neg (by decide), if_neg (by decide), if_neg (by decide), if_pos rfl]
      rw [rk_y h1 hk r0]
      dsimp only [b3_p]
      rw [if_neg (show ¬ (1 : Int32) = 0 by decide), td_1 a1 v0' b1a]
      dsimp only [b4_p]
      rw [if_pos rfl]
    · intro hand at_ wide rim fill wall ceiling puff period bc val km sm tm
      refine ⟨v, ?_⟩
      rw [ref112 hp c hk]
      unfold jX6_statement_463
      rw [if_pos r0, a2]
      dsimp only [b3_p]
      rw [if_neg (show ¬ (1 : Int32) = 0 by decide), b2a]
      dsimp only [b3_p]
      rw [if_pos rfl]
  have xn : ¬ x < 0 := by rw [fa_lt]; show ¬ x.toInt < 0; omega
  refine tailA (w := 112) (f' := r) (s' := v) (t' := x) hq2 (by omega) ?_ ?_ ?_
  · unfold fX4_readStatement
    rw [lh_c hp, c]
    dsimp only [b1_p]
    rw [if_neg (by decide), if_neg (by decide), if_neg (by decide), if_neg (by decide), if_neg (by decide), if_pos rfl]
    rw [rk_y h1 hk r0]
    dsimp only [b3_p]
    rw [if_neg (show ¬ (1 : Int32) = 0 by decide), td_2 a1 v0' b1a xn]
    dsimp only [b4_p]
    rw [if_neg (show ¬ (1 : Int32) = 0 by decide)]
  · intro hand at_ wide rim fill wall ceiling puff period bc val km sm tm
    refine ⟨x, ?_⟩
    rw [ref112 hp c hk]
    unfold jX6_statement_463
    rw [if_pos r0, a2]
    dsimp only [b3_p]
    rw [if_neg (show ¬ (1 : Int32) = 0 by decide), b2a]
    dsimp only [b3_p]
    rw [if_neg (show ¬ (1 : Int32) = 0 by decide), if_pos rfl]
  · intro hand at_ wide rim fill wall ceiling puff period bc val second ks ss ts km sm tm ho hb0 hb5 h3 h1a h2a
    have hR' := ref112 hp c hk 1 hand at_ wide rim fill wall ceiling puff period bc val km sm tm
    unfold jX6_statement_463 at hR'
    rw [if_pos r0, a2] at hR'
    dsimp only [b3_p] at hR'
    rw [if_neg (show ¬ (1 : Int32) = 0 by decide), b2a] at hR'
    dsimp only [b3_p] at hR'
    rw [if_neg (show ¬ (1 : Int32) = 0 by decide), if_neg (show ¬ (1 : Int32) = 0 by decide)] at hR'
    unfold fX4_tellStatement fX3_addBall
    rw [if_neg (by decide), if_neg (by decide), if_neg (by decide), if_neg (by decide), if_neg (by decide), if_neg (by decide)]
    rw [if_neg (show ¬ bc < 0 by rw [fa_lt]; show ¬ bc.toInt < 0; omega)]
    rcases wi_01 v 1 9 with ⟨m1, m2, m3⟩ | ⟨m1, m2⟩
    rotate_left
    · have vz : v = 0 := by
        rw [fa_eq]
        show v.toInt = 0
        have m2' : ¬ ((1 : Int) ≤ v.toInt ∧ v.toInt ≤ (9 : Int)) := m2
        omega
      rw [if_pos vz] at hR'
      rw [m1]
      dsimp only [b1_p]
      rw [if_pos rfl]
      by_cases f5 : 5 ≤ bc
      · rw [if_pos f5]
        dsimp only [b5_p]
        rw [g_b_p (by decide)]
        exact ⟨_, _, _, _, _, _, _, _, _, _, _, _, _, _, _, _, _, _, rfl, hR', ho, hb0, hb5, h3, h1a, h2a, by decide⟩
      · rw [if_neg f5]
        dsimp only [b5_p]
        rw [g_b_p (by decide)]
        exact ⟨_, _, _, _, _, _, _, _, _, _, _, _, _, _, _, _, _, _, rfl, hR', ho, hb0, hb5, h3, h1a, h2a, by decide⟩
    have m2' : (1 : Int) ≤ v.toInt := m2
    have vz : ¬ v = 0 := by
      rw [fa_eq]
      show ¬ v.toInt = 0
      omega
    rw [if_neg vz] at hR'
    by_cases f5 : 5 ≤ bc
    · have f5' : bc = 5 := by
        rw [fa_eq]
        rw [fa_le] at f5
        have f5'' : (5 : Int) ≤ bc.toInt := f5
        show bc.toInt = 5
        omega
      rw [if_pos f5'] at hR'
      rw [if_pos f5]
      dsimp only [b5_p]
      rw [g_b_p (by decide)]
      exact ⟨_, _, _, _, _, _, _, _, _, _, _, _, _, _, _, _, _, _, rfl, hR', ho, hb0, hb5, h3, h1a, h2a, by decide⟩
    · have b5' : bc.toInt < 5 := by
        rw [fa_le] at f5
        have f5'' : ¬ (5 : Int) ≤ bc.toInt := f5
        omega
      have f5' : ¬ bc = 5 := by
        rw [fa_eq]
        show ¬ bc.toInt = 5
        omega
      have hi : bc.toInt < ((5 : Nat) : Int) := b5'
      have e5 : (bc + 1).toInt = bc.toInt + 1 := i_add1 (by omega)
      rw [if_neg f5', g_in_p hb0 hi, g_in_p hb0 hi, g_in_p hb0 hi] at hR'
      rw [if_neg f5, m1]
      dsimp only [b1_p]
      rcases wi_01 x 0 9 with ⟨y1, y2, y3⟩ | ⟨y1, y2⟩
      · rw [if_neg (show ¬ (1 : Int32) = 0 by decide), y1]
        dsimp only [b1_p]
        rw [if_neg (show ¬ (1 : Int32) = 0 by decide), g_in_p hb0 hi, g_in_p hb0 hi, g_in_p hb0 hi]
        dsimp only [b5_p]
        rw [g_b_p (by decide)]
        exact ⟨_, _, _, _, _, _, _, _, _, _, _, _, _, _, _, _, _, _, rfl, hR', ho, by omega, by omega, h3.up _ _, h1a.up _ _, h2a.up _ _, by decide⟩
      · exact absurd ⟨x0, x9⟩ y2
theorem st_all {len p : Int32} (hp : Pl len p) (L : Nat → Int32) (f s t : Int32) : Res len p f s t L := by
  by_cases c98 : lh len p L = 98
  · exact st_98 hp c98 f s t
  by_cases c99 : lh len p L = 99
  · exact st_99 hp c99 f s t
  by_cases c102 : lh len p L = 102
  · exact st_102 hp c102 f s t
  by_cases c104 : lh len p L = 104
  · exact st_104 hp c104 f s t
  by_cases c105 : lh len p L = 105
  · exact st_105 hp c105 f s t
  by_cases c112 : lh len p L = 112
  · exact st_112 hp c112 f s t
  by_cases c119 : lh len p L = 119
  · exact st_119 hp c119 f s t
  refine tailN (w := lh len p L) (f' := f) (s' := s) (t' := t) hp ?_ ?_
  · unfold fX4_readStatement
    rw [lh_c hp]
    dsimp only [b1_p]
    rw [if_neg c98, if_neg c99, if_neg c102, if_neg c104, if_neg c105, if_neg c112, if_neg c119]
  · intro hand at_ wide rim fill wall ceiling puff period bc val km sm tm
    refine ⟨val, ?_⟩
    unfold fX6_statement
    simp only [is_n hp c98, is_n hp c119, is_n hp c99, is_n hp c104, is_n hp c105, is_n hp c102, is_n hp c112, b1_p, b2_p, b3_p, eq_self, if_true, k10, if_false]
