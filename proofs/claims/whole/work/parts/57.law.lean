/-! the law, on numbers alone -/
def LI (hand at_ wide rim fill wall ceiling puff period sec score thr bc tc len im : Int32) (ks ss ts km sm tm : Nat → Int32) (hand' at_' wide' rim' fill' wall' ceiling' puff' period' sec' score' thr' bc' : Int32) (qk qs qt A : Nat → Int32) : Prop :=
  OkO hand at_ wide rim fill wall ceiling puff period sec ∧ sec.toInt ≤ 9999 ∧ 0 ≤ bc.toInt ∧ bc.toInt ≤ 5 ∧ AEq 5 ss sm ∧ AEq 5 ts tm ∧ AEq 5 ks km ∧ 0 ≤ tc.toInt ∧ tc.toInt ≤ 12 ∧ 0 ≤ len.toInt ∧ len.toInt ≤ 80 ∧ (im = 0 ∨ (¬ im = 0 ∧ Img A hand' at_' wide' rim' fill' wall' ceiling' puff' period' sec' score' thr' bc' qk qs qt ∧ OkO hand' at_' wide' rim' fill' wall' ceiling' puff' period' sec' ∧ sec'.toInt ≤ 9999 ∧ 0 ≤ bc'.toInt ∧ bc'.toInt ≤ 5))
theorem OkO.sec {hand at_ wide rim fill wall ceiling puff period second second2 : Int32} (h : OkO hand at_ wide rim fill wall ceiling puff period second) (h0 : 0 ≤ second2.toInt) : OkO hand at_ wide rim fill wall ceiling puff period second2 := by
  obtain ⟨q1, q2, q3, q4, q5, q6, q7, q8, q9, q10, q11⟩ := h
  exact ⟨q1, q2, q3, q4, q5, q6, q7, q8, q9, q10, h0⟩
set_option maxHeartbeats 4000000 in
theorem law_l (xs : Nat → Int32) {L : Nat} (hL : L ≤ 2560) : ∀ (n : Nat) {x3 : Int32} {im : Int32} {tc : Int32} {rf : Nat → Int32} {len : Int32} {wd : Int32} {tf : Int32} {tg : Int32} {tt : Int32} {hand : Int32} {at_ : Int32} {wide : Int32} {rim : Int32} {fill : Int32} {wall : Int32} {ceiling : Int32} {puff : Int32} {period : Int32} {sec : Int32} {score : Int32} {thr : Int32} {bc : Int32} {val : Int32} {v1 : Int32} {v2 : Int32} {v3 : Int32} {v4 : Int32} {v5 : Int32} {hand' : Int32} {at_' : Int32} {wide' : Int32} {rim' : Int32} {fill' : Int32} {wall' : Int32} {ceiling' : Int32} {puff' : Int32} {period' : Int32} {sec' : Int32} {score' : Int32} {thr' : Int32} {bc' : Int32} {qk : Nat → Int32} {ks : Nat → Int32} {qs : Nat → Int32} {ss : Nat → Int32} {qt : Nat → Int32} {ts : Nat → Int32} {A : Nat → Int32} {km : Nat → Int32} {sm : Nat → Int32} {tm : Nat → Int32} {n1 : Int32} {n2 : Int32} {n3 : Int32} {n4 : Int32} {n5 : Int32} {n6 : Int32} {n7 : Int32} {n8 : Int32} {n9 : Int32} {n10 : Int32} {n11 : Int32} {n12 : Int32} {n13 : Int32} {nk : Nat → Int32} {ns : Nat → Int32} {nt : Nat → Int32} {ls0 : Int32} {u1 : Int32} {u2 : Int32} {u3 : Int32} {u4 : Int32} {u5 : Int32} {u6 : Int32} {u7 : Int32} {u8 : Int32} {ah : Nat → Int32} {tl : Nat → Int32} {oa : Int64} {ob : Int64} {lt : Nat → Int32}, 0 ≤ x3.toInt → (L : Int) - x3.toInt < n → 0 < n → LI hand at_ wide rim fill wall ceiling puff period sec score thr bc tc len im ks ss ts km sm tm hand' at_' wide' rim' fill' wall' ceiling' puff' period' sec' score' thr' bc' qk qs qt A → lL_law_18 xs L n x3 im tc rf len wd tf tg tt hand at_ wide rim fill wall ceiling puff period sec score thr bc hand at_ wide rim fill wall ceiling puff period sec score thr bc len val tc im v1 v2 v3 v4 v5 rf hand' at_' wide' rim' fill' wall' ceiling' puff' period' sec' score' thr' bc' qk ks qs ss qt ts A km sm tm n1 n2 n3 n4 n5 n6 n7 n8 n9 n10 n11 n12 n13 nk ns nt ls0 u1 u2 u3 u4 u5 u6 u7 u8 ah tl tl oa ob lt lt = some 1 := by
  intro n
  induction n with
  | zero => intro x3 im tc rf len wd tf tg tt hand at_ wide rim fill wall ceiling puff period sec score thr bc val v1 v2 v3 v4 v5 hand' at_' wide' rim' fill' wall' ceiling' puff' period' sec' score' thr' bc' qk ks qs ss qt ts A km sm tm n1 n2 n3 n4 n5 n6 n7 n8 n9 n10 n11 n12 n13 nk ns nt ls0 u1 u2 u3 u4 u5 u6 u7 u8 ah tl oa ob lt a b c; omega
  | succ n ih =>
    intro x3 im tc rf len wd tf tg tt hand at_ wide rim fill wall ceiling puff period sec score thr bc val v1 v2 v3 v4 v5 hand' at_' wide' rim' fill' wall' ceiling' puff' period' sec' score' thr' bc' qk ks qs ss qt ts A km sm tm n1 n2 n3 n4 n5 n6 n7 n8 n9 n10 n11 n12 n13 nk ns nt ls0 u1 u2 u3 u4 u5 u6 u7 u8 ah tl oa ob lt z0 zn zp hLI
    obtain ⟨ho, hs9, hb0, hb5, h1, h2, h3, ht0, ht12, hl0, hl80, hi⟩ := hLI
    have eL : (Int32.ofNat L).toInt = L := nI_toInt (by omega)
    have eL5 : (Int32.ofNat L - 5).toInt = L - 5 := by
      rw [← eL]
      exact fb_subI (x := Int32.ofNat L) (y := 5) (by rw [eL]; show _ ≤ _ - (5 : Int); omega) (by rw [eL]; show _ - (5 : Int) < _; omega)
    rw [lL_law_18]
    by_cases ce : Int32.ofNat L - 5 < x3
    · rw [if_pos ce]
    rw [if_neg ce]
    rw [fa_lt, eL5] at ce
    have t1 : (x3 + 1).toInt = x3.toInt + 1 := fb_addI (x := x3) (y := 1) (by show _ ≤ _ + (1 : Int); omega) (by show _ + (1 : Int) < _; omega)
    have t2 : (x3 + 2).toInt = x3.toInt + 2 := fb_addI (x := x3) (y := 2) (by show _ ≤ _ + (2 : Int); omega) (by show _ + (2 : Int) < _; omega)
    have t3 : (x3 + 3).toInt = x3.toInt + 3 := fb_addI (x := x3) (y := 3) (by show _ ≤ _ + (3 : Int); omega) (by show _ + (3 : Int) < _; omega)
    have t4 : (x3 + 4).toInt = x3.toInt + 4 := fb_addI (x := x3) (y := 4) (by show _ ≤ _ + (4 : Int); omega) (by show _ + (4 : Int) < _; omega)
    have t5 : (x3 + 5).toInt = x3.toInt + 5 := fb_addI (x := x3) (y := 5) (by show _ ≤ _ + (5 : Int); omega) (by show _ + (5 : Int) < _; omega)
    have g0 := fun (k : Option Int32) => g_in_p (i := x3) (n := L) (k := k) z0 (by omega)
    have g1 := fun (k : Option Int32) => g_in_p (i := x3 + 1) (n := L) (k := k) (by omega) (by omega)
    have g2 := fun (k : Option Int32) => g_in_p (i := x3 + 2) (n := L) (k := k) (by omega) (by omega)
    have g3 := fun (k : Option Int32) => g_in_p (i := x3 + 3) (n := L) (k := k) (by omega) (by omega)
    have g4 := fun (k : Option Int32) => g_in_p (i := x3 + 4) (n := L) (k := k) (by omega) (by omega)
    rw [g0]
    by_cases c0 : xs x3.toNatClampNeg &&& 31 = 0
    · rw [if_pos c0]
      clear c0
      obtain ⟨r, rf', len', lt', e1, e2, y0, y1⟩ := p_letter (xs (x3 + 1).toNatClampNeg) rf lt hl0 hl80
      simp only [g1]
      rw [e1]
      rw [b4_p]
      rw [e2]
      rw [b4_p]
      rw [if_pos rfl]
      unfold jL_law_898
      exact ih (by omega) (by omega) (by omega) ⟨ho, hs9, hb0, hb5, h1, h2, h3, ht0, ht12, y0, y1, hi⟩
    rw [if_neg c0]
    by_cases c1 : xs x3.toNatClampNeg &&& 31 = 1
    · rw [if_pos c1]
      clear c0 c1
      obtain ⟨r, c1, c2, c3, c4, c5, c6, c7, c8, c9, c10, c11, c12, c13, o1, o2, o3, o4, o5, o6, o7, o8, o9, bq, k1, ck, s1, cs, t1, ct, w1, w2, w3, w4, w5, q, val', k2, s2, t2, ah', e1, e2, ho2, hb02, hb52, g1, g2, g3⟩ := p_office (score := score) (thr := thr) ho hb0 hb5 h1 h2 h3 hl0 hl80 wd tf tg tt val nk ns nt lt ah
      rw [e1]
      rw [b39_p]
      rw [e2]
      rw [b21_p]
      rw [if_pos rfl]
      unfold jL_law_898
      exact ih (by omega) (by omega) (by omega) ⟨ho2, hs9, hb02, hb52, g1, g2, g3, ht0, ht12, by decide, by decide, hi⟩
    rw [if_neg c1]
    by_cases c2 : xs x3.toNatClampNeg &&& 31 = 2
    · rw [if_pos c2]
      clear c0 c1 c2
      obtain ⟨r, rf', e1, e2⟩ := p_ball (xs (x3 + 1).toNatClampNeg) (xs (x3 + 2).toNatClampNeg) puff rf hb0 hb5 h1 h2 h3
      simp only [g1, g2]
      rw [e1]
      rw [b2_p]
      rw [e2]
      rw [b2_p]
      rw [if_pos rfl]
      unfold jL_law_898
      exact ih (by omega) (by omega) (by omega) ⟨ho, hs9, hb0, hb5, h1, h2, h3, ht0, ht12, hl0, hl80, hi⟩
    rw [if_neg c2]
    by_cases c3 : xs x3.toNatClampNeg &&& 31 = 3
    · rw [if_pos c3]
      clear c0 c1 c2 c3
      obtain ⟨r, rf', t1, t2, e1, e2, hq⟩ := p_crumple (xs (x3 + 1).toNatClampNeg) (xs (x3 + 2).toNatClampNeg) rf hb0 hb5 h2
      simp only [g1, g2]
      rw [e1]
      rw [b3_p]
      rw [e2]
      rw [b3_p]
      rw [if_pos rfl]
      unfold jL_law_898
      exact ih (by omega) (by omega) (by omega) ⟨ho, hs9, hb0, hb5, h1, hq, h3, ht0, ht12, hl0, hl80, hi⟩
    rw [if_neg c3]
    by_cases c4 : xs x3.toNatClampNeg &&& 31 = 4
    · rw [if_pos c4]
      clear c0 c1 c2 c3 c4
      obtain ⟨r, rf', a1, a2, a3, a4, a5, a6, a7, a8, b1, b2, b3, b4, b5, e1, e2⟩ := p_fly (sec := sec) ho hb0 hb5 h1 h2 h3 (xs (x3 + 1).toNatClampNeg) (xs (x3 + 2).toNatClampNeg) (xs (x3 + 3).toNatClampNeg) (xs (x3 + 4).toNatClampNeg) rf u1 u2 u3 u4 u5 u6 u7 u8 v1 v2 v3 v4 v5
      simp only [g1, g2, g3, g4]
      rw [e1]
      rw [b10_p]
      rw [e2]
      rw [b7_p]
      rw [if_pos rfl]
      unfold jL_law_898
      exact ih (by omega) (by omega) (by omega) ⟨ho, hs9, hb0, hb5, h1, h2, h3, ht0, ht12, hl0, hl80, hi⟩
    rw [if_neg c4]
    by_cases c5 : xs x3.toNatClampNeg &&& 31 = 5
    · rw [if_pos c5]
      clear c0 c1 c2 c3 c4 c5
      obtain ⟨r, rf', fl, se, sc, th, a1, a2, a3, a4, a5, a6, a7, a8, b1, b2, b3, b4, b5, e1, e2, f9, y0, y9⟩ := p_throwIt (sec := sec) ho hb0 hb5 h1 h2 h3 (xs (x3 + 1).toNatClampNeg) (xs (x3 + 2).toNatClampNeg) (xs (x3 + 3).toNatClampNeg) score thr rf ho.2.2.2.2.2.2.2.2.2.2 hs9 u1 u2 u3 u4 u5 u6 u7 u8 v1 v2 v3 v4 v5
      simp only [g1, g2, g3]
      rw [e1]
      rw [b14_p]
      rw [e2]
      rw [b11_p]
      rw [if_pos rfl]
      unfold jL_law_898
      exact ih (by omega) (by omega) (by omega) ⟨(OkO.fil ho f9).sec y0, y9, hb0, hb5, h1, h2, h3, ht0, ht12, hl0, hl80, hi⟩
    rw [if_neg c5]
    by_cases c6 : xs x3.toNatClampNeg &&& 31 = 6
    · rw [if_pos c6]
      clear c0 c1 c2 c3 c4 c5 c6
      obtain ⟨r, rf', se, e1, e2, y0, y9⟩ := p_pass (xs (x3 + 1).toNatClampNeg) rf ho.2.2.2.2.2.2.2.2.2.2 hs9
      simp only [g1]
      rw [e1]
      rw [b3_p]
      rw [e2]
      rw [b3_p]
      rw [if_pos rfl]
      unfold jL_law_898
      exact ih (by omega) (by omega) (by omega) ⟨ho.sec y0, y9, hb0, hb5, h1, h2, h3, ht0, ht12, hl0, hl80, hi⟩
    rw [if_neg c6]
    by_cases c7 : xs x3.toNatClampNeg &&& 31 = 7
    · rw [if_pos c7]
      clear c0 c1 c2 c3 c4 c5 c6 c7
      have e1 : fX5_clearBin fill = some (fill, 0) := rfl
      have e2 : fX6_clearBin fill = some (fill, 0) := rfl
      rw [e1]
      rw [b2_p]
      rw [e2]
      rw [b2_p]
      rw [if_pos rfl]
      unfold jL_law_898
      exact ih (by omega) (by omega) (by omega) ⟨OkO.fil ho ⟨by decide, by decide⟩, hs9, hb0, hb5, h1, h2, h3, ht0, ht12, hl0, hl80, hi⟩
    rw [if_neg c7]
    by_cases c8 : xs x3.toNatClampNeg &&& 31 = 8
    · rw [if_pos c8]
      clear c0 c1 c2 c3 c4 c5 c6 c7 c8
      obtain ⟨r, rf', a1, a2, a3, a4, a5, a6, a7, a8, b1, b2, b3, b4, b5, e1, e2⟩ := p_good (sec := sec) ho hb0 hb5 h1 h2 h3 (xs (x3 + 1).toNatClampNeg) (xs (x3 + 2).toNatClampNeg) (xs (x3 + 3).toNatClampNeg) rf u1 u2 u3 u4 u5 u6 u7 u8 v1 v2 v3 v4 v5
      simp only [g1, g2, g3]
      rw [e1]
      rw [b10_p]
      rw [e2]
      rw [b7_p]
      rw [if_pos rfl]
      unfold jL_law_898
      exact ih (by omega) (by omega) (by omega) ⟨ho, hs9, hb0, hb5, h1, h2, h3, ht0, ht12, hl0, hl80, hi⟩
    rw [if_neg c8]
    by_cases c9 : xs x3.toNatClampNeg &&& 31 = 9
    · rw [if_pos c9]
      clear c0 c1 c2 c3 c4 c5 c6 c7 c8 c9
      obtain ⟨r, rf', a1, a2, a3, a4, a5, a6, a7, a8, b1, b2, b3, b4, b5, e1, e2⟩ := p_best (sec := sec) ho hb0 hb5 h1 h2 h3 (xs (x3 + 1).toNatClampNeg) (xs (x3 + 2).toNatClampNeg) rf u1 u2 u3 u4 u5 u6 u7 u8 v1 v2 v3 v4 v5
      simp only [g1, g2]
      rw [e1]
      rw [b10_p]
      rw [e2]
      rw [b7_p]
      rw [if_pos rfl]
      unfold jL_law_898
      exact ih (by omega) (by omega) (by omega) ⟨ho, hs9, hb0, hb5, h1, h2, h3, ht0, ht12, hl0, hl80, hi⟩
    rw [if_neg c9]
    by_cases c10 : xs x3.toNatClampNeg &&& 31 = 10
    · rw [if_pos c10]
      clear c0 c1 c2 c3 c4 c5 c6 c7 c8 c9 c10
      obtain ⟨r, rf', a1, a2, a3, a4, a5, a6, a7, a8, b1, b2, b3, b4, b5, e1, e2⟩ := p_off (sec := sec) ho hb0 hb5 h1 h2 h3 (xs (x3 + 1).toNatClampNeg) (xs (x3 + 2).toNatClampNeg) rf u1 u2 u3 u4 u5 u6 u7 u8 v1 v2 v3 v4 v5
      simp only [g1, g2]
      rw [e1]
      rw [b10_p]
      rw [e2]
      rw [b7_p]
      rw [if_pos rfl]
      unfold jL_law_898
      exact ih (by omega) (by omega) (by omega) ⟨ho, hs9, hb0, hb5, h1, h2, h3, ht0, ht12, hl0, hl80, hi⟩
    rw [if_neg c10]
    by_cases c11 : xs x3.toNatClampNeg &&& 31 = 11
    · rw [if_pos c11]
      clear c0 c1 c2 c3 c4 c5 c6 c7 c8 c9 c10 c11
      obtain ⟨r, rf', c1, c2, c3, c4, c5, c6, c7, c8, c9, c10, c11, c12, c13, ck, cs, ct, a1, a2, a3, a4, a5, a6, a7, a8, b1, b2, b3, b4, b5, e1, e2⟩ := p_when (sec := sec) ho hb0 hb5 h1 h2 h3 (xs (x3 + 1).toNatClampNeg) (xs (x3 + 2).toNatClampNeg) (xs (x3 + 3).toNatClampNeg) score thr rf n1 n2 n3 n4 n5 n6 n7 n8 n9 n10 n11 n12 n13 nk ns nt u1 u2 u3 u4 u5 u6 u7 u8 v1 v2 v3 v4 v5
      simp only [g1, g2, g3]
      rw [e1]
      rw [b26_p]
      rw [e2]
      rw [b7_p]
      rw [if_pos rfl]
      unfold jL_law_898
      exact ih (by omega) (by omega) (by omega) ⟨ho, hs9, hb0, hb5, h1, h2, h3, ht0, ht12, hl0, hl80, hi⟩
    rw [if_neg c11]
    by_cases c12 : xs x3.toNatClampNeg &&& 31 = 12
    · rw [if_pos c12]
      clear c0 c1 c2 c3 c4 c5 c6 c7 c8 c9 c10 c11 c12
      obtain ⟨r, rf', c1, c2, c3, c4, c5, c6, c7, c8, c9, c10, c11, c12, c13, ck, cs, ct, a1, a2, a3, a4, a5, a6, a7, a8, b1, b2, b3, b4, b5, tm', e1, e2, hq⟩ := p_crumpled (sec := sec) ho hb0 hb5 h1 h2 h3 (xs (x3 + 1).toNatClampNeg) (xs (x3 + 2).toNatClampNeg) (xs (x3 + 3).toNatClampNeg) score thr rf n1 n2 n3 n4 n5 n6 n7 n8 n9 n10 n11 n12 n13 nk ns nt u1 u2 u3 u4 u5 u6 u7 u8 v1 v2 v3 v4 v5
      simp only [g1, g2, g3]
      rw [e1]
      rw [b26_p]
      rw [e2]
      rw [b8_p]
      rw [if_pos rfl]
      unfold jL_law_898
      exact ih (by omega) (by omega) (by omega) ⟨ho, hs9, hb0, hb5, h1, h2.tr hq.sy, h3, ht0, ht12, hl0, hl80, hi⟩
    rw [if_neg c12]
    by_cases c13 : xs x3.toNatClampNeg &&& 31 = 13
    · rw [if_pos c13]
      clear c0 c1 c2 c3 c4 c5 c6 c7 c8 c9 c10 c11 c12 c13
      obtain ⟨r, rf', c1, c2, c3, c4, c5, c6, c7, c8, c9, c10, c11, c12, c13, ck, cs, ct, a1, a2, a3, a4, a5, a6, a7, a8, b1, b2, b3, b4, b5, e1, e2⟩ := p_fills (sec := sec) ho hb0 hb5 h1 h2 h3 (xs (x3 + 1).toNatClampNeg) (xs (x3 + 2).toNatClampNeg) (xs (x3 + 3).toNatClampNeg) score thr rf n1 n2 n3 n4 n5 n6 n7 n8 n9 n10 n11 n12 n13 nk ns nt u1 u2 u3 u4 u5 u6 u7 u8 v1 v2 v3 v4 v5
      simp only [g1, g2, g3]
      rw [e1]
      rw [b26_p]
      rw [e2]
      rw [b8_p]
      rw [if_pos rfl]
      unfold jL_law_898
      exact ih (by omega) (by omega) (by omega) ⟨ho, hs9, hb0, hb5, h1, h2, h3, ht0, ht12, hl0, hl80, hi⟩
    rw [if_neg c13]
    by_cases c14 : xs x3.toNatClampNeg &&& 31 = 14
    · rw [if_pos c14]
      clear c0 c1 c2 c3 c4 c5 c6 c7 c8 c9 c10 c11 c12 c13 c14
      obtain ⟨r, rf', a1, a2, a3, a4, a5, a6, a7, a8, b1, b2, b3, b4, b5, e1, e2⟩ := p_whose (sec := sec) ho hb0 hb5 h1 h2 h3 (xs (x3 + 1).toNatClampNeg) (xs (x3 + 2).toNatClampNeg) (xs (x3 + 3).toNatClampNeg) rf u1 u2 u3 u4 u5 u6 u7 u8 v1 v2 v3 v4 v5
      simp only [g1, g2, g3]
      rw [e1]
      rw [b10_p]
      rw [e2]
      rw [b7_p]
      rw [if_pos rfl]
      unfold jL_law_898
      exact ih (by omega) (by omega) (by omega) ⟨ho, hs9, hb0, hb5, h1, h2, h3, ht0, ht12, hl0, hl80, hi⟩
    rw [if_neg c14]
    by_cases c15 : xs x3.toNatClampNeg &&& 31 = 15
    · rw [if_pos c15]
      clear c0 c1 c2 c3 c4 c5 c6 c7 c8 c9 c10 c11 c12 c13 c14 c15
      obtain ⟨r, rf', oa', ob', e1, e2⟩ := p_inRow (xs (x3 + 1).toNatClampNeg) (xs (x3 + 2).toNatClampNeg) (xs (x3 + 3).toNatClampNeg) rf oa ob
      simp only [g1, g2, g3]
      rw [e1]
      rw [b4_p]
      rw [e2]
      rw [b2_p]
      rw [if_pos ((lg_cmp_eq _ _).mpr rfl)]
      unfold jL_law_898
      exact ih (by omega) (by omega) (by omega) ⟨ho, hs9, hb0, hb5, h1, h2, h3, ht0, ht12, hl0, hl80, hi⟩
    rw [if_neg c15]
    by_cases c16 : xs x3.toNatClampNeg &&& 31 = 16
    · rw [if_pos c16]
      clear c0 c1 c2 c3 c4 c5 c6 c7 c8 c9 c10 c11 c12 c13 c14 c15 c16
      obtain ⟨r, rf', oa', ob', e1, e2⟩ := p_soMany (xs (x3 + 1).toNatClampNeg) (xs (x3 + 2).toNatClampNeg) (xs (x3 + 3).toNatClampNeg) (xs (x3 + 4).toNatClampNeg) rf oa ob
      simp only [g1, g2, g3, g4]
      rw [e1]
      rw [b4_p]
      rw [e2]
      rw [b2_p]
      rw [if_pos ((lg_cmp_eq _ _).mpr rfl)]
      unfold jL_law_898
      exact ih (by omega) (by omega) (by omega) ⟨ho, hs9, hb0, hb5, h1, h2, h3, ht0, ht12, hl0, hl80, hi⟩
    rw [if_neg c16]
    by_cases c17 : xs x3.toNatClampNeg &&& 31 = 17
    · rw [if_pos c17]
      clear c0 c1 c2 c3 c4 c5 c6 c7 c8 c9 c10 c11 c12 c13 c14 c15 c16 c17
      obtain ⟨r, rf', c1, c2, c3, c4, c5, c6, c7, c8, c9, c10, c11, c12, c13, ck, cs, ct, a1, a2, a3, a4, a5, a6, a7, a8, b1, b2, b3, b4, b5, e1, e2⟩ := p_farthest (sec := sec) ho hb0 hb5 h1 h2 h3 (xs (x3 + 1).toNatClampNeg) score thr rf n1 n2 n3 n4 n5 n6 n7 n8 n9 n10 n11 n12 n13 nk ns nt u1 u2 u3 u4 u5 u6 u7 u8 v1 v2 v3 v4 v5
      simp only [g1]
      rw [e1]
      rw [b26_p]
      rw [e2]
      rw [b8_p]
      rw [if_pos rfl]
      unfold jL_law_898
      exact ih (by omega) (by omega) (by omega) ⟨ho, hs9, hb0, hb5, h1, h2, h3, ht0, ht12, hl0, hl80, hi⟩
    rw [if_neg c17]
    by_cases c18 : xs x3.toNatClampNeg &&& 31 = 18
    · rw [if_pos c18]
      clear c0 c1 c2 c3 c4 c5 c6 c7 c8 c9 c10 c11 c12 c13 c14 c15 c16 c17 c18
      obtain ⟨r, tc', rf', tl', e1, e2, y0, y9⟩ := p_row (xs (x3 + 1).toNatClampNeg) rf tl ht0 ht12
      simp only [g1]
      rw [e1]
      rw [b4_p]
      rw [e2]
      rw [b4_p]
      rw [if_pos rfl]
      unfold jL_law_898
      exact ih (by omega) (by omega) (by omega) ⟨ho, hs9, hb0, hb5, h1, h2, h3, y0, y9, hl0, hl80, hi⟩
    rw [if_neg c18]
    by_cases c19 : xs x3.toNatClampNeg &&& 31 = 19
    · rw [if_pos c19]
      clear c0 c1 c2 c3 c4 c5 c6 c7 c8 c9 c10 c11 c12 c13 c14 c15 c16 c17 c18 c19
      obtain ⟨r, c1, c2, c3, c4, c5, c6, c7, c8, c9, c10, c11, c12, c13, ck, cs, ct, a1, a2, a3, a4, a5, a6, a7, a8, b1, b2, b3, b4, b5, ah', k', s', t', e1, e2, d3, d1, d2⟩ := p_judge (sec := sec) ho hb0 hb5 h1 h2 h3 score thr ht0 ht12 tl ah n1 n2 n3 n4 n5 n6 n7 n8 n9 n10 n11 n12 n13 nk ns nt u1 u2 u3 u4 u5 u6 u7 u8 v1 v2 v3 v4 v5
      rw [e1]
      rw [b26_p]
      rw [e2]
      rw [b24_p]
      rw [if_pos rfl]
      unfold jL_law_898
      exact ih (by omega) (by omega) (by omega) ⟨ho, hs9, hb0, hb5, h1.tr d1.sy, h2.tr d2.sy, h3.tr d3.sy, by decide, by decide, hl0, hl80, hi⟩
    rw [if_neg c19]
    by_cases c20 : xs x3.toNatClampNeg &&& 31 = 20
    · rw [if_pos c20]
      clear c0 c1 c2 c3 c4 c5 c6 c7 c8 c9 c10 c11 c12 c13 c14 c15 c16 c17 c18 c19 c20
      obtain ⟨r, rf', c1, c2, c3, c4, c5, c6, c7, c8, c9, c10, c11, c12, c13, ck, cs, ct, ls, a1, a2, a3, a4, a5, a6, a7, a8, b1, b2, b3, b4, b5, ah', k', s', t', e1, e2, d3, d1, d2⟩ := p_lots (sec := sec) ho hb0 hb5 h1 h2 h3 (xs (x3 + 1).toNatClampNeg) (xs (x3 + 2).toNatClampNeg) score thr ls0 rf ah n1 n2 n3 n4 n5 n6 n7 n8 n9 n10 n11 n12 n13 nk ns nt u1 u2 u3 u4 u5 u6 u7 u8 v1 v2 v3 v4 v5
      simp only [g1, g2]
      rw [e1]
      rw [b27_p]
      rw [e2]
      rw [b24_p]
      rw [if_pos rfl]
      unfold jL_law_898
      exact ih (by omega) (by omega) (by omega) ⟨ho, hs9, hb0, hb5, h1.tr d1.sy, h2.tr d2.sy, h3.tr d3.sy, ht0, ht12, hl0, hl80, hi⟩
    rw [if_neg c20]
    by_cases c21 : xs x3.toNatClampNeg &&& 31 = 21
    · rw [if_pos c21]
      clear c0 c1 c2 c3 c4 c5 c6 c7 c8 c9 c10 c11 c12 c13 c14 c15 c16 c17 c18 c19 c20 c21
      obtain ⟨A', k', s', t', e1, e2, hI⟩ := p_image hand at_ wide rim fill wall ceiling puff period sec score thr bc qk qs qt A h1 h2 h3
      rw [e1]
      rw [b18_p]
      rw [e2]
      rw [b3_p]
      rw [if_pos rfl]
      unfold jL_law_898
      exact ih (by omega) (by omega) (by omega) ⟨ho, hs9, hb0, hb5, h1, h2, h3, ht0, ht12, hl0, hl80, Or.inr ⟨by decide, hI, ho, hs9, hb0, hb5⟩⟩
    rw [if_neg c21]
    by_cases c22 : xs x3.toNatClampNeg &&& 31 = 22
    · rw [if_pos c22]
      clear c0 c1 c2 c3 c4 c5 c6 c7 c8 c9 c10 c11 c12 c13 c14 c15 c16 c17 c18 c19 c20 c21 c22
      rcases hi with him | ⟨him, hI, hko, hks9, hkb0, hkb5⟩
      · subst him
        obtain ⟨rf', e1, e2⟩ := p_on_no rf hand at_ wide rim fill wall ceiling puff period sec score thr bc hand' at_' wide' rim' fill' wall' ceiling' puff' period' sec' score' thr' bc' qk ks qs ss qt ts A km sm tm
        rw [e1, e2]
        rw [b18_p, b18_p]
        rw [if_pos rfl]
        unfold jL_law_898
        exact ih (by omega) (by omega) (by omega) ⟨ho, hs9, hb0, hb5, h1, h2, h3, ht0, ht12, hl0, hl80, Or.inl rfl⟩
      · obtain ⟨k1, s1, t1, k2, s2, t2, e1, e2, d1, d2, d3⟩ := p_on_yes him rf hand at_ wide rim fill wall ceiling puff period sec score thr bc hand' at_' wide' rim' fill' wall' ceiling' puff' period' sec' score' thr' bc' qk ks qs ss qt ts km sm tm hI
        rw [e1, e2]
        rw [b18_p, b18_p]
        rw [if_pos rfl]
        unfold jL_law_898
        exact ih (by omega) (by omega) (by omega) ⟨hko, hks9, hkb0, hkb5, d1, d2, d3, ht0, ht12, hl0, hl80, Or.inr ⟨him, hI, hko, hks9, hkb0, hkb5⟩⟩
    rw [if_neg c22]
    by_cases c23 : xs x3.toNatClampNeg &&& 31 = 23
    · rw [if_pos c23]
      clear c0 c1 c2 c3 c4 c5 c6 c7 c8 c9 c10 c11 c12 c13 c14 c15 c16 c17 c18 c19 c20 c21 c22 c23
      obtain ⟨r, e1, e2⟩ := p_count (xs (x3 + 1).toNatClampNeg) tc len at_ fill wall ceiling sec score thr bc rf
      simp only [g1]
      rw [e1]
      rw [b1_p]
      rw [e2]
      rw [b1_p]
      rw [if_pos rfl]
      unfold jL_law_898
      exact ih (by omega) (by omega) (by omega) ⟨ho, hs9, hb0, hb5, h1, h2, h3, ht0, ht12, hl0, hl80, hi⟩
    rw [if_neg c23]
    unfold jL_law_898
    exact ih (by omega) (by omega) (by omega) ⟨ho, hs9, hb0, hb5, h1, h2, h3, ht0, ht12, hl0, hl80, hi⟩
