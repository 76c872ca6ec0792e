/-! judge and lots: throws in mind; the reference plays in itself and goes back to what it kept -/
theorem sub5 (a : Int32) : a + (-5) = a - 5 := by
  rw [Int32.sub_eq_add_neg]
theorem judge_l {hand at_ wide rim fill wall ceiling puff period second sec bc score thr : Int32} {kq sq tq km sm tm : Nat → Int32} (ho : OkO hand at_ wide rim fill wall ceiling puff period second) (hb0 : 0 ≤ bc.toInt) (hb5 : bc.toInt ≤ 5) (h1 : AEq 5 sq sm) (h2 : AEq 5 tq tm) (h3 : AEq 5 kq km) {ah : Nat → Int32} (hI : Img ah hand at_ wide rim fill wall ceiling puff period sec score thr bc km sm tm) (tl : Nat → Int32) {tc : Int32} (htc : tc.toInt ≤ 12) :
    ∀ (n : Nat) (fi ix fq qs qc qt : Int32) (u1 u2 u3 u4 u5 u6 u7 u8 v1 v2 v3 v4 v5 : Int32), 0 ≤ ix.toInt → ix.toInt ≤ tc.toInt → tc.toInt - ix.toInt < n → (0 ≤ fq.toInt ∧ fq.toInt ≤ 9) → ∃ v fq' qs' qc' qt' a1 a2 a3 a4 a5 a6 a7 a8 b1 b2 b3 b4 b5 k' s' t', lX5_judge_16 bc tl n fi ix tc hand at_ wide rim fq wall ceiling puff period qs qc qt bc kq sq tq u1 u2 u3 u4 u5 u6 u7 u8 = some (v, 0, hand, at_, wide, rim, fq', wall, ceiling, puff, period, qs', qc', qt', bc, kq, sq, tq, a1, a2, a3, a4, a5, a6, a7, a8) ∧ lX6_judge_23 tl n tc fi ix hand at_ wide rim fq wall ceiling puff period qs qc qt bc 0 v1 v2 v3 v4 v5 km ah sm tm = some (v, hand, at_, wide, rim, fill, wall, ceiling, puff, period, sec, score, thr, bc, 0, b1, b2, b3, b4, b5, k', ah, s', t') ∧ AEq 5 k' km ∧ AEq 5 s' sm ∧ AEq 5 t' tm := by
  intro n
  induction n with
  | zero => intro fi ix fq qs qc qt u1 u2 u3 u4 u5 u6 u7 u8 v1 v2 v3 v4 v5 a b d; omega
  | succ n ih =>
    intro fi ix fq qs qc qt u1 u2 u3 u4 u5 u6 u7 u8 v1 v2 v3 v4 v5 a b d hfq
    rw [lX5_judge_16, lX6_judge_23]
    obtain ⟨k', s', t', ea, g3, g1, g2⟩ := again_eq ah hI km sm tm
    by_cases hc : tc ≤ ix
    · rw [if_pos hc, if_pos hc, ea]
      simp only [b16]
      exact ⟨_, _, _, _, _, _, _, _, _, _, _, _, _, _, _, _, _, _, k', s', t', rfl, rfl, g3, g1, g2⟩
    · have hc' : ix.toInt < tc.toInt := by rw [fa_le] at hc; omega
      have h12 : ¬ 12 ≤ ix := by rw [fa_le]; show ¬ (12 : Int) ≤ ix.toInt; omega
      rw [if_neg hc, if_neg hc, if_neg h12]
      by_cases hfi : fi = -9
      · rw [if_pos hfi, if_pos hfi]
        have hi : ix.toInt < ((12 : Nat) : Int) := by show ix.toInt < 12; omega
        have e6 : (ix + 1).toInt = ix.toInt + 1 := i_add1 (by omega)
        rw [g_in_p a hi, g_in_p a hi, g_in_p a hi, g_in_p a hi]
        generalize tl ix.toNatClampNeg = x
        unfold fX5_toldThrowIsIn
        rw [isBall_eq hb0 hb5, sub5]
        rcases refThrow (x / 1000) (x / 100 - x / 100 / 10 * 10) (x - x / 100 * 100 - 5) hb5 with ⟨hb, q1, q2⟩ | ⟨hb, q1, r, q2, q3, q4, q5⟩
        · rw [q1, q2]
          simp only [b1]
          rw [if_pos rfl, if_neg (by decide)]
          simp only [b13]
          rw [if_pos rfl]
          unfold jX5_judge_51 jX6_judge_106 jX6_judge_108
          exact ih _ _ _ _ _ _ _ _ _ _ _ _ _ _ _ _ _ _ _ (by omega) (by omega) (by omega) hfq
        · rw [q1, q2]
          simp only [b1]
          rw [if_neg (show ¬ ((1 : Int32) = 0) by decide), q3]
          simp only []
          rcases q4 with rfl | rfl | rfl
          · rw [if_pos rfl, if_neg (by decide)]
            obtain ⟨e, fl, sc, w1, w2, w3, w4, w5, w6, w7, w8, e1, e2, e3⟩ := throw_eq (sec := qs) (OkO.fil ho hfq) hb h1 h2 h3 qc qt (x / 100 - x / 100 / 10 * 10) (x - x / 100 * 100 - 5)
            rw [e1, e2]
            simp only [b13, b10]
            unfold jX5_judge_51 jX6_judge_106 jX6_judge_108
            by_cases he : e = 0
            · rw [if_pos he, if_pos he]
              simp only []
              rw [if_neg (show ¬ ((1 : Int32) = 0) by decide)]
              exact ih _ _ _ _ _ _ _ _ _ _ _ _ _ _ _ _ _ _ _ (by omega) (by omega) (by omega) e3
            · rw [if_neg he, if_neg he]
              simp only []
              rw [if_pos rfl]
              exact ih _ _ _ _ _ _ _ _ _ _ _ _ _ _ _ _ _ _ _ (by omega) (by omega) (by omega) e3
          · rw [if_neg (by decide), if_pos (by decide)]
            simp only [b13]
            rw [if_pos rfl]
            unfold jX5_judge_51 jX6_judge_106 jX6_judge_108
            exact ih _ _ _ _ _ _ _ _ _ _ _ _ _ _ _ _ _ _ _ (by omega) (by omega) (by omega) hfq
          · rw [if_neg (by decide), if_pos (by decide)]
            simp only [b13]
            rw [if_pos rfl]
            unfold jX5_judge_51 jX6_judge_106 jX6_judge_108
            exact ih _ _ _ _ _ _ _ _ _ _ _ _ _ _ _ _ _ _ _ (by omega) (by omega) (by omega) hfq
      · rw [if_neg hfi, if_neg hfi, ea]
        simp only [b16]
        exact ⟨_, _, _, _, _, _, _, _, _, _, _, _, _, _, _, _, _, _, k', s', t', rfl, rfl, g3, g1, g2⟩
theorem p_judge {hand at_ wide rim fill wall ceiling puff period second sec bc : Int32} {ks ss ts km sm tm : Nat → Int32} (ho : OkO hand at_ wide rim fill wall ceiling puff period second) (hb0 : 0 ≤ bc.toInt) (hb5 : bc.toInt ≤ 5) (h1 : AEq 5 ss sm) (h2 : AEq 5 ts tm) (h3 : AEq 5 ks km) (score thr : Int32) {tc : Int32} (htc0 : 0 ≤ tc.toInt) (htc : tc.toInt ≤ 12) (tl ah : Nat → Int32) (n1 n2 n3 n4 n5 n6 n7 n8 n9 n10 n11 n12 n13 : Int32) (nk ns nt : Nat → Int32) (u1 u2 u3 u4 u5 u6 u7 u8 v1 v2 v3 v4 v5 : Int32) :
    ∃ r c1 c2 c3 c4 c5 c6 c7 c8 c9 c10 c11 c12 c13 ck cs ct a1 a2 a3 a4 a5 a6 a7 a8 b1 b2 b3 b4 b5 ah' k' s' t', fX5_judge tc hand at_ wide rim fill wall ceiling puff period sec score thr bc ks nk ss ns ts nt tl u1 u2 u3 u4 u5 u6 u7 u8 = some (r, 0, c1, c2, c3, c4, c5, c6, c7, c8, c9, c10, c11, c12, c13, ck, cs, ct, a1, a2, a3, a4, a5, a6, a7, a8) ∧ fX6_judge hand at_ wide rim fill wall ceiling puff period sec score thr bc tc v1 v2 v3 v4 v5 km ah sm tm tl = some (r, hand, at_, wide, rim, fill, wall, ceiling, puff, period, sec, score, thr, bc, 0, b1, b2, b3, b4, b5, k', ah', s', t') ∧ AEq 5 k' km ∧ AEq 5 s' sm ∧ AEq 5 t' tm := by
  unfold fX5_judge fX6_judge
  obtain ⟨kq, sq, tq, e0, g3, g1, g2⟩ := become_eq hand at_ wide rim fill wall ceiling puff period sec score thr bc ks nk ss ns ts nt
  obtain ⟨ah', ek, hI⟩ := keep_eq hand at_ wide rim fill wall ceiling puff period sec score thr bc km ah sm tm
  rw [e0, ek]
  simp only [b16, b1]
  obtain ⟨v, fq, qs, qc, qt, w1, w2, w3, w4, w5, w6, w7, w8, y1, y2, y3, y4, y5, k', s', t', e1, e2, d3, d1, d2⟩ := judge_l (sec := sec) ho hb0 hb5 (g1.tr h1) (g2.tr h2) (g3.tr h3) hI tl htc 100 (-9) 0 fill sec score thr u1 u2 u3 u4 u5 u6 u7 u8 v1 v2 v3 v4 v5 (by decide) htc0 (by show tc.toInt - 0 < 100; omega) ho.2.2.2.2.1
  rw [e1, e2]
  exact ⟨_, _, _, _, _, _, _, _, _, _, _, _, _, _, _, _, _, _, _, _, _, _, _, _, _, _, _, _, _, _, _, _, _, _, rfl, rfl, d3, d1, d2⟩
/-- a draw: from nothing below 0 on -/
theorem i_mask (x : Int32) : 0 ≤ (x &&& 2147483647).toInt := by
  obtain ⟨j, hj, e⟩ := pk_andE x (m := 2147483647) 31 (by decide)
  rw [e, nI_toInt hj]
  omega
theorem i_rem {x m : Int32} (hx : 0 ≤ x.toInt) (hm : 0 < m.toInt) : 0 ≤ (x - x / m * m).toInt ∧ (x - x / m * m).toInt < m.toInt := by
  obtain ⟨a, ha, rfl⟩ := nI_of (x := x) (by rw [fa_lt]; show ¬ x.toInt < 0; omega)
  obtain ⟨d, hd, rfl⟩ := nI_of (x := m) (by rw [fa_lt]; show ¬ m.toInt < 0; omega)
  rw [nI_toInt hd] at hm ⊢
  have hd0 : 0 < d := by omega
  rw [pk_rem ha hd0 hd]
  have hlt : a % d < d := Nat.mod_lt _ hd0
  rw [nI_toInt (by omega)]
  omega
theorem i_div256 {x : Int32} (hx : 0 ≤ x.toInt) : 0 ≤ (x / 256).toInt := by
  obtain ⟨a, ha, rfl⟩ := nI_of (x := x) (by rw [fa_lt]; show ¬ x.toInt < 0; omega)
  have e : nI a / (256 : Int32) = nI (a / 256) := pk_div (d := 256) ha (by decide) (by decide)
  rw [e, nI_toInt (by have := Nat.div_le_self a 256; omega)]
  omega
theorem lots_l {hand at_ wide rim fill wall ceiling puff period second sec bc score thr : Int32} {kq sq tq km sm tm : Nat → Int32} (ho : OkO hand at_ wide rim fill wall ceiling puff period second) (hb0 : 0 ≤ bc.toInt) (hb5 : bc.toInt ≤ 5) (h1 : AEq 5 sq sm) (h2 : AEq 5 tq tm) (h3 : AEq 5 kq km) (hbp : 0 < bc.toInt) {ah : Nat → Int32} (hI : Img ah hand at_ wide rim fill wall ceiling puff period sec score thr bc km sm tm) (rf : Nat → Int32) {nn : Int32} (hnn : nn.toInt ≤ 30) :
    ∀ (n : Nat) (ix z fq qs qc qt : Int32) (u1 u2 u3 u4 u5 u6 u7 u8 v1 v2 v3 v4 v5 : Int32), 0 ≤ ix.toInt → ix.toInt ≤ nn.toInt → nn.toInt - ix.toInt < n → (0 ≤ fq.toInt ∧ fq.toInt ≤ 9) → ∃ v fq' qs' qc' qt' z' a1 a2 a3 a4 a5 a6 a7 a8 b1 b2 b3 b4 b5 k' s' t', lX5_lots_63 nn score n ix rf hand at_ wide rim fq wall ceiling puff period qs qc qt bc kq sq tq z u1 u2 u3 u4 u5 u6 u7 u8 = some (v, rf, hand, at_, wide, rim, fq', wall, ceiling, puff, period, qs', qc', qt', bc, kq, sq, tq, z', a1, a2, a3, a4, a5, a6, a7, a8) ∧ lX6_lots_58 nn n z score ix hand at_ wide rim fq wall ceiling puff period qs qc qt bc v1 v2 v3 v4 v5 rf km ah sm tm = some (v, hand, at_, wide, rim, fill, wall, ceiling, puff, period, sec, score, thr, bc, b1, b2, b3, b4, b5, rf, k', ah, s', t') ∧ AEq 5 k' km ∧ AEq 5 s' sm ∧ AEq 5 t' tm := by
  intro n
  induction n with
  | zero => intro ix z fq qs qc qt u1 u2 u3 u4 u5 u6 u7 u8 v1 v2 v3 v4 v5 a b d; omega
  | succ n ih =>
    intro ix z fq qs qc qt u1 u2 u3 u4 u5 u6 u7 u8 v1 v2 v3 v4 v5 a b d hfq
    rw [lX5_lots_63, lX6_lots_58]
    obtain ⟨k', s', t', ea, g3, g1, g2⟩ := again_eq ah hI km sm tm
    by_cases hc : nn ≤ ix
    · rw [if_pos hc, if_pos hc, ea]
      simp only [b16]
      exact ⟨_, _, _, _, _, _, _, _, _, _, _, _, _, _, _, _, _, _, _, k', s', t', rfl, rfl, g3, g1, g2⟩
    · have hc' : ix.toInt < nn.toInt := by rw [fa_le] at hc; omega
      have e6 : (ix + 1).toInt = ix.toInt + 1 := i_add1 (by omega)
      rw [if_neg hc, if_neg hc]
      have z1 : ¬ bc ≤ 0 := by rw [fa_le]; show ¬ bc.toInt ≤ 0; omega
      have z2 : ¬ bc = 0 := by rw [fa_eq]; show ¬ bc.toInt = 0; omega
      unfold fX1_drawBelow
      rw [if_neg z1, g_nz_p z2, g_nz_p z2]
      simp only [b2]
      rw [if_neg (show ¬ ((9 : Int32) ≤ 0) by decide), g_nz_p (show ¬ ((9 : Int32) = 0) by decide)]
      simp only [b2]
      rw [if_neg (show ¬ ((21 : Int32) ≤ 0) by decide), g_nz_p (show ¬ ((21 : Int32) = 0) by decide)]
      simp only [b2]
      rw [sub5]
      have hball := i_rem (i_div256 (i_mask (z * 1664525 + 1013904223))) hbp
      have hb : bOK ((z * 1664525 + 1013904223 &&& 2147483647) / 256 - (z * 1664525 + 1013904223 &&& 2147483647) / 256 / bc * bc) bc := ⟨hball.1, hball.2, hb5⟩
      obtain ⟨e, fl, sc, w1, w2, w3, w4, w5, w6, w7, w8, e1, e2, e3⟩ := throw_eq (sec := qs) (OkO.fil ho hfq) hb h1 h2 h3 qc qt ((((z * 1664525 + 1013904223) * 1664525 + 1013904223 &&& 2147483647) / 256 - ((z * 1664525 + 1013904223) * 1664525 + 1013904223 &&& 2147483647) / 256 / 9 * 9) + 1) ((((((z * 1664525 + 1013904223) * 1664525 + 1013904223) * 1664525 + 1013904223) &&& 2147483647) / 256 - ((((z * 1664525 + 1013904223) * 1664525 + 1013904223) * 1664525 + 1013904223) &&& 2147483647) / 256 / 21 * 21) - 5)
      rw [e1, e2]
      simp only [b13, b10]
      exact ih _ _ _ _ _ _ _ _ _ _ _ _ _ _ _ _ _ _ _ (by omega) (by omega) (by omega) e3
theorem p_lots {hand at_ wide rim fill wall ceiling puff period second sec bc : Int32} {ks ss ts km sm tm : Nat → Int32} (ho : OkO hand at_ wide rim fill wall ceiling puff period second) (hb0 : 0 ≤ bc.toInt) (hb5 : bc.toInt ≤ 5) (h1 : AEq 5 ss sm) (h2 : AEq 5 ts tm) (h3 : AEq 5 ks km) (x1 x2 score thr ls0 : Int32) (rf ah : Nat → Int32) (n1 n2 n3 n4 n5 n6 n7 n8 n9 n10 n11 n12 n13 : Int32) (nk ns nt : Nat → Int32) (u1 u2 u3 u4 u5 u6 u7 u8 v1 v2 v3 v4 v5 : Int32) :
    ∃ r rf' c1 c2 c3 c4 c5 c6 c7 c8 c9 c10 c11 c12 c13 ck cs ct ls a1 a2 a3 a4 a5 a6 a7 a8 b1 b2 b3 b4 b5 ah' k' s' t', fX5_lots x1 x2 rf hand at_ wide rim fill wall ceiling puff period sec score thr bc n1 n2 n3 n4 n5 n6 n7 n8 n9 n10 n11 n12 n13 ks nk ss ns ts nt ls0 u1 u2 u3 u4 u5 u6 u7 u8 = some (r, rf', c1, c2, c3, c4, c5, c6, c7, c8, c9, c10, c11, c12, c13, ck, cs, ct, ls, a1, a2, a3, a4, a5, a6, a7, a8) ∧ fX6_lots x1 x2 hand at_ wide rim fill wall ceiling puff period sec score thr bc v1 v2 v3 v4 v5 rf km ah sm tm = some (r, hand, at_, wide, rim, fill, wall, ceiling, puff, period, sec, score, thr, bc, b1, b2, b3, b4, b5, rf', k', ah', s', t') ∧ AEq 5 k' km ∧ AEq 5 s' sm ∧ AEq 5 t' tm := by
  unfold fX5_lots fX6_lots
  by_cases c1 : 1 ≤ x1
  · by_cases c2 : x1 ≤ 30
    · rw [if_pos c1, if_pos c1, if_pos c2, if_pos c2]
      by_cases c3 : bc = 0
      · obtain ⟨a', e1, e2⟩ := refuse_eq (x := -3) (by decide) rf
        rw [if_pos c3, if_pos c3, e1, e2]
        exact ⟨_, _, _, _, _, _, _, _, _, _, _, _, _, _, _, _, _, _, _, _, _, _, _, _, _, _, _, _, _, _, _, _, _, _, _, _, rfl, rfl, AEq.rf, AEq.rf, AEq.rf⟩
      · rw [if_neg c3, if_neg c3]
        have hbp : 0 < bc.toInt := by
          rw [fa_eq] at c3
          have c3' : ¬ bc.toInt = 0 := c3
          omega
        rw [fa_le] at c1 c2
        have c1' : (1 : Int) ≤ x1.toInt := c1
        have c2' : x1.toInt ≤ 30 := c2
        obtain ⟨kq, sq, tq, e0, g3, g1, g2⟩ := become_eq hand at_ wide rim fill wall ceiling puff period sec score thr bc ks nk ss ns ts nt
        obtain ⟨ah', ek, hI⟩ := keep_eq hand at_ wide rim fill wall ceiling puff period sec score thr bc km ah sm tm
        rw [e0, ek]
        simp only [b16, b1]
        obtain ⟨v, fq, qs, qc, qt, z', w1, w2, w3, w4, w5, w6, w7, w8, y1, y2, y3, y4, y5, k', s', t', e1, e2, d3, d1, d2⟩ := lots_l (sec := sec) ho hb0 hb5 (g1.tr h1) (g2.tr h2) (g3.tr h3) hbp hI rf c2' 100 0 x2 fill sec score thr u1 u2 u3 u4 u5 u6 u7 u8 v1 v2 v3 v4 v5 (by decide) (by show (0 : Int) ≤ x1.toInt; omega) (by show x1.toInt - 0 < 100; omega) ho.2.2.2.2.1
        rw [e1, e2]
        exact ⟨_, _, _, _, _, _, _, _, _, _, _, _, _, _, _, _, _, _, _, _, _, _, _, _, _, _, _, _, _, _, _, _, _, _, _, _, rfl, rfl, d3, d1, d2⟩
    · obtain ⟨a', e1, e2⟩ := refuse_eq (x := -6) (by decide) rf
      rw [if_pos c1, if_pos c1, if_neg c2, if_neg c2, e1, e2]
      exact ⟨_, _, _, _, _, _, _, _, _, _, _, _, _, _, _, _, _, _, _, _, _, _, _, _, _, _, _, _, _, _, _, _, _, _, _, _, rfl, rfl, AEq.rf, AEq.rf, AEq.rf⟩
  · obtain ⟨a', e1, e2⟩ := refuse_eq (x := -4) (by decide) rf
    rw [if_neg c1, if_neg c1, e1, e2]
    exact ⟨_, _, _, _, _, _, _, _, _, _, _, _, _, _, _, _, _, _, _, _, _, _, _, _, _, _, _, _, _, _, _, _, _, _, _, _, rfl, rfl, AEq.rf, AEq.rf, AEq.rf⟩
