/-! judge and lots: throws in mind; the reference plays in itself and goes back to what it kept -/
theorem sub5 (a : Int32) : a + (-5) = a - 5 := by
  rw [Int32.sub_eq_add_neg]
theorem judge_l {hand at_ wide rim fill wall ceiling puff period second sec bc score thr : Int32} {kq sq tq km sm tm : Nat → Int32} (ho : OkO hand at_ wide rim fill wall ceiling puff period second) (hb0 : 0 ≤ bc.toInt) (hb5 : bc.toInt ≤ 5) (h1 : AEq 5 sq sm) (h2 : AEq 5 tq tm) (h3 : AEq 5 kq km) {ah : Nat → Int32} (hI : Img ah hand at_ wide rim fill wall ceiling puff period sec score thr bc km sm tm) (tl : Nat → Int32) {tc : Int32} (htc : tc.toInt ≤ 12) :
    ∀ (n : Nat) (fi ix fq qs qc qt : Int32) (u1 u2 u3 u4 u5 u6 u7 u8 v1 v2 v3 v4 v5 : Int32), 0 ≤ ix.toInt → ix.toInt ≤ tc.toInt → tc.toInt - ix.toInt < n → (0 ≤ fq.toInt ∧ fq.toInt ≤ 9) → ∃ v fq' qs' qc' qt' a1 a2 a3 a4 a5 a6 a7 a8 b1 b2 b3 b4 b5 k' s' t', lX5_judge_16 bc tl n fi ix tc hand at_ wide rim fq wall ceiling puff period qs qc qt bc kq sq tq u1 u2 u3 u4 u5 u6 u7 u8 = some (v, 0, hand, at_, wide, rim, fq', wall, ceiling, puff, period, qs', qc', qt', bc, kq, sq, tq, a1, a2, a3, a4, a5, a6, a7, a8) ∧ lX6_judge_23 tl n tc fi ix hand at_ wide rim fq wall ceiling puff period qs qc qt bc 0 v1 v2 v3 v4 v5 km ah sm tm = some (v, hand, at_, wide, rim, fill, wall, ceiling, puff, period, sec, score, thr, bc, 0, b1, b2, b3, b4, b5, k', ah, s', t') ∧ AEq 5 k' km ∧ AEq 5 s' sm ∧ AEq 5 t' tm := by
  intro n
  induction n with
  | zero => intro fi ix fq qs qc qt u1 u2 u3 u4 u5 u6 u7 u8 v1 v2 v3 v4 v5 a b d; omega
  | succ n ih =>
    intro fi ix fq qs qc qt u1 u2 u3 u4 u5 u6 u7 u8 v1 v2 v3 v4 v5 a b d hfq
    rw [lX5_judge_16, lX6_judge_23]
    obtain ⟨k', s', t', ea, g3, g1, g2⟩ := again_eq ah hI km sm tm
    by_cases hc : tc ≤ ix
    · rw [if_pos hc, if_pos hc, ea]
      dsimp only [b16_p]
      exact ⟨_, _, _, _, _, _, _, _, _, _, _, _, _, _, _, _, _, _, k', s', t', rfl, rfl, g3, g1, g2⟩
    · have hc' : ix.toInt < tc.toInt := by rw [fa_le] at hc; omega
      have h12 : ¬ 12 ≤ ix := by rw [fa_le]; show ¬ (12 : Int) ≤ ix.toInt; omega
      rw [if_neg hc, if_neg hc, if_neg h12]
      by_cases hfi : fi = -9
      · rw [if_pos hfi, if_pos hfi]
        have hi : ix.toInt < ((12 : Nat) : Int) := by show ix.toInt < 12; omega
        have e6 : (ix + 1).toInt = ix.toInt + 1 := i_add1 (by omega)
        rw [g_in_p a hi, g_in_p a hi, g_in_p a hi, g_in_p a hi]
        generalize tl ix.toNatClampNeg = x
        unfold fX5_toldThrowIsIn
        rw [isBall_eq hb0 hb5, sub5]
        rcases refThrow (x / 1000) (x / 100 - x / 100 / 10 * 10) (x - x / 100 * 100 - 5) hb5 with ⟨hb, q1, q2⟩ | ⟨hb, q1, r, q2, q3, q4, q5⟩
        · rw [q1, q2]
          dsimp only [b1_p]
          rw [if_pos rfl, if_neg (by decide)]
          dsimp only [b13_p]
          rw [if_pos rfl]
          unfold jX5_judge_51 jX6_judge_106 jX6_judge_108
          exact ih _ _ _ _ _ _ _ _ _ _ _ _ _ _ _ _ _ _ _ (by omega) (by omega) (by omega) hfq
        · rw [q1, q2]
          dsimp only [b1_p]
          rw [if_neg (show ¬ ((1 : Int32) = 0) by decide), q3]
          try dsimp only [b1_p, b2_p, b3_p, b4_p, b5_p, b6_p, b7_p, b8_p, b9_p, b10_p, b13_p, b14_p, b16_p]
          rcases q4 with rfl | rfl | rfl
          · rw [if_pos rfl, if_neg (by decide)]
            obtain ⟨e, fl, sc, w1, w2, w3, w4, w5, w6, w7, w8, e1, e2, e3⟩ := throw_eq (sec := qs) (OkO.fil ho hfq) hb h1 h2 h3 qc qt (x / 100 - x / 100 / 10 * 10) (x - x / 100 * 100 - 5)
            rw [e1, e2]
            dsimp only [b13_p, b10_p]
            unfold jX5_judge_51 jX6_judge_106 jX6_judge_108
            by_cases he : e = 0
            · rw [if_pos he, if_pos he]
              try dsimp only [b1_p, b2_p, b3_p, b4_p, b5_p, b6_p, b7_p, b8_p, b9_p, b10_p, b13_p, b14_p, b16_p]
              rw [if_neg (show ¬ ((1 : Int32) = 0) by decide)]
              exact ih _ _ _ _ _ _ _ _ _ _ _ _ _ _ _ _ _ _ _ (by omega) (by omega) (by omega) e3
            · rw [if_neg he, if_neg he]
              try dsimp only [b1_p, b2_p, b3_p, b4_p, b5_p, b6_p, b7_p, b8_p, b9_p, b10_p, b13_p, b14_p, b16_p]
              rw [if_pos rfl]
              exact ih _ _ _ _ _ _ _ _ _ _ _ _ _ _ _ _ _ _ _ (by omega) (by omega) (by omega) e3
          · rw [if_neg (by decide), if_pos (by decide)]
            dsimp only [b13_p]
            rw [if_pos rfl]
            unfold jX5_judge_51 jX6_judge_106 jX6_judge_108
            exact ih _ _ _ _ _ _ _ _ _ _ _ _ _ _ _ _ _ _ _ (by omega) (by omega) (by omega) hfq
          · rw [if_neg (by decide), if_pos (by decide)]
            dsimp only [b13_p]
            rw [if_pos rfl]
            unfold jX5_judge_51 jX6_judge_106 jX6_judge_108
            exact ih _ _ _ _ _ _ _ _ _ _ _ _ _ _ _ _ _ _ _ (by omega) (by omega) (by omega) hfq
      · rw [if_neg hfi, if_neg hfi, ea]
        dsimp only [b16_p]
        exact ⟨_, _, _, _, _, _, _, _, _, _, _, _, _, _, _, _, _, _, k', s', t', rfl, rfl, g3, g1, g2⟩
theorem p_judge {hand at_ wide rim fill wall ceiling puff period second sec bc : Int32} {ks ss ts km sm tm : Nat → Int32} (ho : OkO hand at_ wide rim fill wall ceiling puff period second) (hb0 : 0 ≤ bc.toInt) (hb5 : bc.toInt ≤ 5) (h1 : AEq 5 ss sm) (h2 : AEq 5 ts tm) (h3 : AEq 5 ks km) (score thr : Int32) {tc : Int32} (htc0 : 0 ≤ tc.toInt) (htc : tc.toInt ≤ 12) (tl ah : Nat → Int32) (n1 n2 n3 n4 n5 n6 n7 n8 n9 n10 n11 n12 n13 : Int32) (nk ns nt : Nat → Int32) (u1 u2 u3 u4 u5 u6 u7 u8 v1 v2 v3 v4 v5 : Int32) :
    ∃ r c1 c2 c3 c4 c5 c6 c7 c8 c9 c10 c11 c12 c13 ck cs ct a1 a2 a3 a4 a5 a6 a7 a8 b1 b2 b3 b4 b5 ah' k' s' t', fX5_judge tc hand at_ wide rim fill wall ceiling puff period sec score thr bc ks nk ss ns ts nt tl u1 u2 u3 u4 u5 u6 u7 u8 = some (r, 0, c1, c2, c3, c4, c5, c6, c7, c8, c9, c10, c11, c12, c13, ck, cs, ct, a1, a2, a3, a4, a5, a6, a7, a8) ∧ fX6_judge hand at_ wide rim fill wall ceiling puff period sec score thr bc tc v1 v2 v3 v4 v5 km ah sm tm tl = some (r, hand, at_, wide, rim, fill, wall, ceiling, puff, period, sec, score, thr, bc, 0, b1, b2, b3, b4, b5, k', ah', s', t') ∧ AEq 5 k' km ∧ AEq 5 s' sm ∧ AEq 5 t' tm := by
  unfold fX5_judge fX6_judge
  obtain ⟨kq, sq, tq, e0, g3, g1, g2⟩ := become_eq hand at_ wide rim fill wall ceiling puff period sec score thr bc ks nk ss ns ts nt
  obtain ⟨ah', ek, hI⟩ := keep_eq hand at_ wide rim fill wall ceiling puff period sec score thr bc km ah sm tm
  rw [e0, ek]
  dsimp only [b16_p, b1_p]
  obtain ⟨v, fq, qs, qc, qt, w1, w2, w3, w4, w5, w6, w7, w8, y1, y2, y3, y4, y5, k', s', t', e1, e2, d3, d1, d2⟩ := judge_l (sec := sec) ho hb0 hb5 (g1.tr h1) (g2.tr h2) (g3.tr h3) hI tl htc 100 (-9) 0 fill sec score thr u1 u2 u3 u4 u5 u6 u7 u8 v1 v2 v3 v4 v5 (by decide) htc0 (by show tc.toInt - 0 < 100; omega) ho.2.2.2.2.1
  rw [e1, e2]
  exact ⟨_, _, _, _, _, _, _, _, _, _, _, _, _, _, _, _, _, _, _, _, _, _, _, _, _, _, _, _, _, _, _, _, _, _, rfl, rfl, d3, d1, d2⟩
/-- a draw: from nothing below 0 on -/
theorem i_mask (x : Int32) : 0 ≤ (x &&& 2147483647).toInt := by
  obtain ⟨j, hj, e⟩ := pk_andE x (m := 2147483647) 31 (by decide)
  rw [e, nI_toInt hj]
  omega
theorem i_rem {x m : Int32} (hx : 0 ≤ x.toInt) (hm : 0 < m.toInt) : 0 ≤ (x - x / m * m).toInt ∧ (x - x / m * m).toInt < m.toInt := by
  obtain ⟨a, ha, rfl⟩ := nI_of (x := x) (by rw [fa_lt]; show ¬ x.toInt < 0; omega)
  obtain ⟨d, hd, rfl⟩ := nI_of (x := m) (by rw [fa_lt]; show ¬ m.toInt < 0; omega)
  rw [nI_toInt hd] at hm ⊢
  have hd0 : 0 < d := by omega
  rw [pk_rem ha hd0 hd]
  have hlt : a % d < d := Nat.mod_lt _ hd0
  rw [nI_toInt (by omega)]
  omega
theorem i_div256 {x : Int32} (hx : 0 ≤ x.toInt) : 0 ≤ (x / 256).toInt := by
  obtain ⟨a, ha, rfl⟩ := nI_of (x := x) (by rw [fa_lt]; show ¬ x.toInt < 0; omega)
  have e : nI a / (256 : Int32) = nI (a / 256) := pk_div (d := 256) ha (by decide) (by decide)
  rw [e, nI_toInt (by have := Nat.div_le_self a 256; omega)]
  omega
theorem draw_c {m z : Int32} (h : 0 < m.toInt) : fX1_drawBelow m z = some ((z * 1664525 + 1013904223 &&& 2147483647) / 256 - (z * 1664525 + 1013904223 &&& 2147483647) / 256 / m * m, z * 1664525 + 1013904223) := by
  have z1 : ¬ m ≤ 0 := by rw [fa_le]; show ¬ m.toInt ≤ 0; omega
  have z2 : ¬ m = 0 := by rw [fa_eq]; show ¬ m.toInt = 0; omega
  unfold fX1_drawBelow
  rw [if_neg z1, g_nz_p z2]
theorem lots_l {hand at_ wide rim fill wall ceiling puff period second sec bc score thr : Int32} {kq sq tq km sm tm : Nat → Int32} (ho : OkO hand at_ wide rim fill wall ceiling puff period second) (hb0 : 0 ≤ bc.toInt) (hb5 : bc.toInt ≤ 5) (h1 : AEq 5 sq sm) (h2 : AEq 5 tq tm) (h3 : AEq 5 kq km) (hbp : 0 < bc.toInt) {ah : Nat → Int32} (hI : Img ah hand at_ wide rim fill wall ceiling puff period sec score thr bc km sm tm) (rf : Nat → Int32) {nn : Int32} (hnn : nn.toInt ≤ 30) :
    ∀ (n : Nat) (ix z fq qs qc qt : Int32) (u1 u2 u3 u4 u5 u6 u7 u8 v1 v2 v3 v4 v5 : Int32), 0 ≤ ix.toInt → ix.toInt ≤ nn.toInt → nn.toInt - ix.toInt < n → (0 ≤ fq.toInt ∧ fq.toInt ≤ 9) → ∃ v fq' qs' qc' qt' z' a1 a2 a3 a4 a5 a6 a7 a8 b1 b2 b3 b4 b5 k' s' t', lX5_lots_63 nn score n ix rf hand at_ wide rim fq wall ceiling puff period qs qc qt bc kq sq tq z u1 u2 u3 u4 u5 u6 u7 u8 = some (v, rf, hand, at_, wide, rim, fq', wall, ceiling, puff, period, qs', qc', qt', bc, kq, sq, tq, z', a1, a2, a3, a4, a5, a6, a7, a8) ∧ lX6_lots_58 nn n z score ix hand at_ wide rim fq wall ceiling puff period qs qc qt bc v1 v2 v3 v4 v5 rf km ah sm tm = some (v, hand, at_, wide, rim, fill, wall, ceiling, puff, period, sec, score, thr, bc, b1, b2, b3, b4, b5, rf, k', ah, s', t') ∧ AEq 5 k' km ∧ AEq 5 s' sm ∧ AEq 5 t' tm := by
  intro n
  induction n with
  | zero => intro ix z fq qs qc qt u1 u2 u3 u4 u5 u6 u7 u8 v1 v2 v3 v4 v5 a b d; omega
  | succ n ih =>
    intro ix z fq qs qc qt u1 u2 u3 u4 u5 u6 u7 u8 v1 v2 v3 v4 v5 a b d hfq
    rw [lX5_lots_63, lX6_lots_58]
    obtain ⟨k', s', t', ea, g3, g1, g2⟩ := again_eq ah hI km sm tm
    by_cases hc : nn ≤ ix
    · rw [if_pos hc, if_pos hc, ea]
      dsimp only [b16_p]
      exact ⟨_, _, _, _, _, _, _, _, _, _, _, _, _, _, _, _, _, _, _, k', s', t', rfl, rfl, g3, g1, g2⟩
    · have hc' : ix.toInt < nn.toInt := by rw [fa_le] at hc; omega
      have e6 : (ix + 1).toInt = ix.toInt + 1 := i_add1 (by omega)
      rw [if_neg hc, if_neg hc]
      have z1 : ¬ bc ≤ 0 := by rw [fa_le]; show ¬ bc.toInt ≤ 0; omega
      have z2 : ¬ bc = 0 := by rw [fa_eq]; show ¬ bc.toInt = 0; omega
      rw [draw_c hbp, b2_p, draw_c (m := 9) (by decide), b2_p, draw_c (m := 21) (by decide), b2_p, g_nz_p z2]
      rw [sub5]
      have hball := i_rem (i_div256 (i_mask (z * 1664525 + 1013904223))) hbp
      have hb : bOK ((z * 1664525 + 1013904223 &&& 2147483647) / 256 - (z * 1664525 + 1013904223 &&& 2147483647) / 256 / bc * bc) bc := ⟨hball.1, hball.2, hb5⟩
      obtain ⟨e, fl, sc, w1, w2, w3, w4, w5, w6, w7, w8, e1, e2, e3⟩ := throw_eq (sec := qs) (OkO.fil ho hfq) hb h1 h2 h3 qc qt ((((z * 1664525 + 1013904223) * 1664525 + 1013904223 &&& 2147483647) / 256 - ((z * 1664525 + 1013904223) * 1664525 + 1013904223 &&& 2147483647) / 256 / 9 * 9) + 1) ((((((z * 1664525 + 1013904223) * 1664525 + 1013904223) * 1664525 + 1013904223) &&& 2147483647) / 256 - ((((z * 1664525 + 1013904223) * 1664525 + 1013904223) * 1664525 + 1013904223) &&& 2147483647) / 256 / 21 * 21) - 5)
      rw [e1, e2]
      rw [b13_p, b10_p]
      exact ih _ _ _ _ _ _ _ _ _ _ _ _ _ _ _ _ _ _ _ (by omega) (by omega) (by omega) e3
theorem p_lots {hand at_ wide rim fill wall ceiling puff period second sec bc : Int32} {ks ss ts km sm tm : Nat → Int32} (ho : OkO hand at_ wide rim fill wall ceiling puff period second) (hb0 : 0 ≤ bc.toInt) (hb5 : bc.toInt ≤ 5) (h1 : AEq 5 ss sm) (h2 : AEq 5 ts tm) (h3 : AEq 5 ks km) (x1 x2 score thr ls0 : Int32) (rf ah : Nat → Int32) (n1 n2 n3 n4 n5 n6 n7 n8 n9 n10 n11 n12 n13 : Int32) (nk ns nt : Nat → Int32) (u1 u2 u3 u4 u5 u6 u7 u8 v1 v2 v3 v4 v5 : Int32) :
    ∃ r rf' c1 c2 c3 c4 c5 c6 c7 c8 c9 c10 c11 c12 c13 ck cs ct ls a1 a2 a3 a4 a5 a6 a7 a8 b1 b2 b3 b4 b5 ah' k' s' t', fX5_lots x1 x2 rf hand at_ wide rim fill wall ceiling puff period sec score thr bc n1 n2 n3 n4 n5 n6 n7 n8 n9 n10 n11 n12 n13 ks nk ss ns ts nt ls0 u1 u2 u3 u4 u5 u6 u7 u8 = some (r, rf', c1, c2, c3, c4, c5, c6, c7, c8, c9, c10, c11, c12, c13, ck, cs, ct, ls, a1, a2, a3, a4, a5, a6, a7, a8) ∧ fX6_lots x1 x2 hand at_ wide rim fill wall ceiling puff period sec score thr bc v1 v2 v3 v4 v5 rf km ah sm tm = some (r, hand, at_, wide, rim, fill, wall, ceiling, puff, period, sec, score, thr, bc, b1, b2, b3, b4, b5, rf', k', ah', s', t') ∧ AEq 5 k' km ∧ AEq 5 s' sm ∧ AEq 5 t' tm := by
  unfold fX5_lots fX6_lots
  by_cases c1 : 1 ≤ x1
  · by_cases c2 : x1 ≤ 30
    · rw [if_pos c1, if_pos c1, if_pos c2, if_pos c2]
      by_cases c3 : bc = 0
      · obtain ⟨a', e1, e2⟩ := refuse_eq (x := -3) (by decide) rf
        rw [if_pos c3, if_pos c3, e1, e2]
        exact ⟨_, _, _, _, _, _, _, _, _, _, _, _, _, _, _, _, _, _, _, _, _, _, _, _, _, _, _, _, _, _, _, _, _, _, _, _, rfl, rfl, AEq.rf, AEq.rf, AEq.rf⟩
      · rw [if_neg c3, if_neg c3]
        have hbp : 0 < bc.toInt := by
          rw [fa_eq] at c3
          have c3' : ¬ bc.toInt = 0 := c3
          omega
        rw [fa_le] at c1 c2
        have c1' : (1 : Int) ≤ x1.toInt := c1
        have c2' : x1.toInt ≤ 30 := c2
        obtain ⟨kq, sq, tq, e0, g3, g1, g2⟩ := become_eq hand at_ wide rim fill wall ceiling puff period sec score thr bc ks nk ss ns ts nt
        obtain ⟨ah', ek, hI⟩ := keep_eq hand at_ wide rim fill wall ceiling puff period sec score thr bc km ah sm tm
        rw [e0, ek]
        dsimp only [b16_p, b1_p]
        obtain ⟨v, fq, qs, qc, qt, z', w1, w2, w3, w4, w5, w6, w7, w8, y1, y2, y3, y4, y5, k', s', t', e1, e2, d3, d1, d2⟩ := lots_l (sec := sec) ho hb0 hb5 (g1.tr h1) (g2.tr h2) (g3.tr h3) hbp hI rf c2' 100 0 x2 fill sec score thr u1 u2 u3 u4 u5 u6 u7 u8 v1 v2 v3 v4 v5 (by decide) (by show (0 : Int) ≤ x1.toInt; omega) (by show x1.toInt - 0 < 100; omega) ho.2.2.2.2.1
        rw [e1, e2]
        exact ⟨_, _, _, _, _, _, _, _, _, _, _, _, _, _, _, _, _, _, _, _, _, _, _, _, _, _, _, _, _, _, _, _, _, _, _, _, rfl, rfl, d3, d1, d2⟩
    · obtain ⟨a', e1, e2⟩ := refuse_eq (x := -6) (by decide) rf
      rw [if_pos c1, if_pos c1, if_neg c2, if_neg c2, e1, e2]
      exact ⟨_, _, _, _, _, _, _, _, _, _, _, _, _, _, _, _, _, _, _, _, _, _, _, _, _, _, _, _, _, _, _, _, _, _, _, _, rfl, rfl, AEq.rf, AEq.rf, AEq.rf⟩
  · obtain ⟨a', e1, e2⟩ := refuse_eq (x := -4) (by decide) rf
    rw [if_neg c1, if_neg c1, e1, e2]
    exact ⟨_, _, _, _, _, _, _, _, _, _, _, _, _, _, _, _, _, _, _, _, _, _, _, _, _, _, _, _, _, _, _, _, _, _, _, _, rfl, rfl, AEq.rf, AEq.rf, AEq.rf⟩
/-! odds: the numbers are few, the kernel counts them out -/
theorem refuseL_eq {x : Int32} (h : x = -1 ∨ x = -2 ∨ x = -3 ∨ x = -4 ∨ x = -6) (a : Nat → Int32) : ∃ v a', fX5_refuseLong x a = some (v, a') ∧ fX6_noLong x a = some (v, a') := by
  obtain ⟨a', e1, e2⟩ := refuse_eq h a
  unfold fX5_refuseLong fX6_noLong
  rw [e1, e2]
  exact ⟨_, _, rfl, rfl⟩
/-- the reference's sum does not look at what it carries along -/
theorem soM_rf (x1 x2 x3 x4 : Int32) (rf : Nat → Int32) : ∀ (n : Nat) (x5 x7 : Int64) (x9 : Int32), lX6_soMany_69 x1 x2 x3 x4 n x5 x7 x9 rf = (lX6_soMany_69 x1 x2 x3 x4 n x5 x7 x9 (fun _ => 0)).map (fun q => (q.1, rf)) := by
  intro n
  induction n with
  | zero => intro x5 x7 x9; rfl
  | succ n ih =>
    intro x5 x7 x9
    rw [lX6_soMany_69, lX6_soMany_69]
    unfold jX6_soMany_96 jX6_soMany_130
    simp only [ih]
    by_cases h1 : x1 < x9
    · rw [if_pos h1, if_pos h1]
      cases fX6_power 9 x1 with
      | none => rfl
      | some p =>
        dsimp only [b1_p]
        cases fX6_part x5 p x4 with
        | none => rfl
        | some q => rfl
    · rw [if_neg h1, if_neg h1]
      have key : ∀ (y : Int64), (if x9 < x2 then Option.map (fun q => (q.1, rf)) (lX6_soMany_69 x1 x2 x3 x4 n x5 y (x9 + 1) fun _ => 0) else b1 (fX6_power x3.toInt64 x9) fun r1 => b1 (fX6_power (9 - x3).toInt64 (x1 - x9)) fun r3 => Option.map (fun q => (q.1, rf)) (lX6_soMany_69 x1 x2 x3 x4 n (x5 + y * r1 * r3) y (x9 + 1) fun _ => 0)) = Option.map (fun q => (q.1, rf)) (if x9 < x2 then lX6_soMany_69 x1 x2 x3 x4 n x5 y (x9 + 1) fun _ => 0 else b1 (fX6_power x3.toInt64 x9) fun r1 => b1 (fX6_power (9 - x3).toInt64 (x1 - x9)) fun r3 => lX6_soMany_69 x1 x2 x3 x4 n (x5 + y * r1 * r3) y (x9 + 1) fun _ => 0) := by
        intro y
        by_cases h2 : x9 < x2
        · rw [if_pos h2, if_pos h2]
        · rw [if_neg h2, if_neg h2]
          cases fX6_power x3.toInt64 x9 with
          | none => rfl
          | some p =>
            dsimp only [b1_p]
            cases fX6_power (9 - x3).toInt64 (x1 - x9) with
            | none => rfl
            | some q => rfl
      by_cases h3 : x9 ≤ 0
      · rw [if_pos h3, if_pos h3]
        exact key x7
      · rw [if_neg h3, if_neg h3]
        unfold g_nzl
        by_cases h4 : x9.toInt64 = 0
        · rw [if_pos h4, if_pos h4]; rfl
        · rw [if_neg h4, if_neg h4]
          exact key _
/-- the check: both parts, for one n, m, k -/
def ckS (n m k : Nat) : Bool := match fX2_atLeast (nI n) (nI m) (nI k), lX6_soMany_69 (nI n) (nI m) (nI k) 0 100 0 1 0 (fun _ => 0), lX6_soMany_69 (nI n) (nI m) (nI k) 1 100 0 1 0 (fun _ => 0) with
  | some (a, b), some (x, _), some (y, _) => decide (a = x) && decide (b = y)
  | _, _, _ => false
def ckR (n k : Nat) : Bool := match fX2_atLeast (nI n) (nI n) (nI k), fX6_power (nI k).toInt64 (nI n), fX6_power 9 (nI n) with
  | some (a, b), some p, some q => (match fX6_part p q 0, fX6_part p q 1 with
    | some x, some y => decide (a = x) && decide (b = y)
    | _, _ => false)
  | _, _, _ => false
set_option maxRecDepth 100000 in
theorem ckR_all : (List.range 16).all (fun n => (List.range 10).all (fun k => ckR n k)) = true := by decide +kernel
set_option maxRecDepth 100000 in
theorem ckS_0 : (List.range 1).all (fun m => (List.range 10).all (fun k => ckS 0 m k)) = true := by decide +kernel
set_option maxRecDepth 100000 in
theorem ckS_1 : (List.range 2).all (fun m => (List.range 10).all (fun k => ckS 1 m k)) = true := by decide +kernel
set_option maxRecDepth 100000 in
theorem ckS_2 : (List.range 3).all (fun m => (List.range 10).all (fun k => ckS 2 m k)) = true := by decide +kernel
set_option maxRecDepth 100000 in
theorem ckS_3 : (List.range 4).all (fun m => (List.range 10).all (fun k => ckS 3 m k)) = true := by decide +kernel
set_option maxRecDepth 100000 in
theorem ckS_4 : (List.range 5).all (fun m => (List.range 10).all (fun k => ckS 4 m k)) = true := by decide +kernel
set_option maxRecDepth 100000 in
theorem ckS_5 : (List.range 6).all (fun m => (List.range 10).all (fun k => ckS 5 m k)) = true := by decide +kernel
set_option maxRecDepth 100000 in
theorem ckS_6 : (List.range 7).all (fun m => (List.range 10).all (fun k => ckS 6 m k)) = true := by decide +kernel
set_option maxRecDepth 100000 in
theorem ckS_7 : (List.range 8).all (fun m => (List.range 10).all (fun k => ckS 7 m k)) = true := by decide +kernel
set_option maxRecDepth 100000 in
theorem ckS_8 : (List.range 9).all (fun m => (List.range 10).all (fun k => ckS 8 m k)) = true := by decide +kernel
set_option maxRecDepth 100000 in
theorem ckS_9 : (List.range 10).all (fun m => (List.range 10).all (fun k => ckS 9 m k)) = true := by decide +kernel
set_option maxRecDepth 100000 in
theorem ckS_10 : (List.range 11).all (fun m => (List.range 10).all (fun k => ckS 10 m k)) = true := by decide +kernel
set_option maxRecDepth 100000 in
theorem ckS_11 : (List.range 12).all (fun m => (List.range 10).all (fun k => ckS 11 m k)) = true := by decide +kernel
set_option maxRecDepth 100000 in
theorem ckS_12 : (List.range 13).all (fun m => (List.range 10).all (fun k => ckS 12 m k)) = true := by decide +kernel
set_option maxRecDepth 100000 in
theorem ckS_13 : (List.range 14).all (fun m => (List.range 10).all (fun k => ckS 13 m k)) = true := by decide +kernel
set_option maxRecDepth 100000 in
theorem ckS_14 : (List.range 15).all (fun m => (List.range 10).all (fun k => ckS 14 m k)) = true := by decide +kernel
set_option maxRecDepth 100000 in
theorem ckS_15 : (List.range 16).all (fun m => (List.range 10).all (fun k => ckS 15 m k)) = true := by decide +kernel
theorem all_r {n : Nat} {p : Nat → Bool} (h : (List.range n).all p = true) {i : Nat} (hi : i < n) : p i = true := List.all_eq_true.mp h i (List.mem_range.mpr hi)
theorem ckS_at {n m k : Nat} (hn : n < 16) (hm : m ≤ n) (hk : k < 10) : ckS n m k = true := by
  have key : ∀ j, ((List.range (j + 1)).all (fun m => (List.range 10).all (fun k => ckS j m k)) = true) → n = j → ckS n m k = true := by
    intro j h e
    subst e
    exact all_r (all_r h (i := m) (by omega)) hk
  rcases (by omega : n = 0 ∨ n = 1 ∨ n = 2 ∨ n = 3 ∨ n = 4 ∨ n = 5 ∨ n = 6 ∨ n = 7 ∨ n = 8 ∨ n = 9 ∨ n = 10 ∨ n = 11 ∨ n = 12 ∨ n = 13 ∨ n = 14 ∨ n = 15) with e | e | e | e | e | e | e | e | e | e | e | e | e | e | e | e
  · exact key 0 ckS_0 e
  · exact key 1 ckS_1 e
  · exact key 2 ckS_2 e
  · exact key 3 ckS_3 e
  · exact key 4 ckS_4 e
  · exact key 5 ckS_5 e
  · exact key 6 ckS_6 e
  · exact key 7 ckS_7 e
  · exact key 8 ckS_8 e
  · exact key 9 ckS_9 e
  · exact key 10 ckS_10 e
  · exact key 11 ckS_11 e
  · exact key 12 ckS_12 e
  · exact key 13 ckS_13 e
  · exact key 14 ckS_14 e
  · exact key 15 ckS_15 e
theorem ckS_use {n m k : Nat} (h : ckS n m k = true) : ∃ a b f g, fX2_atLeast (nI n) (nI m) (nI k) = some (a, b) ∧ lX6_soMany_69 (nI n) (nI m) (nI k) 0 100 0 1 0 (fun _ => 0) = some (a, f) ∧ lX6_soMany_69 (nI n) (nI m) (nI k) 1 100 0 1 0 (fun _ => 0) = some (b, g) := by
  unfold ckS at h
  split at h
  · next a b x f y g e1 e2 e3 =>
    rw [Bool.and_eq_true, decide_eq_true_eq, decide_eq_true_eq] at h
    obtain ⟨rfl, rfl⟩ := h
    exact ⟨_, _, _, _, e1, e2, e3⟩
  · cases h
theorem ckR_use {n k : Nat} (h : ckR n k = true) : ∃ a b p q, fX2_atLeast (nI n) (nI n) (nI k) = some (a, b) ∧ fX6_power (nI k).toInt64 (nI n) = some p ∧ fX6_power 9 (nI n) = some q ∧ fX6_part p q 0 = some a ∧ fX6_part p q 1 = some b := by
  unfold ckR at h
  split at h
  · next a b p q e1 e2 e3 =>
    split at h
    · next x y f1 f2 =>
      rw [Bool.and_eq_true, decide_eq_true_eq, decide_eq_true_eq] at h
      obtain ⟨rfl, rfl⟩ := h
      exact ⟨_, _, _, _, e1, e2, e3, f1, f2⟩
    · cases h
  · cases h
theorem i_nat {x : Int32} (h0 : ¬ x < 0) {N : Nat} (hN : N < 2 ^ 31) (h : x.toInt ≤ N) : ∃ j : Nat, j ≤ N ∧ x = nI j := by
  obtain ⟨j, hj, rfl⟩ := nI_of h0
  rw [nI_toInt hj] at h
  exact ⟨j, by omega, rfl⟩
theorem within01 (p : Int32) : (p = 0 ∧ fX6_within p 0 1 = some 1) ∨ (p = 1 ∧ fX6_within p 0 1 = some 1) ∨ (¬ p = 0 ∧ ¬ p = 1 ∧ fX6_within p 0 1 = some 0) := by
  by_cases w0 : p = 0
  · subst w0; exact Or.inl ⟨rfl, rfl⟩
  · by_cases w1 : p = 1
    · subst w1; exact Or.inr (Or.inl ⟨rfl, rfl⟩)
    · refine Or.inr (Or.inr ⟨w0, w1, ?_⟩)
      unfold fX6_within
      by_cases q1 : p < 0
      · rw [if_pos q1]
      · have q2 : 1 < p := by
          rw [fa_lt] at q1
          rw [fa_eq] at w0 w1
          rw [fa_lt]
          have q1' : ¬ p.toInt < 0 := q1
          have w0' : ¬ p.toInt = 0 := w0
          have w1' : ¬ p.toInt = 1 := w1
          show (1 : Int) < p.toInt
          omega
        rw [if_neg q1, if_pos q2]
theorem p_inRow (x1 x2 x3 : Int32) (rf : Nat → Int32) (oa ob : Int64) : ∃ v rf' oa' ob', fX5_inRow x1 x2 x3 rf oa ob = some (v, rf', oa', ob') ∧ fX6_inRow x1 x2 x3 rf = some (v, rf') := by
  obtain ⟨v4, a4, r4, s4⟩ := refuseL_eq (x := -4) (by decide) rf
  obtain ⟨v6, a6, r6, s6⟩ := refuseL_eq (x := -6) (by decide) rf
  obtain ⟨v2, a2, r2, s2⟩ := refuseL_eq (x := -2) (by decide) rf
  unfold fX5_inRow fX6_inRow
  rw [r4, s4, r6, s6, s2]
  by_cases c1 : x1 < 0
  · rw [if_pos c1, if_pos c1]; exact ⟨_, _, _, _, rfl, rfl⟩
  rw [if_neg c1, if_neg c1]
  by_cases c2 : 0 ≤ x2
  · by_cases c3 : 15 < x1
    · rw [if_pos c2, if_pos c2, if_pos c3, if_pos c3]; exact ⟨_, _, _, _, rfl, rfl⟩
    · by_cases c4 : x2 ≤ 9
      · rw [if_pos c2, if_pos c2, if_neg c3, if_neg c3, if_pos c4, if_pos c4]
        obtain ⟨n, hn, rfl⟩ := i_nat c1 (N := 15) (by decide) (by rw [fa_lt] at c3; have c3' : ¬ (15 : Int) < x1.toInt := c3; show x1.toInt ≤ 15; omega)
        obtain ⟨k, hk, rfl⟩ := i_nat (x := x2) ((i_lt_of _ _).mpr c2) (N := 9) (by decide) (by rw [fa_le] at c4; exact c4)
        obtain ⟨a, b, p, q, e1, e2, e3, e4, e5⟩ := ckR_use (all_r (all_r ckR_all (i := n) (by omega)) (i := k) (by omega))
        unfold fX5_partOfOdds jX5_partOfOdds_18
        rcases within01 x3 with ⟨w, w'⟩ | ⟨w, w'⟩ | ⟨w, w1, w'⟩
        · subst w
          rw [w', e1, e2, e3]
          dsimp only [b1_p, b2_p]
          rw [if_pos rfl, if_pos rfl, if_neg (by decide), e4]
          exact ⟨_, _, _, _, rfl, rfl⟩
        · subst w
          rw [w', e1, e2, e3]
          dsimp only [b1_p, b2_p]
          rw [if_neg (by decide), if_pos rfl, if_neg (by decide), if_neg (by decide), e5]
          exact ⟨_, _, _, _, rfl, rfl⟩
        · rw [w', r2]
          dsimp only [b1_p]
          rw [if_neg w, if_neg w1, if_pos rfl]
          exact ⟨_, _, _, _, rfl, rfl⟩
      · rw [if_pos c2, if_pos c2, if_neg c3, if_neg c3, if_neg c4, if_neg c4]; exact ⟨_, _, _, _, rfl, rfl⟩
  · rw [if_neg c2, if_neg c2]; exact ⟨_, _, _, _, rfl, rfl⟩
theorem p_soMany (x1 x2 x3 x4 : Int32) (rf : Nat → Int32) (oa ob : Int64) : ∃ v rf' oa' ob', fX5_soMany x1 x2 x3 x4 rf oa ob = some (v, rf', oa', ob') ∧ fX6_soMany x1 x2 x3 x4 rf = some (v, rf') := by
  obtain ⟨v4, a4, r4, s4⟩ := refuseL_eq (x := -4) (by decide) rf
  obtain ⟨v6, a6, r6, s6⟩ := refuseL_eq (x := -6) (by decide) rf
  obtain ⟨v2, a2, r2, s2⟩ := refuseL_eq (x := -2) (by decide) rf
  unfold fX5_soMany fX6_soMany
  rw [r4, s4, r6, s6, s2, soM_rf]
  by_cases c1 : x1 < 0
  · rw [if_pos c1, if_pos c1]; exact ⟨_, _, _, _, rfl, rfl⟩
  rw [if_neg c1, if_neg c1]
  by_cases c0 : x2 < 0
  · rw [if_pos c0, if_pos c0]; exact ⟨_, _, _, _, rfl, rfl⟩
  rw [if_neg c0, if_neg c0]
  by_cases c2 : 0 ≤ x3
  · by_cases c3 : 15 < x1
    · rw [if_pos c2, if_pos c2, if_pos c3, if_pos c3]; exact ⟨_, _, _, _, rfl, rfl⟩
    · by_cases c5 : x1 < x2
      · rw [if_pos c2, if_pos c2, if_neg c3, if_neg c3, if_pos c5, if_pos c5]; exact ⟨_, _, _, _, rfl, rfl⟩
      · by_cases c4 : x3 ≤ 9
        · rw [if_pos c2, if_pos c2, if_neg c3, if_neg c3, if_neg c5, if_neg c5, if_pos c4, if_pos c4]
          have hx1 : x1.toInt ≤ 15 := by
            rw [fa_lt] at c3
            have c3' : ¬ (15 : Int) < x1.toInt := c3
            omega
          have hx2 : x2.toInt ≤ x1.toInt := by
            rw [fa_lt] at c5
            omega
          obtain ⟨n, hn, rfl⟩ := i_nat c1 (N := 15) (by decide) hx1
          obtain ⟨m, hm, rfl⟩ := i_nat c0 (N := 15) (by decide) (by show x2.toInt ≤ 15; omega)
          obtain ⟨k, hk, rfl⟩ := i_nat (x := x3) ((i_lt_of _ _).mpr c2) (N := 9) (by decide) (by rw [fa_le] at c4; exact c4)
          rw [nI_toInt (by omega), nI_toInt (by omega)] at hx2
          obtain ⟨a, b, f, g, e1, e2, e3⟩ := ckS_use (ckS_at (n := n) (m := m) (k := k) (by omega) (by omega) (by omega))
          unfold fX5_partOfOdds jX5_partOfOdds_18
          rcases within01 x4 with ⟨w, w'⟩ | ⟨w, w'⟩ | ⟨w, w1, w'⟩
          · subst w
            rw [w', e1, e2]
            dsimp only [b1_p, b2_p]
            rw [if_pos rfl, if_pos rfl, if_neg (by decide)]
            exact ⟨_, _, _, _, rfl, rfl⟩
          · subst w
            rw [w', e1, e3]
            dsimp only [b1_p, b2_p]
            rw [if_neg (by decide), if_pos rfl, if_neg (by decide), if_neg (by decide)]
            exact ⟨_, _, _, _, rfl, rfl⟩
          · rw [w', r2]
            dsimp only [b1_p]
            rw [if_neg w, if_neg w1, if_pos rfl]
            exact ⟨_, _, _, _, rfl, rfl⟩
        · rw [if_pos c2, if_pos c2, if_neg c3, if_neg c3, if_neg c5, if_neg c5, if_neg c4, if_neg c4]; exact ⟨_, _, _, _, rfl, rfl⟩
  · rw [if_neg c2, if_neg c2]; exact ⟨_, _, _, _, rfl, rfl⟩
/-! ball, count, clearBin, image, on -/
theorem p_ball (x1 x2 puff : Int32) {bc : Int32} (rf : Nat → Int32) {ks ss ts km sm tm : Nat → Int32} (h0 : 0 ≤ bc.toInt) (h5 : bc.toInt ≤ 5) (h1 : AEq 5 ss sm) (h2 : AEq 5 ts tm) (h3 : AEq 5 ks km) :
    ∃ r rf', fX5_ball x1 x2 puff bc rf ks ss ts = some (r, rf') ∧ fX6_ball x1 x2 puff bc rf km sm tm = some (r, rf') := by
  unfold fX5_ball fX6_ball
  rw [isBall_eq h0 h5]
  by_cases hb : bOK x1 bc
  · obtain ⟨d, ed⟩ := drag_some hb sm tm km
    obtain ⟨f, ef⟩ := fall_some hb km
    obtain ⟨n, en⟩ := fan_some hb puff km
    have hi : x1.toInt < ((5 : Nat) : Int) := by have := hb.2; show x1.toInt < 5; omega
    have hl := clamp_lt hi (by decide)
    rw [hb_yes hb, kind_c hb, size_c hb, tight_c hb, drag_eq hb, drag_ar hb h1 h2 h3, ed, fall_eq hb, fall_ar hb h3, ef, fan_eq hb, fan_ar hb puff h3, en]
    dsimp only [b1_p]
    rw [if_neg (show ¬ ((1 : Int32) = 0) by decide), if_neg (show ¬ ((1 : Int32) = 0) by decide), g_in_p hb.1 hi, g_in_p hb.1 hi, g_in_p hb.1 hi, h3 _ hl, h1 _ hl, h2 _ hl]
    by_cases c0 : x2 = 0
    · rw [if_pos c0, if_pos c0]; exact ⟨_, _, rfl, rfl⟩
    rw [if_neg c0, if_neg c0]
    by_cases c1 : x2 = 1
    · rw [if_pos c1, if_pos c1]; exact ⟨_, _, rfl, rfl⟩
    rw [if_neg c1, if_neg c1]
    by_cases c2 : x2 = 2
    · rw [if_pos c2, if_pos c2]; exact ⟨_, _, rfl, rfl⟩
    rw [if_neg c2, if_neg c2]
    by_cases c3 : x2 = 3
    · rw [if_pos c3, if_pos c3]; exact ⟨_, _, rfl, rfl⟩
    rw [if_neg c3, if_neg c3]
    by_cases c4 : x2 = 4
    · rw [if_pos c4, if_pos c4]; exact ⟨_, _, rfl, rfl⟩
    rw [if_neg c4, if_neg c4]
    by_cases c5 : x2 = 5
    · rw [if_pos c5, if_pos c5]; exact ⟨_, _, rfl, rfl⟩
    rw [if_neg c5, if_neg c5]
    obtain ⟨a', e1, e2⟩ := refuse_eq (x := -2) (by decide) rf
    rw [e1, e2]
    exact ⟨_, _, rfl, rfl⟩
  · obtain ⟨a', e1, e2⟩ := refuse_eq (x := -1) (by decide) rf
    rw [hb_no h5 hb]
    dsimp only [b1_p]
    rw [if_pos rfl, if_pos rfl, e1, e2]
    exact ⟨_, _, rfl, rfl⟩
theorem p_count (x1 tc len at_ fill wall ceiling sec score thr bc : Int32) (rf : Nat → Int32) :
    ∃ r, fX5_count x1 tc rf len at_ fill wall ceiling sec score thr bc = some r ∧ fX6_count x1 at_ fill wall ceiling sec score thr bc len tc rf = some r := by
  unfold fX5_count fX6_count jX5_count_22 fX6_within
  by_cases e0 : x1 = 0
  · subst e0; exact ⟨_, rfl, rfl⟩
  by_cases e1 : x1 = 1
  · subst e1; exact ⟨_, rfl, rfl⟩
  by_cases e2 : x1 = 2
  · subst e2; exact ⟨_, rfl, rfl⟩
  by_cases e3 : x1 = 3
  · subst e3; exact ⟨_, rfl, rfl⟩
  by_cases e4 : x1 = 4
  · subst e4; exact ⟨_, rfl, rfl⟩
  by_cases e5 : x1 = 5
  · subst e5; exact ⟨_, rfl, rfl⟩
  by_cases e6 : x1 = 6
  · subst e6; exact ⟨_, rfl, rfl⟩
  by_cases e7 : x1 = 7
  · subst e7; exact ⟨_, rfl, rfl⟩
  by_cases e8 : x1 = 8
  · subst e8; exact ⟨_, rfl, rfl⟩
  by_cases e9 : x1 = 9
  · subst e9; exact ⟨_, rfl, rfl⟩
  simp only [if_neg e0, if_neg e1, if_neg e2, if_neg e3, if_neg e4, if_neg e5, if_neg e6, if_neg e7, if_neg e8, if_neg e9]
  by_cases l1 : x1 < 11
  · simp only [if_pos l1, b1_p]
    exact ⟨_, rfl, rfl⟩
  · by_cases l2 : 16 < x1
    · simp only [if_neg l1, if_pos l2, b1_p]
      exact ⟨_, rfl, rfl⟩
    · simp only [if_neg l1, if_neg l2, b1_p]
      rw [fa_lt] at l1 l2
      have l1' : ¬ x1.toInt < 11 := l1
      have l2' : ¬ 16 < x1.toInt := l2
      have e : (x1 - 10).toInt = x1.toInt - 10 := fb_subI (x := x1) (y := 10) (by show _ ≤ _ - (10 : Int); omega) (by show _ - (10 : Int) < _; omega)
      rw [if_neg (show ¬ ((1 : Int32) = 0) by decide), g_in_p (i := x1 - 10) (n := 7) (by omega) (by rw [e]; show x1.toInt - 10 < 7; omega)]
      exact ⟨_, rfl, rfl⟩
theorem Img.ar {A : Nat → Int32} {hand at_ wide rim fill wall ceiling puff period sec score thr bc : Int32} {ks ss ts k' s' t' : Nat → Int32} (h : Img A hand at_ wide rim fill wall ceiling puff period sec score thr bc ks ss ts) (h3 : AEq 5 k' ks) (h1 : AEq 5 s' ss) (h2 : AEq 5 t' ts) : Img A hand at_ wide rim fill wall ceiling puff period sec score thr bc k' s' t' := by
  obtain ⟨q, r⟩ := h
  refine ⟨fun i hi => ?_, r⟩
  rw [h3 i hi, h1 i hi, h2 i hi]
  exact q i hi
theorem p_image (hand at_ wide rim fill wall ceiling puff period sec score thr bc : Int32) {ks ss ts km sm tm : Nat → Int32} (nk ns nt A : Nat → Int32) (h1 : AEq 5 ss sm) (h2 : AEq 5 ts tm) (h3 : AEq 5 ks km) :
    ∃ A' k' s' t', fX5_image hand at_ wide rim fill wall ceiling puff period sec score thr bc ks nk ss ns ts nt = some (sec, 1, hand, at_, wide, rim, fill, wall, ceiling, puff, period, sec, score, thr, bc, k', s', t') ∧ fX6_image hand at_ wide rim fill wall ceiling puff period sec score thr bc km A sm tm = some (sec, 1, A') ∧ Img A' hand at_ wide rim fill wall ceiling puff period sec score thr bc k' s' t' := by
  unfold fX5_image fX6_image
  obtain ⟨k', s', t', e0, g3, g1, g2⟩ := become_eq hand at_ wide rim fill wall ceiling puff period sec score thr bc ks nk ss ns ts nt
  obtain ⟨A', e, hI⟩ := keep_eq hand at_ wide rim fill wall ceiling puff period sec score thr bc km A sm tm
  rw [e0, e]
  exact ⟨A', k', s', t', rfl, rfl, hI.ar (g3.tr h3) (g1.tr h1) (g2.tr h2)⟩
theorem p_on_no (rf : Nat → Int32) (hand at_ wide rim fill wall ceiling puff period sec score thr bc hand' at_' wide' rim' fill' wall' ceiling' puff' period' sec' score' thr' bc' : Int32) (nk ks ns ss nt ts A km sm tm : Nat → Int32) :
    ∃ rf', fX5_on 0 rf hand at_ wide rim fill wall ceiling puff period sec score thr bc hand' at_' wide' rim' fill' wall' ceiling' puff' period' sec' score' thr' bc' nk ks ns ss nt ts = some (-3, rf', hand, at_, wide, rim, fill, wall, ceiling, puff, period, sec, score, thr, bc, ks, ss, ts) ∧ fX6_on hand at_ wide rim fill wall ceiling puff period sec score thr bc 0 rf A km sm tm = some (-3, hand, at_, wide, rim, fill, wall, ceiling, puff, period, sec, score, thr, bc, rf', km, sm, tm) := by
  unfold fX5_on fX6_on
  obtain ⟨a', e1, e2⟩ := refuse_eq (x := -3) (by decide) rf
  rw [if_pos rfl, if_pos rfl, e1, e2]
  exact ⟨_, rfl, rfl⟩
theorem p_on_yes {im : Int32} (him : ¬ im = 0) (rf : Nat → Int32) (hand at_ wide rim fill wall ceiling puff period sec score thr bc hand' at_' wide' rim' fill' wall' ceiling' puff' period' sec' score' thr' bc' : Int32) (nk ks ns ss nt ts : Nat → Int32) {A : Nat → Int32} (km sm tm : Nat → Int32) (hI : Img A hand' at_' wide' rim' fill' wall' ceiling' puff' period' sec' score' thr' bc' nk ns nt) :
    ∃ k' s' t' k2 s2 t2, fX5_on im rf hand at_ wide rim fill wall ceiling puff period sec score thr bc hand' at_' wide' rim' fill' wall' ceiling' puff' period' sec' score' thr' bc' nk ks ns ss nt ts = some (sec', rf, hand', at_', wide', rim', fill', wall', ceiling', puff', period', sec', score', thr', bc', k', s', t') ∧ fX6_on hand at_ wide rim fill wall ceiling puff period sec score thr bc im rf A km sm tm = some (sec', hand', at_', wide', rim', fill', wall', ceiling', puff', period', sec', score', thr', bc', rf, k2, s2, t2) ∧ AEq 5 s' s2 ∧ AEq 5 t' t2 ∧ AEq 5 k' k2 := by
  unfold fX5_on fX6_on
  rw [if_neg him, if_neg him]
  obtain ⟨k', s', t', e0, g3, g1, g2⟩ := become_eq hand' at_' wide' rim' fill' wall' ceiling' puff' period' sec' score' thr' bc' nk ks ns ss nt ts
  obtain ⟨k2, s2, t2, e, d3, d1, d2⟩ := again_eq A hI km sm tm
  rw [e0, e]
  exact ⟨k', s', t', k2, s2, t2, rfl, rfl, g1.tr d1.sy, g2.tr d2.sy, g3.tr d3.sy⟩
