/-! crumpled, fills: the reference puts back what it changed -/
theorem i_le9 (x : Int32) : 9 < x ↔ 9 < x.toInt := by rw [fa_lt]; exact Iff.rfl
theorem i_le10 (x : Int32) : 10 ≤ x ↔ 10 ≤ x.toInt := by rw [fa_le]; exact Iff.rfl
theorem setT {ball bc : Int32} (hb : bOK ball bc) (v : Int32) (t : Nat → Int32) : fX3_setTight ball v bc t = some (upd t ball.toNatClampNeg v) := by
  unfold fX3_setTight
  rw [hb_yes hb]
  simp only [b1]
  rw [if_neg (by decide), g_in_p hb.1 (by have := hb.2; show ball.toInt < 5; omega)]
theorem crump_l {hand at_ wide rim fill wall ceiling puff period second sec bc ball : Int32} {kq sq km sm : Nat → Int32} (ho : OkO hand at_ wide rim fill wall ceiling puff period second) (hb : bOK ball bc) (h1 : AEq 5 sq sm) (h3 : AEq 5 kq km) (score thr : Int32) (rf t0 : Nat → Int32) {was : Int32} (hwas : was = t0 ball.toNatClampNeg) (pa ri : Int32) :
    ∀ (n : Nat) (bi ti : Int32) (tq tm : Nat → Int32) (u1 u2 u3 u4 u5 u6 u7 u8 v1 v2 v3 v4 v5 : Int32), 0 ≤ ti.toInt → ti.toInt ≤ 10 → 10 - ti.toInt < n → AEq 5 tq tm → (∀ i : Nat, i < 5 → i ≠ ball.toNatClampNeg → tm i = t0 i) →
      ∃ v tq' tm' a1 a2 a3 a4 a5 a6 a7 a8 b1 b2 b3 b4 b5, lX5_crumpled_38 ball pa ri n bi ti rf hand at_ wide rim fill wall ceiling puff period sec score thr bc kq sq tq u1 u2 u3 u4 u5 u6 u7 u8 = some (v, rf, hand, at_, wide, rim, fill, wall, ceiling, puff, period, sec, score, thr, bc, kq, sq, tq', a1, a2, a3, a4, a5, a6, a7, a8) ∧ lX6_crumpled_48 ball pa ri hand at_ wide rim fill wall ceiling puff period sec sm km n was bi ti v1 v2 v3 v4 v5 rf tm = some (v, b1, b2, b3, b4, b5, rf, tm') ∧ AEq 5 tm' t0 := by
  intro n
  induction n with
  | zero => intro bi ti tq tm u1 u2 u3 u4 u5 u6 u7 u8 v1 v2 v3 v4 v5 a b d; omega
  | succ n ih =>
    intro bi ti tq tm u1 u2 u3 u4 u5 u6 u7 u8 v1 v2 v3 v4 v5 a b d ht h0
    have hi : ball.toInt < ((5 : Nat) : Int) := by have := hb.2; show ball.toInt < 5; omega
    rw [lX5_crumpled_38, lX6_crumpled_48]
    by_cases hc : 9 < ti
    · have hc' := (i_le9 ti).mp hc
      rw [if_pos hc, if_pos ((i_le10 ti).mpr (by omega)), g_in_p hb.1 hi]
      refine ⟨_, _, _, _, _, _, _, _, _, _, _, _, _, _, _, _, rfl, rfl, ?_⟩
      intro i hi5
      unfold upd
      by_cases q : i = ball.toNatClampNeg
      · rw [if_pos q, hwas, q]
      · rw [if_neg q]; exact h0 i hi5 q
    · have hc' : ¬ 9 < ti.toInt := fun q => hc ((i_le9 ti).mpr q)
      have e6 : (ti + 1).toInt = ti.toInt + 1 := i_add1 (by omega)
      rw [if_neg hc, if_neg (fun q => hc ((i_le9 ti).mpr (by have := (i_le10 ti).mp q; omega))), g_in_p hb.1 hi, setT hb]
      simp only [b1]
      have ht' := ht.up ball.toNatClampNeg ti
      obtain ⟨f, w1, w2, w3, w4, w5, w6, w7, w8, q1, q2, q3⟩ := in_eq (sec := sec) ho hb h1 ht' h3 pa ri
      rw [q1, q2]
      simp only [b9, b6]
      unfold jX5_crumpled_78 jX6_crumpled_82
      have h0' : ∀ i : Nat, i < 5 → i ≠ ball.toNatClampNeg → upd tm ball.toNatClampNeg ti i = t0 i := by
        intro i hi5 q
        unfold upd
        rw [if_neg q]; exact h0 i hi5 q
      by_cases hf : f = 0
      · rw [if_pos hf, if_pos hf]
        exact ih _ _ _ _ _ _ _ _ _ _ _ _ _ _ _ _ _ (by omega) (by omega) (by omega) ht' h0'
      · rw [if_neg hf, if_neg hf]
        exact ih _ _ _ _ _ _ _ _ _ _ _ _ _ _ _ _ _ (by omega) (by omega) (by omega) ht' h0'
theorem p_crumpled {hand at_ wide rim fill wall ceiling puff period second sec bc : Int32} {ks ss ts km sm tm : Nat → Int32} (ho : OkO hand at_ wide rim fill wall ceiling puff period second) (hb0 : 0 ≤ bc.toInt) (hb5 : bc.toInt ≤ 5) (h1 : AEq 5 ss sm) (h2 : AEq 5 ts tm) (h3 : AEq 5 ks km) (x1 x2 x3 score thr : Int32) (rf : Nat → Int32) (n1 n2 n3 n4 n5 n6 n7 n8 n9 n10 n11 n12 n13 : Int32) (nk ns nt : Nat → Int32) (u1 u2 u3 u4 u5 u6 u7 u8 v1 v2 v3 v4 v5 : Int32) :
    ∃ r rf' c1 c2 c3 c4 c5 c6 c7 c8 c9 c10 c11 c12 c13 ck cs ct a1 a2 a3 a4 a5 a6 a7 a8 b1 b2 b3 b4 b5 tm', fX5_crumpled x1 x2 x3 hand at_ wide rim fill wall ceiling puff period sec score thr bc rf n1 n2 n3 n4 n5 n6 n7 n8 n9 n10 n11 n12 n13 ks nk ss ns ts nt u1 u2 u3 u4 u5 u6 u7 u8 = some (r, rf', c1, c2, c3, c4, c5, c6, c7, c8, c9, c10, c11, c12, c13, ck, cs, ct, a1, a2, a3, a4, a5, a6, a7, a8) ∧ fX6_crumpled x1 x2 x3 hand at_ wide rim fill wall ceiling puff period sec bc v1 v2 v3 v4 v5 rf tm sm km = some (r, b1, b2, b3, b4, b5, rf', tm') ∧ AEq 5 tm' tm := by
  unfold fX5_crumpled fX6_crumpled
  rw [isBall_eq hb0 hb5]
  rcases refThrow x1 x2 x3 hb5 with ⟨hb, q1, q2⟩ | ⟨hb, q1, r, q2, q3, q4, q5⟩
  · obtain ⟨a', e1, e2⟩ := refuse_eq (x := -1) (by decide) rf
    rw [q1, q2]
    simp only [b1]
    rw [if_neg (by decide), if_pos rfl, e1, e2]
    exact ⟨_, _, _, _, _, _, _, _, _, _, _, _, _, _, _, _, _, _, _, _, _, _, _, _, _, _, _, _, _, _, _, _, rfl, rfl, AEq.rf⟩
  · rw [q1, q2]
    simp only [b1]
    rw [if_neg (show ¬ ((1 : Int32) = 0) by decide), q3]
    simp only []
    rcases q4 with rfl | rfl | rfl
    · rw [if_pos rfl, if_pos (by decide)]
      obtain ⟨kq, sq, tq, e0, g3, g1, g2⟩ := become_eq hand at_ wide rim fill wall ceiling puff period sec score thr bc ks nk ss ns ts nt
      rw [e0]
      simp only [b16]
      have hi : x1.toInt < ((5 : Nat) : Int) := by have := hb.2; show x1.toInt < 5; omega
      rw [g_in_p hb.1 hi]
      obtain ⟨v, tq', tm', w1, w2, w3, w4, w5, w6, w7, w8, y1, y2, y3, y4, y5, e1, e2, e3⟩ := crump_l (sec := sec) ho hb (g1.tr h1) (g3.tr h3) score thr rf tm rfl x2 x3 100 0 0 tq tm u1 u2 u3 u4 u5 u6 u7 u8 v1 v2 v3 v4 v5 (by decide) (by decide) (by decide) (g2.tr h2) (fun _ _ _ => rfl)
      rw [e1, e2]
      exact ⟨_, _, _, _, _, _, _, _, _, _, _, _, _, _, _, _, _, _, _, _, _, _, _, _, _, _, _, _, _, _, _, _, rfl, rfl, e3⟩
    · obtain ⟨a', e1, e2⟩ := refuse_eq (x := -4) (by decide) rf
      rw [if_neg (by decide), if_neg (by decide), e1, e2]
      exact ⟨_, _, _, _, _, _, _, _, _, _, _, _, _, _, _, _, _, _, _, _, _, _, _, _, _, _, _, _, _, _, _, _, rfl, rfl, AEq.rf⟩
    · obtain ⟨a', e1, e2⟩ := refuse_eq (x := -6) (by decide) rf
      rw [if_neg (by decide), if_neg (by decide), e1, e2]
      exact ⟨_, _, _, _, _, _, _, _, _, _, _, _, _, _, _, _, _, _, _, _, _, _, _, _, _, _, _, _, _, _, _, _, rfl, rfl, AEq.rf⟩
theorem fills_l {hand at_ wide rim fill wall ceiling puff period second sec bc ball : Int32} {kq sq tq km sm tm : Nat → Int32} (ho : OkO hand at_ wide rim fill wall ceiling puff period second) (hb : bOK ball bc) (h1 : AEq 5 sq sm) (h2 : AEq 5 tq tm) (h3 : AEq 5 kq km) (score thr : Int32) (rf : Nat → Int32) (was pa ri : Int32) :
    ∀ (n : Nat) (bi ti fq fm : Int32) (u1 u2 u3 u4 u5 u6 u7 u8 v1 v2 v3 v4 v5 : Int32), 0 ≤ ti.toInt → ti.toInt ≤ 10 → 10 - ti.toInt < n →
      ∃ v fq' a1 a2 a3 a4 a5 a6 a7 a8 b1 b2 b3 b4 b5, lX5_fills_38 ball pa ri n bi ti rf hand at_ wide rim fq wall ceiling puff period sec score thr bc kq sq tq u1 u2 u3 u4 u5 u6 u7 u8 = some (v, rf, hand, at_, wide, rim, fq', wall, ceiling, puff, period, sec, score, thr, bc, kq, sq, tq, a1, a2, a3, a4, a5, a6, a7, a8) ∧ lX6_fills_46 ball pa ri hand at_ wide rim wall ceiling puff period sec sm tm km n was bi ti v1 v2 v3 v4 v5 rf = some (v, was, b1, b2, b3, b4, b5, rf) := by
  intro n
  induction n with
  | zero => intro bi ti fq fm u1 u2 u3 u4 u5 u6 u7 u8 v1 v2 v3 v4 v5 a b d; omega
  | succ n ih =>
    intro bi ti fq fm u1 u2 u3 u4 u5 u6 u7 u8 v1 v2 v3 v4 v5 a b d
    rw [lX5_fills_38, lX6_fills_46]
    by_cases hc : 9 < ti
    · have hc' := (i_le9 ti).mp hc
      rw [if_pos hc, if_pos ((i_le10 ti).mpr (by omega))]
      exact ⟨_, _, _, _, _, _, _, _, _, _, _, _, _, _, _, rfl, rfl⟩
    · have hc' : ¬ 9 < ti.toInt := fun q => hc ((i_le9 ti).mpr q)
      have e6 : (ti + 1).toInt = ti.toInt + 1 := i_add1 (by omega)
      rw [if_neg hc, if_neg (fun q => hc ((i_le9 ti).mpr (by have := (i_le10 ti).mp q; omega)))]
      obtain ⟨f, w1, w2, w3, w4, w5, w6, w7, w8, q1, q2, q3⟩ := in_eq (sec := sec) (OkO.fil ho (f := ti) ⟨by omega, by omega⟩) hb h1 h2 h3 pa ri
      rw [q1, q2]
      simp only [b9, b6]
      unfold jX5_fills_77 jX6_fills_78
      by_cases hf : f = 0
      · rw [if_pos hf, if_pos hf]
        exact ih _ _ _ _ _ _ _ _ _ _ _ _ _ _ _ _ _ (by omega) (by omega) (by omega)
      · rw [if_neg hf, if_neg hf]
        exact ih _ _ _ _ _ _ _ _ _ _ _ _ _ _ _ _ _ (by omega) (by omega) (by omega)
theorem p_fills {hand at_ wide rim fill wall ceiling puff period second sec bc : Int32} {ks ss ts km sm tm : Nat → Int32} (ho : OkO hand at_ wide rim fill wall ceiling puff period second) (hb0 : 0 ≤ bc.toInt) (hb5 : bc.toInt ≤ 5) (h1 : AEq 5 ss sm) (h2 : AEq 5 ts tm) (h3 : AEq 5 ks km) (x1 x2 x3 score thr : Int32) (rf : Nat → Int32) (n1 n2 n3 n4 n5 n6 n7 n8 n9 n10 n11 n12 n13 : Int32) (nk ns nt : Nat → Int32) (u1 u2 u3 u4 u5 u6 u7 u8 v1 v2 v3 v4 v5 : Int32) :
    ∃ r rf' c1 c2 c3 c4 c5 c6 c7 c8 c9 c10 c11 c12 c13 ck cs ct a1 a2 a3 a4 a5 a6 a7 a8 b1 b2 b3 b4 b5, fX5_fills x1 x2 x3 hand at_ wide rim fill wall ceiling puff period sec score thr bc rf n1 n2 n3 n4 n5 n6 n7 n8 n9 n10 n11 n12 n13 ks nk ss ns ts nt u1 u2 u3 u4 u5 u6 u7 u8 = some (r, rf', c1, c2, c3, c4, c5, c6, c7, c8, c9, c10, c11, c12, c13, ck, cs, ct, a1, a2, a3, a4, a5, a6, a7, a8) ∧ fX6_fills x1 x2 x3 hand at_ wide rim fill wall ceiling puff period sec bc v1 v2 v3 v4 v5 rf sm tm km = some (r, fill, b1, b2, b3, b4, b5, rf') := by
  unfold fX5_fills fX6_fills
  rw [isBall_eq hb0 hb5]
  rcases refThrow x1 x2 x3 hb5 with ⟨hb, q1, q2⟩ | ⟨hb, q1, r, q2, q3, q4, q5⟩
  · obtain ⟨a', e1, e2⟩ := refuse_eq (x := -1) (by decide) rf
    rw [q1, q2]
    simp only [b1]
    rw [if_neg (by decide), if_pos rfl, e1, e2]
    exact ⟨_, _, _, _, _, _, _, _, _, _, _, _, _, _, _, _, _, _, _, _, _, _, _, _, _, _, _, _, _, _, _, rfl, rfl⟩
  · rw [q1, q2]
    simp only [b1]
    rw [if_neg (show ¬ ((1 : Int32) = 0) by decide), q3]
    simp only []
    rcases q4 with rfl | rfl | rfl
    · rw [if_pos rfl, if_pos (by decide)]
      obtain ⟨kq, sq, tq, e0, g3, g1, g2⟩ := become_eq hand at_ wide rim fill wall ceiling puff period sec score thr bc ks nk ss ns ts nt
      rw [e0]
      simp only [b16]
      obtain ⟨v, fq', w1, w2, w3, w4, w5, w6, w7, w8, y1, y2, y3, y4, y5, e1, e2⟩ := fills_l (sec := sec) ho hb (g1.tr h1) (g2.tr h2) (g3.tr h3) score thr rf fill x2 x3 100 0 0 fill fill u1 u2 u3 u4 u5 u6 u7 u8 v1 v2 v3 v4 v5 (by decide) (by decide) (by decide)
      rw [e1, e2]
      exact ⟨_, _, _, _, _, _, _, _, _, _, _, _, _, _, _, _, _, _, _, _, _, _, _, _, _, _, _, _, _, _, _, rfl, rfl⟩
    · obtain ⟨a', e1, e2⟩ := refuse_eq (x := -4) (by decide) rf
      rw [if_neg (by decide), if_neg (by decide), e1, e2]
      exact ⟨_, _, _, _, _, _, _, _, _, _, _, _, _, _, _, _, _, _, _, _, _, _, _, _, _, _, _, _, _, _, _, rfl, rfl⟩
    · obtain ⟨a', e1, e2⟩ := refuse_eq (x := -6) (by decide) rf
      rw [if_neg (by decide), if_neg (by decide), e1, e2]
      exact ⟨_, _, _, _, _, _, _, _, _, _, _, _, _, _, _, _, _, _, _, _, _, _, _, _, _, _, _, _, _, _, _, rfl, rfl⟩
theorem throw_eq {hand at_ wide rim fill wall ceiling puff period second sec bc ball : Int32} {ks ss ts km sm tm : Nat → Int32} (ho : OkO hand at_ wide rim fill wall ceiling puff period second) (hb : bOK ball bc) (h1 : AEq 5 ss sm) (h2 : AEq 5 ts tm) (h3 : AEq 5 ks km) (score thr pa ri : Int32) : ∃ e fl sc u1 u2 u3 u4 u5 u6 u7 u8, fX5_thrown ball pa ri hand at_ wide rim fill wall ceiling puff period sec score thr bc ss ts ks = some (e, u1, u2, u3, u4, u5, u6, u7, u8, fl, sec + 1, sc, thr + 1) ∧ fX6_goes ball pa ri hand at_ wide rim fill wall ceiling puff period sec score thr sm tm km = some (e, fl, sec + 1, sc, thr + 1, u1, u2, u3, u4, u5) ∧ (0 ≤ fl.toInt ∧ fl.toInt ≤ 9) := by
  obtain ⟨e, c, st, g, k, h, p, r, e1, e2, hf⟩ := fly_eq (sec := sec) ho hb h1 h2 h3 pa ri
  obtain ⟨-, -, -, -, f9, -⟩ := ho
  unfold fX5_thrown fX6_goes fX3_noteThrow
  rw [e1, e2]
  simp only [b8, b6]
  by_cases he : e = 0
  · have hlt := hf he
    rw [fa_lt] at hlt
    have hlt' : fill.toInt < 9 := hlt
    have ef : (fill + 1).toInt = fill.toInt + 1 := i_add1 (by omega)
    rw [if_pos he, if_pos he]
    simp only [b4]
    exact ⟨e, fill + 1, score + 1, e, c, st, g, k, h, p, r, rfl, rfl, by omega⟩
  · rw [if_neg he, if_neg he]
    simp only [b4]
    exact ⟨e, fill, score, e, c, st, g, k, h, p, r, rfl, rfl, f9⟩
theorem p_throwIt {hand at_ wide rim fill wall ceiling puff period second sec bc : Int32} {ks ss ts km sm tm : Nat → Int32} (ho : OkO hand at_ wide rim fill wall ceiling puff period second) (hb0 : 0 ≤ bc.toInt) (hb5 : bc.toInt ≤ 5) (h1 : AEq 5 ss sm) (h2 : AEq 5 ts tm) (h3 : AEq 5 ks km) (x1 x2 x3 score thr : Int32) (rf : Nat → Int32) (hs0 : 0 ≤ sec.toInt) (hs9 : sec.toInt ≤ 9999) (u1 u2 u3 u4 u5 u6 u7 u8 v1 v2 v3 v4 v5 : Int32) :
    ∃ r rf' fl se sc th a1 a2 a3 a4 a5 a6 a7 a8 b1 b2 b3 b4 b5, fX5_throwIt x1 x2 x3 hand at_ wide rim fill wall ceiling puff period sec score thr bc rf u1 u2 u3 u4 u5 u6 u7 u8 ss ts ks = some (r, fl, se, sc, th, rf', a1, a2, a3, a4, a5, a6, a7, a8) ∧ fX6_throwIt x1 x2 x3 hand at_ wide rim fill wall ceiling puff period sec score thr bc v1 v2 v3 v4 v5 rf sm tm km = some (r, fl, se, sc, th, b1, b2, b3, b4, b5, rf') ∧ (0 ≤ fl.toInt ∧ fl.toInt ≤ 9) ∧ 0 ≤ se.toInt ∧ se.toInt ≤ 9999 := by
  have f9 : 0 ≤ fill.toInt ∧ fill.toInt ≤ 9 := ho.2.2.2.2.1
  unfold fX5_throwIt fX6_throwIt
  rw [isBall_eq hb0 hb5]
  rcases refThrow x1 x2 x3 hb5 with ⟨hb, q1, q2⟩ | ⟨hb, q1, r, q2, q3, q4, q5⟩
  · obtain ⟨a', e1, e2⟩ := refuse_eq (x := -1) (by decide) rf
    rw [q1, q2]
    simp only [b1]
    rw [if_neg (by decide), if_pos rfl, e1, e2]
    exact ⟨_, _, _, _, _, _, _, _, _, _, _, _, _, _, _, _, _, _, _, rfl, rfl, f9, hs0, hs9⟩
  · rw [q1, q2]
    simp only [b1]
    rw [if_neg (show ¬ ((1 : Int32) = 0) by decide), q3]
    simp only []
    rcases q4 with rfl | rfl | rfl
    · rw [if_pos rfl, if_pos (by decide)]
      by_cases hs : sec = 9999
      · have hs' : ¬ sec < 9999 := by rw [hs]; decide
        obtain ⟨a', e1, e2⟩ := refuse_eq (x := -6) (by decide) rf
        rw [if_neg hs', if_pos hs, e1, e2]
        exact ⟨_, _, _, _, _, _, _, _, _, _, _, _, _, _, _, _, _, _, _, rfl, rfl, f9, hs0, hs9⟩
      · have hs2 : sec.toInt < 9999 := by
          rw [fa_eq] at hs
          have hs' : ¬ sec.toInt = 9999 := hs
          omega
        have hs' : sec < 9999 := by rw [fa_lt]; exact hs2
        have es : (sec + 1).toInt = sec.toInt + 1 := i_add1 (by omega)
        rw [if_pos hs', if_neg hs]
        obtain ⟨e, fl, sc, w1, w2, w3, w4, w5, w6, w7, w8, e1, e2, e3⟩ := throw_eq (sec := sec) ho hb h1 h2 h3 score thr x2 x3
        rw [e1, e2]
        exact ⟨_, _, _, _, _, _, _, _, _, _, _, _, _, _, _, _, _, _, _, rfl, rfl, e3, by omega, by omega⟩
    · obtain ⟨a', e1, e2⟩ := refuse_eq (x := -4) (by decide) rf
      rw [if_neg (by decide), if_neg (by decide), e1, e2]
      exact ⟨_, _, _, _, _, _, _, _, _, _, _, _, _, _, _, _, _, _, _, rfl, rfl, f9, hs0, hs9⟩
    · obtain ⟨a', e1, e2⟩ := refuse_eq (x := -6) (by decide) rf
      rw [if_neg (by decide), if_neg (by decide), e1, e2]
      exact ⟨_, _, _, _, _, _, _, _, _, _, _, _, _, _, _, _, _, _, _, rfl, rfl, f9, hs0, hs9⟩
