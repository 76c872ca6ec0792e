/-! images: become, keep, again; then when, crumpled, fills, farthest, judge, lots -/
theorem cl_nat {x : Int32} (h : 0 ≤ x.toInt) : ((x.toNatClampNeg : Nat) : Int) = x.toInt := by
  show ((x.toInt.toNat : Nat) : Int) = x.toInt
  omega
theorem upd_ext {k g : Nat → Int32} {x : Int32} (h0 : 0 ≤ x.toInt) (h : ∀ i : Nat, (i : Int) < x.toInt → k i = g i) : ∀ i : Nat, (i : Int) < x.toInt + 1 → upd k x.toNatClampNeg (g x.toNatClampNeg) i = g i := by
  intro i hi
  have e := cl_nat h0
  unfold upd
  by_cases q : i = x.toNatClampNeg
  · rw [if_pos q, q]
  · rw [if_neg q]; exact h i (by omega)
theorem i_ge5 (x : Int32) : 5 ≤ x ↔ 5 ≤ x.toInt := by rw [fa_le]; exact Iff.rfl
theorem become_l (kO sO tO : Nat → Int32) (hand at_ wide rim fill wall ceiling puff period sec score thr bc : Int32) : ∀ (n : Nat) (x2 : Int32) (k s t : Nat → Int32), 0 ≤ x2.toInt → x2.toInt ≤ 5 → 5 - x2.toInt < n → (∀ i : Nat, (i : Int) < x2.toInt → k i = kO i) → (∀ i : Nat, (i : Int) < x2.toInt → s i = sO i) → (∀ i : Nat, (i : Int) < x2.toInt → t i = tO i) →
    ∃ k' s' t', lX3_become_106 kO sO tO n x2 hand at_ wide rim fill wall ceiling puff period sec score thr bc k s t = some (hand, at_, wide, rim, fill, wall, ceiling, puff, period, sec, score, thr, bc, k', s', t') ∧ AEq 5 k' kO ∧ AEq 5 s' sO ∧ AEq 5 t' tO := by
  intro n
  induction n with
  | zero => intro x2 k s t a b d; omega
  | succ n ih =>
    intro x2 k s t a b d hk hs ht
    rw [lX3_become_106]
    by_cases hc : 5 ≤ x2
    · rw [if_pos hc]
      have hc' := (i_ge5 x2).mp hc
      exact ⟨k, s, t, rfl, fun i hi => hk i (by omega), fun i hi => hs i (by omega), fun i hi => ht i (by omega)⟩
    · have hc' : x2.toInt < 5 := by
        have := fun q => hc ((i_ge5 x2).mpr q)
        omega
      have e1 : (x2 + 1).toInt = x2.toInt + 1 := i_add1 (by omega)
      have hi : x2.toInt < ((5 : Nat) : Int) := hc'
      rw [if_neg hc, g_in_p a hi, g_in_p a hi, g_in_p a hi, g_in_p a hi, g_in_p a hi, g_in_p a hi]
      exact ih _ _ _ _ (by omega) (by omega) (by omega) (by rw [e1]; exact upd_ext a hk) (by rw [e1]; exact upd_ext a hs) (by rw [e1]; exact upd_ext a ht)
theorem become_eq (hand at_ wide rim fill wall ceiling puff period sec score thr bc : Int32) (kO kT sO sT tO tT : Nat → Int32) : ∃ k' s' t', fX3_become hand at_ wide rim fill wall ceiling puff period sec score thr bc kO kT sO sT tO tT = some (hand, at_, wide, rim, fill, wall, ceiling, puff, period, sec, score, thr, bc, k', s', t') ∧ AEq 5 k' kO ∧ AEq 5 s' sO ∧ AEq 5 t' tO := by
  unfold fX3_become
  exact become_l kO sO tO hand at_ wide rim fill wall ceiling puff period sec score thr bc 100 0 kT sT tT (by decide) (by decide) (by decide) (fun i hi => by have : (i : Int) < 0 := hi; omega) (fun i hi => by have : (i : Int) < 0 := hi; omega) (fun i hi => by have : (i : Int) < 0 := hi; omega)
/-- what the reference's image holds -/
def Img (A : Nat → Int32) (hand at_ wide rim fill wall ceiling puff period sec score thr bc : Int32) (ks ss ts : Nat → Int32) : Prop :=
  (∀ i : Nat, i < 5 → A i = ks i ∧ A (5 + i) = ss i ∧ A (10 + i) = ts i) ∧ A 15 = hand ∧ A 16 = at_ ∧ A 17 = wide ∧ A 18 = rim ∧ A 19 = fill ∧ A 20 = wall ∧ A 21 = ceiling ∧ A 22 = puff ∧ A 23 = period ∧ A 24 = sec ∧ A 25 = score ∧ A 26 = thr ∧ A 27 = bc
theorem i_add5 {x : Int32} (h0 : 0 ≤ x.toInt) (h5 : x.toInt < 5) : ((5 + x).toInt = 5 + x.toInt ∧ (5 + x).toNatClampNeg = 5 + x.toNatClampNeg) ∧ ((10 + x).toInt = 10 + x.toInt ∧ (10 + x).toNatClampNeg = 10 + x.toNatClampNeg) := by
  have e5 : (5 + x).toInt = 5 + x.toInt := fb_addI (x := 5) (y := x) (by show _ ≤ (5 : Int) + _; omega) (by show (5 : Int) + _ < _; omega)
  have e10 : (10 + x).toInt = 10 + x.toInt := fb_addI (x := 10) (y := x) (by show _ ≤ (10 : Int) + _; omega) (by show (10 : Int) + _ < _; omega)
  refine ⟨⟨e5, ?_⟩, ⟨e10, ?_⟩⟩
  · show (5 + x).toInt.toNat = 5 + x.toInt.toNat
    rw [e5]; omega
  · show (10 + x).toInt.toNat = 10 + x.toInt.toNat
    rw [e10]; omega
theorem keep_l (hand at_ wide rim fill wall ceiling puff period sec score thr bc : Int32) (ks ss ts : Nat → Int32) : ∀ (n : Nat) (x2 : Int32) (A : Nat → Int32), 0 ≤ x2.toInt → x2.toInt ≤ 5 → 5 - x2.toInt < n → (∀ i : Nat, (i : Int) < x2.toInt → A i = ks i ∧ A (5 + i) = ss i ∧ A (10 + i) = ts i) →
    ∃ A', lX6_keep_2 hand at_ wide rim fill wall ceiling puff period sec score thr bc ks ss ts n x2 A = some A' ∧ Img A' hand at_ wide rim fill wall ceiling puff period sec score thr bc ks ss ts := by
  intro n
  induction n with
  | zero => intro x2 A a b d; omega
  | succ n ih =>
    intro x2 A a b d hA
    rw [lX6_keep_2]
    by_cases hc : 5 ≤ x2
    · have hc' := (i_ge5 x2).mp hc
      rw [if_pos hc]
      repeat rw [g_in_p (by decide) (by decide)]
      refine ⟨_, rfl, ?_⟩
      refine ⟨fun i hi => ?_, rfl, rfl, rfl, rfl, rfl, rfl, rfl, rfl, rfl, rfl, rfl, rfl, rfl⟩
      obtain ⟨q1, q2, q3⟩ := hA i (by omega)
      rw [← q1, ← q2, ← q3]
      have hn : ∀ j : Nat, j < 15 → ∀ (f : Nat → Int32) (c : Nat) (v : Int32), 15 ≤ c → upd f c v j = f j := by
        intro j hj f c v hcv
        unfold upd
        rw [if_neg (by omega)]
      refine ⟨?_, ?_, ?_⟩
      all_goals
        repeat rw [hn _ (by omega) _ _ _ (by decide)]
    · have hc' : x2.toInt < 5 := by
        have := fun q => hc ((i_ge5 x2).mpr q)
        omega
      have e1 : (x2 + 1).toInt = x2.toInt + 1 := i_add1 (by omega)
      have hi : x2.toInt < ((5 : Nat) : Int) := hc'
      have hi28 : x2.toInt < ((28 : Nat) : Int) := by show x2.toInt < 28; omega
      obtain ⟨⟨e5, n5⟩, ⟨e10, n10⟩⟩ := i_add5 a hc'
      rw [if_neg hc, g_in_p a hi, g_in_p a hi28, g_in_p a hi, g_in_p (by omega) (by show _ < (28 : Int); omega), g_in_p a hi, g_in_p (by omega) (by show _ < (28 : Int); omega)]
      refine ih _ _ (by omega) (by omega) (by omega) ?_
      rw [e1, n5, n10]
      intro i hi2
      have en := cl_nat a
      have up : ∀ (f : Nat → Int32) (c : Nat) (v : Int32) (j : Nat), upd f c v j = if j = c then v else f j := fun _ _ _ _ => rfl
      simp only [up]
      by_cases q : i = x2.toNatClampNeg
      · subst q
        refine ⟨?_, ?_, ?_⟩
        · rw [if_neg (by omega), if_neg (by omega), if_pos rfl]
        · rw [if_neg (by omega), if_pos rfl]
        · rw [if_pos rfl]
      · obtain ⟨q1, q2, q3⟩ := hA i (by omega)
        refine ⟨?_, ?_, ?_⟩
        · rw [if_neg (by omega), if_neg (by omega), if_neg q]; exact q1
        · rw [if_neg (by omega), if_neg (by omega), if_neg (by omega)]; exact q2
        · rw [if_neg (by omega), if_neg (by omega), if_neg (by omega)]; exact q3
theorem keep_eq (hand at_ wide rim fill wall ceiling puff period sec score thr bc : Int32) (ks A ss ts : Nat → Int32) : ∃ A', fX6_keep hand at_ wide rim fill wall ceiling puff period sec score thr bc ks A ss ts = some A' ∧ Img A' hand at_ wide rim fill wall ceiling puff period sec score thr bc ks ss ts := by
  unfold fX6_keep
  exact keep_l hand at_ wide rim fill wall ceiling puff period sec score thr bc ks ss ts 100 0 A (by decide) (by decide) (by decide) (fun i hi => by have : (i : Int) < 0 := hi; omega)
theorem again_l (A : Nat → Int32) {hand at_ wide rim fill wall ceiling puff period sec score thr bc : Int32} {ks ss ts : Nat → Int32} (hI : Img A hand at_ wide rim fill wall ceiling puff period sec score thr bc ks ss ts) : ∀ (n : Nat) (x2 : Int32) (k s t : Nat → Int32), 0 ≤ x2.toInt → x2.toInt ≤ 5 → 5 - x2.toInt < n → (∀ i : Nat, (i : Int) < x2.toInt → k i = ks i) → (∀ i : Nat, (i : Int) < x2.toInt → s i = ss i) → (∀ i : Nat, (i : Int) < x2.toInt → t i = ts i) →
    ∃ k' s' t', lX6_again_2 A n x2 k s t = some (hand, at_, wide, rim, fill, wall, ceiling, puff, period, sec, score, thr, bc, k', s', t') ∧ AEq 5 k' ks ∧ AEq 5 s' ss ∧ AEq 5 t' ts := by
  intro n
  induction n with
  | zero => intro x2 k s t a b d; omega
  | succ n ih =>
    intro x2 k s t a b d hk hs ht
    rw [lX6_again_2]
    by_cases hc : 5 ≤ x2
    · have hc' := (i_ge5 x2).mp hc
      obtain ⟨-, p15, p16, p17, p18, p19, p20, p21, p22, p23, p24, p25, p26, p27⟩ := hI
      rw [if_pos hc]
      repeat rw [g_in_p (by decide) (by decide)]
      refine ⟨k, s, t, ?_, fun i hi => hk i (by omega), fun i hi => hs i (by omega), fun i hi => ht i (by omega)⟩
      rw [← p15, ← p16, ← p17, ← p18, ← p19, ← p20, ← p21, ← p22, ← p23, ← p24, ← p25, ← p26, ← p27]
      rfl
    · have hc' : x2.toInt < 5 := by
        have := fun q => hc ((i_ge5 x2).mpr q)
        omega
      have e1 : (x2 + 1).toInt = x2.toInt + 1 := i_add1 (by omega)
      have hi : x2.toInt < ((5 : Nat) : Int) := hc'
      have hi28 : x2.toInt < ((28 : Nat) : Int) := by show x2.toInt < 28; omega
      obtain ⟨⟨e5, n5⟩, ⟨e10, n10⟩⟩ := i_add5 a hc'
      have hlt : x2.toNatClampNeg < 5 := by have := cl_nat a; omega
      obtain ⟨q1, q2, q3⟩ := hI.1 _ hlt
      rw [if_neg hc, g_in_p a hi28, g_in_p a hi, g_in_p (by omega) (by show _ < (28 : Int); omega), g_in_p a hi, g_in_p (by omega) (by show _ < (28 : Int); omega), g_in_p a hi]
      rw [n5, n10, q1, q2, q3]
      exact ih _ _ _ _ (by omega) (by omega) (by omega) (by rw [e1]; exact upd_ext a hk) (by rw [e1]; exact upd_ext a hs) (by rw [e1]; exact upd_ext a ht)
theorem again_eq (A : Nat → Int32) {hand at_ wide rim fill wall ceiling puff period sec score thr bc : Int32} {ks ss ts : Nat → Int32} (hI : Img A hand at_ wide rim fill wall ceiling puff period sec score thr bc ks ss ts) (k s t : Nat → Int32) : ∃ k' s' t', fX6_again A k s t = some (hand, at_, wide, rim, fill, wall, ceiling, puff, period, sec, score, thr, bc, k', s', t') ∧ AEq 5 k' ks ∧ AEq 5 s' ss ∧ AEq 5 t' ts := by
  unfold fX6_again
  exact again_l A hI 100 0 k s t (by decide) (by decide) (by decide) (fun i hi => by have : (i : Int) < 0 := hi; omega) (fun i hi => by have : (i : Int) < 0 := hi; omega) (fun i hi => by have : (i : Int) < 0 := hi; omega)
theorem AEq.sy {n : Nat} {f g : Nat → Int32} (h : AEq n f g) : AEq n g f := fun i hi => (h i hi).symm
theorem AEq.tr {n : Nat} {f g k : Nat → Int32} (h : AEq n f g) (h2 : AEq n g k) : AEq n f k := fun i hi => (h i hi).trans (h2 i hi)
theorem OkO.fil {hand at_ wide rim fill wall ceiling puff period second f : Int32} (ho : OkO hand at_ wide rim fill wall ceiling puff period second) (h : 0 ≤ f.toInt ∧ f.toInt ≤ 9) : OkO hand at_ wide rim f wall ceiling puff period second := by
  obtain ⟨q1, q2, q3, q4, q5, q6⟩ := ho
  exact ⟨q1, q2, q3, q4, h, q6⟩
theorem when_l {hand at_ wide rim fill wall ceiling puff period second sec bc ball : Int32} {kq sq tq km sm tm : Nat → Int32} (ho : OkO hand at_ wide rim fill wall ceiling puff period second) (hb : bOK ball bc) (h1 : AEq 5 sq sm) (h2 : AEq 5 tq tm) (h3 : AEq 5 kq km) (score thr : Int32) (rf : Nat → Int32) (pa ri : Int32) :
    ∀ (n : Nat) (la ms : Int32) (u1 u2 u3 u4 u5 u6 u7 u8 v1 v2 v3 v4 v5 : Int32), 0 ≤ la.toInt → la.toInt ≤ 9 → 9 - la.toInt < n → ((fun a b => ∃ v ms u1 u2 u3 u4 u5 u6 u7 u8 v1 v2 v3 v4 v5, a = some (v, rf, hand, at_, wide, rim, fill, wall, ceiling, puff, period, ms, score, thr, bc, kq, sq, tq, u1, u2, u3, u4, u5, u6, u7, u8) ∧ b = some (v, v1, v2, v3, v4, v5, rf)) (lX5_when_35 ball pa ri sec n la rf hand at_ wide rim fill wall ceiling puff period ms score thr bc kq sq tq u1 u2 u3 u4 u5 u6 u7 u8) (lX6_when_37 ball pa ri hand at_ wide rim fill wall ceiling puff period sec sm tm km n la v1 v2 v3 v4 v5 rf) : Prop) := by
  intro n
  induction n with
  | zero => intro la ms u1 u2 u3 u4 u5 u6 u7 u8 v1 v2 v3 v4 v5 a b d; omega
  | succ n ih =>
    intro la ms u1 u2 u3 u4 u5 u6 u7 u8 v1 v2 v3 v4 v5 a b d
    rw [lX5_when_35, lX6_when_37]
    by_cases hc : 9 ≤ la
    · rw [if_pos hc, if_pos hc]
      exact ⟨_, _, _, _, _, _, _, _, _, _, _, _, _, _, _, rfl, rfl⟩
    · have hc' : la.toInt < 9 := by
        rw [fa_le] at hc
        have h' : ¬ (9 : Int) ≤ la.toInt := hc
        omega
      have e6 : (la + 1).toInt = la.toInt + 1 := i_add1 (by omega)
      rw [if_neg hc, if_neg hc]
      unfold fX5_endsIn
      obtain ⟨e, c, st, g, k, h, p, r, e1, e2, -⟩ := fly_eq (sec := sec + la) ho hb h1 h2 h3 pa ri
      rw [e1, e2]
      simp only [b8, b6]
      by_cases he : e = 0
      · rw [if_pos he, if_pos he]
        simp only [b9]
        rw [if_neg (by decide)]
        exact ⟨_, _, _, _, _, _, _, _, _, _, _, _, _, _, _, rfl, rfl⟩
      · rw [if_neg he, if_neg he]
        simp only [b9]
        rw [if_pos rfl]
        exact ih _ _ _ _ _ _ _ _ _ _ _ _ _ _ _ (by omega) (by omega) (by omega)
theorem p_when {hand at_ wide rim fill wall ceiling puff period second sec bc : Int32} {ks ss ts km sm tm : Nat → Int32} (ho : OkO hand at_ wide rim fill wall ceiling puff period second) (hb0 : 0 ≤ bc.toInt) (hb5 : bc.toInt ≤ 5) (h1 : AEq 5 ss sm) (h2 : AEq 5 ts tm) (h3 : AEq 5 ks km) (x1 x2 x3 score thr : Int32) (rf : Nat → Int32) (n1 n2 n3 n4 n5 n6 n7 n8 n9 n10 n11 n12 n13 : Int32) (nk ns nt : Nat → Int32) (u1 u2 u3 u4 u5 u6 u7 u8 v1 v2 v3 v4 v5 : Int32) :
    ∃ r rf' c1 c2 c3 c4 c5 c6 c7 c8 c9 c10 c11 c12 c13 ck cs ct a1 a2 a3 a4 a5 a6 a7 a8 b1 b2 b3 b4 b5, fX5_when x1 x2 x3 hand at_ wide rim fill wall ceiling puff period sec score thr bc rf n1 n2 n3 n4 n5 n6 n7 n8 n9 n10 n11 n12 n13 ks nk ss ns ts nt u1 u2 u3 u4 u5 u6 u7 u8 = some (r, rf', c1, c2, c3, c4, c5, c6, c7, c8, c9, c10, c11, c12, c13, ck, cs, ct, a1, a2, a3, a4, a5, a6, a7, a8) ∧ fX6_when x1 x2 x3 hand at_ wide rim fill wall ceiling puff period sec bc v1 v2 v3 v4 v5 rf sm tm km = some (r, b1, b2, b3, b4, b5, rf') := by
  unfold fX5_when fX6_when
  rw [isBall_eq hb0 hb5]
  rcases refThrow x1 x2 x3 hb5 with ⟨hb, q1, q2⟩ | ⟨hb, q1, r, q2, q3, q4, q5⟩
  · obtain ⟨a', e1, e2⟩ := refuse_eq (x := -1) (by decide) rf
    rw [q1, q2]
    simp only [b1]
    rw [if_neg (by decide), if_pos rfl, e1, e2]
    exact ⟨_, _, _, _, _, _, _, _, _, _, _, _, _, _, _, _, _, _, _, _, _, _, _, _, _, _, _, _, _, _, _, rfl, rfl⟩
  · rw [q1, q2]
    simp only [b1]
    rw [if_neg (show ¬ ((1 : Int32) = 0) by decide), q3]
    simp only []
    rcases q4 with rfl | rfl | rfl
    · rw [if_pos rfl, if_pos (by decide)]
      obtain ⟨kq, sq, tq, e0, g3, g1, g2⟩ := become_eq hand at_ wide rim fill wall ceiling puff period sec score thr bc ks nk ss ns ts nt
      rw [e0]
      simp only [b16]
      obtain ⟨v, ms, w1, w2, w3, w4, w5, w6, w7, w8, y1, y2, y3, y4, y5, e1, e2⟩ := when_l (sec := sec) ho hb (g1.tr h1) (g2.tr h2) (g3.tr h3) score thr rf x2 x3 100 0 sec u1 u2 u3 u4 u5 u6 u7 u8 v1 v2 v3 v4 v5 (by decide) (by decide) (by decide)
      rw [e1, e2]
      exact ⟨_, _, _, _, _, _, _, _, _, _, _, _, _, _, _, _, _, _, _, _, _, _, _, _, _, _, _, _, _, _, _, rfl, rfl⟩
    · obtain ⟨a', e1, e2⟩ := refuse_eq (x := -4) (by decide) rf
      rw [if_neg (by decide), if_neg (by decide), e1, e2]
      exact ⟨_, _, _, _, _, _, _, _, _, _, _, _, _, _, _, _, _, _, _, _, _, _, _, _, _, _, _, _, _, _, _, rfl, rfl⟩
    · obtain ⟨a', e1, e2⟩ := refuse_eq (x := -6) (by decide) rf
      rw [if_neg (by decide), if_neg (by decide), e1, e2]
      exact ⟨_, _, _, _, _, _, _, _, _, _, _, _, _, _, _, _, _, _, _, _, _, _, _, _, _, _, _, _, _, _, _, rfl, rfl⟩
