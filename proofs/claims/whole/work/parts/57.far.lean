/-! farthest; judge; lots -/
theorem far_in_done {hand wide rim fill wall ceiling puff period sec ball : Int32} {km sm tm : Nat → Int32} (was fo fa pa : Int32) (rf : Nat → Int32) (hf : 0 ≤ fo.toInt) (kM : Int32 → Int32 → Int32 → Int32 → Int32 → Int32 → Int32 → Int32 → Int32 → Int32 → (Nat → Int32) → Option (Int32 × Int32 × Int32 × Int32 × Int32 × Int32 × Int32 × (Nat → Int32))) :
    ∀ (n : Nat) (ri v1 v2 v3 v4 v5 : Int32), ri.toInt ≤ 16 → 16 - ri.toInt < n → lX6_farthest_67 ball hand wide rim fill wall ceiling puff period sec sm tm km n was fo fa pa ri fa v1 v2 v3 v4 v5 rf kM = kM was fo fa (pa + 1) fa v1 v2 v3 v4 v5 rf := by
  have hf' : 0 ≤ fo := by rw [fa_le]; exact hf
  intro n
  induction n with
  | zero => intro ri v1 v2 v3 v4 v5 a b; omega
  | succ n ih =>
    intro ri v1 v2 v3 v4 v5 a b
    rw [lX6_farthest_67]
    by_cases hc : 16 ≤ ri
    · rw [if_pos hc]
    · have hc' : ri.toInt < 16 := by
        rw [fa_le] at hc
        have h' : ¬ (16 : Int) ≤ ri.toInt := hc
        omega
      have e6 : (ri + 1).toInt = ri.toInt + 1 := by
        have := fb_rng ri
        exact fb_addI (x := ri) (y := 1) (by show _ ≤ ri.toInt + 1; omega) (by show ri.toInt + 1 < _; omega)
      rw [if_neg hc, if_pos hf']
      unfold jX6_farthest_93
      exact ih _ _ _ _ _ _ (by omega) (by omega)
theorem far_out_done {hand wide rim fill wall ceiling puff period sec ball : Int32} {km sm tm : Nat → Int32} (was fo fa : Int32) (rf : Nat → Int32) (hf : 0 ≤ fo.toInt) (kM : Int32 → Int32 → Int32 → Int32 → Int32 → Int32 → Int32 → Int32 → (Nat → Int32) → Option (Int32 × Int32 × Int32 × Int32 × Int32 × Int32 × Int32 × (Nat → Int32))) :
    ∀ (n : Nat) (pa v1 v2 v3 v4 v5 : Int32), pa.toInt ≤ 10 → 10 - pa.toInt < n → lX6_farthest_56 ball hand wide rim fill wall ceiling puff period sec sm tm km n was fo fa pa fa v1 v2 v3 v4 v5 rf kM = kM was fo (fa + (-1)) v1 v2 v3 v4 v5 rf := by
  intro n
  induction n with
  | zero => intro pa v1 v2 v3 v4 v5 a b; omega
  | succ n ih =>
    intro pa v1 v2 v3 v4 v5 a b
    rw [lX6_farthest_56]
    by_cases hc : 10 ≤ pa
    · rw [if_pos hc]
    · have hc' : pa.toInt < 10 := by
        rw [fa_le] at hc
        have h' : ¬ (10 : Int) ≤ pa.toInt := hc
        omega
      have e6 : (pa + 1).toInt = pa.toInt + 1 := by
        have := fb_rng pa
        exact fb_addI (x := pa) (y := 1) (by show _ ≤ pa.toInt + 1; omega) (by show pa.toInt + 1 < _; omega)
      rw [if_neg hc]
      rw [far_in_done was fo fa pa rf hf _ 100 (-5) v1 v2 v3 v4 v5 (by decide) (by decide)]
      exact ih _ _ _ _ _ _ (by omega) (by omega)
theorem far_in {hand fa wide rim fill wall ceiling puff period second sec bc ball : Int32} {kq sq tq km sm tm : Nat → Int32} (ho : OkO hand fa wide rim fill wall ceiling puff period second) (hb : bOK ball bc) (h1 : AEq 5 sq sm) (h2 : AEq 5 tq tm) (h3 : AEq 5 kq km) (P : Option (Int32 × Int32 × Int32 × Int32 × Int32 × Int32 × Int32 × Int32 × Int32) → Option (Int32 × Int32 × Int32 × Int32 × Int32 × Int32 × Int32 × (Nat → Int32)) → Prop) (was pa : Int32) (rf : Nat → Int32) {kC : Int32 → Int32 → Int32 → Int32 → Int32 → Int32 → Int32 → Int32 → Int32 → Option (Int32 × Int32 × Int32 × Int32 × Int32 × Int32 × Int32 × Int32 × Int32)} {kM : Int32 → Int32 → Int32 → Int32 → Int32 → Int32 → Int32 → Int32 → Int32 → Int32 → (Nat → Int32) → Option (Int32 × Int32 × Int32 × Int32 × Int32 × Int32 × Int32 × (Nat → Int32))}
    (hfound : ∀ (u1 u2 u3 u4 u5 u6 u7 u8 v1 v2 v3 v4 v5 : Int32), P (some (1, u1, u2, u3, u4, u5, u6, u7, u8)) (kM was fa fa (pa + 1) fa v1 v2 v3 v4 v5 rf)) (hk : ∀ (u1 u2 u3 u4 u5 u6 u7 u8 v1 v2 v3 v4 v5 : Int32), P (kC (pa + 1) u1 u2 u3 u4 u5 u6 u7 u8) (kM was (-9) fa (pa + 1) fa v1 v2 v3 v4 v5 rf)) :
    ∀ (n : Nat) (ri : Int32) (u1 u2 u3 u4 u5 u6 u7 u8 v1 v2 v3 v4 v5 : Int32), -5 ≤ ri.toInt → ri.toInt ≤ 16 → 16 - ri.toInt < n → P (lX5_someThrowEndsIn_12 ball hand fa wide rim fill wall ceiling puff period sec bc sq tq kq n pa ri u1 u2 u3 u4 u5 u6 u7 u8 kC) (lX6_farthest_67 ball hand wide rim fill wall ceiling puff period sec sm tm km n was (-9) fa pa ri fa v1 v2 v3 v4 v5 rf kM) := by
  intro n
  induction n with
  | zero => intro ri u1 u2 u3 u4 u5 u6 u7 u8 v1 v2 v3 v4 v5 a b d; omega
  | succ n ih =>
    intro ri u1 u2 u3 u4 u5 u6 u7 u8 v1 v2 v3 v4 v5 a b d
    rw [lX5_someThrowEndsIn_12, lX6_farthest_67]
    by_cases hc : 15 < ri
    · rw [if_pos hc, if_pos ((i_ge16 ri).mp hc)]
      exact hk _ _ _ _ _ _ _ _ _ _ _ _ _
    · have hc' := i_n15 hc
      have e6 : (ri + 1).toInt = ri.toInt + 1 := i_add1 (by omega)
      rw [if_neg hc, if_neg (fun q => hc ((i_ge16 ri).mpr q)), if_neg (by decide)]
      obtain ⟨f, w1, w2, w3, w4, w5, w6, w7, w8, q1, q2, q3⟩ := in_eq (sec := sec) ho hb h1 h2 h3 pa ri
      rw [q1, q2]
      simp only [b9, b6]
      unfold jX6_farthest_93
      by_cases hf : f = 0
      · rw [if_pos hf, if_pos hf]
        exact ih _ _ _ _ _ _ _ _ _ _ _ _ _ _ (by omega) (by omega) (by omega)
      · rw [if_neg hf, if_neg hf]
        have h0 : 0 ≤ fa.toInt := by have := ho.2.1; omega
        rw [far_in_done was fa fa pa rf h0 kM n (ri + 1) w1 w2 w3 w4 w5 (by omega) (by omega)]
        exact hfound _ _ _ _ _ _ _ _ _ _ _ _ _
theorem far_out {hand fa wide rim fill wall ceiling puff period second sec bc ball : Int32} {kq sq tq km sm tm : Nat → Int32} (ho : OkO hand fa wide rim fill wall ceiling puff period second) (hb : bOK ball bc) (h1 : AEq 5 sq sm) (h2 : AEq 5 tq tm) (h3 : AEq 5 kq km) (P : Option (Int32 × Int32 × Int32 × Int32 × Int32 × Int32 × Int32 × Int32 × Int32) → Option (Int32 × Int32 × Int32 × Int32 × Int32 × Int32 × Int32 × (Nat → Int32)) → Prop) (was : Int32) (rf : Nat → Int32) {kM : Int32 → Int32 → Int32 → Int32 → Int32 → Int32 → Int32 → Int32 → (Nat → Int32) → Option (Int32 × Int32 × Int32 × Int32 × Int32 × Int32 × Int32 × (Nat → Int32))}
    (hfound : ∀ (u1 u2 u3 u4 u5 u6 u7 u8 v1 v2 v3 v4 v5 : Int32), P (some (1, u1, u2, u3, u4, u5, u6, u7, u8)) (kM was fa (fa + (-1)) v1 v2 v3 v4 v5 rf)) (hnone : ∀ (u1 u2 u3 u4 u5 u6 u7 u8 v1 v2 v3 v4 v5 : Int32), P (some (0, u1, u2, u3, u4, u5, u6, u7, u8)) (kM was (-9) (fa + (-1)) v1 v2 v3 v4 v5 rf)) :
    ∀ (n : Nat) (pa : Int32) (u1 u2 u3 u4 u5 u6 u7 u8 v1 v2 v3 v4 v5 : Int32), 1 ≤ pa.toInt → pa.toInt ≤ 10 → 10 - pa.toInt < n → P (lX5_someThrowEndsIn_2 ball hand fa wide rim fill wall ceiling puff period sec bc sq tq kq n pa u1 u2 u3 u4 u5 u6 u7 u8) (lX6_farthest_56 ball hand wide rim fill wall ceiling puff period sec sm tm km n was (-9) fa pa fa v1 v2 v3 v4 v5 rf kM) := by
  intro n
  induction n with
  | zero => intro pa u1 u2 u3 u4 u5 u6 u7 u8 v1 v2 v3 v4 v5 a b d; omega
  | succ n ih =>
    intro pa u1 u2 u3 u4 u5 u6 u7 u8 v1 v2 v3 v4 v5 a b d
    rw [lX5_someThrowEndsIn_2, lX6_farthest_56]
    by_cases hc : 9 < pa
    · rw [if_pos hc, if_pos ((i_ge10 pa).mp hc)]
      exact hnone _ _ _ _ _ _ _ _ _ _ _ _ _
    · have hc' := i_n9 hc
      have e6 : (pa + 1).toInt = pa.toInt + 1 := i_add1 (by omega)
      rw [if_neg hc, if_neg (fun q => hc ((i_ge10 pa).mpr q))]
      refine far_in (sec := sec) ho hb h1 h2 h3 P was pa rf (fun u1 u2 u3 u4 u5 u6 u7 u8 v1 v2 v3 v4 v5 => ?_) (fun u1 u2 u3 u4 u5 u6 u7 u8 v1 v2 v3 v4 v5 => ih (pa + 1) u1 u2 u3 u4 u5 u6 u7 u8 v1 v2 v3 v4 v5 (by omega) (by omega) (by omega)) 100 (-5) u1 u2 u3 u4 u5 u6 u7 u8 v1 v2 v3 v4 v5 (by decide) (by decide) (by decide)
      have h0 : 0 ≤ fa.toInt := by have := ho.2.1; omega
      rw [far_out_done was fa fa rf h0 kM n (pa + 1) v1 v2 v3 v4 v5 (by omega) (by omega)]
      exact hfound _ _ _ _ _ _ _ _ _ _ _ _ _
theorem setBin_ok {fa wide rim wall : Int32} (hf : 1 ≤ fa.toInt ∧ fa.toInt ≤ 40) (hw : 1 ≤ wide.toInt ∧ wide.toInt ≤ 5) (hr : 1 ≤ rim.toInt ∧ rim.toInt ≤ 9) (qa qw qr : Int32) :
    fX3_setBin fa wide rim qa qw qr wall = if fa.toInt + wide.toInt ≤ wall.toInt then some (1, fa, wide, rim) else some (0, qa, qw, qr) := by
  unfold fX3_setBin fX3_isWithin
  have e1 : (fa + wide).toInt = fa.toInt + wide.toInt := fb_addI (by omega) (by omega)
  have c1 : 1 ≤ fa := by rw [fa_le]; exact hf.1
  have c2 : fa ≤ 40 := by rw [fa_le]; exact hf.2
  have c3 : 1 ≤ wide := by rw [fa_le]; exact hw.1
  have c4 : wide ≤ 5 := by rw [fa_le]; exact hw.2
  have c5 : 1 ≤ rim := by rw [fa_le]; exact hr.1
  have c6 : rim ≤ 9 := by rw [fa_le]; exact hr.2
  have d1 : ¬ fa < 1 := (i_lt_of _ _).mpr c1
  have d2 : ¬ 40 < fa := (i_lt_of _ _).mpr c2
  have d3 : ¬ wide < 1 := (i_lt_of _ _).mpr c3
  have d4 : ¬ 5 < wide := (i_lt_of _ _).mpr c4
  have d5 : ¬ rim < 1 := (i_lt_of _ _).mpr c5
  have d6 : ¬ 9 < rim := (i_lt_of _ _).mpr c6
  have n1 : ¬ ((1 : Int32) = 0) := by decide
  by_cases h : fa.toInt + wide.toInt ≤ wall.toInt
  · have h' : fa + wide ≤ wall := by rw [fa_le, e1]; exact h
    simp only [c1, c2, c3, c4, c5, c6, d1, d2, d3, d4, d5, d6, n1, h, h', b1, if_true, if_false]
  · have h' : ¬ fa + wide ≤ wall := by rw [fa_le, e1]; exact h
    simp only [c1, c2, c3, c4, c5, c6, d1, d2, d3, d4, d5, d6, n1, h, h', b1, if_true, if_false]
theorem OkO.at {hand at_ wide rim fill wall ceiling puff period second f : Int32} (ho : OkO hand at_ wide rim fill wall ceiling puff period second) (h : 1 ≤ f.toInt ∧ f.toInt ≤ 40) (h2 : f.toInt + wide.toInt ≤ wall.toInt) : OkO hand f wide rim fill wall ceiling puff period second := by
  obtain ⟨q1, q2, q3, q4, q5, q6, q7, q8, q9, q10, q11⟩ := ho
  exact ⟨q1, h, q3, q4, q5, q6, q7, q8, q9, h2, q11⟩
theorem far_l {hand at_ wide rim fill wall ceiling puff period second sec bc ball : Int32} {kq sq tq km sm tm : Nat → Int32} (ho : OkO hand at_ wide rim fill wall ceiling puff period second) (hb : bOK ball bc) (h1 : AEq 5 sq sm) (h2 : AEq 5 tq tm) (h3 : AEq 5 kq km) (score thr was : Int32) (rf : Nat → Int32) :
    ∀ (j n k : Nat) (fa qa : Int32) (u1 u2 u3 u4 u5 u6 u7 u8 v1 v2 v3 v4 v5 : Int32), fa.toInt = (j : Int) → fa.toInt ≤ 40 → fa.toInt + wide.toInt ≤ wall.toInt → j < n → j < k → ∃ v qa' a1 a2 a3 a4 a5 a6 a7 a8 b1 b2 b3 b4 b5, lX5_farthest_31 ball wide rim n fa rf hand qa wide rim fill wall ceiling puff period sec score thr bc kq sq tq u1 u2 u3 u4 u5 u6 u7 u8 = some (v, rf, hand, qa', wide, rim, fill, wall, ceiling, puff, period, sec, score, thr, bc, kq, sq, tq, a1, a2, a3, a4, a5, a6, a7, a8) ∧ lX6_farthest_38 ball hand wide rim fill wall ceiling puff period sec sm tm km k was (-9) fa v1 v2 v3 v4 v5 rf = some (v, was, b1, b2, b3, b4, b5, rf) := by
  intro j
  induction j with
  | zero =>
    intro n k fa qa u1 u2 u3 u4 u5 u6 u7 u8 v1 v2 v3 v4 v5 a b d hn hk
    obtain ⟨n, rfl⟩ : ∃ z, n = z + 1 := ⟨n - 1, by omega⟩
    obtain ⟨k, rfl⟩ : ∃ z, k = z + 1 := ⟨k - 1, by omega⟩
    rw [lX5_farthest_31, lX6_farthest_38]
    have c1 : fa < 1 := by rw [fa_lt]; show fa.toInt < 1; omega
    have c2 : fa ≤ 0 := by rw [fa_le]; show fa.toInt ≤ 0; omega
    rw [if_pos c1, if_pos c2]
    exact ⟨_, _, _, _, _, _, _, _, _, _, _, _, _, _, _, rfl, rfl⟩
  | succ j ih =>
    intro n k fa qa u1 u2 u3 u4 u5 u6 u7 u8 v1 v2 v3 v4 v5 a b d hn hk
    obtain ⟨n, rfl⟩ : ∃ z, n = z + 1 := ⟨n - 1, by omega⟩
    obtain ⟨k, rfl⟩ : ∃ z, k = z + 1 := ⟨k - 1, by omega⟩
    rw [lX5_farthest_31, lX6_farthest_38]
    have hfa : 1 ≤ fa.toInt := by omega
    have c1 : ¬ fa < 1 := by rw [fa_lt]; show ¬ fa.toInt < 1; omega
    have c2 : ¬ fa ≤ 0 := by rw [fa_le]; show ¬ fa.toInt ≤ 0; omega
    rw [if_neg c1, if_neg c2, if_neg (by decide)]
    rw [setBin_ok ⟨hfa, b⟩ ho.2.2.1 ho.2.2.2.1, if_pos d]
    simp only [b4]
    rw [if_neg (show ¬ ((1 : Int32) = 0) by decide)]
    have em : (fa + (-1)).toInt = fa.toInt - 1 := fb_addI (x := fa) (y := -1) (by show _ ≤ fa.toInt + (-1); omega) (by show fa.toInt + (-1) < _; omega)
    unfold fX5_someThrowEndsIn
    refine far_out (sec := sec) (OkO.at ho ⟨hfa, b⟩ d) hb h1 h2 h3 (fun x y => ∃ v qa' a1 a2 a3 a4 a5 a6 a7 a8 b1 b2 b3 b4 b5, b9 x (fun r6 w7 w8 w9 w10 w11 w12 w13 w14 => if r6 = 0 then jX5_farthest_75 fa rf hand fa wide rim fill wall ceiling puff period sec score thr bc kq sq tq w7 w8 w9 w10 w11 w12 w13 w14 (lX5_farthest_31 ball wide rim n) else some (fa, rf, hand, fa, wide, rim, fill, wall, ceiling, puff, period, sec, score, thr, bc, kq, sq, tq, w7, w8, w9, w10, w11, w12, w13, w14)) = some (v, rf, hand, qa', wide, rim, fill, wall, ceiling, puff, period, sec, score, thr, bc, kq, sq, tq, a1, a2, a3, a4, a5, a6, a7, a8) ∧ y = some (v, was, b1, b2, b3, b4, b5, rf)) was rf (fun u1 u2 u3 u4 u5 u6 u7 u8 v1 v2 v3 v4 v5 => ?_) (fun u1 u2 u3 u4 u5 u6 u7 u8 v1 v2 v3 v4 v5 => ?_) 100 1 u1 u2 u3 u4 u5 u6 u7 u8 v1 v2 v3 v4 v5 (by decide) (by decide) (by decide)
    · simp only [b9]
      rw [if_neg (show ¬ ((1 : Int32) = 0) by decide)]
      obtain ⟨k, rfl⟩ : ∃ z, k = z + 1 := ⟨k - 1, by omega⟩
      rw [lX6_farthest_38]
      have c3 : 0 ≤ fa := by rw [fa_le]; show (0 : Int) ≤ fa.toInt; omega
      by_cases c4 : fa + (-1) ≤ 0
      · rw [if_pos c4]
        exact ⟨_, _, _, _, _, _, _, _, _, _, _, _, _, _, _, rfl, rfl⟩
      · rw [if_neg c4, if_pos c3]
        exact ⟨_, _, _, _, _, _, _, _, _, _, _, _, _, _, _, rfl, rfl⟩
    · simp only [b9]
      rw [if_pos rfl]
      unfold jX5_farthest_75
      exact ih n k (fa + (-1)) fa u1 u2 u3 u4 u5 u6 u7 u8 v1 v2 v3 v4 v5 (by omega) (by omega) (by omega) (by omega) (by omega)
theorem far_skip {hand at_ wide rim fill wall ceiling puff period second sec bc ball : Int32} {kq sq tq km sm tm : Nat → Int32} (ho : OkO hand at_ wide rim fill wall ceiling puff period second) (hb : bOK ball bc) (h1 : AEq 5 sq sm) (h2 : AEq 5 tq tm) (h3 : AEq 5 kq km) (score thr was : Int32) (rf : Nat → Int32) {st : Int32} (hst : 1 ≤ st.toInt ∧ st.toInt + wide.toInt ≤ wall.toInt ∧ (st.toInt = 40 ∨ st.toInt + wide.toInt = wall.toInt)) (k : Nat) (hk : st.toInt < k) (b1_ b2_ b3_ b4_ b5_ : Int32) :
    ∀ (j n : Nat) (fa : Int32) (u1 u2 u3 u4 u5 u6 u7 u8 v1 v2 v3 v4 v5 : Int32), fa.toInt = st.toInt + (j : Int) → fa.toInt ≤ 40 → fa.toInt < n → ∃ v qa' a1 a2 a3 a4 a5 a6 a7 a8 b1 b2 b3 b4 b5, lX5_farthest_31 ball wide rim n fa rf hand at_ wide rim fill wall ceiling puff period sec score thr bc kq sq tq u1 u2 u3 u4 u5 u6 u7 u8 = some (v, rf, hand, qa', wide, rim, fill, wall, ceiling, puff, period, sec, score, thr, bc, kq, sq, tq, a1, a2, a3, a4, a5, a6, a7, a8) ∧ lX6_farthest_38 ball hand wide rim fill wall ceiling puff period sec sm tm km k was (-9) st v1 v2 v3 v4 v5 rf = some (v, was, b1, b2, b3, b4, b5, rf) := by
  intro j
  induction j with
  | zero =>
    intro n fa u1 u2 u3 u4 u5 u6 u7 u8 v1 v2 v3 v4 v5 a b d
    have e : fa = st := by rw [fa_eq]; omega
    subst e
    exact far_l (sec := sec) ho hb h1 h2 h3 score thr was rf fa.toInt.toNat n k fa at_ u1 u2 u3 u4 u5 u6 u7 u8 v1 v2 v3 v4 v5 (by omega) b hst.2.1 (by omega) (by omega)
  | succ j ih =>
    intro n fa u1 u2 u3 u4 u5 u6 u7 u8 v1 v2 v3 v4 v5 a b d
    obtain ⟨n, rfl⟩ : ∃ z, n = z + 1 := ⟨n - 1, by omega⟩
    rw [lX5_farthest_31]
    have c1 : ¬ fa < 1 := by rw [fa_lt]; show ¬ fa.toInt < 1; omega
    rw [if_neg c1, setBin_ok ⟨by omega, b⟩ ho.2.2.1 ho.2.2.2.1, if_neg (by omega)]
    simp only [b4]
    rw [if_pos rfl]
    unfold jX5_farthest_75
    have em : (fa + (-1)).toInt = fa.toInt - 1 := fb_addI (x := fa) (y := -1) (by show _ ≤ fa.toInt + (-1); omega) (by show fa.toInt + (-1) < _; omega)
    exact ih n (fa + (-1)) u1 u2 u3 u4 u5 u6 u7 u8 v1 v2 v3 v4 v5 (by omega) (by omega) (by omega)
theorem p_farthest {hand at_ wide rim fill wall ceiling puff period second sec bc : Int32} {ks ss ts km sm tm : Nat → Int32} (ho : OkO hand at_ wide rim fill wall ceiling puff period second) (hb0 : 0 ≤ bc.toInt) (hb5 : bc.toInt ≤ 5) (h1 : AEq 5 ss sm) (h2 : AEq 5 ts tm) (h3 : AEq 5 ks km) (x1 score thr : Int32) (rf : Nat → Int32) (n1 n2 n3 n4 n5 n6 n7 n8 n9 n10 n11 n12 n13 : Int32) (nk ns nt : Nat → Int32) (u1 u2 u3 u4 u5 u6 u7 u8 v1 v2 v3 v4 v5 : Int32) :
    ∃ r rf' c1 c2 c3 c4 c5 c6 c7 c8 c9 c10 c11 c12 c13 ck cs ct a1 a2 a3 a4 a5 a6 a7 a8 b1 b2 b3 b4 b5, fX5_farthest x1 hand at_ wide rim fill wall ceiling puff period sec score thr bc rf n1 n2 n3 n4 n5 n6 n7 n8 n9 n10 n11 n12 n13 ks nk ss ns ts nt u1 u2 u3 u4 u5 u6 u7 u8 = some (r, rf', c1, c2, c3, c4, c5, c6, c7, c8, c9, c10, c11, c12, c13, ck, cs, ct, a1, a2, a3, a4, a5, a6, a7, a8) ∧ fX6_farthest x1 hand at_ wide rim fill wall ceiling puff period sec bc v1 v2 v3 v4 v5 rf sm tm km = some (r, at_, b1, b2, b3, b4, b5, rf') := by
  unfold fX5_farthest fX6_farthest
  rw [isBall_eq hb0 hb5]
  by_cases hb : bOK x1 bc
  · rw [hb_yes hb]
    simp only [b1]
    rw [if_neg (show ¬ ((1 : Int32) = 0) by decide), if_neg (show ¬ ((1 : Int32) = 0) by decide)]
    obtain ⟨kq, sq, tq, e0, g3, g1, g2⟩ := become_eq hand at_ wide rim fill wall ceiling puff period sec score thr bc ks nk ss ns ts nt
    rw [e0]
    simp only [b16]
    obtain ⟨o1, o2, o3, o4, o5, o6, o7, o8, o9, o10, o11⟩ := id ho
    have ew : (wall - wide).toInt = wall.toInt - wide.toInt := fb_subI (by omega) (by omega)
    obtain ⟨st, hst⟩ : ∃ st, (if wall - wide < 40 then wall - wide else (40 : Int32)) = st := ⟨_, rfl⟩
    have hs : st.toInt = if wall.toInt - wide.toInt < 40 then wall.toInt - wide.toInt else 40 := by
      rw [← hst]
      by_cases q : wall - wide < 40
      · have q' : wall.toInt - wide.toInt < 40 := by rw [fa_lt, ew] at q; exact q
        rw [if_pos q, if_pos q', ew]
      · have q' : ¬ wall.toInt - wide.toInt < 40 := by rw [fa_lt, ew] at q; exact q
        rw [if_neg q, if_neg q']; rfl
    rw [hst]
    have hst2 : 1 ≤ st.toInt ∧ st.toInt + wide.toInt ≤ wall.toInt ∧ (st.toInt = 40 ∨ st.toInt + wide.toInt = wall.toInt) ∧ st.toInt ≤ 40 := by
      by_cases q : wall.toInt - wide.toInt < 40
      · rw [if_pos q] at hs; omega
      · rw [if_neg q] at hs; omega
    obtain ⟨v, qa, w1, w2, w3, w4, w5, w6, w7, w8, y1, y2, y3, y4, y5, e1, e2⟩ := far_skip (sec := sec) ho hb (g1.tr h1) (g2.tr h2) (g3.tr h3) score thr at_ rf ⟨hst2.1, hst2.2.1, hst2.2.2.1⟩ 100 (by omega) 0 0 0 0 0 (40 - st.toInt).toNat 100 40 u1 u2 u3 u4 u5 u6 u7 u8 v1 v2 v3 v4 v5 (by show (40 : Int) = _; omega) (by decide) (by decide)
    rw [e1, e2]
    exact ⟨_, _, _, _, _, _, _, _, _, _, _, _, _, _, _, _, _, _, _, _, _, _, _, _, _, _, _, _, _, _, _, rfl, rfl⟩
  · rw [hb_no hb5 hb]
    obtain ⟨a', e1, e2⟩ := refuse_eq (x := -1) (by decide) rf
    simp only [b1]
    rw [if_pos rfl, if_pos rfl, e1, e2]
    exact ⟨_, _, _, _, _, _, _, _, _, _, _, _, _, _, _, _, _, _, _, _, _, _, _, _, _, _, _, _, _, _, _, rfl, rfl⟩
