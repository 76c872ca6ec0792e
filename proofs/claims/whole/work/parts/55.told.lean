/-! the office: counted, told, in both -/
theorem neg_all : ∀ a : Nat, a < 81 → (-2000 - nI a ≤ 0 ∧ -1000 - nI a ≤ 0) := by decide +kernel
theorem neg_2000 {p : Int32} (h0 : 0 ≤ p.toInt) (h1 : p.toInt ≤ 80) : -2000 - p ≤ 0 := by
  obtain ⟨a, ha, rfl⟩ := nI_of (x := p) (by rw [fa_lt]; show ¬ p.toInt < 0; omega)
  rw [nI_toInt ha] at h1
  exact (neg_all a (by omega)).1
theorem neg_1000 {p : Int32} (h0 : 0 ≤ p.toInt) (h1 : p.toInt ≤ 80) : -1000 - p ≤ 0 := by
  obtain ⟨a, ha, rfl⟩ := nI_of (x := p) (by rw [fa_lt]; show ¬ p.toInt < 0; omega)
  rw [nI_toInt ha] at h1
  exact (neg_all a (by omega)).2
theorem says_inj {x y len p q q' : Int32} {L : Nat → Int32} (h : RefSays x len p q L) (h' : RefSays y len p q' L) : x = y ∧ q = q' := by
  obtain ⟨v1, e1⟩ := h 0 0 0 0 0 0 0 0 0 0 0 L L L
  obtain ⟨v2, e2⟩ := h' 0 0 0 0 0 0 0 0 0 0 0 L L L
  have e := Option.some.inj (e1.symm.trans e2)
  exact ⟨congrArg (fun z => z.1) e, congrArg (fun z => z.2.2.2.2.2.2.2.2.2.2.2.1) e⟩
def Good (len : Int32) (L : Nat → Int32) : Nat → Int32 → Prop
  | 0, p => p = len
  | k + 1, p => ∃ q, Pl len q ∧ RefSays 1 len p q L ∧ lh len q L = 59 ∧ Good len L k (q + 1) ∧ p.toInt + 2 ≤ q.toInt
theorem cnt_l {len : Int32} (L : Nat → Int32) (hand at_ wide rim fill wall ceiling puff period sec score thr bc : Int32) (km sm tm ah : Nat → Int32) : ∀ (n : Nat) (x1 p w f s t val : Int32), Pl len p → 0 ≤ x1.toInt → 3 * x1.toInt ≤ p.toInt → p.toInt < len.toInt → 81 - p.toInt < n →
    (∃ q w' f' s' t' val', lX4_countStatements_7 len L n x1 p w f s t = some (0, q, w', f', s', t') ∧ lX6_office_7 L n 1 hand at_ wide rim fill wall ceiling puff period sec score thr bc len p val km sm tm ah = some (-1000 - q, hand, at_, wide, rim, fill, wall, ceiling, puff, period, sec, score, thr, bc, 0, q, val', km, sm, tm, ah) ∧ Pl len q) ∨
    (∃ (k : Nat) (c val' w' f' s' t' : Int32), Good len L (k + 1) p ∧ c.toInt = x1.toInt + (k + 1 : Nat) ∧ 3 * c.toInt ≤ 80 ∧ lX4_countStatements_7 len L n x1 p w f s t = some (c, len, w', f', s', t') ∧ lX6_office_7 L n 1 hand at_ wide rim fill wall ceiling puff period sec score thr bc len p val km sm tm ah = jX6_office_53 L 1 hand at_ wide rim fill wall ceiling puff period sec score thr bc len len val' km sm tm ah) := by
  intro n
  induction n with
  | zero => intro x1 p w f s t val hp a b d e; have := hp.2.2; omega
  | succ n ih =>
    intro x1 p w f s t val hp a b d e
    have h80 := hp.2.2
    obtain ⟨m, rfl⟩ : ∃ m, n = m + 1 := ⟨n - 1, by omega⟩
    have ex : (x1 + 1).toInt = x1.toInt + 1 := i_add1 (by omega)
    rw [lX4_countStatements_7, lX6_office_7, if_neg (show ¬ 80 ≤ x1 by rw [fa_le]; show ¬ (80 : Int) ≤ x1.toInt; omega), if_neg (show ¬ len ≤ p by rw [fa_le]; omega), if_neg (show ¬ (1 : Int32) = 0 by decide)]
    rcases st_all hp L f s t with ⟨q, w', f', s', t', e1, hq, h⟩ | ⟨q, w', f', s', t', e1, hq, hpq, e59, hy, -⟩
    · rw [e1]
      rw [b6_p]
      rw [if_pos rfl]
      rcases h with hn | ⟨hy, e59⟩
      · obtain ⟨val', e2⟩ := hn hand at_ wide rim fill wall ceiling puff period bc val km sm tm
        rw [e2]
        rw [b16_p]
        rw [if_neg (show ¬ (-1 : Int32) = 1 by decide)]
        unfold jX6_office_33 jX6_office_34
        rw [if_pos rfl, lX6_office_7, if_pos rfl]
        unfold jX6_office_53
        rw [if_pos rfl]
        exact Or.inl ⟨q, w', f', s', t', val', rfl, rfl, hq⟩
      · obtain ⟨val', e2⟩ := hy hand at_ wide rim fill wall ceiling puff period bc val km sm tm
        rw [e2]
        rw [b16_p]
        rw [if_pos rfl, is_n hq e59]
        rw [b2_p]
        rw [if_pos rfl]
        unfold jX6_office_33 jX6_office_34
        rw [if_pos rfl, lX6_office_7, if_pos rfl]
        unfold jX6_office_53
        rw [if_pos rfl]
        exact Or.inl ⟨q, w', f', s', t', val', rfl, rfl, hq⟩
    · obtain ⟨hq1, eq1⟩ := hq.nx (lh_lt (by decide) e59)
      have h81 := hq1.2.1
      obtain ⟨val', e2⟩ := hy hand at_ wide rim fill wall ceiling puff period bc val km sm tm
      rw [e1, e2]
      rw [b6_p, b16_p]
      rw [if_neg (show ¬ (1 : Int32) = 0 by decide), if_pos rfl, is_y hq (by decide) e59]
      rw [b2_p]
      rw [if_neg (show ¬ (1 : Int32) = 0 by decide)]
      unfold jX6_office_34
      rw [if_neg (show ¬ (1 : Int32) = 0 by decide)]
      by_cases z : q + 1 = len
      · rw [if_pos z, lX4_countStatements_7, if_neg (show ¬ 80 ≤ x1 + 1 by rw [fa_le]; show ¬ (80 : Int) ≤ (x1 + 1).toInt; omega), if_pos (show len ≤ q + 1 by rw [fa_le, z]; exact Int.le_refl _)]
        refine Or.inr ⟨0, x1 + 1, val', w', f', s', t', ⟨q, hq, hy, e59, z, hpq⟩, by omega, by omega, ?_, ?_⟩
        · rw [z]
        · rw [z]
      · have z' : (q + 1).toInt < len.toInt := by
          rw [fa_eq] at z
          omega
        rw [if_neg z]
        rcases ih (x1 + 1) (q + 1) w' f' s' t' val' hq1 (by omega) (by omega) z' (by omega) with ⟨q2, w2, f2, s2, t2, v2, e3, e4, hq2⟩ | ⟨k, c, v2, w2, f2, s2, t2, hg, hc, hc2, e3, e4⟩
        · exact Or.inl ⟨q2, w2, f2, s2, t2, v2, e3, e4, hq2⟩
        · exact Or.inr ⟨k + 1, c, v2, w2, f2, s2, t2, ⟨q, hq, hy, e59, hg, hpq⟩, by omega, hc2, e3, e4⟩
theorem tell_l {len c : Int32} (L : Nat → Int32) {hand0 at0 wide0 rim0 fill0 wall0 ceiling0 puff0 period0 sec score thr bc0 : Int32} {km0 sm0 tm0 ah : Nat → Int32} (hI : Img ah hand0 at0 wide0 rim0 fill0 wall0 ceiling0 puff0 period0 sec score thr bc0 km0 sm0 tm0) : ∀ (k n : Nat) (x3 p w f s t val hand at_ wide rim fill wall ceiling puff period bc : Int32) (ks ss ts km sm tm : Nat → Int32), Good len L k p → Pl len p → c.toInt = x3.toInt + (k : Nat) → k < n → OkO hand at_ wide rim fill wall ceiling puff period sec → 0 ≤ bc.toInt → bc.toInt ≤ 5 → AEq 5 ks km → AEq 5 ss sm → AEq 5 ts tm → c.toInt ≤ 80 → 0 ≤ x3.toInt →
    (∃ r p' w' f' s' t' hand' at_' wide' rim' fill' wall' ceiling' puff' period' bc' k1 s1 t1 q val' k2 s2 t2, lX4_tell_25 len L n c x3 p w f s t hand at_ wide rim fill wall ceiling puff period bc ks ss ts = some (r, p', w', f', s', t', hand', at_', wide', rim', fill', wall', ceiling', puff', period', bc', k1, s1, t1) ∧ lX6_office_86 L n x3 hand at_ wide rim fill wall ceiling puff period sec score thr bc len p val km sm tm ah = some (r, hand0, at0, wide0, rim0, fill0, wall0, ceiling0, puff0, period0, sec, score, thr, bc0, 0, q, val', k2, s2, t2, ah) ∧ r ≤ 0 ∧ AEq 5 k2 km0 ∧ AEq 5 s2 sm0 ∧ AEq 5 t2 tm0) ∨
    (∃ p' w' f' s' t' hand' at_' wide' rim' fill' wall' ceiling' puff' period' bc' k1 s1 t1 q val' k2 s2 t2, lX4_tell_25 len L n c x3 p w f s t hand at_ wide rim fill wall ceiling puff period bc ks ss ts = some (c, p', w', f', s', t', hand', at_', wide', rim', fill', wall', ceiling', puff', period', bc', k1, s1, t1) ∧ lX6_office_86 L n x3 hand at_ wide rim fill wall ceiling puff period sec score thr bc len p val km sm tm ah = some (c, hand', at_', wide', rim', fill', wall', ceiling', puff', period', sec, score, thr, bc', 0, q, val', k2, s2, t2, ah) ∧ OkO hand' at_' wide' rim' fill' wall' ceiling' puff' period' sec ∧ 0 ≤ bc'.toInt ∧ bc'.toInt ≤ 5 ∧ AEq 5 k1 k2 ∧ AEq 5 s1 s2 ∧ AEq 5 t1 t2) := by
  intro k
  induction k with
  | zero =>
    intro n x3 p w f s t val hand at_ wide rim fill wall ceiling puff period bc ks ss ts km sm tm hg hp hc hn ho hb0 hb5 h3 h1 h2 hc80 hx0
    obtain ⟨m, rfl⟩ : ∃ m, n = m + 1 := ⟨n - 1, by omega⟩
    have hcx : c = x3 := by rw [fa_eq]; omega
    have hg' : p = len := hg
    subst hcx
    subst hg'
    rw [lX4_tell_25, lX6_office_86, if_pos (show c ≤ c by rw [fa_le]; exact Int.le_refl _), if_pos (show p ≤ p by rw [fa_le]; exact Int.le_refl _)]
    exact Or.inr ⟨_, _, _, _, _, _, _, _, _, _, _, _, _, _, _, _, _, _, _, _, _, _, _, rfl, rfl, ho, hb0, hb5, h3, h1, h2⟩
  | succ k ih =>
    intro n x3 p w f s t val hand at_ wide rim fill wall ceiling puff period bc ks ss ts km sm tm hg hp hc hn ho hb0 hb5 h3 h1 h2 hc80 hx0
    obtain ⟨m, rfl⟩ : ∃ m, n = m + 1 := ⟨n - 1, by omega⟩
    obtain ⟨q, hq, hy, e59, hg2, hpq⟩ := hg
    have hql := hq.2.1
    have h80 := hp.2.2
    have hp0 := hp.1
    rw [lX4_tell_25, lX6_office_86, if_neg (show ¬ c ≤ x3 by rw [fa_le]; omega), if_neg (show ¬ len ≤ p by rw [fa_le]; omega)]
    rcases st_all hp L f s t with ⟨q', w', f', s', t', e1, hq', h⟩ | ⟨q', w', f', s', t', e1, hq', hpq', e59', hy', ht⟩
    · exfalso
      rcases h with hn' | ⟨hy', e59'⟩
      · exact absurd (says_inj hn' hy).1 (by decide)
      · have e := (says_inj hy' hy).2
        rw [e] at e59'
        exact e59' e59
    · have eqq := (says_inj hy' hy).2
      subst eqq
      obtain ⟨hq1, eq1⟩ := hq.nx (lh_lt (by decide) e59)
      obtain ⟨r, val', a1, a2, a3, a4, a5, a6, a7, a8, a9, bc', k1, s1, t1, k2, s2, t2, e2, e3, ho', hb0', hb5', h3', h1', h2', hr⟩ := ht hand at_ wide rim fill wall ceiling puff period bc val sec ks ss ts km sm tm ho hb0 hb5 h3 h1 h2
      rw [e1, e3]
      rw [b6_p, b16_p]
      rw [if_neg (show ¬ (1 : Int32) = 0 by decide), e2]
      rw [b14_p]
      rcases hr with rfl | rfl
      · obtain ⟨k4, s4, t4, e4, d3, d1, d2⟩ := again_eq ah hI k2 s2 t2
        rw [if_pos rfl, if_pos rfl, e4]
        rw [b16_p]
        have hr0 : -2000 - p ≤ 0 := neg_2000 hp0 (by omega)
        generalize -2000 - p = rr at hr0 ⊢
        refine Or.inl ⟨rr, _, _, _, _, _, _, _, _, _, _, _, _, _, _, _, _, _, _, _, _, k4, s4, t4, rfl, rfl, ?_, d3, d1, d2⟩
        exact hr0
      · have ex : (x3 + 1).toInt = x3.toInt + 1 := i_add1 (by omega)
        rw [if_neg (show ¬ (1 : Int32) = 0 by decide), if_neg (show ¬ (1 : Int32) = 0 by decide), is_y hq (by decide) e59]
        rw [b2_p]
        exact ih m (x3 + 1) (q' + 1) _ _ _ _ _ _ _ _ _ _ _ _ _ _ _ _ _ _ _ _ _ hg2 hq1 (by omega) (by omega) ho' hb0' hb5' h3' h1' h2' hc80 (by omega)
theorem p_office {hand at_ wide rim fill wall ceiling puff period sec score thr bc len : Int32} {ks ss ts km sm tm : Nat → Int32} (ho : OkO hand at_ wide rim fill wall ceiling puff period sec) (hb0 : 0 ≤ bc.toInt) (hb5 : bc.toInt ≤ 5) (h1 : AEq 5 ss sm) (h2 : AEq 5 ts tm) (h3 : AEq 5 ks km) (hl0 : 0 ≤ len.toInt) (hl80 : len.toInt ≤ 80) (wd f s t val : Int32) (nk ns nt L ah : Nat → Int32) :
    ∃ r c1 c2 c3 c4 c5 c6 c7 c8 c9 c10 c11 c12 c13 hand' at_' wide' rim' fill' wall' ceiling' puff' period' bc' k1 ck s1 cs t1 ct w1 w2 w3 w4 w5 q val' k2 s2 t2 ah', fX5_office hand at_ wide rim fill wall ceiling puff period sec score thr bc ks nk ss ns ts nt len wd f s t L = some (r, c1, c2, c3, c4, c5, c6, c7, c8, c9, c10, c11, c12, c13, hand', at_', wide', rim', fill', wall', ceiling', puff', period', sec, score, thr, bc', k1, ck, s1, cs, t1, ct, 0, w1, w2, w3, w4, w5) ∧
      fX6_office hand at_ wide rim fill wall ceiling puff period sec score thr bc len val L km sm tm ah = some (r, hand', at_', wide', rim', fill', wall', ceiling', puff', period', sec, score, thr, bc', 0, q, val', k2, s2, t2, ah') ∧ OkO hand' at_' wide' rim' fill' wall' ceiling' puff' period' sec ∧ 0 ≤ bc'.toInt ∧ bc'.toInt ≤ 5 ∧ AEq 5 s1 s2 ∧ AEq 5 t1 t2 ∧ AEq 5 k1 k2 := by
  unfold fX5_office fX6_office
  obtain ⟨kq, sq, tq, e0, g3, g1, g2⟩ := become_eq hand at_ wide rim fill wall ceiling puff period sec score thr bc ks nk ss ns ts nt
  rw [e0]
  rw [b16_p]
  have hp : Pl len 0 := ⟨by decide, hl0, hl80⟩
  have z0 : (0 : Int32).toInt = 0 := by decide
  have bad : ∀ q : Int32, Pl len q → (-1000 - q) ≤ 0 := by
    intro q hq
    have a := hq.1
    have b := hq.2.1
    exact neg_1000 (by omega) (by have := hq.2.2; omega)
  have fin : ∀ q w' f' s' t' val', fX4_countStatements len wd f s t L = some (0, q, w', f', s', t') → lX6_office_7 L 100 1 hand at_ wide rim fill wall ceiling puff period sec score thr bc len 0 val km sm tm ah = some (-1000 - q, hand, at_, wide, rim, fill, wall, ceiling, puff, period, sec, score, thr, bc, 0, q, val', km, sm, tm, ah) → Pl len q →
      ∃ r c1 c2 c3 c4 c5 c6 c7 c8 c9 c10 c11 c12 c13 hand' at_' wide' rim' fill' wall' ceiling' puff' period' bc' k1 ck s1 cs t1 ct w1 w2 w3 w4 w5 q val' k2 s2 t2 ah', b19 (fX4_tell len wd f s t L hand at_ wide rim fill wall ceiling puff period bc kq sq tq) (fun r19 w20 w21 w22 w23 w24 w25 w26 w27 w28 w29 w30 w31 w32 w33 w34 w35 w36 w37 =>
  if r19 ≤ 0 then (
   b1 (fX4_clear) (fun w40 =>
   some (r19, w25, w26, w27, w28, w29, w30, w31, w32, w33, sec, score, thr, w34, hand, at_, wide, rim, fill, wall, ceiling, puff, period, sec, score, thr, bc, ks, w35, ss, w36, ts, w37, w40, w20, w21, w22, w23, w24)))
  else (
  b16 (fX3_become w25 w26 w27 w28 w29 w30 w31 w32 w33 sec score thr w34 w35 ks w36 ss w37 ts) (fun w43 w44 w45 w46 w47 w48 w49 w50 w51 w52 w53 w54 w55 w56 w57 w58 =>
  b1 (fX4_clear) (fun w61 =>
  some (r19, w25, w26, w27, w28, w29, w30, w31, w32, w33, sec, score, thr, w34, w43, w44, w45, w46, w47, w48, w49, w50, w51, w52, w53, w54, w55, w56, w35, w57, w36, w58, w37, w61, w20, w21, w22, w23, w24))))) = some (r, c1, c2, c3, c4, c5, c6, c7, c8, c9, c10, c11, c12, c13, hand', at_', wide', rim', fill', wall', ceiling', puff', period', sec, score, thr, bc', k1, ck, s1, cs, t1, ct, 0, w1, w2, w3, w4, w5) ∧
      lX6_office_7 L 100 1 hand at_ wide rim fill wall ceiling puff period sec score thr bc len 0 val km sm tm ah = some (r, hand', at_', wide', rim', fill', wall', ceiling', puff', period', sec, score, thr, bc', 0, q, val', k2, s2, t2, ah') ∧ OkO hand' at_' wide' rim' fill' wall' ceiling' puff' period' sec ∧ 0 ≤ bc'.toInt ∧ bc'.toInt ≤ 5 ∧ AEq 5 s1 s2 ∧ AEq 5 t1 t2 ∧ AEq 5 k1 k2 := by
    intro q w' f' s' t' val' e1 e2 hq
    unfold fX4_tell
    rw [e1]
    rw [b6_p]
    rw [if_neg (show ¬ (0 : Int32) < 0 by decide)]
    have hr0 := bad q hq
    generalize -1000 - q = rr at hr0 e2 ⊢
    rw [b19_p, if_pos hr0]
    unfold fX4_clear
    rw [b1_p]
    exact ⟨_, _, _, _, _, _, _, _, _, _, _, _, _, _, _, _, _, _, _, _, _, _, _, _, _, _, _, _, _, _, _, _, _, _, _, _, _, _, _, _, _, rfl, e2, ho, hb0, hb5, h1, h2, h3⟩
  by_cases hz : len.toInt ≤ 0
  · have hlz : len = 0 := by rw [fa_eq]; show len.toInt = 0; omega
    subst hlz
    have e1 : fX4_countStatements 0 wd f s t L = some (0, 0, wd, f, s, t) := by
      unfold fX4_countStatements
      rw [lX4_countStatements_7, if_neg (by decide), if_pos (by decide)]
    rcases st_all hp L f s t with ⟨q, w', f', s', t', -, hq, h⟩ | ⟨q, w', f', s', t', -, hq, hpq, -⟩
    · have hq0 : q = 0 := by
        have a := hq.1
        have b := hq.2.1
        rw [fa_eq, z0]
        rw [z0] at b
        omega
      subst hq0
      rcases h with hn | ⟨hy, e59⟩
      · obtain ⟨val', e2⟩ := hn hand at_ wide rim fill wall ceiling puff period bc val km sm tm
        refine fin 0 wd f s t val' e1 ?_ hp
        rw [lX6_office_7, if_neg (show ¬ (1 : Int32) = 0 by decide), e2]
        rw [b16_p]
        rw [if_neg (show ¬ (-1 : Int32) = 1 by decide)]
        unfold jX6_office_33 jX6_office_34
        rw [if_pos rfl, lX6_office_7, if_pos rfl]
        unfold jX6_office_53
        rw [if_pos rfl]
      · obtain ⟨val', e2⟩ := hy hand at_ wide rim fill wall ceiling puff period bc val km sm tm
        refine fin 0 wd f s t val' e1 ?_ hp
        rw [lX6_office_7, if_neg (show ¬ (1 : Int32) = 0 by decide), e2]
        rw [b16_p]
        rw [if_pos rfl, is_n hq e59]
        rw [b2_p]
        rw [if_pos rfl]
        unfold jX6_office_33 jX6_office_34
        rw [if_pos rfl, lX6_office_7, if_pos rfl]
        unfold jX6_office_53
        rw [if_pos rfl]
    · exfalso
      have b := hq.2.1
      rw [z0] at b hpq
      omega
  · rcases cnt_l L hand at_ wide rim fill wall ceiling puff period sec score thr bc km sm tm ah 100 0 0 wd f s t val hp (by decide) (by decide) (by rw [z0]; omega) (by rw [z0]; omega) with ⟨q, w', f', s', t', val', e1, e2, hq⟩ | ⟨k, c, val', w', f', s', t', hg, hc, hc80, e1, e2⟩
    · exact fin q w' f' s' t' val' e1 e2 hq
    · rw [z0] at hc
      obtain ⟨ah', ek, hI⟩ := keep_eq hand at_ wide rim fill wall ceiling puff period sec score thr bc km ah sm tm
      unfold fX4_tell fX4_countStatements
      rw [e1, e2]
      rw [b6_p]
      rw [if_pos (show 0 < c by rw [fa_lt]; show 0 < c.toInt; omega)]
      unfold jX6_office_53
      rw [if_neg (show ¬ (1 : Int32) = 0 by decide), ek]
      rw [b1_p]
      rcases tell_l (c := c) L hI (k + 1) 100 0 0 w' f' s' t' val' hand at_ wide rim fill wall ceiling puff period bc kq sq tq km sm tm hg hp (by rw [z0]; omega) (by omega) ho hb0 hb5 (g3.tr h3) (g1.tr h1) (g2.tr h2) (by omega) (by decide) with ⟨r, p', w2, f2, s2, t2, a1, a2, a3, a4, a5, a6, a7, a8, a9, bc', k1, s1, t1, q, v2, k3, s3, t3, e3, e4, hr, d3, d1, d2⟩ | ⟨p', w2, f2, s2, t2, a1, a2, a3, a4, a5, a6, a7, a8, a9, bc', k1, s1, t1, q, v2, k3, s3, t3, e3, e4, ho', hb0', hb5', d3, d1, d2⟩
      · rw [e3, e4]
        rw [b19_p]
        rw [if_pos hr]
        unfold fX4_clear
        rw [b1_p]
        exact ⟨_, _, _, _, _, _, _, _, _, _, _, _, _, _, _, _, _, _, _, _, _, _, _, _, _, _, _, _, _, _, _, _, _, _, _, _, _, _, _, _, _, rfl, rfl, ho, hb0, hb5, h1.tr d1.sy, h2.tr d2.sy, h3.tr d3.sy⟩
      · rw [e3, e4]
        rw [b19_p]
        rw [if_neg (show ¬ c ≤ 0 by rw [fa_le]; show ¬ c.toInt ≤ 0; omega)]
        obtain ⟨k5, s5, t5, e5, y3, y1, y2⟩ := become_eq a1 a2 a3 a4 a5 a6 a7 a8 a9 sec score thr bc' k1 ks s1 ss t1 ts
        rw [e5]
        unfold fX4_clear
        rw [b16_p, b1_p]
        exact ⟨_, _, _, _, _, _, _, _, _, _, _, _, _, _, _, _, _, _, _, _, _, _, _, _, _, _, _, _, _, _, _, _, _, _, _, _, _, _, _, _, _, rfl, rfl, ho', hb0', hb5', y1.tr d1, y2.tr d2, y3.tr d3⟩
