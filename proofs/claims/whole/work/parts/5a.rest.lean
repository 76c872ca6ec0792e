/-! ball, count, clearBin, image, on -/
theorem p_ball (x1 x2 puff : Int32) {bc : Int32} (rf : Nat → Int32) {ks ss ts km sm tm : Nat → Int32} (h0 : 0 ≤ bc.toInt) (h5 : bc.toInt ≤ 5) (h1 : AEq 5 ss sm) (h2 : AEq 5 ts tm) (h3 : AEq 5 ks km) :
    ∃ r rf', fX5_ball x1 x2 puff bc rf ks ss ts = some (r, rf') ∧ fX6_ball x1 x2 puff bc rf km sm tm = some (r, rf') := by
  unfold fX5_ball fX6_ball
  rw [isBall_eq h0 h5]
  by_cases hb : bOK x1 bc
  · obtain ⟨d, ed⟩ := drag_some hb sm tm km
    obtain ⟨f, ef⟩ := fall_some hb km
    obtain ⟨n, en⟩ := fan_some hb puff km
    have hi : x1.toInt < ((5 : Nat) : Int) := by have := hb.2; show x1.toInt < 5; omega
    have hl := clamp_lt hi (by decide)
    rw [hb_yes hb, kind_c hb, size_c hb, tight_c hb, drag_eq hb, drag_ar hb h1 h2 h3, ed, fall_eq hb, fall_ar hb h3, ef, fan_eq hb, fan_ar hb puff h3, en]
    simp only [b1]
    rw [if_neg (by decide), if_neg (by decide), g_in_p hb.1 hi, g_in_p hb.1 hi, g_in_p hb.1 hi, h3 _ hl, h1 _ hl, h2 _ hl]
    by_cases c0 : x2 = 0
    · rw [if_pos c0, if_pos c0]; exact ⟨_, _, rfl, rfl⟩
    rw [if_neg c0, if_neg c0]
    by_cases c1 : x2 = 1
    · rw [if_pos c1, if_pos c1]; exact ⟨_, _, rfl, rfl⟩
    rw [if_neg c1, if_neg c1]
    by_cases c2 : x2 = 2
    · rw [if_pos c2, if_pos c2]; exact ⟨_, _, rfl, rfl⟩
    rw [if_neg c2, if_neg c2]
    by_cases c3 : x2 = 3
    · rw [if_pos c3, if_pos c3]; exact ⟨_, _, rfl, rfl⟩
    rw [if_neg c3, if_neg c3]
    by_cases c4 : x2 = 4
    · rw [if_pos c4, if_pos c4]; exact ⟨_, _, rfl, rfl⟩
    rw [if_neg c4, if_neg c4]
    by_cases c5 : x2 = 5
    · rw [if_pos c5, if_pos c5]; exact ⟨_, _, rfl, rfl⟩
    rw [if_neg c5, if_neg c5]
    obtain ⟨a', e1, e2⟩ := refuse_eq (x := -2) (by decide) rf
    rw [e1, e2]
    exact ⟨_, _, rfl, rfl⟩
  · obtain ⟨a', e1, e2⟩ := refuse_eq (x := -1) (by decide) rf
    rw [hb_no h5 hb]
    simp only [b1]
    rw [if_pos rfl, if_pos rfl, e1, e2]
    exact ⟨_, _, rfl, rfl⟩
theorem p_count (x1 tc len at_ fill wall ceiling sec score thr bc : Int32) (rf : Nat → Int32) :
    ∃ r, fX5_count x1 tc rf len at_ fill wall ceiling sec score thr bc = some r ∧ fX6_count x1 at_ fill wall ceiling sec score thr bc len tc rf = some r := by
  unfold fX5_count fX6_count jX5_count_22 fX6_within
  by_cases e0 : x1 = 0
  · subst e0; exact ⟨_, rfl, rfl⟩
  by_cases e1 : x1 = 1
  · subst e1; exact ⟨_, rfl, rfl⟩
  by_cases e2 : x1 = 2
  · subst e2; exact ⟨_, rfl, rfl⟩
  by_cases e3 : x1 = 3
  · subst e3; exact ⟨_, rfl, rfl⟩
  by_cases e4 : x1 = 4
  · subst e4; exact ⟨_, rfl, rfl⟩
  by_cases e5 : x1 = 5
  · subst e5; exact ⟨_, rfl, rfl⟩
  by_cases e6 : x1 = 6
  · subst e6; exact ⟨_, rfl, rfl⟩
  by_cases e7 : x1 = 7
  · subst e7; exact ⟨_, rfl, rfl⟩
  by_cases e8 : x1 = 8
  · subst e8; exact ⟨_, rfl, rfl⟩
  by_cases e9 : x1 = 9
  · subst e9; exact ⟨_, rfl, rfl⟩
  simp only [if_neg e0, if_neg e1, if_neg e2, if_neg e3, if_neg e4, if_neg e5, if_neg e6, if_neg e7, if_neg e8, if_neg e9]
  by_cases l1 : x1 < 11
  · simp only [if_pos l1, b1]
    exact ⟨_, rfl, rfl⟩
  · by_cases l2 : 16 < x1
    · simp only [if_neg l1, if_pos l2, b1]
      exact ⟨_, rfl, rfl⟩
    · simp only [if_neg l1, if_neg l2, b1]
      rw [fa_lt] at l1 l2
      have l1' : ¬ x1.toInt < 11 := l1
      have l2' : ¬ 16 < x1.toInt := l2
      have e : (x1 - 10).toInt = x1.toInt - 10 := fb_subI (x := x1) (y := 10) (by show _ ≤ _ - (10 : Int); omega) (by show _ - (10 : Int) < _; omega)
      rw [if_neg (show ¬ ((1 : Int32) = 0) by decide), g_in_p (by omega) (by rw [e]; show x1.toInt - 10 < 7; omega), g_in_p (by omega) (by rw [e]; show x1.toInt - 10 < 7; omega)]
      exact ⟨_, rfl, rfl⟩
theorem Img.ar {A : Nat → Int32} {hand at_ wide rim fill wall ceiling puff period sec score thr bc : Int32} {ks ss ts k' s' t' : Nat → Int32} (h : Img A hand at_ wide rim fill wall ceiling puff period sec score thr bc ks ss ts) (h3 : AEq 5 k' ks) (h1 : AEq 5 s' ss) (h2 : AEq 5 t' ts) : Img A hand at_ wide rim fill wall ceiling puff period sec score thr bc k' s' t' := by
  obtain ⟨q, r⟩ := h
  refine ⟨fun i hi => ?_, r⟩
  rw [h3 i hi, h1 i hi, h2 i hi]
  exact q i hi
theorem p_image (hand at_ wide rim fill wall ceiling puff period sec score thr bc : Int32) {ks ss ts km sm tm : Nat → Int32} (nk ns nt A : Nat → Int32) (h1 : AEq 5 ss sm) (h2 : AEq 5 ts tm) (h3 : AEq 5 ks km) :
    ∃ A' k' s' t', fX5_image hand at_ wide rim fill wall ceiling puff period sec score thr bc ks nk ss ns ts nt = some (sec, 1, hand, at_, wide, rim, fill, wall, ceiling, puff, period, sec, score, thr, bc, k', s', t') ∧ fX6_image hand at_ wide rim fill wall ceiling puff period sec score thr bc km A sm tm = some (sec, 1, A') ∧ Img A' hand at_ wide rim fill wall ceiling puff period sec score thr bc k' s' t' := by
  unfold fX5_image fX6_image
  obtain ⟨k', s', t', e0, g3, g1, g2⟩ := become_eq hand at_ wide rim fill wall ceiling puff period sec score thr bc ks nk ss ns ts nt
  obtain ⟨A', e, hI⟩ := keep_eq hand at_ wide rim fill wall ceiling puff period sec score thr bc km A sm tm
  rw [e0, e]
  exact ⟨A', k', s', t', rfl, rfl, hI.ar (g3.tr h3) (g1.tr h1) (g2.tr h2)⟩
theorem p_on_no (rf : Nat → Int32) (hand at_ wide rim fill wall ceiling puff period sec score thr bc hand' at_' wide' rim' fill' wall' ceiling' puff' period' sec' score' thr' bc' : Int32) (nk ks ns ss nt ts A km sm tm : Nat → Int32) :
    ∃ rf', fX5_on 0 rf hand at_ wide rim fill wall ceiling puff period sec score thr bc hand' at_' wide' rim' fill' wall' ceiling' puff' period' sec' score' thr' bc' nk ks ns ss nt ts = some (-3, rf', hand, at_, wide, rim, fill, wall, ceiling, puff, period, sec, score, thr, bc, ks, ss, ts) ∧ fX6_on hand at_ wide rim fill wall ceiling puff period sec score thr bc 0 rf A km sm tm = some (-3, hand, at_, wide, rim, fill, wall, ceiling, puff, period, sec, score, thr, bc, rf', km, sm, tm) := by
  unfold fX5_on fX6_on
  obtain ⟨a', e1, e2⟩ := refuse_eq (x := -3) (by decide) rf
  rw [if_pos rfl, if_pos rfl, e1, e2]
  exact ⟨_, rfl, rfl⟩
theorem p_on_yes {im : Int32} (him : ¬ im = 0) (rf : Nat → Int32) (hand at_ wide rim fill wall ceiling puff period sec score thr bc hand' at_' wide' rim' fill' wall' ceiling' puff' period' sec' score' thr' bc' : Int32) (nk ks ns ss nt ts : Nat → Int32) {A : Nat → Int32} (km sm tm : Nat → Int32) (hI : Img A hand' at_' wide' rim' fill' wall' ceiling' puff' period' sec' score' thr' bc' nk ns nt) :
    ∃ k' s' t' k2 s2 t2, fX5_on im rf hand at_ wide rim fill wall ceiling puff period sec score thr bc hand' at_' wide' rim' fill' wall' ceiling' puff' period' sec' score' thr' bc' nk ks ns ss nt ts = some (sec', rf, hand', at_', wide', rim', fill', wall', ceiling', puff', period', sec', score', thr', bc', k', s', t') ∧ fX6_on hand at_ wide rim fill wall ceiling puff period sec score thr bc im rf A km sm tm = some (sec', hand', at_', wide', rim', fill', wall', ceiling', puff', period', sec', score', thr', bc', rf, k2, s2, t2) ∧ AEq 5 s' s2 ∧ AEq 5 t' t2 ∧ AEq 5 k' k2 := by
  unfold fX5_on fX6_on
  rw [if_neg him, if_neg him]
  obtain ⟨k', s', t', e0, g3, g1, g2⟩ := become_eq hand' at_' wide' rim' fill' wall' ceiling' puff' period' sec' score' thr' bc' nk ks ns ss nt ts
  obtain ⟨k2, s2, t2, e, d3, d1, d2⟩ := again_eq A hI km sm tm
  rw [e0, e]
  exact ⟨k', s', t', k2, s2, t2, rfl, rfl, g1.tr d1.sy, g2.tr d2.sy, g3.tr d3.sy⟩
