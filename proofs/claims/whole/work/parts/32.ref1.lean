def fX6_no (x1 : Int32) (refusalsA : Nat → Int32) : Option (Int32 × (Nat → Int32)) :=
  g_in (-x1) 7 (
  g_in (-x1) 7 (
  some (x1, (upd refusalsA ((-x1)).toNatClampNeg ((refusalsA ((-x1)).toNatClampNeg) + 1)))))
set_option maxHeartbeats 4000000 in
set_option maxRecDepth 100000 in
theorem kX6_no (l : Launch) (dC : Nat → ClassId) (dI : Nat → Nat → Nat) (cI : ClassId) (a_t a_kind a_size a_tight a_letter a_row a_refusals a_image a_ahead : Nat) (sz : Nat) (x1 : Int32) (t_hand : Int32) (t_first : Int32) (t_wide : Int32) (t_rim : Int32) (t_fill : Int32) (t_wall : Int32) (t_ceiling : Int32) (t_puff : Int32) (t_period : Int32) (t_second : Int32) (t_score : Int32) (t_thrown : Int32) (t_balls : Int32) (t_letters : Int32) (t_at : Int32) (t_value : Int32) (t_inRow : Int32) (t_imaged : Int32) (t_end : Int32) (t_cell : Int32) (t_steps : Int32) (t_highest : Int32) (t_struck : Int32) (refusalsA : Nat → Int32) (R : Int32 × (Nat → Int32)) (hR : fX6_no x1 refusalsA = some R) : Met l yX6_no wsX6_no ({ frames := 0, cells := 0, slots := 0, locals := 0 } : Room) (va_Pc [.ref a_t, .int x1] (Wp (dC, dI) [(cI, .int)] [(a_t, .inr (6, [.int t_hand, .int t_first, .int t_wide, .int t_rim, .int t_fill, .int t_wall, .int t_ceiling, .int t_puff, .int t_period, .int t_second, .int t_score, .int t_thrown, .int t_balls, .ref a_kind, .ref a_size, .ref a_tight, .int t_letters, .ref a_letter, .int t_at, .int t_value, .int t_inRow, .ref a_row, .ref a_refusals, .int t_imaged, .ref a_image, .ref a_ahead, .int t_end, .int t_cell, .int t_steps, .int t_highest, .int t_struck])), (a_refusals, .inl (cI, 7, .inl refusalsA))] sz)) (va_Qi (fun (r : Int32) (u : (Nat → Int32)) => (r, u) = R) (Wq (dC, dI) [(a_t, .inr (6, [.int t_hand, .int t_first, .int t_wide, .int t_rim, .int t_fill, .int t_wall, .int t_ceiling, .int t_puff, .int t_period, .int t_second, .int t_score, .int t_thrown, .int t_balls, .ref a_kind, .ref a_size, .ref a_tight, .int t_letters, .ref a_letter, .int t_at, .int t_value, .int t_inRow, .ref a_row, .ref a_refusals, .int t_imaged, .ref a_image, .ref a_ahead, .int t_end, .int t_cell, .int t_steps, .int t_highest, .int t_struck])), (a_refusals, .inl (cI, 7, .inl refusalsA))] sz (fun (u : (Nat → Int32)) => ([(a_t, .inr (6, [.int t_hand, .int t_first, .int t_wide, .int t_rim, .int t_fill, .int t_wall, .int t_ceiling, .int t_puff, .int t_period, .int t_second, .int t_score, .int t_thrown, .int t_balls, .ref a_kind, .ref a_size, .ref a_tight, .int t_letters, .ref a_letter, .int t_at, .int t_value, .int t_inRow, .ref a_row, .ref a_refusals, .int t_imaged, .ref a_image, .ref a_ahead, .int t_end, .int t_cell, .int t_steps, .int t_highest, .int t_struck])), (a_refusals, .inl (cI, 7, .inl u))] : va_W))) (va_A [(a_t, .inr (6, [.int t_hand, .int t_first, .int t_wide, .int t_rim, .int t_fill, .int t_wall, .int t_ceiling, .int t_puff, .int t_period, .int t_second, .int t_score, .int t_thrown, .int t_balls, .ref a_kind, .ref a_size, .ref a_tight, .int t_letters, .ref a_letter, .int t_at, .int t_value, .int t_inRow, .ref a_row, .ref a_refusals, .int t_imaged, .ref a_image, .ref a_ahead, .int t_end, .int t_cell, .int t_steps, .int t_highest, .int t_struck])), (a_refusals, .inl (cI, 7, .inl refusalsA))] sz)) 0 0 (va_A [(a_t, .inr (6, [.int t_hand, .int t_first, .int t_wide, .int t_rim, .int t_fill, .int t_wall, .int t_ceiling, .int t_puff, .int t_period, .int t_second, .int t_score, .int t_thrown, .int t_balls, .ref a_kind, .ref a_size, .ref a_tight, .int t_letters, .ref a_letter, .int t_at, .int t_value, .int t_inRow, .ref a_row, .ref a_refusals, .int t_imaged, .ref a_image, .ref a_ahead, .int t_end, .int t_cell, .int t_steps, .int t_highest, .int t_struck])), (a_refusals, .inl (cI, 7, .inl refusalsA))] sz) := by
  refine Met.ofW (cc := cX6_no) (maxL := 2) (ret := (some .int)) (by decide) rfl ?_
  intro p e s m args below meth c s₁ B hml hv
  obtain ⟨hargs, hsz, hP, hK, hD0, hN⟩ := hv
  have hx := B.exec
  have hb := B.bytes
  have hr := B.returns
  have hts := atoms_spec (ws := wsX6_no) B.pre
  have hown : s.vm.findClass RX6 = some m.cls := findClass_of_methodNamed B.named
  have hlocks := B.notSynchronized
  subst hsz
  have hD := hD0.self (sz := s.heap.size)
  obtain ⟨A, hAe⟩ : ∃ A, A = va_A [(a_t, .inr (6, [.int t_hand, .int t_first, .int t_wide, .int t_rim, .int t_fill, .int t_wall, .int t_ceiling, .int t_puff, .int t_period, .int t_second, .int t_score, .int t_thrown, .int t_balls, .ref a_kind, .ref a_size, .ref a_tight, .int t_letters, .ref a_letter, .int t_at, .int t_value, .int t_inRow, .ref a_row, .ref a_refusals, .int t_imaged, .ref a_image, .ref a_ahead, .int t_end, .int t_cell, .int t_steps, .int t_highest, .int t_struck])), (a_refusals, .inl (cI, 7, .inl refusalsA))] s.heap.size := ⟨_, rfl⟩
  rw [← hAe] at hD
  have hA : ∀ q : Nat, s.heap.size ≤ q → A q := fun q h => by rw [hAe]; exact Or.inr h
  have hS : va_S A s.heap s.heap [] := va_S.rf
  have hl := lv_entry ([.ref a_t, .int x1]) (n := 2) (Nat.le_of_ble_eq_true rfl)
  rw [e_of hargs, lg_entry_eq]
  generalize (lg_sl ([.ref a_t, .int x1]) ++ List.replicate (2 - (lg_sl ([.ref a_t, .int x1])).length) Slot.unset).toArray = ls at hl ⊢
  have hl : lv_has ls 2 [(0, .ref a_t), (1, .int x1)] := hl
  have hinX6 : ∀ w ∈ wsX60, w ∈ wsX6_no := by decide +kernel
  refine w_q ({ frames := 0, cells := 0, slots := 0, locals := 0 } : Room) (fun Q0 hQ => ?_)
  rw [fX6_no] at hR
  refine lv_aload_n hx hb dX6_no_0 rfl (lv_at hl 0 rfl) ?_
  refine va_get (D := (dC, dI)) (ci := 6) (v := .ref a_refusals) (C := RX6) (T := TX6) (N := 31) hx hb hts hinX6 hown hK hP 0 rfl rfl 22 (by decide) (hts (.fieldLink RX6 25 "PaperInBinModel" "refusals" "[I") (by decide +kernel)) (fun _ h9 => h9) rfl dX6_no_1 ?_
  refine lv_iload_n hx hb dX6_no_4 rfl (lv_at hl 1 rfl) ?_
  refine lv_ineg hx hb dX6_no_5 ?_
  refine lv_dup2_11 hx hb dX6_no_6 rfl rfl ?_
  obtain ⟨g1, hR⟩ := g_in_s hR
  refine va_iald hx hb hK hP 1 0 rfl rfl g1 dX6_no_7 ?_
  refine lv_iconst (v := 1) hx hb dX6_no_8 (by decide) ?_
  refine lv_iadd hx hb dX6_no_9 ?_
  obtain ⟨g2, hR⟩ := g_in_s hR
  refine va_iast hx hb hK hP hD hS 1 0 rfl rfl g2 dX6_no_10 (fun H locs hP hD hS => ?_)
  have hP : va_P (dC, dI) vwCl [(a_t, .inr (6, [.int t_hand, .int t_first, .int t_wide, .int t_rim, .int t_fill, .int t_wall, .int t_ceiling, .int t_puff, .int t_period, .int t_second, .int t_score, .int t_thrown, .int t_balls, .ref a_kind, .ref a_size, .ref a_tight, .int t_letters, .ref a_letter, .int t_at, .int t_value, .int t_inRow, .ref a_row, .ref a_refusals, .int t_imaged, .ref a_image, .ref a_ahead, .int t_end, .int t_cell, .int t_steps, .int t_highest, .int t_struck])), (a_refusals, .inl (cI, 7, .inl (upd refusalsA ((-x1)).toNatClampNeg ((refusalsA ((-x1)).toNatClampNeg) + 1))))] H := hP
  have hD : va_D A [(a_t, .inr (6, [.int t_hand, .int t_first, .int t_wide, .int t_rim, .int t_fill, .int t_wall, .int t_ceiling, .int t_puff, .int t_period, .int t_second, .int t_score, .int t_thrown, .int t_balls, .ref a_kind, .ref a_size, .ref a_tight, .int t_letters, .ref a_letter, .int t_at, .int t_value, .int t_inRow, .ref a_row, .ref a_refusals, .int t_imaged, .ref a_image, .ref a_ahead, .int t_end, .int t_cell, .int t_steps, .int t_highest, .int t_struck])), (a_refusals, .inl (cI, 7, .inl (upd refusalsA ((-x1)).toNatClampNeg ((refusalsA ((-x1)).toNatClampNeg) + 1))))] := hD
  refine lv_iload_n hx hb dX6_no_11 rfl (lv_at hl 1 rfl) ?_
  subst hQ
  subst hAe
  exact W.iret (v := x1) hx hb hr (fun t ht hW => ⟨⟨x1, ((upd refusalsA ((-x1)).toNatClampNeg ((refusalsA ((-x1)).toNatClampNeg) + 1))), rfl, Option.some.inj hR, by rw [ht]; exact hP, hD⟩, hS.F ht⟩) hS.2.2 dX6_no_12
def fX6_noLong (x1 : Int32) (refusalsA : Nat → Int32) : Option (Int64 × (Nat → Int32)) :=
  b2 (fX6_no x1 refusalsA) (fun r1 w2 =>
  some ((4000000000000000000 - (r1).toInt64), w2))
set_option maxHeartbeats 4000000 in
set_option maxRecDepth 100000 in
theorem kX6_noLong (l : Launch) (dC : Nat → ClassId) (dI : Nat → Nat → Nat) (cI : ClassId) (a_t a_kind a_size a_tight a_letter a_row a_refusals a_image a_ahead : Nat) (sz : Nat) (x1 : Int32) (t_hand : Int32) (t_first : Int32) (t_wide : Int32) (t_rim : Int32) (t_fill : Int32) (t_wall : Int32) (t_ceiling : Int32) (t_puff : Int32) (t_period : Int32) (t_second : Int32) (t_score : Int32) (t_thrown : Int32) (t_balls : Int32) (t_letters : Int32) (t_at : Int32) (t_value : Int32) (t_inRow : Int32) (t_imaged : Int32) (t_end : Int32) (t_cell : Int32) (t_steps : Int32) (t_highest : Int32) (t_struck : Int32) (refusalsA : Nat → Int32) (R : Int64 × (Nat → Int32)) (hR : fX6_noLong x1 refusalsA = some R) : Met l yX6_noLong wsX6_noLong ({ frames := 1, cells := 0, slots := 0, locals := 21 } : Room) (va_Pc [.ref a_t, .int x1] (Wp (dC, dI) [(cI, .int)] [(a_t, .inr (6, [.int t_hand, .int t_first, .int t_wide, .int t_rim, .int t_fill, .int t_wall, .int t_ceiling, .int t_puff, .int t_period, .int t_second, .int t_score, .int t_thrown, .int t_balls, .ref a_kind, .ref a_size, .ref a_tight, .int t_letters, .ref a_letter, .int t_at, .int t_value, .int t_inRow, .ref a_row, .ref a_refusals, .int t_imaged, .ref a_image, .ref a_ahead, .int t_end, .int t_cell, .int t_steps, .int t_highest, .int t_struck])), (a_refusals, .inl (cI, 7, .inl refusalsA))] sz)) (va_Ql (fun (r : Int64) (u : (Nat → Int32)) => (r, u) = R) (Wq (dC, dI) [(a_t, .inr (6, [.int t_hand, .int t_first, .int t_wide, .int t_rim, .int t_fill, .int t_wall, .int t_ceiling, .int t_puff, .int t_period, .int t_second, .int t_score, .int t_thrown, .int t_balls, .ref a_kind, .ref a_size, .ref a_tight, .int t_letters, .ref a_letter, .int t_at, .int t_value, .int t_inRow, .ref a_row, .ref a_refusals, .int t_imaged, .ref a_image, .ref a_ahead, .int t_end, .int t_cell, .int t_steps, .int t_highest, .int t_struck])), (a_refusals, .inl (cI, 7, .inl refusalsA))] sz (fun (u : (Nat → Int32)) => ([(a_t, .inr (6, [.int t_hand, .int t_first, .int t_wide, .int t_rim, .int t_fill, .int t_wall, .int t_ceiling, .int t_puff, .int t_period, .int t_second, .int t_score, .int t_thrown, .int t_balls, .ref a_kind, .ref a_size, .ref a_tight, .int t_letters, .ref a_letter, .int t_at, .int t_value, .int t_inRow, .ref a_row, .ref a_refusals, .int t_imaged, .ref a_image, .ref a_ahead, .int t_end, .int t_cell, .int t_steps, .int t_highest, .int t_struck])), (a_refusals, .inl (cI, 7, .inl u))] : va_W))) (va_A [(a_t, .inr (6, [.int t_hand, .int t_first, .int t_wide, .int t_rim, .int t_fill, .int t_wall, .int t_ceiling, .int t_puff, .int t_period, .int t_second, .int t_score, .int t_thrown, .int t_balls, .ref a_kind, .ref a_size, .ref a_tight, .int t_letters, .ref a_letter, .int t_at, .int t_value, .int t_inRow, .ref a_row, .ref a_refusals, .int t_imaged, .ref a_image, .ref a_ahead, .int t_end, .int t_cell, .int t_steps, .int t_highest, .int t_struck])), (a_refusals, .inl (cI, 7, .inl refusalsA))] sz)) 0 0 (va_A [(a_t, .inr (6, [.int t_hand, .int t_first, .int t_wide, .int t_rim, .int t_fill, .int t_wall, .int t_ceiling, .int t_puff, .int t_period, .int t_second, .int t_score, .int t_thrown, .int t_balls, .ref a_kind, .ref a_size, .ref a_tight, .int t_letters, .ref a_letter, .int t_at, .int t_value, .int t_inRow, .ref a_row, .ref a_refusals, .int t_imaged, .ref a_image, .ref a_ahead, .int t_end, .int t_cell, .int t_steps, .int t_highest, .int t_struck])), (a_refusals, .inl (cI, 7, .inl refusalsA))] sz) := by
  refine Met.ofW (cc := cX6_noLong) (maxL := 2) (ret := (some .long)) (by decide) rfl ?_
  intro p e s m args below meth c s₁ B hml hv
  obtain ⟨hargs, hsz, hP, hK, hD0, hN⟩ := hv
  have hx := B.exec
  have hb := B.bytes
  have hr := B.returns
  have hts := atoms_spec (ws := wsX6_noLong) B.pre
  have hown : s.vm.findClass RX6 = some m.cls := findClass_of_methodNamed B.named
  have hlocks := B.notSynchronized
  subst hsz
  have hD := hD0.self (sz := s.heap.size)
  obtain ⟨A, hAe⟩ : ∃ A, A = va_A [(a_t, .inr (6, [.int t_hand, .int t_first, .int t_wide, .int t_rim, .int t_fill, .int t_wall, .int t_ceiling, .int t_puff, .int t_period, .int t_second, .int t_score, .int t_thrown, .int t_balls, .ref a_kind, .ref a_size, .ref a_tight, .int t_letters, .ref a_letter, .int t_at, .int t_value, .int t_inRow, .ref a_row, .ref a_refusals, .int t_imaged, .ref a_image, .ref a_ahead, .int t_end, .int t_cell, .int t_steps, .int t_highest, .int t_struck])), (a_refusals, .inl (cI, 7, .inl refusalsA))] s.heap.size := ⟨_, rfl⟩
  rw [← hAe] at hD
  have hA : ∀ q : Nat, s.heap.size ≤ q → A q := fun q h => by rw [hAe]; exact Or.inr h
  have hS : va_S A s.heap s.heap [] := va_S.rf
  have hl := lv_entry ([.ref a_t, .int x1]) (n := 2) (Nat.le_of_ble_eq_true rfl)
  rw [e_of hargs, lg_entry_eq]
  generalize (lg_sl ([.ref a_t, .int x1]) ++ List.replicate (2 - (lg_sl ([.ref a_t, .int x1])).length) Slot.unset).toArray = ls at hl ⊢
  have hl : lv_has ls 2 [(0, .ref a_t), (1, .int x1)] := hl
  refine w_q ({ frames := 1, cells := 0, slots := 0, locals := 21 } : Room) (fun Q0 hQ => ?_)
  rw [fX6_noLong] at hR
  refine lv_ldc2 (v := 4000000000000000000) hx hb hown (hts (.constantLong RX6 56 (4000000000000000000)) (by decide +kernel)) dX6_noLong_0 ?_
  refine lv_aload_n hx hb dX6_noLong_3 rfl (lv_at hl 0 rfl) ?_
  refine lv_iload_n hx hb dX6_noLong_4 rfl (lv_at hl 1 rfl) ?_
  obtain ⟨r1, w2, hu3, hR⟩ := b2_s hR
  refine cl_ViT (As := [.int x1]) (rest := [.long 4000000000000000000]) (wc := [(a_t, .inr (6, [.int t_hand, .int t_first, .int t_wide, .int t_rim, .int t_fill, .int t_wall, .int t_ceiling, .int t_puff, .int t_period, .int t_second, .int t_score, .int t_thrown, .int t_balls, .ref a_kind, .ref a_size, .ref a_tight, .int t_letters, .ref a_letter, .int t_at, .int t_value, .int t_inRow, .ref a_row, .ref a_refusals, .int t_imaged, .ref a_image, .ref a_ahead, .int t_end, .int t_cell, .int t_steps, .int t_highest, .int t_struck])), (a_refusals, .inl (cI, 7, .inl refusalsA))]) (wr := []) ⟨hx, hb, hml, hown, hts⟩ (kX6_no l dC dI cI a_t a_kind a_size a_tight a_letter a_row a_refusals a_image a_ahead s.heap.size x1 t_hand t_first t_wide t_rim t_fill t_wall t_ceiling t_puff t_period t_second t_score t_thrown t_balls t_letters t_at t_value t_inRow t_imaged t_end t_cell t_steps t_highest t_struck refusalsA (r1, w2) hu3) (cwV 1 hts gX6_noLong_X6_no rfl rfl rfl (by decide +kernel) ⟨Nat.le_of_ble_eq_true rfl, Nat.le_of_ble_eq_true rfl⟩) hK hN hP hD hS hA (va_recv hK hP (ci := 6) (q0 := 0) rfl rfl) [0, 1] [] rfl rfl rfl rfl rfl (by decide) rfl hl.1 rfl (Nat.le_of_ble_eq_true rfl) dX6_noLong_5 (fun H locs hP hD hS => ?_)
  have hP : va_P (dC, dI) vwCl [(a_t, .inr (6, [.int t_hand, .int t_first, .int t_wide, .int t_rim, .int t_fill, .int t_wall, .int t_ceiling, .int t_puff, .int t_period, .int t_second, .int t_score, .int t_thrown, .int t_balls, .ref a_kind, .ref a_size, .ref a_tight, .int t_letters, .ref a_letter, .int t_at, .int t_value, .int t_inRow, .ref a_row, .ref a_refusals, .int t_imaged, .ref a_image, .ref a_ahead, .int t_end, .int t_cell, .int t_steps, .int t_highest, .int t_struck])), (a_refusals, .inl (cI, 7, .inl w2))] H := hP
  have hD : va_D A [(a_t, .inr (6, [.int t_hand, .int t_first, .int t_wide, .int t_rim, .int t_fill, .int t_wall, .int t_ceiling, .int t_puff, .int t_period, .int t_second, .int t_score, .int t_thrown, .int t_balls, .ref a_kind, .ref a_size, .ref a_tight, .int t_letters, .ref a_letter, .int t_at, .int t_value, .int t_inRow, .ref a_row, .ref a_refusals, .int t_imaged, .ref a_image, .ref a_ahead, .int t_end, .int t_cell, .int t_steps, .int t_highest, .int t_struck])), (a_refusals, .inl (cI, 7, .inl w2))] := hD
  refine lv_i2l hx hb dX6_noLong_8 rfl ?_
  refine lv_lsub hx hb dX6_noLong_9 ?_
  subst hQ
  subst hAe
  exact W.lret (v := (4000000000000000000 - (r1).toInt64)) hx hb hr (fun t ht hW => ⟨⟨(4000000000000000000 - (r1).toInt64), (w2), rfl, Option.some.inj hR, by rw [ht]; exact hP, hD⟩, hS.F ht⟩) hS.2.2 dX6_noLong_10
def fX6_within (x0 : Int32) (x1 : Int32) (x2 : Int32) : Option (Int32) :=
  if x0 < x1 then (
   some (0))
  else (
  if x2 < x0 then (
   some (0))
  else (
  some (1)))
set_option maxHeartbeats 4000000 in
set_option maxRecDepth 100000 in
theorem kX6_within (l : Launch) (dC : Nat → ClassId) (dI : Nat → Nat → Nat) (cI : ClassId) (sz : Nat) (x0 : Int32) (x1 : Int32) (x2 : Int32) (R : Int32) (hR : fX6_within x0 x1 x2 = some R) : Met l yX6_within wsX6_within ({ frames := 0, cells := 0, slots := 0, locals := 0 } : Room) (va_Pc [.int x0, .int x1, .int x2] (Wp (dC, dI) [(cI, .int)] [] sz)) (va_Qi (fun (r : Int32) (_ : Unit) => r = R) (Wq (dC, dI) [] sz (fun (_ : Unit) => ([] : va_W))) (va_A [] sz)) 0 0 (va_A [] sz) := by
  refine Met.ofW (cc := cX6_within) (maxL := 3) (ret := (some .boolean)) (by decide) rfl ?_
  intro p e s m args below meth c s₁ B hml hv
  obtain ⟨hargs, hsz, hP, hK, hD0, hN⟩ := hv
  have hx := B.exec
  have hb := B.bytes
  have hr := B.returns
  have hts := atoms_spec (ws := wsX6_within) B.pre
  have hown : s.vm.findClass RX6 = some m.cls := findClass_of_methodNamed B.named
  have hlocks := B.notSynchronized
  subst hsz
  have hD := hD0.self (sz := s.heap.size)
  obtain ⟨A, hAe⟩ : ∃ A, A = va_A [] s.heap.size := ⟨_, rfl⟩
  rw [← hAe] at hD
  have hA : ∀ q : Nat, s.heap.size ≤ q → A q := fun q h => by rw [hAe]; exact Or.inr h
  have hS : va_S A s.heap s.heap [] := va_S.rf
  have hl := lv_entry ([.int x0, .int x1, .int x2]) (n := 3) (Nat.le_of_ble_eq_true rfl)
  rw [e_of hargs, lg_entry_eq]
  generalize (lg_sl ([.int x0, .int x1, .int x2]) ++ List.replicate (3 - (lg_sl ([.int x0, .int x1, .int x2])).length) Slot.unset).toArray = ls at hl ⊢
  have hl : lv_has ls 3 [(0, .int x0), (1, .int x1), (2, .int x2)] := hl
  refine w_q ({ frames := 0, cells := 0, slots := 0, locals := 0 } : Room) (fun Q0 hQ => ?_)
  rw [fX6_within] at hR
  refine lv_iload_n hx hb dX6_within_0 rfl (lv_at hl 0 rfl) ?_
  refine lv_iload_n hx hb dX6_within_1 rfl (lv_at hl 1 rfl) ?_
  refine lv_icmp_lt (tgt := 14) hx hb dX6_within_2 (by decide) (fun c2 => ?_) (fun c2 => ?_)
  · have hR := (if_pos c2).symm.trans hR
    refine lv_iconst (v := 0) hx hb dX6_within_14 (by decide) ?_
    subst hQ
    subst hAe
    exact W.zret (ty := .boolean) (v := 0) hx hb hr rfl (fun t ht hW => ⟨⟨0, (), rfl, Option.some.inj hR, by rw [ht]; exact hP, hD⟩, hS.F ht⟩) hS.2.2 dX6_within_15
  · have hR := (if_neg c2).symm.trans hR
    refine lv_iload_n hx hb dX6_within_5 rfl (lv_at hl 0 rfl) ?_
    refine lv_iload_n hx hb dX6_within_6 rfl (lv_at hl 2 rfl) ?_
    refine lv_icmp_gt (tgt := 14) hx hb dX6_within_7 (by decide) (fun c7 => ?_) (fun c7 => ?_)
    · have hR := (if_pos c7).symm.trans hR
      refine lv_iconst (v := 0) hx hb dX6_within_14 (by decide) ?_
      subst hQ
      subst hAe
      exact W.zret (ty := .boolean) (v := 0) hx hb hr rfl (fun t ht hW => ⟨⟨0, (), rfl, Option.some.inj hR, by rw [ht]; exact hP, hD⟩, hS.F ht⟩) hS.2.2 dX6_within_15
    · have hR := (if_neg c7).symm.trans hR
      refine lv_iconst (v := 1) hx hb dX6_within_10 (by decide) ?_
      refine lv_goto (tgt := 15) hx hb dX6_within_11 (by decide) ?_
      subst hQ
      subst hAe
      exact W.zret (ty := .boolean) (v := 1) hx hb hr rfl (fun t ht hW => ⟨⟨1, (), rfl, Option.some.inj hR, by rw [ht]; exact hP, hD⟩, hS.F ht⟩) hS.2.2 dX6_within_15
def fX6_isBall (x1 : Int32) (t_balls : Int32) : Option (Int32) :=
  b1 (fX6_within x1 0 (t_balls - 1)) (fun r1 =>
  g_b r1 (
  some (r1)))
set_option maxHeartbeats 4000000 in
set_option maxRecDepth 100000 in
theorem kX6_isBall (l : Launch) (dC : Nat → ClassId) (dI : Nat → Nat → Nat) (cI : ClassId) (a_t a_kind a_size a_tight a_letter a_row a_refusals a_image a_ahead : Nat) (sz : Nat) (x1 : Int32) (t_hand : Int32) (t_first : Int32) (t_wide : Int32) (t_rim : Int32) (t_fill : Int32) (t_wall : Int32) (t_ceiling : Int32) (t_puff : Int32) (t_period : Int32) (t_second : Int32) (t_score : Int32) (t_thrown : Int32) (t_balls : Int32) (t_letters : Int32) (t_at : Int32) (t_value : Int32) (t_inRow : Int32) (t_imaged : Int32) (t_end : Int32) (t_cell : Int32) (t_steps : Int32) (t_highest : Int32) (t_struck : Int32) (R : Int32) (hR : fX6_isBall x1 t_balls = some R) : Met l yX6_isBall wsX6_isBall ({ frames := 1, cells := 0, slots := 0, locals := 22 } : Room) (va_Pc [.ref a_t, .int x1] (Wp (dC, dI) [(cI, .int)] [(a_t, .inr (6, [.int t_hand, .int t_first, .int t_wide, .int t_rim, .int t_fill, .int t_wall, .int t_ceiling, .int t_puff, .int t_period, .int t_second, .int t_score, .int t_thrown, .int t_balls, .ref a_kind, .ref a_size, .ref a_tight, .int t_letters, .ref a_letter, .int t_at, .int t_value, .int t_inRow, .ref a_row, .ref a_refusals, .int t_imaged, .ref a_image, .ref a_ahead, .int t_end, .int t_cell, .int t_steps, .int t_highest, .int t_struck]))] sz)) (va_Qi (fun (r : Int32) (_ : Unit) => r = R) (Wq (dC, dI) [(a_t, .inr (6, [.int t_hand, .int t_first, .int t_wide, .int t_rim, .int t_fill, .int t_wall, .int t_ceiling, .int t_puff, .int t_period, .int t_second, .int t_score, .int t_thrown, .int t_balls, .ref a_kind, .ref a_size, .ref a_tight, .int t_letters, .ref a_letter, .int t_at, .int t_value, .int t_inRow, .ref a_row, .ref a_refusals, .int t_imaged, .ref a_image, .ref a_ahead, .int t_end, .int t_cell, .int t_steps, .int t_highest, .int t_struck]))] sz (fun (_ : Unit) => ([(a_t, .inr (6, [.int t_hand, .int t_first, .int t_wide, .int t_rim, .int t_fill, .int t_wall, .int t_ceiling, .int t_puff, .int t_period, .int t_second, .int t_score, .int t_thrown, .int t_balls, .ref a_kind, .ref a_size, .ref a_tight, .int t_letters, .ref a_letter, .int t_at, .int t_value, .int t_inRow, .ref a_row, .ref a_refusals, .int t_imaged, .ref a_image, .ref a_ahead, .int t_end, .int t_cell, .int t_steps, .int t_highest, .int t_struck]))] : va_W))) (va_A [(a_t, .inr (6, [.int t_hand, .int t_first, .int t_wide, .int t_rim, .int t_fill, .int t_wall, .int t_ceiling, .int t_puff, .int t_period, .int t_second, .int t_score, .int t_thrown, .int t_balls, .ref a_kind, .ref a_size, .ref a_tight, .int t_letters, .ref a_letter, .int t_at, .int t_value, .int t_inRow, .ref a_row, .ref a_refusals, .int t_imaged, .ref a_image, .ref a_ahead, .int t_end, .int t_cell, .int t_steps, .int t_highest, .int t_struck]))] sz)) 0 0 (va_A [(a_t, .inr (6, [.int t_hand, .int t_first, .int t_wide, .int t_rim, .int t_fill, .int t_wall, .int t_ceiling, .int t_puff, .int t_period, .int t_second, .int t_score, .int t_thrown, .int t_balls, .ref a_kind, .ref a_size, .ref a_tight, .int t_letters, .ref a_letter, .int t_at, .int t_value, .int t_inRow, .ref a_row, .ref a_refusals, .int t_imaged, .ref a_image, .ref a_ahead, .int t_end, .int t_cell, .int t_steps, .int t_highest, .int t_struck]))] sz) := by
  refine Met.ofW (cc := cX6_isBall) (maxL := 2) (ret := (some .boolean)) (by decide) rfl ?_
  intro p e s m args below meth c s₁ B hml hv
  obtain ⟨hargs, hsz, hP, hK, hD0, hN⟩ := hv
  have hx := B.exec
  have hb := B.bytes
  have hr := B.returns
  have hts := atoms_spec (ws := wsX6_isBall) B.pre
  have hown : s.vm.findClass RX6 = some m.cls := findClass_of_methodNamed B.named
  have hlocks := B.notSynchronized
  subst hsz
  have hD := hD0.self (sz := s.heap.size)
  obtain ⟨A, hAe⟩ : ∃ A, A = va_A [(a_t, .inr (6, [.int t_hand, .int t_first, .int t_wide, .int t_rim, .int t_fill, .int t_wall, .int t_ceiling, .int t_puff, .int t_period, .int t_second, .int t_score, .int t_thrown, .int t_balls, .ref a_kind, .ref a_size, .ref a_tight, .int t_letters, .ref a_letter, .int t_at, .int t_value, .int t_inRow, .ref a_row, .ref a_refusals, .int t_imaged, .ref a_image, .ref a_ahead, .int t_end, .int t_cell, .int t_steps, .int t_highest, .int t_struck]))] s.heap.size := ⟨_, rfl⟩
  rw [← hAe] at hD
  have hA : ∀ q : Nat, s.heap.size ≤ q → A q := fun q h => by rw [hAe]; exact Or.inr h
  have hS : va_S A s.heap s.heap [] := va_S.rf
  have hl := lv_entry ([.ref a_t, .int x1]) (n := 2) (Nat.le_of_ble_eq_true rfl)
  rw [e_of hargs, lg_entry_eq]
  generalize (lg_sl ([.ref a_t, .int x1]) ++ List.replicate (2 - (lg_sl ([.ref a_t, .int x1])).length) Slot.unset).toArray = ls at hl ⊢
  have hl : lv_has ls 2 [(0, .ref a_t), (1, .int x1)] := hl
  have hinX6 : ∀ w ∈ wsX60, w ∈ wsX6_isBall := by decide +kernel
  refine w_q ({ frames := 1, cells := 0, slots := 0, locals := 22 } : Room) (fun Q0 hQ => ?_)
  rw [fX6_isBall] at hR
  refine lv_iload_n hx hb dX6_isBall_0 rfl (lv_at hl 1 rfl) ?_
  refine lv_iconst (v := 0) hx hb dX6_isBall_1 (by decide) ?_
  refine lv_aload_n hx hb dX6_isBall_2 rfl (lv_at hl 0 rfl) ?_
  refine va_get (D := (dC, dI)) (ci := 6) (v := .int t_balls) (C := RX6) (T := TX6) (N := 31) hx hb hts hinX6 hown hK hP 0 rfl rfl 12 (by decide) (hts (.fieldLink RX6 62 "PaperInBinModel" "balls" "I") (by decide +kernel)) (fun _ h9 => h9) rfl dX6_isBall_3 ?_
  refine lv_iconst (v := 1) hx hb dX6_isBall_6 (by decide) ?_
  refine lv_isub hx hb dX6_isBall_7 ?_
  obtain ⟨r1, hu2, hR⟩ := b1_s hR
  refine cl_SiN (As := [.int x1, .int 0, .int (t_balls - 1)]) (rest := []) (wc := []) (wr := [(a_t, .inr (6, [.int t_hand, .int t_first, .int t_wide, .int t_rim, .int t_fill, .int t_wall, .int t_ceiling, .int t_puff, .int t_period, .int t_second, .int t_score, .int t_thrown, .int t_balls, .ref a_kind, .ref a_size, .ref a_tight, .int t_letters, .ref a_letter, .int t_at, .int t_value, .int t_inRow, .ref a_row, .ref a_refusals, .int t_imaged, .ref a_image, .ref a_ahead, .int t_end, .int t_cell, .int t_steps, .int t_highest, .int t_struck]))]) ⟨hx, hb, hml, hown, hts⟩ (kX6_within l dC dI cI s.heap.size x1 0 (t_balls - 1) r1 hu2) (cwS 3 hts gX6_isBall_X6_within rfl rfl rfl (by decide +kernel) ⟨Nat.le_of_ble_eq_true rfl, Nat.le_of_ble_eq_true rfl⟩) hK hN hP hD hS hA [] [0] rfl rfl rfl rfl rfl (by decide) rfl hl.1 rfl (Nat.le_of_ble_eq_true rfl) dX6_isBall_8 (fun H locs hP hD hS => ?_)
  have hP : va_P (dC, dI) vwCl [(a_t, .inr (6, [.int t_hand, .int t_first, .int t_wide, .int t_rim, .int t_fill, .int t_wall, .int t_ceiling, .int t_puff, .int t_period, .int t_second, .int t_score, .int t_thrown, .int t_balls, .ref a_kind, .ref a_size, .ref a_tight, .int t_letters, .ref a_letter, .int t_at, .int t_value, .int t_inRow, .ref a_row, .ref a_refusals, .int t_imaged, .ref a_image, .ref a_ahead, .int t_end, .int t_cell, .int t_steps, .int t_highest, .int t_struck]))] H := hP
  have hD : va_D A [(a_t, .inr (6, [.int t_hand, .int t_first, .int t_wide, .int t_rim, .int t_fill, .int t_wall, .int t_ceiling, .int t_puff, .int t_period, .int t_second, .int t_score, .int t_thrown, .int t_balls, .ref a_kind, .ref a_size, .ref a_tight, .int t_letters, .ref a_letter, .int t_at, .int t_value, .int t_inRow, .ref a_row, .ref a_refusals, .int t_imaged, .ref a_image, .ref a_ahead, .int t_end, .int t_cell, .int t_steps, .int t_highest, .int t_struck]))] := hD
  obtain ⟨g3, hR⟩ := g_b_s hR
  subst hQ
  subst hAe
  exact W.zret (ty := .boolean) (v := r1) hx hb hr g3 (fun t ht hW => ⟨⟨r1, (), rfl, Option.some.inj hR, by rw [ht]; exact hP, hD⟩, hS.F ht⟩) hS.2.2 dX6_isBall_11
def fX6_letter (x1 : Int32) (t_letters : Int32) (refusalsA : Nat → Int32) (letterA : Nat → Int32) : Option (Int32 × Int32 × (Nat → Int32) × (Nat → Int32)) :=
  if 0 ≤ x1 then (
   if 255 < x1 then (
    b2 (fX6_no (-6) refusalsA) (fun r1 w2 =>
    some (r1, t_letters, w2, letterA)))
   else (
   if t_letters = 80 then (
    b2 (fX6_no (-6) refusalsA) (fun r5 w6 =>
    some (r5, t_letters, w6, letterA)))
   else (
   g_in t_letters 80 (
   some ((t_letters + 1), (t_letters + 1), refusalsA, (upd letterA (t_letters).toNatClampNeg x1))))))
  else (
  b2 (fX6_no (-4) refusalsA) (fun r8 w9 =>
  some (r8, t_letters, w9, letterA)))
set_option maxHeartbeats 4000000 in
set_option maxRecDepth 100000 in
theorem kX6_letter (l : Launch) (dC : Nat → ClassId) (dI : Nat → Nat → Nat) (cI : ClassId) (a_t a_kind a_size a_tight a_letter a_row a_refusals a_image a_ahead : Nat) (sz : Nat) (x1 : Int32) (t_hand : Int32) (t_first : Int32) (t_wide : Int32) (t_rim : Int32) (t_fill : Int32) (t_wall : Int32) (t_ceiling : Int32) (t_puff : Int32) (t_period : Int32) (t_second : Int32) (t_score : Int32) (t_thrown : Int32) (t_balls : Int32) (t_letters : Int32) (t_at : Int32) (t_value : Int32) (t_inRow : Int32) (t_imaged : Int32) (t_end : Int32) (t_cell : Int32) (t_steps : Int32) (t_highest : Int32) (t_struck : Int32) (refusalsA : Nat → Int32) (letterA : Nat → Int32) (R : Int32 × Int32 × (Nat → Int32) × (Nat → Int32)) (hR : fX6_letter x1 t_letters refusalsA letterA = some R) : Met l yX6_letter wsX6_letter ({ frames := 1, cells := 0, slots := 0, locals := 21 } : Room) (va_Pc [.ref a_t, .int x1] (Wp (dC, dI) [(cI, .int)] [(a_t, .inr (6, [.int t_hand, .int t_first, .int t_wide, .int t_rim, .int t_fill, .int t_wall, .int t_ceiling, .int t_puff, .int t_period, .int t_second, .int t_score, .int t_thrown, .int t_balls, .ref a_kind, .ref a_size, .ref a_tight, .int t_letters, .ref a_letter, .int t_at, .int t_value, .int t_inRow, .ref a_row, .ref a_refusals, .int t_imaged, .ref a_image, .ref a_ahead, .int t_end, .int t_cell, .int t_steps, .int t_highest, .int t_struck])), (a_refusals, .inl (cI, 7, .inl refusalsA)), (a_letter, .inl (cI, 80, .inl letterA))] sz)) (va_Qi (fun (r : Int32) (u : Int32 × (Nat → Int32) × (Nat → Int32)) => (r, u) = R) (Wq (dC, dI) [(a_t, .inr (6, [.int t_hand, .int t_first, .int t_wide, .int t_rim, .int t_fill, .int t_wall, .int t_ceiling, .int t_puff, .int t_period, .int t_second, .int t_score, .int t_thrown, .int t_balls, .ref a_kind, .ref a_size, .ref a_tight, .int t_letters, .ref a_letter, .int t_at, .int t_value, .int t_inRow, .ref a_row, .ref a_refusals, .int t_imaged, .ref a_image, .ref a_ahead, .int t_end, .int t_cell, .int t_steps, .int t_highest, .int t_struck])), (a_refusals, .inl (cI, 7, .inl refusalsA)), (a_letter, .inl (cI, 80, .inl letterA))] sz (fun (u : Int32 × (Nat → Int32) × (Nat → Int32)) => ([(a_t, .inr (6, [.int t_hand, .int t_first, .int t_wide, .int t_rim, .int t_fill, .int t_wall, .int t_ceiling, .int t_puff, .int t_period, .int t_second, .int t_score, .int t_thrown, .int t_balls, .ref a_kind, .ref a_size, .ref a_tight, .int u.1, .ref a_letter, .int t_at, .int t_value, .int t_inRow, .ref a_row, .ref a_refusals, .int t_imaged, .ref a_image, .ref a_ahead, .int t_end, .int t_cell, .int t_steps, .int t_highest, .int t_struck])), (a_refusals, .inl (cI, 7, .inl u.2.1)), (a_letter, .inl (cI, 80, .inl u.2.2))] : va_W))) (va_A [(a_t, .inr (6, [.int t_hand, .int t_first, .int t_wide, .int t_rim, .int t_fill, .int t_wall, .int t_ceiling, .int t_puff, .int t_period, .int t_second, .int t_score, .int t_thrown, .int t_balls, .ref a_kind, .ref a_size, .ref a_tight, .int t_letters, .ref a_letter, .int t_at, .int t_value, .int t_inRow, .ref a_row, .ref a_refusals, .int t_imaged, .ref a_image, .ref a_ahead, .int t_end, .int t_cell, .int t_steps, .int t_highest, .int t_struck])), (a_refusals, .inl (cI, 7, .inl refusalsA)), (a_letter, .inl (cI, 80, .inl letterA))] sz)) 0 0 (va_A [(a_t, .inr (6, [.int t_hand, .int t_first, .int t_wide, .int t_rim, .int t_fill, .int t_wall, .int t_ceiling, .int t_puff, .int t_period, .int t_second, .int t_score, .int t_thrown, .int t_balls, .ref a_kind, .ref a_size, .ref a_tight, .int t_letters, .ref a_letter, .int t_at, .int t_value, .int t_inRow, .ref a_row, .ref a_refusals, .int t_imaged, .ref a_image, .ref a_ahead, .int t_end, .int t_cell, .int t_steps, .int t_highest, .int t_struck])), (a_refusals, .inl (cI, 7, .inl refusalsA)), (a_letter, .inl (cI, 80, .inl letterA))] sz) := by
  refine Met.ofW (cc := cX6_letter) (maxL := 2) (ret := (some .int)) (by decide) rfl ?_
  intro p e s m args below meth c s₁ B hml hv
  obtain ⟨hargs, hsz, hP, hK, hD0, hN⟩ := hv
  have hx := B.exec
  have hb := B.bytes
  have hr := B.returns
  have hts := atoms_spec (ws := wsX6_letter) B.pre
  have hown : s.vm.findClass RX6 = some m.cls := findClass_of_methodNamed B.named
  have hlocks := B.notSynchronized
  subst hsz
  have hD := hD0.self (sz := s.heap.size)
  obtain ⟨A, hAe⟩ : ∃ A, A = va_A [(a_t, .inr (6, [.int t_hand, .int t_first, .int t_wide, .int t_rim, .int t_fill, .int t_wall, .int t_ceiling, .int t_puff, .int t_period, .int t_second, .int t_score, .int t_thrown, .int t_balls, .ref a_kind, .ref a_size, .ref a_tight, .int t_letters, .ref a_letter, .int t_at, .int t_value, .int t_inRow, .ref a_row, .ref a_refusals, .int t_imaged, .ref a_image, .ref a_ahead, .int t_end, .int t_cell, .int t_steps, .int t_highest, .int t_struck])), (a_refusals, .inl (cI, 7, .inl refusalsA)), (a_letter, .inl (cI, 80, .inl letterA))] s.heap.size := ⟨_, rfl⟩
  rw [← hAe] at hD
  have hA : ∀ q : Nat, s.heap.size ≤ q → A q := fun q h => by rw [hAe]; exact Or.inr h
  have hS : va_S A s.heap s.heap [] := va_S.rf
  have hl := lv_entry ([.ref a_t, .int x1]) (n := 2) (Nat.le_of_ble_eq_true rfl)
  rw [e_of hargs, lg_entry_eq]
  generalize (lg_sl ([.ref a_t, .int x1]) ++ List.replicate (2 - (lg_sl ([.ref a_t, .int x1])).length) Slot.unset).toArray = ls at hl ⊢
  have hl : lv_has ls 2 [(0, .ref a_t), (1, .int x1)] := hl
  have hinX6 : ∀ w ∈ wsX60, w ∈ wsX6_letter := by decide +kernel
  refine w_q ({ frames := 1, cells := 0, slots := 0, locals := 21 } : Room) (fun Q0 hQ => ?_)
  rw [fX6_letter] at hR
  refine lv_iload_n hx hb dX6_letter_0 rfl (lv_at hl 1 rfl) ?_
  refine lv_if_ge (tgt := 11) hx hb dX6_letter_1 (by decide) (fun c1 => ?_) (fun c1 => ?_)
  · have hR := (if_pos c1).symm.trans hR
    refine lv_iload_n hx hb dX6_letter_11 rfl (lv_at hl 1 rfl) ?_
    refine lv_sipush (v := 255) hx hb dX6_letter_12 (by decide) ?_
    refine lv_icmp_gt (tgt := 27) hx hb dX6_letter_15 (by decide) (fun c15 => ?_) (fun c15 => ?_)
    · have hR := (if_pos c15).symm.trans hR
      refine lv_aload_n hx hb dX6_letter_27 rfl (lv_at hl 0 rfl) ?_
      refine lv_bipush (v := (-6)) hx hb dX6_letter_28 (by decide) ?_
      obtain ⟨r1, w2, hu3, hR⟩ := b2_s hR
      refine cl_ViT (As := [.int (-6)]) (rest := []) (wc := [(a_t, .inr (6, [.int t_hand, .int t_first, .int t_wide, .int t_rim, .int t_fill, .int t_wall, .int t_ceiling, .int t_puff, .int t_period, .int t_second, .int t_score, .int t_thrown, .int t_balls, .ref a_kind, .ref a_size, .ref a_tight, .int t_letters, .ref a_letter, .int t_at, .int t_value, .int t_inRow, .ref a_row, .ref a_refusals, .int t_imaged, .ref a_image, .ref a_ahead, .int t_end, .int t_cell, .int t_steps, .int t_highest, .int t_struck])), (a_refusals, .inl (cI, 7, .inl refusalsA))]) (wr := [(a_letter, .inl (cI, 80, .inl letterA))]) ⟨hx, hb, hml, hown, hts⟩ (kX6_no l dC dI cI a_t a_kind a_size a_tight a_letter a_row a_refusals a_image a_ahead s.heap.size (-6) t_hand t_first t_wide t_rim t_fill t_wall t_ceiling t_puff t_period t_second t_score t_thrown t_balls t_letters t_at t_value t_inRow t_imaged t_end t_cell t_steps t_highest t_struck refusalsA (r1, w2) hu3) (cwV 1 hts gX6_letter_X6_no rfl rfl rfl (by decide +kernel) ⟨Nat.le_of_ble_eq_true rfl, Nat.le_of_ble_eq_true rfl⟩) hK hN hP hD hS hA (va_recv hK hP (ci := 6) (q0 := 0) rfl rfl) [0, 1] [2] rfl rfl rfl rfl rfl (by decide) rfl hl.1 rfl (Nat.le_of_ble_eq_true rfl) dX6_letter_30 (fun H locs hP hD hS => ?_)
      have hP : va_P (dC, dI) vwCl [(a_letter, .inl (cI, 80, .inl letterA)), (a_t, .inr (6, [.int t_hand, .int t_first, .int t_wide, .int t_rim, .int t_fill, .int t_wall, .int t_ceiling, .int t_puff, .int t_period, .int t_second, .int t_score, .int t_thrown, .int t_balls, .ref a_kind, .ref a_size, .ref a_tight, .int t_letters, .ref a_letter, .int t_at, .int t_value, .int t_inRow, .ref a_row, .ref a_refusals, .int t_imaged, .ref a_image, .ref a_ahead, .int t_end, .int t_cell, .int t_steps, .int t_highest, .int t_struck])), (a_refusals, .inl (cI, 7, .inl w2))] H := hP
      have hD : va_D A [(a_letter, .inl (cI, 80, .inl letterA)), (a_t, .inr (6, [.int t_hand, .int t_first, .int t_wide, .int t_rim, .int t_fill, .int t_wall, .int t_ceiling, .int t_puff, .int t_period, .int t_second, .int t_score, .int t_thrown, .int t_balls, .ref a_kind, .ref a_size, .ref a_tight, .int t_letters, .ref a_letter, .int t_at, .int t_value, .int t_inRow, .ref a_row, .ref a_refusals, .int t_imaged, .ref a_image, .ref a_ahead, .int t_end, .int t_cell, .int t_steps, .int t_highest, .int t_struck])), (a_refusals, .inl (cI, 7, .inl w2))] := hD
      have hP := hP.sub (ws' := [(a_t, .inr (6, [.int t_hand, .int t_first, .int t_wide, .int t_rim, .int t_fill, .int t_wall, .int t_ceiling, .int t_puff, .int t_period, .int t_second, .int t_score, .int t_thrown, .int t_balls, .ref a_kind, .ref a_size, .ref a_tight, .int t_letters, .ref a_letter, .int t_at, .int t_value, .int t_inRow, .ref a_row, .ref a_refusals, .int t_imaged, .ref a_image, .ref a_ahead, .int t_end, .int t_cell, .int t_steps, .int t_highest, .int t_struck])), (a_refusals, .inl (cI, 7, .inl w2)), (a_letter, .inl (cI, 80, .inl letterA))]) [1, 2, 0] rfl
      have hD := hD.sub (ws' := [(a_t, .inr (6, [.int t_hand, .int t_first, .int t_wide, .int t_rim, .int t_fill, .int t_wall, .int t_ceiling, .int t_puff, .int t_period, .int t_second, .int t_score, .int t_thrown, .int t_balls, .ref a_kind, .ref a_size, .ref a_tight, .int t_letters, .ref a_letter, .int t_at, .int t_value, .int t_inRow, .ref a_row, .ref a_refusals, .int t_imaged, .ref a_image, .ref a_ahead, .int t_end, .int t_cell, .int t_steps, .int t_highest, .int t_struck])), (a_refusals, .inl (cI, 7, .inl w2)), (a_letter, .inl (cI, 80, .inl letterA))]) [1, 2, 0] (by decide) rfl
      subst hQ
      subst hAe
      exact W.iret (v := r1) hx hb hr (fun t ht hW => ⟨⟨r1, (t_letters, w2, letterA), rfl, Option.some.inj hR, by rw [ht]; exact hP, hD⟩, hS.F ht⟩) hS.2.2 dX6_letter_33
    · have hR := (if_neg c15).symm.trans hR
      refine lv_aload_n hx hb dX6_letter_18 rfl (lv_at hl 0 rfl) ?_
      refine va_get (D := (dC, dI)) (ci := 6) (v := .int t_letters) (C := RX6) (T := TX6) (N := 31) hx hb hts hinX6 hown hK hP 0 rfl rfl 16 (by decide) (hts (.fieldLink RX6 69 "PaperInBinModel" "letters" "I") (by decide +kernel)) (fun _ h9 => h9) rfl dX6_letter_19 ?_
      refine lv_bipush (v := 80) hx hb dX6_letter_22 (by decide) ?_
      refine lv_icmp_ne (tgt := 34) hx hb dX6_letter_24 (by decide) (fun c24 => ?_) (fun c24 => ?_)
      · have hR := (if_neg c24).symm.trans hR
        refine lv_aload_n hx hb dX6_letter_34 rfl (lv_at hl 0 rfl) ?_
        refine va_get (D := (dC, dI)) (ci := 6) (v := .ref a_letter) (C := RX6) (T := TX6) (N := 31) hx hb hts hinX6 hown hK hP 0 rfl rfl 17 (by decide) (hts (.fieldLink RX6 19 "PaperInBinModel" "letter" "[I") (by decide +kernel)) (fun _ h9 => h9) rfl dX6_letter_35 ?_
        refine lv_aload_n hx hb dX6_letter_38 rfl (lv_at hl 0 rfl) ?_
        refine lv_dup hx hb dX6_letter_39 rfl ?_
        refine va_get (D := (dC, dI)) (ci := 6) (v := .int t_letters) (C := RX6) (T := TX6) (N := 31) hx hb hts hinX6 hown hK hP 0 rfl rfl 16 (by decide) (hts (.fieldLink RX6 69 "PaperInBinModel" "letters" "I") (by decide +kernel)) (fun _ h9 => h9) rfl dX6_letter_40 ?_
        refine lv_dup_x1 hx hb dX6_letter_43 rfl rfl ?_
        refine lv_iconst (v := 1) hx hb dX6_letter_44 (by decide) ?_
        refine lv_iadd hx hb dX6_letter_45 ?_
        refine va_put (D := (dC, dI)) (ci := 6) (v := .int (t_letters + 1)) (ty := .int) (C := RX6) (T := TX6) (N := 31) hx hb hts hinX6 tyX6 tyX6_ok nmX6 hown hK hP hD hS 0 rfl rfl 16 (by decide) (hts (.fieldLink RX6 69 "PaperInBinModel" "letters" "I") (by decide +kernel)) (fun _ h9 => h9) rfl (tyX6_ok 16 (by decide)) rfl rfl (Nat.le_of_ble_eq_true rfl) dX6_letter_46 (fun H locs hP hD hS => ?_)
        have hP : va_P (dC, dI) vwCl [(a_t, .inr (6, [.int t_hand, .int t_first, .int t_wide, .int t_rim, .int t_fill, .int t_wall, .int t_ceiling, .int t_puff, .int t_period, .int t_second, .int t_score, .int t_thrown, .int t_balls, .ref a_kind, .ref a_size, .ref a_tight, .int (t_letters + 1), .ref a_letter, .int t_at, .int t_value, .int t_inRow, .ref a_row, .ref a_refusals, .int t_imaged, .ref a_image, .ref a_ahead, .int t_end, .int t_cell, .int t_steps, .int t_highest, .int t_struck])), (a_refusals, .inl (cI, 7, .inl refusalsA)), (a_letter, .inl (cI, 80, .inl letterA))] H := hP
        have hD : va_D A [(a_t, .inr (6, [.int t_hand, .int t_first, .int t_wide, .int t_rim, .int t_fill, .int t_wall, .int t_ceiling, .int t_puff, .int t_period, .int t_second, .int t_score, .int t_thrown, .int t_balls, .ref a_kind, .ref a_size, .ref a_tight, .int (t_letters + 1), .ref a_letter, .int t_at, .int t_value, .int t_inRow, .ref a_row, .ref a_refusals, .int t_imaged, .ref a_image, .ref a_ahead, .int t_end, .int t_cell, .int t_steps, .int t_highest, .int t_struck])), (a_refusals, .inl (cI, 7, .inl refusalsA)), (a_letter, .inl (cI, 80, .inl letterA))] := hD
        refine lv_iload_n hx hb dX6_letter_49 rfl (lv_at hl 1 rfl) ?_
        obtain ⟨g4, hR⟩ := g_in_s hR
        refine va_iast hx hb hK hP hD hS 2 0 rfl rfl g4 dX6_letter_50 (fun H locs hP hD hS => ?_)
        have hP : va_P (dC, dI) vwCl [(a_t, .inr (6, [.int t_hand, .int t_first, .int t_wide, .int t_rim, .int t_fill, .int t_wall, .int t_ceiling, .int t_puff, .int t_period, .int t_second, .int t_score, .int t_thrown, .int t_balls, .ref a_kind, .ref a_size, .ref a_tight, .int (t_letters + 1), .ref a_letter, .int t_at, .int t_value, .int t_inRow, .ref a_row, .ref a_refusals, .int t_imaged, .ref a_image, .ref a_ahead, .int t_end, .int t_cell, .int t_steps, .int t_highest, .int t_struck])), (a_refusals, .inl (cI, 7, .inl refusalsA)), (a_letter, .inl (cI, 80, .inl (upd letterA (t_letters).toNatClampNeg x1)))] H := hP
        have hD : va_D A [(a_t, .inr (6, [.int t_hand, .int t_first, .int t_wide, .int t_rim, .int t_fill, .int t_wall, .int t_ceiling, .int t_puff, .int t_period, .int t_second, .int t_score, .int t_thrown, .int t_balls, .ref a_kind, .ref a_size, .ref a_tight, .int (t_letters + 1), .ref a_letter, .int t_at, .int t_value, .int t_inRow, .ref a_row, .ref a_refusals, .int t_imaged, .ref a_image, .ref a_ahead, .int t_end, .int t_cell, .int t_steps, .int t_highest, .int t_struck])), (a_refusals, .inl (cI, 7, .inl refusalsA)), (a_letter, .inl (cI, 80, .inl (upd letterA (t_letters).toNatClampNeg x1)))] := hD
        refine lv_aload_n hx hb dX6_letter_51 rfl (lv_at hl 0 rfl) ?_
        refine va_get (D := (dC, dI)) (ci := 6) (v := .int (t_letters + 1)) (C := RX6) (T := TX6) (N := 31) hx hb hts hinX6 hown hK hP 0 rfl rfl 16 (by decide) (hts (.fieldLink RX6 69 "PaperInBinModel" "letters" "I") (by decide +kernel)) (fun _ h9 => h9) rfl dX6_letter_52 ?_
        subst hQ
        subst hAe
        exact W.iret (v := (t_letters + 1)) hx hb hr (fun t ht hW => ⟨⟨(t_letters + 1), ((t_letters + 1), refusalsA, (upd letterA (t_letters).toNatClampNeg x1)), rfl, Option.some.inj hR, by rw [ht]; exact hP, hD⟩, hS.F ht⟩) hS.2.2 dX6_letter_55
      · have hR := (if_pos c24).symm.trans hR
        refine lv_aload_n hx hb dX6_letter_27 rfl (lv_at hl 0 rfl) ?_
        refine lv_bipush (v := (-6)) hx hb dX6_letter_28 (by decide) ?_
        obtain ⟨r5, w6, hu7, hR⟩ := b2_s hR
        refine cl_ViT (As := [.int (-6)]) (rest := []) (wc := [(a_t, .inr (6, [.int t_hand, .int t_first, .int t_wide, .int t_rim, .int t_fill, .int t_wall, .int t_ceiling, .int t_puff, .int t_period, .int t_second, .int t_score, .int t_thrown, .int t_balls, .ref a_kind, .ref a_size, .ref a_tight, .int t_letters, .ref a_letter, .int t_at, .int t_value, .int t_inRow, .ref a_row, .ref a_refusals, .int t_imaged, .ref a_image, .ref a_ahead, .int t_end, .int t_cell, .int t_steps, .int t_highest, .int t_struck])), (a_refusals, .inl (cI, 7, .inl refusalsA))]) (wr := [(a_letter, .inl (cI, 80, .inl letterA))]) ⟨hx, hb, hml, hown, hts⟩ (kX6_no l dC dI cI a_t a_kind a_size a_tight a_letter a_row a_refusals a_image a_ahead s.heap.size (-6) t_hand t_first t_wide t_rim t_fill t_wall t_ceiling t_puff t_period t_second t_score t_thrown t_balls t_letters t_at t_value t_inRow t_imaged t_end t_cell t_steps t_highest t_struck refusalsA (r5, w6) hu7) (cwV 1 hts gX6_letter_X6_no rfl rfl rfl (by decide +kernel) ⟨Nat.le_of_ble_eq_true rfl, Nat.le_of_ble_eq_true rfl⟩) hK hN hP hD hS hA (va_recv hK hP (ci := 6) (q0 := 0) rfl rfl) [0, 1] [2] rfl rfl rfl rfl rfl (by decide) rfl hl.1 rfl (Nat.le_of_ble_eq_true rfl) dX6_letter_30 (fun H locs hP hD hS => ?_)
        have hP : va_P (dC, dI) vwCl [(a_letter, .inl (cI, 80, .inl letterA)), (a_t, .inr (6, [.int t_hand, .int t_first, .int t_wide, .int t_rim, .int t_fill, .int t_wall, .int t_ceiling, .int t_puff, .int t_period, .int t_second, .int t_score, .int t_thrown, .int t_balls, .ref a_kind, .ref a_size, .ref a_tight, .int t_letters, .ref a_letter, .int t_at, .int t_value, .int t_inRow, .ref a_row, .ref a_refusals, .int t_imaged, .ref a_image, .ref a_ahead, .int t_end, .int t_cell, .int t_steps, .int t_highest, .int t_struck])), (a_refusals, .inl (cI, 7, .inl w6))] H := hP
        have hD : va_D A [(a_letter, .inl (cI, 80, .inl letterA)), (a_t, .inr (6, [.int t_hand, .int t_first, .int t_wide, .int t_rim, .int t_fill, .int t_wall, .int t_ceiling, .int t_puff, .int t_period, .int t_second, .int t_score, .int t_thrown, .int t_balls, .ref a_kind, .ref a_size, .ref a_tight, .int t_letters, .ref a_letter, .int t_at, .int t_value, .int t_inRow, .ref a_row, .ref a_refusals, .int t_imaged, .ref a_image, .ref a_ahead, .int t_end, .int t_cell, .int t_steps, .int t_highest, .int t_struck])), (a_refusals, .inl (cI, 7, .inl w6))] := hD
        have hP := hP.sub (ws' := [(a_t, .inr (6, [.int t_hand, .int t_first, .int t_wide, .int t_rim, .int t_fill, .int t_wall, .int t_ceiling, .int t_puff, .int t_period, .int t_second, .int t_score, .int t_thrown, .int t_balls, .ref a_kind, .ref a_size, .ref a_tight, .int t_letters, .ref a_letter, .int t_at, .int t_value, .int t_inRow, .ref a_row, .ref a_refusals, .int t_imaged, .ref a_image, .ref a_ahead, .int t_end, .int t_cell, .int t_steps, .int t_highest, .int t_struck])), (a_refusals, .inl (cI, 7, .inl w6)), (a_letter, .inl (cI, 80, .inl letterA))]) [1, 2, 0] rfl
        have hD := hD.sub (ws' := [(a_t, .inr (6, [.int t_hand, .int t_first, .int t_wide, .int t_rim, .int t_fill, .int t_wall, .int t_ceiling, .int t_puff, .int t_period, .int t_second, .int t_score, .int t_thrown, .int t_balls, .ref a_kind, .ref a_size, .ref a_tight, .int t_letters, .ref a_letter, .int t_at, .int t_value, .int t_inRow, .ref a_row, .ref a_refusals, .int t_imaged, .ref a_image, .ref a_ahead, .int t_end, .int t_cell, .int t_steps, .int t_highest, .int t_struck])), (a_refusals, .inl (cI, 7, .inl w6)), (a_letter, .inl (cI, 80, .inl letterA))]) [1, 2, 0] (by decide) rfl
        subst hQ
        subst hAe
        exact W.iret (v := r5) hx hb hr (fun t ht hW => ⟨⟨r5, (t_letters, w6, letterA), rfl, Option.some.inj hR, by rw [ht]; exact hP, hD⟩, hS.F ht⟩) hS.2.2 dX6_letter_33
  · have hR := (if_neg c1).symm.trans hR
    refine lv_aload_n hx hb dX6_letter_4 rfl (lv_at hl 0 rfl) ?_
    refine lv_bipush (v := (-4)) hx hb dX6_letter_5 (by decide) ?_
    obtain ⟨r8, w9, hu10, hR⟩ := b2_s hR
    refine cl_ViT (As := [.int (-4)]) (rest := []) (wc := [(a_t, .inr (6, [.int t_hand, .int t_first, .int t_wide, .int t_rim, .int t_fill, .int t_wall, .int t_ceiling, .int t_puff, .int t_period, .int t_second, .int t_score, .int t_thrown, .int t_balls, .ref a_kind, .ref a_size, .ref a_tight, .int t_letters, .ref a_letter, .int t_at, .int t_value, .int t_inRow, .ref a_row, .ref a_refusals, .int t_imaged, .ref a_image, .ref a_ahead, .int t_end, .int t_cell, .int t_steps, .int t_highest, .int t_struck])), (a_refusals, .inl (cI, 7, .inl refusalsA))]) (wr := [(a_letter, .inl (cI, 80, .inl letterA))]) ⟨hx, hb, hml, hown, hts⟩ (kX6_no l dC dI cI a_t a_kind a_size a_tight a_letter a_row a_refusals a_image a_ahead s.heap.size (-4) t_hand t_first t_wide t_rim t_fill t_wall t_ceiling t_puff t_period t_second t_score t_thrown t_balls t_letters t_at t_value t_inRow t_imaged t_end t_cell t_steps t_highest t_struck refusalsA (r8, w9) hu10) (cwV 1 hts gX6_letter_X6_no rfl rfl rfl (by decide +kernel) ⟨Nat.le_of_ble_eq_true rfl, Nat.le_of_ble_eq_true rfl⟩) hK hN hP hD hS hA (va_recv hK hP (ci := 6) (q0 := 0) rfl rfl) [0, 1] [2] rfl rfl rfl rfl rfl (by decide) rfl hl.1 rfl (Nat.le_of_ble_eq_true rfl) dX6_letter_7 (fun H locs hP hD hS => ?_)
    have hP : va_P (dC, dI) vwCl [(a_letter, .inl (cI, 80, .inl letterA)), (a_t, .inr (6, [.int t_hand, .int t_first, .int t_wide, .int t_rim, .int t_fill, .int t_wall, .int t_ceiling, .int t_puff, .int t_period, .int t_second, .int t_score, .int t_thrown, .int t_balls, .ref a_kind, .ref a_size, .ref a_tight, .int t_letters, .ref a_letter, .int t_at, .int t_value, .int t_inRow, .ref a_row, .ref a_refusals, .int t_imaged, .ref a_image, .ref a_ahead, .int t_end, .int t_cell, .int t_steps, .int t_highest, .int t_struck])), (a_refusals, .inl (cI, 7, .inl w9))] H := hP
    have hD : va_D A [(a_letter, .inl (cI, 80, .inl letterA)), (a_t, .inr (6, [.int t_hand, .int t_first, .int t_wide, .int t_rim, .int t_fill, .int t_wall, .int t_ceiling, .int t_puff, .int t_period, .int t_second, .int t_score, .int t_thrown, .int t_balls, .ref a_kind, .ref a_size, .ref a_tight, .int t_letters, .ref a_letter, .int t_at, .int t_value, .int t_inRow, .ref a_row, .ref a_refusals, .int t_imaged, .ref a_image, .ref a_ahead, .int t_end, .int t_cell, .int t_steps, .int t_highest, .int t_struck])), (a_refusals, .inl (cI, 7, .inl w9))] := hD
    have hP := hP.sub (ws' := [(a_t, .inr (6, [.int t_hand, .int t_first, .int t_wide, .int t_rim, .int t_fill, .int t_wall, .int t_ceiling, .int t_puff, .int t_period, .int t_second, .int t_score, .int t_thrown, .int t_balls, .ref a_kind, .ref a_size, .ref a_tight, .int t_letters, .ref a_letter, .int t_at, .int t_value, .int t_inRow, .ref a_row, .ref a_refusals, .int t_imaged, .ref a_image, .ref a_ahead, .int t_end, .int t_cell, .int t_steps, .int t_highest, .int t_struck])), (a_refusals, .inl (cI, 7, .inl w9)), (a_letter, .inl (cI, 80, .inl letterA))]) [1, 2, 0] rfl
    have hD := hD.sub (ws' := [(a_t, .inr (6, [.int t_hand, .int t_first, .int t_wide, .int t_rim, .int t_fill, .int t_wall, .int t_ceiling, .int t_puff, .int t_period, .int t_second, .int t_score, .int t_thrown, .int t_balls, .ref a_kind, .ref a_size, .ref a_tight, .int t_letters, .ref a_letter, .int t_at, .int t_value, .int t_inRow, .ref a_row, .ref a_refusals, .int t_imaged, .ref a_image, .ref a_ahead, .int t_end, .int t_cell, .int t_steps, .int t_highest, .int t_struck])), (a_refusals, .inl (cI, 7, .inl w9)), (a_letter, .inl (cI, 80, .inl letterA))]) [1, 2, 0] (by decide) rfl
    subst hQ
    subst hAe
    exact W.iret (v := r8) hx hb hr (fun t ht hW => ⟨⟨r8, (t_letters, w9, letterA), rfl, Option.some.inj hR, by rw [ht]; exact hP, hD⟩, hS.F ht⟩) hS.2.2 dX6_letter_10
def fX6_is (x1 : Int32) (t_letters : Int32) (t_at : Int32) (letterA : Nat → Int32) : Option (Int32 × Int32) :=
  if t_at = t_letters then (
   some (0, t_at))
  else (
  g_in t_at 80 (
  if (letterA (t_at).toNatClampNeg) = x1 then (
   some (1, (t_at + 1)))
  else (
  some (0, t_at))))
set_option maxHeartbeats 4000000 in
set_option maxRecDepth 100000 in
theorem kX6_is (l : Launch) (dC : Nat → ClassId) (dI : Nat → Nat → Nat) (cI : ClassId) (a_t a_kind a_size a_tight a_letter a_row a_refusals a_image a_ahead : Nat) (sz : Nat) (x1 : Int32) (t_hand : Int32) (t_first : Int32) (t_wide : Int32) (t_rim : Int32) (t_fill : Int32) (t_wall : Int32) (t_ceiling : Int32) (t_puff : Int32) (t_period : Int32) (t_second : Int32) (t_score : Int32) (t_thrown : Int32) (t_balls : Int32) (t_letters : Int32) (t_at : Int32) (t_value : Int32) (t_inRow : Int32) (t_imaged : Int32) (t_end : Int32) (t_cell : Int32) (t_steps : Int32) (t_highest : Int32) (t_struck : Int32) (letterA : Nat → Int32) (R : Int32 × Int32) (hR : fX6_is x1 t_letters t_at letterA = some R) : Met l yX6_is wsX6_is ({ frames := 0, cells := 0, slots := 0, locals := 0 } : Room) (va_Pc [.ref a_t, .int x1] (Wp (dC, dI) [(cI, .int)] [(a_t, .inr (6, [.int t_hand, .int t_first, .int t_wide, .int t_rim, .int t_fill, .int t_wall, .int t_ceiling, .int t_puff, .int t_period, .int t_second, .int t_score, .int t_thrown, .int t_balls, .ref a_kind, .ref a_size, .ref a_tight, .int t_letters, .ref a_letter, .int t_at, .int t_value, .int t_inRow, .ref a_row, .ref a_refusals, .int t_imaged, .ref a_image, .ref a_ahead, .int t_end, .int t_cell, .int t_steps, .int t_highest, .int t_struck])), (a_letter, .inl (cI, 80, .inl letterA))] sz)) (va_Qi (fun (r : Int32) (u : Int32) => (r, u) = R) (Wq (dC, dI) [(a_t, .inr (6, [.int t_hand, .int t_first, .int t_wide, .int t_rim, .int t_fill, .int t_wall, .int t_ceiling, .int t_puff, .int t_period, .int t_second, .int t_score, .int t_thrown, .int t_balls, .ref a_kind, .ref a_size, .ref a_tight, .int t_letters, .ref a_letter, .int t_at, .int t_value, .int t_inRow, .ref a_row, .ref a_refusals, .int t_imaged, .ref a_image, .ref a_ahead, .int t_end, .int t_cell, .int t_steps, .int t_highest, .int t_struck])), (a_letter, .inl (cI, 80, .inl letterA))] sz (fun (u : Int32) => ([(a_t, .inr (6, [.int t_hand, .int t_first, .int t_wide, .int t_rim, .int t_fill, .int t_wall, .int t_ceiling, .int t_puff, .int t_period, .int t_second, .int t_score, .int t_thrown, .int t_balls, .ref a_kind, .ref a_size, .ref a_tight, .int t_letters, .ref a_letter, .int u, .int t_value, .int t_inRow, .ref a_row, .ref a_refusals, .int t_imaged, .ref a_image, .ref a_ahead, .int t_end, .int t_cell, .int t_steps, .int t_highest, .int t_struck])), (a_letter, .inl (cI, 80, .inl letterA))] : va_W))) (va_A [(a_t, .inr (6, [.int t_hand, .int t_first, .int t_wide, .int t_rim, .int t_fill, .int t_wall, .int t_ceiling, .int t_puff, .int t_period, .int t_second, .int t_score, .int t_thrown, .int t_balls, .ref a_kind, .ref a_size, .ref a_tight, .int t_letters, .ref a_letter, .int t_at, .int t_value, .int t_inRow, .ref a_row, .ref a_refusals, .int t_imaged, .ref a_image, .ref a_ahead, .int t_end, .int t_cell, .int t_steps, .int t_highest, .int t_struck])), (a_letter, .inl (cI, 80, .inl letterA))] sz)) 0 0 (va_A [(a_t, .inr (6, [.int t_hand, .int t_first, .int t_wide, .int t_rim, .int t_fill, .int t_wall, .int t_ceiling, .int t_puff, .int t_period, .int t_second, .int t_score, .int t_thrown, .int t_balls, .ref a_kind, .ref a_size, .ref a_tight, .int t_letters, .ref a_letter, .int t_at, .int t_value, .int t_inRow, .ref a_row, .ref a_refusals, .int t_imaged, .ref a_image, .ref a_ahead, .int t_end, .int t_cell, .int t_steps, .int t_highest, .int t_struck])), (a_letter, .inl (cI, 80, .inl letterA))] sz) := by
  refine Met.ofW (cc := cX6_is) (maxL := 2) (ret := (some .boolean)) (by decide) rfl ?_
  intro p e s m args below meth c s₁ B hml hv
  obtain ⟨hargs, hsz, hP, hK, hD0, hN⟩ := hv
  have hx := B.exec
  have hb := B.bytes
  have hr := B.returns
  have hts := atoms_spec (ws := wsX6_is) B.pre
  have hown : s.vm.findClass RX6 = some m.cls := findClass_of_methodNamed B.named
  have hlocks := B.notSynchronized
  subst hsz
  have hD := hD0.self (sz := s.heap.size)
  obtain ⟨A, hAe⟩ : ∃ A, A = va_A [(a_t, .inr (6, [.int t_hand, .int t_first, .int t_wide, .int t_rim, .int t_fill, .int t_wall, .int t_ceiling, .int t_puff, .int t_period, .int t_second, .int t_score, .int t_thrown, .int t_balls, .ref a_kind, .ref a_size, .ref a_tight, .int t_letters, .ref a_letter, .int t_at, .int t_value, .int t_inRow, .ref a_row, .ref a_refusals, .int t_imaged, .ref a_image, .ref a_ahead, .int t_end, .int t_cell, .int t_steps, .int t_highest, .int t_struck])), (a_letter, .inl (cI, 80, .inl letterA))] s.heap.size := ⟨_, rfl⟩
  rw [← hAe] at hD
  have hA : ∀ q : Nat, s.heap.size ≤ q → A q := fun q h => by rw [hAe]; exact Or.inr h
  have hS : va_S A s.heap s.heap [] := va_S.rf
  have hl := lv_entry ([.ref a_t, .int x1]) (n := 2) (Nat.le_of_ble_eq_true rfl)
  rw [e_of hargs, lg_entry_eq]
  generalize (lg_sl ([.ref a_t, .int x1]) ++ List.replicate (2 - (lg_sl ([.ref a_t, .int x1])).length) Slot.unset).toArray = ls at hl ⊢
  have hl : lv_has ls 2 [(0, .ref a_t), (1, .int x1)] := hl
  have hinX6 : ∀ w ∈ wsX60, w ∈ wsX6_is := by decide +kernel
  refine w_q ({ frames := 0, cells := 0, slots := 0, locals := 0 } : Room) (fun Q0 hQ => ?_)
  rw [fX6_is] at hR
  refine lv_aload_n hx hb dX6_is_0 rfl (lv_at hl 0 rfl) ?_
  refine va_get (D := (dC, dI)) (ci := 6) (v := .int t_at) (C := RX6) (T := TX6) (N := 31) hx hb hts hinX6 hown hK hP 0 rfl rfl 18 (by decide) (hts (.fieldLink RX6 72 "PaperInBinModel" "at" "I") (by decide +kernel)) (fun _ h9 => h9) rfl dX6_is_1 ?_
  refine lv_aload_n hx hb dX6_is_4 rfl (lv_at hl 0 rfl) ?_
  refine va_get (D := (dC, dI)) (ci := 6) (v := .int t_letters) (C := RX6) (T := TX6) (N := 31) hx hb hts hinX6 hown hK hP 0 rfl rfl 16 (by decide) (hts (.fieldLink RX6 69 "PaperInBinModel" "letters" "I") (by decide +kernel)) (fun _ h9 => h9) rfl dX6_is_5 ?_
  refine lv_icmp_eq (tgt := 24) hx hb dX6_is_8 (by decide) (fun c8 => ?_) (fun c8 => ?_)
  · have hR := (if_pos c8).symm.trans hR
    refine lv_iconst (v := 0) hx hb dX6_is_24 (by decide) ?_
    subst hQ
    subst hAe
    exact W.zret (ty := .boolean) (v := 0) hx hb hr rfl (fun t ht hW => ⟨⟨0, (t_at), rfl, Option.some.inj hR, by rw [ht]; exact hP, hD⟩, hS.F ht⟩) hS.2.2 dX6_is_25
  · have hR := (if_neg c8).symm.trans hR
    refine lv_aload_n hx hb dX6_is_11 rfl (lv_at hl 0 rfl) ?_
    refine va_get (D := (dC, dI)) (ci := 6) (v := .ref a_letter) (C := RX6) (T := TX6) (N := 31) hx hb hts hinX6 hown hK hP 0 rfl rfl 17 (by decide) (hts (.fieldLink RX6 19 "PaperInBinModel" "letter" "[I") (by decide +kernel)) (fun _ h9 => h9) rfl dX6_is_12 ?_
    refine lv_aload_n hx hb dX6_is_15 rfl (lv_at hl 0 rfl) ?_
    refine va_get (D := (dC, dI)) (ci := 6) (v := .int t_at) (C := RX6) (T := TX6) (N := 31) hx hb hts hinX6 hown hK hP 0 rfl rfl 18 (by decide) (hts (.fieldLink RX6 72 "PaperInBinModel" "at" "I") (by decide +kernel)) (fun _ h9 => h9) rfl dX6_is_16 ?_
    obtain ⟨g1, hR⟩ := g_in_s hR
    refine va_iald hx hb hK hP 1 0 rfl rfl g1 dX6_is_19 ?_
    refine lv_iload_n hx hb dX6_is_20 rfl (lv_at hl 1 rfl) ?_
    refine lv_icmp_eq (tgt := 26) hx hb dX6_is_21 (by decide) (fun c21 => ?_) (fun c21 => ?_)
    · have hR := (if_pos c21).symm.trans hR
      refine lv_aload_n hx hb dX6_is_26 rfl (lv_at hl 0 rfl) ?_
      refine lv_dup hx hb dX6_is_27 rfl ?_
      refine va_get (D := (dC, dI)) (ci := 6) (v := .int t_at) (C := RX6) (T := TX6) (N := 31) hx hb hts hinX6 hown hK hP 0 rfl rfl 18 (by decide) (hts (.fieldLink RX6 72 "PaperInBinModel" "at" "I") (by decide +kernel)) (fun _ h9 => h9) rfl dX6_is_28 ?_
      refine lv_iconst (v := 1) hx hb dX6_is_31 (by decide) ?_
      refine lv_iadd hx hb dX6_is_32 ?_
      refine va_put (D := (dC, dI)) (ci := 6) (v := .int (t_at + 1)) (ty := .int) (C := RX6) (T := TX6) (N := 31) hx hb hts hinX6 tyX6 tyX6_ok nmX6 hown hK hP hD hS 0 rfl rfl 18 (by decide) (hts (.fieldLink RX6 72 "PaperInBinModel" "at" "I") (by decide +kernel)) (fun _ h9 => h9) rfl (tyX6_ok 18 (by decide)) rfl rfl (Nat.le_of_ble_eq_true rfl) dX6_is_33 (fun H locs hP hD hS => ?_)
      have hP : va_P (dC, dI) vwCl [(a_t, .inr (6, [.int t_hand, .int t_first, .int t_wide, .int t_rim, .int t_fill, .int t_wall, .int t_ceiling, .int t_puff, .int t_period, .int t_second, .int t_score, .int t_thrown, .int t_balls, .ref a_kind, .ref a_size, .ref a_tight, .int t_letters, .ref a_letter, .int (t_at + 1), .int t_value, .int t_inRow, .ref a_row, .ref a_refusals, .int t_imaged, .ref a_image, .ref a_ahead, .int t_end, .int t_cell, .int t_steps, .int t_highest, .int t_struck])), (a_letter, .inl (cI, 80, .inl letterA))] H := hP
      have hD : va_D A [(a_t, .inr (6, [.int t_hand, .int t_first, .int t_wide, .int t_rim, .int t_fill, .int t_wall, .int t_ceiling, .int t_puff, .int t_period, .int t_second, .int t_score, .int t_thrown, .int t_balls, .ref a_kind, .ref a_size, .ref a_tight, .int t_letters, .ref a_letter, .int (t_at + 1), .int t_value, .int t_inRow, .ref a_row, .ref a_refusals, .int t_imaged, .ref a_image, .ref a_ahead, .int t_end, .int t_cell, .int t_steps, .int t_highest, .int t_struck])), (a_letter, .inl (cI, 80, .inl letterA))] := hD
      refine lv_iconst (v := 1) hx hb dX6_is_36 (by decide) ?_
      subst hQ
      subst hAe
      exact W.zret (ty := .boolean) (v := 1) hx hb hr rfl (fun t ht hW => ⟨⟨1, ((t_at + 1)), rfl, Option.some.inj hR, by rw [ht]; exact hP, hD⟩, hS.F ht⟩) hS.2.2 dX6_is_37
    · have hR := (if_neg c21).symm.trans hR
      refine lv_iconst (v := 0) hx hb dX6_is_24 (by decide) ?_
      subst hQ
      subst hAe
      exact W.zret (ty := .boolean) (v := 0) hx hb hr rfl (fun t ht hW => ⟨⟨0, (t_at), rfl, Option.some.inj hR, by rw [ht]; exact hP, hD⟩, hS.F ht⟩) hS.2.2 dX6_is_25
def fX6_isDigit (t_letters : Int32) (t_at : Int32) (letterA : Nat → Int32) : Option (Int32) :=
  if t_letters ≤ t_at then (
   some (0))
  else (
  g_in t_at 80 (
  if (letterA (t_at).toNatClampNeg) < 48 then (
   some (0))
  else (
  g_in t_at 80 (
  if 57 < (letterA (t_at).toNatClampNeg) then (
   some (0))
  else (
  some (1))))))
set_option maxHeartbeats 4000000 in
set_option maxRecDepth 100000 in
theorem kX6_isDigit (l : Launch) (dC : Nat → ClassId) (dI : Nat → Nat → Nat) (cI : ClassId) (a_t a_kind a_size a_tight a_letter a_row a_refusals a_image a_ahead : Nat) (sz : Nat) (t_hand : Int32) (t_first : Int32) (t_wide : Int32) (t_rim : Int32) (t_fill : Int32) (t_wall : Int32) (t_ceiling : Int32) (t_puff : Int32) (t_period : Int32) (t_second : Int32) (t_score : Int32) (t_thrown : Int32) (t_balls : Int32) (t_letters : Int32) (t_at : Int32) (t_value : Int32) (t_inRow : Int32) (t_imaged : Int32) (t_end : Int32) (t_cell : Int32) (t_steps : Int32) (t_highest : Int32) (t_struck : Int32) (letterA : Nat → Int32) (R : Int32) (hR : fX6_isDigit t_letters t_at letterA = some R) : Met l yX6_isDigit wsX6_isDigit ({ frames := 0, cells := 0, slots := 0, locals := 0 } : Room) (va_Pc [.ref a_t] (Wp (dC, dI) [(cI, .int)] [(a_t, .inr (6, [.int t_hand, .int t_first, .int t_wide, .int t_rim, .int t_fill, .int t_wall, .int t_ceiling, .int t_puff, .int t_period, .int t_second, .int t_score, .int t_thrown, .int t_balls, .ref a_kind, .ref a_size, .ref a_tight, .int t_letters, .ref a_letter, .int t_at, .int t_value, .int t_inRow, .ref a_row, .ref a_refusals, .int t_imaged, .ref a_image, .ref a_ahead, .int t_end, .int t_cell, .int t_steps, .int t_highest, .int t_struck])), (a_letter, .inl (cI, 80, .inl letterA))] sz)) (va_Qi (fun (r : Int32) (_ : Unit) => r = R) (Wq (dC, dI) [(a_t, .inr (6, [.int t_hand, .int t_first, .int t_wide, .int t_rim, .int t_fill, .int t_wall, .int t_ceiling, .int t_puff, .int t_period, .int t_second, .int t_score, .int t_thrown, .int t_balls, .ref a_kind, .ref a_size, .ref a_tight, .int t_letters, .ref a_letter, .int t_at, .int t_value, .int t_inRow, .ref a_row, .ref a_refusals, .int t_imaged, .ref a_image, .ref a_ahead, .int t_end, .int t_cell, .int t_steps, .int t_highest, .int t_struck])), (a_letter, .inl (cI, 80, .inl letterA))] sz (fun (_ : Unit) => ([(a_t, .inr (6, [.int t_hand, .int t_first, .int t_wide, .int t_rim, .int t_fill, .int t_wall, .int t_ceiling, .int t_puff, .int t_period, .int t_second, .int t_score, .int t_thrown, .int t_balls, .ref a_kind, .ref a_size, .ref a_tight, .int t_letters, .ref a_letter, .int t_at, .int t_value, .int t_inRow, .ref a_row, .ref a_refusals, .int t_imaged, .ref a_image, .ref a_ahead, .int t_end, .int t_cell, .int t_steps, .int t_highest, .int t_struck])), (a_letter, .inl (cI, 80, .inl letterA))] : va_W))) (va_A [(a_t, .inr (6, [.int t_hand, .int t_first, .int t_wide, .int t_rim, .int t_fill, .int t_wall, .int t_ceiling, .int t_puff, .int t_period, .int t_second, .int t_score, .int t_thrown, .int t_balls, .ref a_kind, .ref a_size, .ref a_tight, .int t_letters, .ref a_letter, .int t_at, .int t_value, .int t_inRow, .ref a_row, .ref a_refusals, .int t_imaged, .ref a_image, .ref a_ahead, .int t_end, .int t_cell, .int t_steps, .int t_highest, .int t_struck])), (a_letter, .inl (cI, 80, .inl letterA))] sz)) 0 0 (va_A [(a_t, .inr (6, [.int t_hand, .int t_first, .int t_wide, .int t_rim, .int t_fill, .int t_wall, .int t_ceiling, .int t_puff, .int t_period, .int t_second, .int t_score, .int t_thrown, .int t_balls, .ref a_kind, .ref a_size, .ref a_tight, .int t_letters, .ref a_letter, .int t_at, .int t_value, .int t_inRow, .ref a_row, .ref a_refusals, .int t_imaged, .ref a_image, .ref a_ahead, .int t_end, .int t_cell, .int t_steps, .int t_highest, .int t_struck])), (a_letter, .inl (cI, 80, .inl letterA))] sz) := by
  refine Met.ofW (cc := cX6_isDigit) (maxL := 1) (ret := (some .boolean)) (by decide) rfl ?_
  intro p e s m args below meth c s₁ B hml hv
  obtain ⟨hargs, hsz, hP, hK, hD0, hN⟩ := hv
  have hx := B.exec
  have hb := B.bytes
  have hr := B.returns
  have hts := atoms_spec (ws := wsX6_isDigit) B.pre
  have hown : s.vm.findClass RX6 = some m.cls := findClass_of_methodNamed B.named
  have hlocks := B.notSynchronized
  subst hsz
  have hD := hD0.self (sz := s.heap.size)
  obtain ⟨A, hAe⟩ : ∃ A, A = va_A [(a_t, .inr (6, [.int t_hand, .int t_first, .int t_wide, .int t_rim, .int t_fill, .int t_wall, .int t_ceiling, .int t_puff, .int t_period, .int t_second, .int t_score, .int t_thrown, .int t_balls, .ref a_kind, .ref a_size, .ref a_tight, .int t_letters, .ref a_letter, .int t_at, .int t_value, .int t_inRow, .ref a_row, .ref a_refusals, .int t_imaged, .ref a_image, .ref a_ahead, .int t_end, .int t_cell, .int t_steps, .int t_highest, .int t_struck])), (a_letter, .inl (cI, 80, .inl letterA))] s.heap.size := ⟨_, rfl⟩
  rw [← hAe] at hD
  have hA : ∀ q : Nat, s.heap.size ≤ q → A q := fun q h => by rw [hAe]; exact Or.inr h
  have hS : va_S A s.heap s.heap [] := va_S.rf
  have hl := lv_entry ([.ref a_t]) (n := 1) (Nat.le_of_ble_eq_true rfl)
  rw [e_of hargs, lg_entry_eq]
  generalize (lg_sl ([.ref a_t]) ++ List.replicate (1 - (lg_sl ([.ref a_t])).length) Slot.unset).toArray = ls at hl ⊢
  have hl : lv_has ls 1 [(0, .ref a_t)] := hl
  have hinX6 : ∀ w ∈ wsX60, w ∈ wsX6_isDigit := by decide +kernel
  refine w_q ({ frames := 0, cells := 0, slots := 0, locals := 0 } : Room) (fun Q0 hQ => ?_)
  rw [fX6_isDigit] at hR
  refine lv_aload_n hx hb dX6_isDigit_0 rfl (lv_at hl 0 rfl) ?_
  refine va_get (D := (dC, dI)) (ci := 6) (v := .int t_at) (C := RX6) (T := TX6) (N := 31) hx hb hts hinX6 hown hK hP 0 rfl rfl 18 (by decide) (hts (.fieldLink RX6 72 "PaperInBinModel" "at" "I") (by decide +kernel)) (fun _ h9 => h9) rfl dX6_isDigit_1 ?_
  refine lv_aload_n hx hb dX6_isDigit_4 rfl (lv_at hl 0 rfl) ?_
  refine va_get (D := (dC, dI)) (ci := 6) (v := .int t_letters) (C := RX6) (T := TX6) (N := 31) hx hb hts hinX6 hown hK hP 0 rfl rfl 16 (by decide) (hts (.fieldLink RX6 69 "PaperInBinModel" "letters" "I") (by decide +kernel)) (fun _ h9 => h9) rfl dX6_isDigit_5 ?_
  refine lv_icmp_ge (tgt := 43) hx hb dX6_isDigit_8 (by decide) (fun c8 => ?_) (fun c8 => ?_)
  · have hR := (if_pos c8).symm.trans hR
    refine lv_iconst (v := 0) hx hb dX6_isDigit_43 (by decide) ?_
    subst hQ
    subst hAe
    exact W.zret (ty := .boolean) (v := 0) hx hb hr rfl (fun t ht hW => ⟨⟨0, (), rfl, Option.some.inj hR, by rw [ht]; exact hP, hD⟩, hS.F ht⟩) hS.2.2 dX6_isDigit_44
  · have hR := (if_neg c8).symm.trans hR
    refine lv_aload_n hx hb dX6_isDigit_11 rfl (lv_at hl 0 rfl) ?_
    refine va_get (D := (dC, dI)) (ci := 6) (v := .ref a_letter) (C := RX6) (T := TX6) (N := 31) hx hb hts hinX6 hown hK hP 0 rfl rfl 17 (by decide) (hts (.fieldLink RX6 19 "PaperInBinModel" "letter" "[I") (by decide +kernel)) (fun _ h9 => h9) rfl dX6_isDigit_12 ?_
    refine lv_aload_n hx hb dX6_isDigit_15 rfl (lv_at hl 0 rfl) ?_
    refine va_get (D := (dC, dI)) (ci := 6) (v := .int t_at) (C := RX6) (T := TX6) (N := 31) hx hb hts hinX6 hown hK hP 0 rfl rfl 18 (by decide) (hts (.fieldLink RX6 72 "PaperInBinModel" "at" "I") (by decide +kernel)) (fun _ h9 => h9) rfl dX6_isDigit_16 ?_
    obtain ⟨g1, hR⟩ := g_in_s hR
    refine va_iald hx hb hK hP 1 0 rfl rfl g1 dX6_isDigit_19 ?_
    refine lv_bipush (v := 48) hx hb dX6_isDigit_20 (by decide) ?_
    refine lv_icmp_lt (tgt := 43) hx hb dX6_isDigit_22 (by decide) (fun c22 => ?_) (fun c22 => ?_)
    · have hR := (if_pos c22).symm.trans hR
      refine lv_iconst (v := 0) hx hb dX6_isDigit_43 (by decide) ?_
      subst hQ
      subst hAe
      exact W.zret (ty := .boolean) (v := 0) hx hb hr rfl (fun t ht hW => ⟨⟨0, (), rfl, Option.some.inj hR, by rw [ht]; exact hP, hD⟩, hS.F ht⟩) hS.2.2 dX6_isDigit_44
    · have hR := (if_neg c22).symm.trans hR
      refine lv_aload_n hx hb dX6_isDigit_25 rfl (lv_at hl 0 rfl) ?_
      refine va_get (D := (dC, dI)) (ci := 6) (v := .ref a_letter) (C := RX6) (T := TX6) (N := 31) hx hb hts hinX6 hown hK hP 0 rfl rfl 17 (by decide) (hts (.fieldLink RX6 19 "PaperInBinModel" "letter" "[I") (by decide +kernel)) (fun _ h9 => h9) rfl dX6_isDigit_26 ?_
      refine lv_aload_n hx hb dX6_isDigit_29 rfl (lv_at hl 0 rfl) ?_
      refine va_get (D := (dC, dI)) (ci := 6) (v := .int t_at) (C := RX6) (T := TX6) (N := 31) hx hb hts hinX6 hown hK hP 0 rfl rfl 18 (by decide) (hts (.fieldLink RX6 72 "PaperInBinModel" "at" "I") (by decide +kernel)) (fun _ h9 => h9) rfl dX6_isDigit_30 ?_
      obtain ⟨g2, hR⟩ := g_in_s hR
      refine va_iald hx hb hK hP 1 0 rfl rfl g2 dX6_isDigit_33 ?_
      refine lv_bipush (v := 57) hx hb dX6_isDigit_34 (by decide) ?_
      refine lv_icmp_gt (tgt := 43) hx hb dX6_isDigit_36 (by decide) (fun c36 => ?_) (fun c36 => ?_)
      · have hR := (if_pos c36).symm.trans hR
        refine lv_iconst (v := 0) hx hb dX6_isDigit_43 (by decide) ?_
        subst hQ
        subst hAe
        exact W.zret (ty := .boolean) (v := 0) hx hb hr rfl (fun t ht hW => ⟨⟨0, (), rfl, Option.some.inj hR, by rw [ht]; exact hP, hD⟩, hS.F ht⟩) hS.2.2 dX6_isDigit_44
      · have hR := (if_neg c36).symm.trans hR
        refine lv_iconst (v := 1) hx hb dX6_isDigit_39 (by decide) ?_
        refine lv_goto (tgt := 44) hx hb dX6_isDigit_40 (by decide) ?_
        subst hQ
        subst hAe
        exact W.zret (ty := .boolean) (v := 1) hx hb hr rfl (fun t ht hW => ⟨⟨1, (), rfl, Option.some.inj hR, by rw [ht]; exact hP, hD⟩, hS.F ht⟩) hS.2.2 dX6_isDigit_44
def lX6_number_16 (x1 : Int32) (t_letters : Int32) (letterA : Nat → Int32) : Nat → Int32 → Int32 → Int32 → Option (Int32 × Int32 × Int32)
  | 0, _, _, _ => none
  | n + 1, x2, t_at, t_value =>
    if x1 ≤ x2 then (
     some (1, t_at, t_value))
    else (
    b1 (fX6_isDigit t_letters t_at letterA) (fun r1 =>
    if r1 = 0 then (
     some (1, t_at, t_value))
    else (
    g_in t_at 80 (
    lX6_number_16 x1 t_letters letterA n (x2 + 1) (t_at + 1) (((10 * t_value) + (letterA (t_at).toNatClampNeg)) - 48)))))
def fX6_number (x1 : Int32) (t_letters : Int32) (t_at : Int32) (t_value : Int32) (letterA : Nat → Int32) : Option (Int32 × Int32 × Int32) :=
  b1 (fX6_isDigit t_letters t_at letterA) (fun r4 =>
  if r4 = 0 then (
   some (0, t_at, t_value))
  else (
  lX6_number_16 x1 t_letters letterA (100) 0 t_at 0))
set_option maxHeartbeats 4000000 in
set_option maxRecDepth 100000 in
theorem kX6_number (l : Launch) (dC : Nat → ClassId) (dI : Nat → Nat → Nat) (cI : ClassId) (a_t a_kind a_size a_tight a_letter a_row a_refusals a_image a_ahead : Nat) (sz : Nat) (x1 : Int32) (t_hand : Int32) (t_first : Int32) (t_wide : Int32) (t_rim : Int32) (t_fill : Int32) (t_wall : Int32) (t_ceiling : Int32) (t_puff : Int32) (t_period : Int32) (t_second : Int32) (t_score : Int32) (t_thrown : Int32) (t_balls : Int32) (t_letters : Int32) (t_at : Int32) (t_value : Int32) (t_inRow : Int32) (t_imaged : Int32) (t_end : Int32) (t_cell : Int32) (t_steps : Int32) (t_highest : Int32) (t_struck : Int32) (letterA : Nat → Int32) (R : Int32 × Int32 × Int32) (hR : fX6_number x1 t_letters t_at t_value letterA = some R) : Met l yX6_number wsX6_number ({ frames := 1, cells := 0, slots := 0, locals := 20 } : Room) (va_Pc [.ref a_t, .int x1] (Wp (dC, dI) [(cI, .int)] [(a_t, .inr (6, [.int t_hand, .int t_first, .int t_wide, .int t_rim, .int t_fill, .int t_wall, .int t_ceiling, .int t_puff, .int t_period, .int t_second, .int t_score, .int t_thrown, .int t_balls, .ref a_kind, .ref a_size, .ref a_tight, .int t_letters, .ref a_letter, .int t_at, .int t_value, .int t_inRow, .ref a_row, .ref a_refusals, .int t_imaged, .ref a_image, .ref a_ahead, .int t_end, .int t_cell, .int t_steps, .int t_highest, .int t_struck])), (a_letter, .inl (cI, 80, .inl letterA))] sz)) (va_Qi (fun (r : Int32) (u : Int32 × Int32) => (r, u) = R) (Wq (dC, dI) [(a_t, .inr (6, [.int t_hand, .int t_first, .int t_wide, .int t_rim, .int t_fill, .int t_wall, .int t_ceiling, .int t_puff, .int t_period, .int t_second, .int t_score, .int t_thrown, .int t_balls, .ref a_kind, .ref a_size, .ref a_tight, .int t_letters, .ref a_letter, .int t_at, .int t_value, .int t_inRow, .ref a_row, .ref a_refusals, .int t_imaged, .ref a_image, .ref a_ahead, .int t_end, .int t_cell, .int t_steps, .int t_highest, .int t_struck])), (a_letter, .inl (cI, 80, .inl letterA))] sz (fun (u : Int32 × Int32) => ([(a_t, .inr (6, [.int t_hand, .int t_first, .int t_wide, .int t_rim, .int t_fill, .int t_wall, .int t_ceiling, .int t_puff, .int t_period, .int t_second, .int t_score, .int t_thrown, .int t_balls, .ref a_kind, .ref a_size, .ref a_tight, .int t_letters, .ref a_letter, .int u.1, .int u.2, .int t_inRow, .ref a_row, .ref a_refusals, .int t_imaged, .ref a_image, .ref a_ahead, .int t_end, .int t_cell, .int t_steps, .int t_highest, .int t_struck])), (a_letter, .inl (cI, 80, .inl letterA))] : va_W))) (va_A [(a_t, .inr (6, [.int t_hand, .int t_first, .int t_wide, .int t_rim, .int t_fill, .int t_wall, .int t_ceiling, .int t_puff, .int t_period, .int t_second, .int t_score, .int t_thrown, .int t_balls, .ref a_kind, .ref a_size, .ref a_tight, .int t_letters, .ref a_letter, .int t_at, .int t_value, .int t_inRow, .ref a_row, .ref a_refusals, .int t_imaged, .ref a_image, .ref a_ahead, .int t_end, .int t_cell, .int t_steps, .int t_highest, .int t_struck])), (a_letter, .inl (cI, 80, .inl letterA))] sz)) 0 0 (va_A [(a_t, .inr (6, [.int t_hand, .int t_first, .int t_wide, .int t_rim, .int t_fill, .int t_wall, .int t_ceiling, .int t_puff, .int t_period, .int t_second, .int t_score, .int t_thrown, .int t_balls, .ref a_kind, .ref a_size, .ref a_tight, .int t_letters, .ref a_letter, .int t_at, .int t_value, .int t_inRow, .ref a_row, .ref a_refusals, .int t_imaged, .ref a_image, .ref a_ahead, .int t_end, .int t_cell, .int t_steps, .int t_highest, .int t_struck])), (a_letter, .inl (cI, 80, .inl letterA))] sz) := by
  refine Met.ofW (cc := cX6_number) (maxL := 3) (ret := (some .boolean)) (by decide) rfl ?_
  intro p e s m args below meth c s₁ B hml hv
  obtain ⟨hargs, hsz, hP, hK, hD0, hN⟩ := hv
  have hx := B.exec
  have hb := B.bytes
  have hr := B.returns
  have hts := atoms_spec (ws := wsX6_number) B.pre
  have hown : s.vm.findClass RX6 = some m.cls := findClass_of_methodNamed B.named
  have hlocks := B.notSynchronized
  subst hsz
  have hD := hD0.self (sz := s.heap.size)
  obtain ⟨A, hAe⟩ : ∃ A, A = va_A [(a_t, .inr (6, [.int t_hand, .int t_first, .int t_wide, .int t_rim, .int t_fill, .int t_wall, .int t_ceiling, .int t_puff, .int t_period, .int t_second, .int t_score, .int t_thrown, .int t_balls, .ref a_kind, .ref a_size, .ref a_tight, .int t_letters, .ref a_letter, .int t_at, .int t_value, .int t_inRow, .ref a_row, .ref a_refusals, .int t_imaged, .ref a_image, .ref a_ahead, .int t_end, .int t_cell, .int t_steps, .int t_highest, .int t_struck])), (a_letter, .inl (cI, 80, .inl letterA))] s.heap.size := ⟨_, rfl⟩
  rw [← hAe] at hD
  have hA : ∀ q : Nat, s.heap.size ≤ q → A q := fun q h => by rw [hAe]; exact Or.inr h
  have hS : va_S A s.heap s.heap [] := va_S.rf
  have hl := lv_entry ([.ref a_t, .int x1]) (n := 3) (Nat.le_of_ble_eq_true rfl)
  rw [e_of hargs, lg_entry_eq]
  generalize (lg_sl ([.ref a_t, .int x1]) ++ List.replicate (3 - (lg_sl ([.ref a_t, .int x1])).length) Slot.unset).toArray = ls at hl ⊢
  have hl : lv_has ls 3 [(0, .ref a_t), (1, .int x1)] := hl
  have hinX6 : ∀ w ∈ wsX60, w ∈ wsX6_number := by decide +kernel
  refine w_q ({ frames := 1, cells := 0, slots := 0, locals := 20 } : Room) (fun Q0 hQ => ?_)
  have K16 : ∀ (n16 : Nat) (x2 : Int32) (t_at : Int32) (t_value : Int32) (H : Heap) (locs : List Loc), va_P (dC, dI) vwCl [(a_t, .inr (6, [.int t_hand, .int t_first, .int t_wide, .int t_rim, .int t_fill, .int t_wall, .int t_ceiling, .int t_puff, .int t_period, .int t_second, .int t_score, .int t_thrown, .int t_balls, .ref a_kind, .ref a_size, .ref a_tight, .int t_letters, .ref a_letter, .int t_at, .int t_value, .int t_inRow, .ref a_row, .ref a_refusals, .int t_imaged, .ref a_image, .ref a_ahead, .int t_end, .int t_cell, .int t_steps, .int t_highest, .int t_struck])), (a_letter, .inl (cI, 80, .inl letterA))] H → va_D A [(a_t, .inr (6, [.int t_hand, .int t_first, .int t_wide, .int t_rim, .int t_fill, .int t_wall, .int t_ceiling, .int t_puff, .int t_period, .int t_second, .int t_score, .int t_thrown, .int t_balls, .ref a_kind, .ref a_size, .ref a_tight, .int t_letters, .ref a_letter, .int t_at, .int t_value, .int t_inRow, .ref a_row, .ref a_refusals, .int t_imaged, .ref a_image, .ref a_ahead, .int t_end, .int t_cell, .int t_steps, .int t_highest, .int t_struck])), (a_letter, .inl (cI, 80, .inl letterA))] → va_S A s.heap H locs → ∀ (ls : Array Slot), lv_has ls 3 [(0, .ref a_t), (1, .int x1), (2, .int x2)] → lX6_number_16 x1 t_letters letterA n16 x2 t_at t_value = some R → W p l e ({ frames := 1, cells := 0, slots := 0, locals := 20 } : Room) s m args below meth c H locs 0 0 Q0 (F0 m 16 ls []) := by
    intro n16
    induction n16 with
    | zero =>
      intro x2 t_at t_value H locs hP hD hS ls hl hR
      rw [lX6_number_16] at hR
      cases hR
    | succ n16 ih16 =>
      intro x2 t_at t_value H locs hP hD hS ls hl hR
      rw [lX6_number_16] at hR
      refine lv_iload_n hx hb dX6_number_16 rfl (lv_at hl 2 rfl) ?_
      refine lv_iload_n hx hb dX6_number_17 rfl (lv_at hl 1 rfl) ?_
      refine lv_icmp_ge (tgt := 65) hx hb dX6_number_18 (by decide) (fun c18 => ?_) (fun c18 => ?_)
      · have hR := (if_pos c18).symm.trans hR
        refine lv_iconst (v := 1) hx hb dX6_number_65 (by decide) ?_
        subst hQ
        subst hAe
        exact W.zret (ty := .boolean) (v := 1) hx hb hr rfl (fun t ht hW => ⟨⟨1, (t_at, t_value), rfl, Option.some.inj hR, by rw [ht]; exact hP, hD⟩, hS.F ht⟩) hS.2.2 dX6_number_66
      · have hR := (if_neg c18).symm.trans hR
        refine lv_aload_n hx hb dX6_number_21 rfl (lv_at hl 0 rfl) ?_
        obtain ⟨r1, hu2, hR⟩ := b1_s hR
        refine cl_ViN (As := []) (rest := []) (wc := [(a_t, .inr (6, [.int t_hand, .int t_first, .int t_wide, .int t_rim, .int t_fill, .int t_wall, .int t_ceiling, .int t_puff, .int t_period, .int t_second, .int t_score, .int t_thrown, .int t_balls, .ref a_kind, .ref a_size, .ref a_tight, .int t_letters, .ref a_letter, .int t_at, .int t_value, .int t_inRow, .ref a_row, .ref a_refusals, .int t_imaged, .ref a_image, .ref a_ahead, .int t_end, .int t_cell, .int t_steps, .int t_highest, .int t_struck])), (a_letter, .inl (cI, 80, .inl letterA))]) (wr := []) ⟨hx, hb, hml, hown, hts⟩ (kX6_isDigit l dC dI cI a_t a_kind a_size a_tight a_letter a_row a_refusals a_image a_ahead H.size t_hand t_first t_wide t_rim t_fill t_wall t_ceiling t_puff t_period t_second t_score t_thrown t_balls t_letters t_at t_value t_inRow t_imaged t_end t_cell t_steps t_highest t_struck letterA r1 hu2) (cwV 0 hts gX6_number_X6_isDigit rfl rfl rfl (by decide +kernel) ⟨Nat.le_of_ble_eq_true rfl, Nat.le_of_ble_eq_true rfl⟩) hK hN hP hD hS hA (va_recv hK hP (ci := 6) (q0 := 0) rfl rfl) [0, 1] [] rfl rfl rfl rfl rfl (by decide) rfl hl.1 rfl (Nat.le_of_ble_eq_true rfl) dX6_number_22 (fun H locs hP hD hS => ?_)
        have hP : va_P (dC, dI) vwCl [(a_t, .inr (6, [.int t_hand, .int t_first, .int t_wide, .int t_rim, .int t_fill, .int t_wall, .int t_ceiling, .int t_puff, .int t_period, .int t_second, .int t_score, .int t_thrown, .int t_balls, .ref a_kind, .ref a_size, .ref a_tight, .int t_letters, .ref a_letter, .int t_at, .int t_value, .int t_inRow, .ref a_row, .ref a_refusals, .int t_imaged, .ref a_image, .ref a_ahead, .int t_end, .int t_cell, .int t_steps, .int t_highest, .int t_struck])), (a_letter, .inl (cI, 80, .inl letterA))] H := hP
        have hD : va_D A [(a_t, .inr (6, [.int t_hand, .int t_first, .int t_wide, .int t_rim, .int t_fill, .int t_wall, .int t_ceiling, .int t_puff, .int t_period, .int t_second, .int t_score, .int t_thrown, .int t_balls, .ref a_kind, .ref a_size, .ref a_tight, .int t_letters, .ref a_letter, .int t_at, .int t_value, .int t_inRow, .ref a_row, .ref a_refusals, .int t_imaged, .ref a_image, .ref a_ahead, .int t_end, .int t_cell, .int t_steps, .int t_highest, .int t_struck])), (a_letter, .inl (cI, 80, .inl letterA))] := hD
        refine lv_if_eq (tgt := 65) hx hb dX6_number_25 (by decide) (fun c25 => ?_) (fun c25 => ?_)
        · have hR := (if_pos c25).symm.trans hR
          refine lv_iconst (v := 1) hx hb dX6_number_65 (by decide) ?_
          subst hQ
          subst hAe
          exact W.zret (ty := .boolean) (v := 1) hx hb hr rfl (fun t ht hW => ⟨⟨1, (t_at, t_value), rfl, Option.some.inj hR, by rw [ht]; exact hP, hD⟩, hS.F ht⟩) hS.2.2 dX6_number_66
        · have hR := (if_neg c25).symm.trans hR
          refine lv_aload_n hx hb dX6_number_28 rfl (lv_at hl 0 rfl) ?_
          refine lv_bipush (v := 10) hx hb dX6_number_29 (by decide) ?_
          refine lv_aload_n hx hb dX6_number_31 rfl (lv_at hl 0 rfl) ?_
          refine va_get (D := (dC, dI)) (ci := 6) (v := .int t_value) (C := RX6) (T := TX6) (N := 31) hx hb hts hinX6 hown hK hP 0 rfl rfl 19 (by decide) (hts (.fieldLink RX6 79 "PaperInBinModel" "value" "I") (by decide +kernel)) (fun _ h9 => h9) rfl dX6_number_32 ?_
          refine lv_imul hx hb dX6_number_35 ?_
          refine lv_aload_n hx hb dX6_number_36 rfl (lv_at hl 0 rfl) ?_
          refine va_get (D := (dC, dI)) (ci := 6) (v := .ref a_letter) (C := RX6) (T := TX6) (N := 31) hx hb hts hinX6 hown hK hP 0 rfl rfl 17 (by decide) (hts (.fieldLink RX6 19 "PaperInBinModel" "letter" "[I") (by decide +kernel)) (fun _ h9 => h9) rfl dX6_number_37 ?_
          refine lv_aload_n hx hb dX6_number_40 rfl (lv_at hl 0 rfl) ?_
          refine lv_dup hx hb dX6_number_41 rfl ?_
          refine va_get (D := (dC, dI)) (ci := 6) (v := .int t_at) (C := RX6) (T := TX6) (N := 31) hx hb hts hinX6 hown hK hP 0 rfl rfl 18 (by decide) (hts (.fieldLink RX6 72 "PaperInBinModel" "at" "I") (by decide +kernel)) (fun _ h9 => h9) rfl dX6_number_42 ?_
          refine lv_dup_x1 hx hb dX6_number_45 rfl rfl ?_
          refine lv_iconst (v := 1) hx hb dX6_number_46 (by decide) ?_
          refine lv_iadd hx hb dX6_number_47 ?_
          refine va_put (D := (dC, dI)) (ci := 6) (v := .int (t_at + 1)) (ty := .int) (C := RX6) (T := TX6) (N := 31) hx hb hts hinX6 tyX6 tyX6_ok nmX6 hown hK hP hD hS 0 rfl rfl 18 (by decide) (hts (.fieldLink RX6 72 "PaperInBinModel" "at" "I") (by decide +kernel)) (fun _ h9 => h9) rfl (tyX6_ok 18 (by decide)) rfl rfl (Nat.le_of_ble_eq_true rfl) dX6_number_48 (fun H locs hP hD hS => ?_)
          have hP : va_P (dC, dI) vwCl [(a_t, .inr (6, [.int t_hand, .int t_first, .int t_wide, .int t_rim, .int t_fill, .int t_wall, .int t_ceiling, .int t_puff, .int t_period, .int t_second, .int t_score, .int t_thrown, .int t_balls, .ref a_kind, .ref a_size, .ref a_tight, .int t_letters, .ref a_letter, .int (t_at + 1), .int t_value, .int t_inRow, .ref a_row, .ref a_refusals, .int t_imaged, .ref a_image, .ref a_ahead, .int t_end, .int t_cell, .int t_steps, .int t_highest, .int t_struck])), (a_letter, .inl (cI, 80, .inl letterA))] H := hP
          have hD : va_D A [(a_t, .inr (6, [.int t_hand, .int t_first, .int t_wide, .int t_rim, .int t_fill, .int t_wall, .int t_ceiling, .int t_puff, .int t_period, .int t_second, .int t_score, .int t_thrown, .int t_balls, .ref a_kind, .ref a_size, .ref a_tight, .int t_letters, .ref a_letter, .int (t_at + 1), .int t_value, .int t_inRow, .ref a_row, .ref a_refusals, .int t_imaged, .ref a_image, .ref a_ahead, .int t_end, .int t_cell, .int t_steps, .int t_highest, .int t_struck])), (a_letter, .inl (cI, 80, .inl letterA))] := hD
          obtain ⟨g3, hR⟩ := g_in_s hR
          refine va_iald hx hb hK hP 1 0 rfl rfl g3 dX6_number_51 ?_
          refine lv_iadd hx hb dX6_number_52 ?_
          refine lv_bipush (v := 48) hx hb dX6_number_53 (by decide) ?_
          refine lv_isub hx hb dX6_number_55 ?_
          refine va_put (D := (dC, dI)) (ci := 6) (v := .int (((10 * t_value) + (letterA (t_at).toNatClampNeg)) - 48)) (ty := .int) (C := RX6) (T := TX6) (N := 31) hx hb hts hinX6 tyX6 tyX6_ok nmX6 hown hK hP hD hS 0 rfl rfl 19 (by decide) (hts (.fieldLink RX6 79 "PaperInBinModel" "value" "I") (by decide +kernel)) (fun _ h9 => h9) rfl (tyX6_ok 19 (by decide)) rfl rfl (Nat.le_of_ble_eq_true rfl) dX6_number_56 (fun H locs hP hD hS => ?_)
          have hP : va_P (dC, dI) vwCl [(a_t, .inr (6, [.int t_hand, .int t_first, .int t_wide, .int t_rim, .int t_fill, .int t_wall, .int t_ceiling, .int t_puff, .int t_period, .int t_second, .int t_score, .int t_thrown, .int t_balls, .ref a_kind, .ref a_size, .ref a_tight, .int t_letters, .ref a_letter, .int (t_at + 1), .int (((10 * t_value) + (letterA (t_at).toNatClampNeg)) - 48), .int t_inRow, .ref a_row, .ref a_refusals, .int t_imaged, .ref a_image, .ref a_ahead, .int t_end, .int t_cell, .int t_steps, .int t_highest, .int t_struck])), (a_letter, .inl (cI, 80, .inl letterA))] H := hP
          have hD : va_D A [(a_t, .inr (6, [.int t_hand, .int t_first, .int t_wide, .int t_rim, .int t_fill, .int t_wall, .int t_ceiling, .int t_puff, .int t_period, .int t_second, .int t_score, .int t_thrown, .int t_balls, .ref a_kind, .ref a_size, .ref a_tight, .int t_letters, .ref a_letter, .int (t_at + 1), .int (((10 * t_value) + (letterA (t_at).toNatClampNeg)) - 48), .int t_inRow, .ref a_row, .ref a_refusals, .int t_imaged, .ref a_image, .ref a_ahead, .int t_end, .int t_cell, .int t_steps, .int t_highest, .int t_struck])), (a_letter, .inl (cI, 80, .inl letterA))] := hD
          refine lv_iinc (v := (x2 + 1)) (lv' := [(2, .int (x2 + 1)), (0, .ref a_t), (1, .int x1)]) hx hb dX6_number_59 hl (k := 2) rfl rfl (by decide) rfl (fun ls hl => ?_)
          refine lv_goto (tgt := 16) hx hb dX6_number_62 (by decide) ?_
          exact ih16 (x2 + 1) (t_at + 1) (((10 * t_value) + (letterA (t_at).toNatClampNeg)) - 48) _ _ hP hD hS _ (lv_sub hl [1, 2, 0] rfl) hR
  rw [fX6_number] at hR
  refine lv_aload_n hx hb dX6_number_0 rfl (lv_at hl 0 rfl) ?_
  obtain ⟨r4, hu5, hR⟩ := b1_s hR
  refine cl_ViN (As := []) (rest := []) (wc := [(a_t, .inr (6, [.int t_hand, .int t_first, .int t_wide, .int t_rim, .int t_fill, .int t_wall, .int t_ceiling, .int t_puff, .int t_period, .int t_second, .int t_score, .int t_thrown, .int t_balls, .ref a_kind, .ref a_size, .ref a_tight, .int t_letters, .ref a_letter, .int t_at, .int t_value, .int t_inRow, .ref a_row, .ref a_refusals, .int t_imaged, .ref a_image, .ref a_ahead, .int t_end, .int t_cell, .int t_steps, .int t_highest, .int t_struck])), (a_letter, .inl (cI, 80, .inl letterA))]) (wr := []) ⟨hx, hb, hml, hown, hts⟩ (kX6_isDigit l dC dI cI a_t a_kind a_size a_tight a_letter a_row a_refusals a_image a_ahead s.heap.size t_hand t_first t_wide t_rim t_fill t_wall t_ceiling t_puff t_period t_second t_score t_thrown t_balls t_letters t_at t_value t_inRow t_imaged t_end t_cell t_steps t_highest t_struck letterA r4 hu5) (cwV 0 hts gX6_number_X6_isDigit rfl rfl rfl (by decide +kernel) ⟨Nat.le_of_ble_eq_true rfl, Nat.le_of_ble_eq_true rfl⟩) hK hN hP hD hS hA (va_recv hK hP (ci := 6) (q0 := 0) rfl rfl) [0, 1] [] rfl rfl rfl rfl rfl (by decide) rfl hl.1 rfl (Nat.le_of_ble_eq_true rfl) dX6_number_1 (fun H locs hP hD hS => ?_)
  have hP : va_P (dC, dI) vwCl [(a_t, .inr (6, [.int t_hand, .int t_first, .int t_wide, .int t_rim, .int t_fill, .int t_wall, .int t_ceiling, .int t_puff, .int t_period, .int t_second, .int t_score, .int t_thrown, .int t_balls, .ref a_kind, .ref a_size, .ref a_tight, .int t_letters, .ref a_letter, .int t_at, .int t_value, .int t_inRow, .ref a_row, .ref a_refusals, .int t_imaged, .ref a_image, .ref a_ahead, .int t_end, .int t_cell, .int t_steps, .int t_highest, .int t_struck])), (a_letter, .inl (cI, 80, .inl letterA))] H := hP
  have hD : va_D A [(a_t, .inr (6, [.int t_hand, .int t_first, .int t_wide, .int t_rim, .int t_fill, .int t_wall, .int t_ceiling, .int t_puff, .int t_period, .int t_second, .int t_score, .int t_thrown, .int t_balls, .ref a_kind, .ref a_size, .ref a_tight, .int t_letters, .ref a_letter, .int t_at, .int t_value, .int t_inRow, .ref a_row, .ref a_refusals, .int t_imaged, .ref a_image, .ref a_ahead, .int t_end, .int t_cell, .int t_steps, .int t_highest, .int t_struck])), (a_letter, .inl (cI, 80, .inl letterA))] := hD
  refine lv_if_ne (tgt := 9) hx hb dX6_number_4 (by decide) (fun c4 => ?_) (fun c4 => ?_)
  · have hR := (if_neg c4).symm.trans hR
    refine lv_aload_n hx hb dX6_number_9 rfl (lv_at hl 0 rfl) ?_
    refine lv_iconst (v := 0) hx hb dX6_number_10 (by decide) ?_
    refine va_put (D := (dC, dI)) (ci := 6) (v := .int 0) (ty := .int) (C := RX6) (T := TX6) (N := 31) hx hb hts hinX6 tyX6 tyX6_ok nmX6 hown hK hP hD hS 0 rfl rfl 19 (by decide) (hts (.fieldLink RX6 79 "PaperInBinModel" "value" "I") (by decide +kernel)) (fun _ h9 => h9) rfl (tyX6_ok 19 (by decide)) rfl rfl (Nat.le_of_ble_eq_true rfl) dX6_number_11 (fun H locs hP hD hS => ?_)
    have hP : va_P (dC, dI) vwCl [(a_t, .inr (6, [.int t_hand, .int t_first, .int t_wide, .int t_rim, .int t_fill, .int t_wall, .int t_ceiling, .int t_puff, .int t_period, .int t_second, .int t_score, .int t_thrown, .int t_balls, .ref a_kind, .ref a_size, .ref a_tight, .int t_letters, .ref a_letter, .int t_at, .int 0, .int t_inRow, .ref a_row, .ref a_refusals, .int t_imaged, .ref a_image, .ref a_ahead, .int t_end, .int t_cell, .int t_steps, .int t_highest, .int t_struck])), (a_letter, .inl (cI, 80, .inl letterA))] H := hP
    have hD : va_D A [(a_t, .inr (6, [.int t_hand, .int t_first, .int t_wide, .int t_rim, .int t_fill, .int t_wall, .int t_ceiling, .int t_puff, .int t_period, .int t_second, .int t_score, .int t_thrown, .int t_balls, .ref a_kind, .ref a_size, .ref a_tight, .int t_letters, .ref a_letter, .int t_at, .int 0, .int t_inRow, .ref a_row, .ref a_refusals, .int t_imaged, .ref a_image, .ref a_ahead, .int t_end, .int t_cell, .int t_steps, .int t_highest, .int t_struck])), (a_letter, .inl (cI, 80, .inl letterA))] := hD
    refine lv_iconst (v := 0) hx hb dX6_number_14 (by decide) ?_
    refine lv_istore_n (lv' := [(2, .int 0), (0, .ref a_t), (1, .int x1)]) hx hb dX6_number_15 rfl hl (by decide) rfl (fun ls hl => ?_)
    exact K16 (100) 0 t_at 0 _ _ hP hD hS _ (lv_sub hl [1, 2, 0] rfl) hR
  · have hR := (if_pos c4).symm.trans hR
    refine lv_iconst (v := 0) hx hb dX6_number_7 (by decide) ?_
    subst hQ
    subst hAe
    exact W.zret (ty := .boolean) (v := 0) hx hb hr rfl (fun t ht hW => ⟨⟨0, (t_at, t_value), rfl, Option.some.inj hR, by rw [ht]; exact hP, hD⟩, hS.F ht⟩) hS.2.2 dX6_number_8
def fX6_drag (x1 : Int32) (sizeA : Nat → Int32) (tightA : Nat → Int32) (kindA : Nat → Int32) : Option (Int32) :=
  g_in x1 5 (
  g_in x1 5 (
  g_in x1 5 (
  if (kindA (x1).toNatClampNeg) = 1 then (
   some (((if (0 : Int32) < (((sizeA (x1).toNatClampNeg) / 3) - ((tightA (x1).toNatClampNeg) / 4)) then (((sizeA (x1).toNatClampNeg) / 3) - ((tightA (x1).toNatClampNeg) / 4)) else (0 : Int32)) / 2))) else
  if (kindA (x1).toNatClampNeg) = 2 then (
   some (0)) else
  if (kindA (x1).toNatClampNeg) = 3 then (
   some (((if (0 : Int32) < (((sizeA (x1).toNatClampNeg) / 3) - ((tightA (x1).toNatClampNeg) / 4)) then (((sizeA (x1).toNatClampNeg) / 3) - ((tightA (x1).toNatClampNeg) / 4)) else (0 : Int32)) + 1))) else
  if (kindA (x1).toNatClampNeg) = 4 then (
   some (((if (0 : Int32) < (((sizeA (x1).toNatClampNeg) / 3) - ((tightA (x1).toNatClampNeg) / 4)) then (((sizeA (x1).toNatClampNeg) / 3) - ((tightA (x1).toNatClampNeg) / 4)) else (0 : Int32)) + 2))) else
  if (kindA (x1).toNatClampNeg) = 5 then (
   some (0)) else
  some ((if (0 : Int32) < (((sizeA (x1).toNatClampNeg) / 3) - ((tightA (x1).toNatClampNeg) / 4)) then (((sizeA (x1).toNatClampNeg) / 3) - ((tightA (x1).toNatClampNeg) / 4)) else (0 : Int32))))))
set_option maxHeartbeats 4000000 in
set_option maxRecDepth 100000 in
theorem kX6_drag (l : Launch) (dC : Nat → ClassId) (dI : Nat → Nat → Nat) (cI : ClassId) (a_t a_kind a_size a_tight a_letter a_row a_refusals a_image a_ahead : Nat) (sz : Nat) (x1 : Int32) (t_hand : Int32) (t_first : Int32) (t_wide : Int32) (t_rim : Int32) (t_fill : Int32) (t_wall : Int32) (t_ceiling : Int32) (t_puff : Int32) (t_period : Int32) (t_second : Int32) (t_score : Int32) (t_thrown : Int32) (t_balls : Int32) (t_letters : Int32) (t_at : Int32) (t_value : Int32) (t_inRow : Int32) (t_imaged : Int32) (t_end : Int32) (t_cell : Int32) (t_steps : Int32) (t_highest : Int32) (t_struck : Int32) (sizeA : Nat → Int32) (tightA : Nat → Int32) (kindA : Nat → Int32) (R : Int32) (hR : fX6_drag x1 sizeA tightA kindA = some R) : Met l yX6_drag wsX6_drag ({ frames := 1, cells := 0, slots := 0, locals := 21 } : Room) (va_Pc [.ref a_t, .int x1] (Wp (dC, dI) [(cI, .int)] [(a_t, .inr (6, [.int t_hand, .int t_first, .int t_wide, .int t_rim, .int t_fill, .int t_wall, .int t_ceiling, .int t_puff, .int t_period, .int t_second, .int t_score, .int t_thrown, .int t_balls, .ref a_kind, .ref a_size, .ref a_tight, .int t_letters, .ref a_letter, .int t_at, .int t_value, .int t_inRow, .ref a_row, .ref a_refusals, .int t_imaged, .ref a_image, .ref a_ahead, .int t_end, .int t_cell, .int t_steps, .int t_highest, .int t_struck])), (a_size, .inl (cI, 5, .inl sizeA)), (a_tight, .inl (cI, 5, .inl tightA)), (a_kind, .inl (cI, 5, .inl kindA))] sz)) (va_Qi (fun (r : Int32) (_ : Unit) => r = R) (Wq (dC, dI) [(a_t, .inr (6, [.int t_hand, .int t_first, .int t_wide, .int t_rim, .int t_fill, .int t_wall, .int t_ceiling, .int t_puff, .int t_period, .int t_second, .int t_score, .int t_thrown, .int t_balls, .ref a_kind, .ref a_size, .ref a_tight, .int t_letters, .ref a_letter, .int t_at, .int t_value, .int t_inRow, .ref a_row, .ref a_refusals, .int t_imaged, .ref a_image, .ref a_ahead, .int t_end, .int t_cell, .int t_steps, .int t_highest, .int t_struck])), (a_size, .inl (cI, 5, .inl sizeA)), (a_tight, .inl (cI, 5, .inl tightA)), (a_kind, .inl (cI, 5, .inl kindA))] sz (fun (_ : Unit) => ([(a_t, .inr (6, [.int t_hand, .int t_first, .int t_wide, .int t_rim, .int t_fill, .int t_wall, .int t_ceiling, .int t_puff, .int t_period, .int t_second, .int t_score, .int t_thrown, .int t_balls, .ref a_kind, .ref a_size, .ref a_tight, .int t_letters, .ref a_letter, .int t_at, .int t_value, .int t_inRow, .ref a_row, .ref a_refusals, .int t_imaged, .ref a_image, .ref a_ahead, .int t_end, .int t_cell, .int t_steps, .int t_highest, .int t_struck])), (a_size, .inl (cI, 5, .inl sizeA)), (a_tight, .inl (cI, 5, .inl tightA)), (a_kind, .inl (cI, 5, .inl kindA))] : va_W))) (va_A [(a_t, .inr (6, [.int t_hand, .int t_first, .int t_wide, .int t_rim, .int t_fill, .int t_wall, .int t_ceiling, .int t_puff, .int t_period, .int t_second, .int t_score, .int t_thrown, .int t_balls, .ref a_kind, .ref a_size, .ref a_tight, .int t_letters, .ref a_letter, .int t_at, .int t_value, .int t_inRow, .ref a_row, .ref a_refusals, .int t_imaged, .ref a_image, .ref a_ahead, .int t_end, .int t_cell, .int t_steps, .int t_highest, .int t_struck])), (a_size, .inl (cI, 5, .inl sizeA)), (a_tight, .inl (cI, 5, .inl tightA)), (a_kind, .inl (cI, 5, .inl kindA))] sz)) 0 0 (va_A [(a_t, .inr (6, [.int t_hand, .int t_first, .int t_wide, .int t_rim, .int t_fill, .int t_wall, .int t_ceiling, .int t_puff, .int t_period, .int t_second, .int t_score, .int t_thrown, .int t_balls, .ref a_kind, .ref a_size, .ref a_tight, .int t_letters, .ref a_letter, .int t_at, .int t_value, .int t_inRow, .ref a_row, .ref a_refusals, .int t_imaged, .ref a_image, .ref a_ahead, .int t_end, .int t_cell, .int t_steps, .int t_highest, .int t_struck])), (a_size, .inl (cI, 5, .inl sizeA)), (a_tight, .inl (cI, 5, .inl tightA)), (a_kind, .inl (cI, 5, .inl kindA))] sz) := by
  refine Met.ofW (cc := cX6_drag) (maxL := 3) (ret := (some .int)) (by decide) rfl ?_
  intro p e s m args below meth c s₁ B hml hv
  obtain ⟨hargs, hsz, hP, hK, hD0, hN⟩ := hv
  have hx := B.exec
  have hb := B.bytes
  have hr := B.returns
  have hts := atoms_spec (ws := wsX6_drag) B.pre
  have hown : s.vm.findClass RX6 = some m.cls := findClass_of_methodNamed B.named
  have hlocks := B.notSynchronized
  subst hsz
  have hD := hD0.self (sz := s.heap.size)
  obtain ⟨A, hAe⟩ : ∃ A, A = va_A [(a_t, .inr (6, [.int t_hand, .int t_first, .int t_wide, .int t_rim, .int t_fill, .int t_wall, .int t_ceiling, .int t_puff, .int t_period, .int t_second, .int t_score, .int t_thrown, .int t_balls, .ref a_kind, .ref a_size, .ref a_tight, .int t_letters, .ref a_letter, .int t_at, .int t_value, .int t_inRow, .ref a_row, .ref a_refusals, .int t_imaged, .ref a_image, .ref a_ahead, .int t_end, .int t_cell, .int t_steps, .int t_highest, .int t_struck])), (a_size, .inl (cI, 5, .inl sizeA)), (a_tight, .inl (cI, 5, .inl tightA)), (a_kind, .inl (cI, 5, .inl kindA))] s.heap.size := ⟨_, rfl⟩
  rw [← hAe] at hD
  have hA : ∀ q : Nat, s.heap.size ≤ q → A q := fun q h => by rw [hAe]; exact Or.inr h
  have hS : va_S A s.heap s.heap [] := va_S.rf
  have hl := lv_entry ([.ref a_t, .int x1]) (n := 3) (Nat.le_of_ble_eq_true rfl)
  rw [e_of hargs, lg_entry_eq]
  generalize (lg_sl ([.ref a_t, .int x1]) ++ List.replicate (3 - (lg_sl ([.ref a_t, .int x1])).length) Slot.unset).toArray = ls at hl ⊢
  have hl : lv_has ls 3 [(0, .ref a_t), (1, .int x1)] := hl
  have hinX6 : ∀ w ∈ wsX60, w ∈ wsX6_drag := by decide +kernel
  refine w_q ({ frames := 1, cells := 0, slots := 0, locals := 21 } : Room) (fun Q0 hQ => ?_)
  rw [fX6_drag] at hR
  refine lv_iconst (v := 0) hx hb dX6_drag_0 (by decide) ?_
  refine lv_aload_n hx hb dX6_drag_1 rfl (lv_at hl 0 rfl) ?_
  refine va_get (D := (dC, dI)) (ci := 6) (v := .ref a_size) (C := RX6) (T := TX6) (N := 31) hx hb hts hinX6 hown hK hP 0 rfl rfl 14 (by decide) (hts (.fieldLink RX6 13 "PaperInBinModel" "size" "[I") (by decide +kernel)) (fun _ h9 => h9) rfl dX6_drag_2 ?_
  refine lv_iload_n hx hb dX6_drag_5 rfl (lv_at hl 1 rfl) ?_
  obtain ⟨g1, hR⟩ := g_in_s hR
  refine va_iald hx hb hK hP 1 0 rfl rfl g1 dX6_drag_6 ?_
  refine lv_iconst (v := 3) hx hb dX6_drag_7 (by decide) ?_
  refine lv_idiv hx hb dX6_drag_8 (by decide) ?_
  refine lv_aload_n hx hb dX6_drag_9 rfl (lv_at hl 0 rfl) ?_
  refine va_get (D := (dC, dI)) (ci := 6) (v := .ref a_tight) (C := RX6) (T := TX6) (N := 31) hx hb hts hinX6 hown hK hP 0 rfl rfl 15 (by decide) (hts (.fieldLink RX6 16 "PaperInBinModel" "tight" "[I") (by decide +kernel)) (fun _ h9 => h9) rfl dX6_drag_10 ?_
  refine lv_iload_n hx hb dX6_drag_13 rfl (lv_at hl 1 rfl) ?_
  obtain ⟨g2, hR⟩ := g_in_s hR
  refine va_iald hx hb hK hP 2 0 rfl rfl g2 dX6_drag_14 ?_
  refine lv_iconst (v := 4) hx hb dX6_drag_15 (by decide) ?_
  refine lv_idiv hx hb dX6_drag_16 (by decide) ?_
  refine lv_isub hx hb dX6_drag_17 ?_
  refine va_mmax hx hb (hml.trans hl.1.symm) hown (hts (.methodLink RX6 113 Lib.Math.max.name) (by decide +kernel)) (hts (.static Lib.Math.max.name) (by decide +kernel)) (hts (.initialized "java/lang/Math") (by decide +kernel)) (hts (.code Lib.Math.max.name Lib.Math.max.code 2 (some .int)) (by decide +kernel)) (Nat.le_of_ble_eq_true rfl) (Nat.le_of_ble_eq_true rfl) (Nat.zero_le _) (Nat.zero_le _) dX6_drag_18 ?_
  refine lv_istore_n (lv' := [(2, .int (if (0 : Int32) < (((sizeA (x1).toNatClampNeg) / 3) - ((tightA (x1).toNatClampNeg) / 4)) then (((sizeA (x1).toNatClampNeg) / 3) - ((tightA (x1).toNatClampNeg) / 4)) else (0 : Int32))), (0, .ref a_t), (1, .int x1)]) hx hb dX6_drag_21 rfl hl (by decide) rfl (fun ls hl => ?_)
  refine lv_aload_n hx hb dX6_drag_22 rfl (lv_at hl 1 rfl) ?_
  refine va_get (D := (dC, dI)) (ci := 6) (v := .ref a_kind) (C := RX6) (T := TX6) (N := 31) hx hb hts hinX6 hown hK hP 0 rfl rfl 13 (by decide) (hts (.fieldLink RX6 7 "PaperInBinModel" "kind" "[I") (by decide +kernel)) (fun _ h9 => h9) rfl dX6_drag_23 ?_
  refine lv_iload_n hx hb dX6_drag_26 rfl (lv_at hl 2 rfl) ?_
  obtain ⟨g3, hR⟩ := g_in_s hR
  refine va_iald hx hb hK hP 3 0 rfl rfl g3 dX6_drag_27 ?_
  by_cases c28_0 : (kindA (x1).toNatClampNeg) = 1
  · have hR := (if_pos c28_0).symm.trans hR
    refine lv_tableIn (off := 36) (tgt := 64) hx hb dX6_drag_28 (by rw [c28_0]; decide) (by rw [c28_0]; decide) (by rw [c28_0]; rfl) (by decide) ?_
    refine lv_iload_n hx hb dX6_drag_64 rfl (lv_at hl 0 rfl) ?_
    refine lv_iconst (v := 2) hx hb dX6_drag_65 (by decide) ?_
    refine lv_idiv hx hb dX6_drag_66 (by decide) ?_
    subst hQ
    subst hAe
    exact W.iret (v := ((if (0 : Int32) < (((sizeA (x1).toNatClampNeg) / 3) - ((tightA (x1).toNatClampNeg) / 4)) then (((sizeA (x1).toNatClampNeg) / 3) - ((tightA (x1).toNatClampNeg) / 4)) else (0 : Int32)) / 2)) hx hb hr (fun t ht hW => ⟨⟨((if (0 : Int32) < (((sizeA (x1).toNatClampNeg) / 3) - ((tightA (x1).toNatClampNeg) / 4)) then (((sizeA (x1).toNatClampNeg) / 3) - ((tightA (x1).toNatClampNeg) / 4)) else (0 : Int32)) / 2), (), rfl, Option.some.inj hR, by rw [ht]; exact hP, hD⟩, hS.F ht⟩) hS.2.2 dX6_drag_67
  have hR := (if_neg c28_0).symm.trans hR
  by_cases c28_1 : (kindA (x1).toNatClampNeg) = 2
  · have hR := (if_pos c28_1).symm.trans hR
    refine lv_tableIn (off := 40) (tgt := 68) hx hb dX6_drag_28 (by rw [c28_1]; decide) (by rw [c28_1]; decide) (by rw [c28_1]; rfl) (by decide) ?_
    refine lv_iconst (v := 0) hx hb dX6_drag_68 (by decide) ?_
    subst hQ
    subst hAe
    exact W.iret (v := 0) hx hb hr (fun t ht hW => ⟨⟨0, (), rfl, Option.some.inj hR, by rw [ht]; exact hP, hD⟩, hS.F ht⟩) hS.2.2 dX6_drag_69
  have hR := (if_neg c28_1).symm.trans hR
  by_cases c28_2 : (kindA (x1).toNatClampNeg) = 3
  · have hR := (if_pos c28_2).symm.trans hR
    refine lv_tableIn (off := 42) (tgt := 70) hx hb dX6_drag_28 (by rw [c28_2]; decide) (by rw [c28_2]; decide) (by rw [c28_2]; rfl) (by decide) ?_
    refine lv_iload_n hx hb dX6_drag_70 rfl (lv_at hl 0 rfl) ?_
    refine lv_iconst (v := 1) hx hb dX6_drag_71 (by decide) ?_
    refine lv_iadd hx hb dX6_drag_72 ?_
    subst hQ
    subst hAe
    exact W.iret (v := ((if (0 : Int32) < (((sizeA (x1).toNatClampNeg) / 3) - ((tightA (x1).toNatClampNeg) / 4)) then (((sizeA (x1).toNatClampNeg) / 3) - ((tightA (x1).toNatClampNeg) / 4)) else (0 : Int32)) + 1)) hx hb hr (fun t ht hW => ⟨⟨((if (0 : Int32) < (((sizeA (x1).toNatClampNeg) / 3) - ((tightA (x1).toNatClampNeg) / 4)) then (((sizeA (x1).toNatClampNeg) / 3) - ((tightA (x1).toNatClampNeg) / 4)) else (0 : Int32)) + 1), (), rfl, Option.some.inj hR, by rw [ht]; exact hP, hD⟩, hS.F ht⟩) hS.2.2 dX6_drag_73
  have hR := (if_neg c28_2).symm.trans hR
  by_cases c28_3 : (kindA (x1).toNatClampNeg) = 4
  · have hR := (if_pos c28_3).symm.trans hR
    refine lv_tableIn (off := 46) (tgt := 74) hx hb dX6_drag_28 (by rw [c28_3]; decide) (by rw [c28_3]; decide) (by rw [c28_3]; rfl) (by decide) ?_
    refine lv_iload_n hx hb dX6_drag_74 rfl (lv_at hl 0 rfl) ?_
    refine lv_iconst (v := 2) hx hb dX6_drag_75 (by decide) ?_
    refine lv_iadd hx hb dX6_drag_76 ?_
    subst hQ
    subst hAe
    exact W.iret (v := ((if (0 : Int32) < (((sizeA (x1).toNatClampNeg) / 3) - ((tightA (x1).toNatClampNeg) / 4)) then (((sizeA (x1).toNatClampNeg) / 3) - ((tightA (x1).toNatClampNeg) / 4)) else (0 : Int32)) + 2)) hx hb hr (fun t ht hW => ⟨⟨((if (0 : Int32) < (((sizeA (x1).toNatClampNeg) / 3) - ((tightA (x1).toNatClampNeg) / 4)) then (((sizeA (x1).toNatClampNeg) / 3) - ((tightA (x1).toNatClampNeg) / 4)) else (0 : Int32)) + 2), (), rfl, Option.some.inj hR, by rw [ht]; exact hP, hD⟩, hS.F ht⟩) hS.2.2 dX6_drag_77
  have hR := (if_neg c28_3).symm.trans hR
  by_cases c28_4 : (kindA (x1).toNatClampNeg) = 5
  · have hR := (if_pos c28_4).symm.trans hR
    refine lv_tableIn (off := 40) (tgt := 68) hx hb dX6_drag_28 (by rw [c28_4]; decide) (by rw [c28_4]; decide) (by rw [c28_4]; rfl) (by decide) ?_
    refine lv_iconst (v := 0) hx hb dX6_drag_68 (by decide) ?_
    subst hQ
    subst hAe
    exact W.iret (v := 0) hx hb hr (fun t ht hW => ⟨⟨0, (), rfl, Option.some.inj hR, by rw [ht]; exact hP, hD⟩, hS.F ht⟩) hS.2.2 dX6_drag_69
  have hR := (if_neg c28_4).symm.trans hR
  have tc28_0 := lv_neT (k := 1) (a := 1) c28_0 (by decide)
  have tc28_1 := lv_neT (k := 2) (a := 2) c28_1 (by decide)
  have tc28_2 := lv_neT (k := 3) (a := 3) c28_2 (by decide)
  have tc28_3 := lv_neT (k := 4) (a := 4) c28_3 (by decide)
  have tc28_4 := lv_neT (k := 5) (a := 5) c28_4 (by decide)
  refine lv_tableOut (tgt := 78) hx hb dX6_drag_28 (by omega) (by decide) ?_
  refine lv_iload_n hx hb dX6_drag_78 rfl (lv_at hl 0 rfl) ?_
  subst hQ
  subst hAe
  exact W.iret (v := (if (0 : Int32) < (((sizeA (x1).toNatClampNeg) / 3) - ((tightA (x1).toNatClampNeg) / 4)) then (((sizeA (x1).toNatClampNeg) / 3) - ((tightA (x1).toNatClampNeg) / 4)) else (0 : Int32))) hx hb hr (fun t ht hW => ⟨⟨(if (0 : Int32) < (((sizeA (x1).toNatClampNeg) / 3) - ((tightA (x1).toNatClampNeg) / 4)) then (((sizeA (x1).toNatClampNeg) / 3) - ((tightA (x1).toNatClampNeg) / 4)) else (0 : Int32)), (), rfl, Option.some.inj hR, by rw [ht]; exact hP, hD⟩, hS.F ht⟩) hS.2.2 dX6_drag_79
def fX6_fall (x1 : Int32) (kindA : Nat → Int32) : Option (Int32) :=
  g_in x1 5 (
  if (kindA (x1).toNatClampNeg) = 2 then (
   some (2))
  else (
  g_in x1 5 (
  if (kindA (x1).toNatClampNeg) = 5 then (
   some (3))
  else (
  some (1)))))
set_option maxHeartbeats 4000000 in
set_option maxRecDepth 100000 in
theorem kX6_fall (l : Launch) (dC : Nat → ClassId) (dI : Nat → Nat → Nat) (cI : ClassId) (a_t a_kind a_size a_tight a_letter a_row a_refusals a_image a_ahead : Nat) (sz : Nat) (x1 : Int32) (t_hand : Int32) (t_first : Int32) (t_wide : Int32) (t_rim : Int32) (t_fill : Int32) (t_wall : Int32) (t_ceiling : Int32) (t_puff : Int32) (t_period : Int32) (t_second : Int32) (t_score : Int32) (t_thrown : Int32) (t_balls : Int32) (t_letters : Int32) (t_at : Int32) (t_value : Int32) (t_inRow : Int32) (t_imaged : Int32) (t_end : Int32) (t_cell : Int32) (t_steps : Int32) (t_highest : Int32) (t_struck : Int32) (kindA : Nat → Int32) (R : Int32) (hR : fX6_fall x1 kindA = some R) : Met l yX6_fall wsX6_fall ({ frames := 0, cells := 0, slots := 0, locals := 0 } : Room) (va_Pc [.ref a_t, .int x1] (Wp (dC, dI) [(cI, .int)] [(a_t, .inr (6, [.int t_hand, .int t_first, .int t_wide, .int t_rim, .int t_fill, .int t_wall, .int t_ceiling, .int t_puff, .int t_period, .int t_second, .int t_score, .int t_thrown, .int t_balls, .ref a_kind, .ref a_size, .ref a_tight, .int t_letters, .ref a_letter, .int t_at, .int t_value, .int t_inRow, .ref a_row, .ref a_refusals, .int t_imaged, .ref a_image, .ref a_ahead, .int t_end, .int t_cell, .int t_steps, .int t_highest, .int t_struck])), (a_kind, .inl (cI, 5, .inl kindA))] sz)) (va_Qi (fun (r : Int32) (_ : Unit) => r = R) (Wq (dC, dI) [(a_t, .inr (6, [.int t_hand, .int t_first, .int t_wide, .int t_rim, .int t_fill, .int t_wall, .int t_ceiling, .int t_puff, .int t_period, .int t_second, .int t_score, .int t_thrown, .int t_balls, .ref a_kind, .ref a_size, .ref a_tight, .int t_letters, .ref a_letter, .int t_at, .int t_value, .int t_inRow, .ref a_row, .ref a_refusals, .int t_imaged, .ref a_image, .ref a_ahead, .int t_end, .int t_cell, .int t_steps, .int t_highest, .int t_struck])), (a_kind, .inl (cI, 5, .inl kindA))] sz (fun (_ : Unit) => ([(a_t, .inr (6, [.int t_hand, .int t_first, .int t_wide, .int t_rim, .int t_fill, .int t_wall, .int t_ceiling, .int t_puff, .int t_period, .int t_second, .int t_score, .int t_thrown, .int t_balls, .ref a_kind, .ref a_size, .ref a_tight, .int t_letters, .ref a_letter, .int t_at, .int t_value, .int t_inRow, .ref a_row, .ref a_refusals, .int t_imaged, .ref a_image, .ref a_ahead, .int t_end, .int t_cell, .int t_steps, .int t_highest, .int t_struck])), (a_kind, .inl (cI, 5, .inl kindA))] : va_W))) (va_A [(a_t, .inr (6, [.int t_hand, .int t_first, .int t_wide, .int t_rim, .int t_fill, .int t_wall, .int t_ceiling, .int t_puff, .int t_period, .int t_second, .int t_score, .int t_thrown, .int t_balls, .ref a_kind, .ref a_size, .ref a_tight, .int t_letters, .ref a_letter, .int t_at, .int t_value, .int t_inRow, .ref a_row, .ref a_refusals, .int t_imaged, .ref a_image, .ref a_ahead, .int t_end, .int t_cell, .int t_steps, .int t_highest, .int t_struck])), (a_kind, .inl (cI, 5, .inl kindA))] sz)) 0 0 (va_A [(a_t, .inr (6, [.int t_hand, .int t_first, .int t_wide, .int t_rim, .int t_fill, .int t_wall, .int t_ceiling, .int t_puff, .int t_period, .int t_second, .int t_score, .int t_thrown, .int t_balls, .ref a_kind, .ref a_size, .ref a_tight, .int t_letters, .ref a_letter, .int t_at, .int t_value, .int t_inRow, .ref a_row, .ref a_refusals, .int t_imaged, .ref a_image, .ref a_ahead, .int t_end, .int t_cell, .int t_steps, .int t_highest, .int t_struck])), (a_kind, .inl (cI, 5, .inl kindA))] sz) := by
  refine Met.ofW (cc := cX6_fall) (maxL := 2) (ret := (some .int)) (by decide) rfl ?_
  intro p e s m args below meth c s₁ B hml hv
  obtain ⟨hargs, hsz, hP, hK, hD0, hN⟩ := hv
  have hx := B.exec
  have hb := B.bytes
  have hr := B.returns
  have hts := atoms_spec (ws := wsX6_fall) B.pre
  have hown : s.vm.findClass RX6 = some m.cls := findClass_of_methodNamed B.named
  have hlocks := B.notSynchronized
  subst hsz
  have hD := hD0.self (sz := s.heap.size)
  obtain ⟨A, hAe⟩ : ∃ A, A = va_A [(a_t, .inr (6, [.int t_hand, .int t_first, .int t_wide, .int t_rim, .int t_fill, .int t_wall, .int t_ceiling, .int t_puff, .int t_period, .int t_second, .int t_score, .int t_thrown, .int t_balls, .ref a_kind, .ref a_size, .ref a_tight, .int t_letters, .ref a_letter, .int t_at, .int t_value, .int t_inRow, .ref a_row, .ref a_refusals, .int t_imaged, .ref a_image, .ref a_ahead, .int t_end, .int t_cell, .int t_steps, .int t_highest, .int t_struck])), (a_kind, .inl (cI, 5, .inl kindA))] s.heap.size := ⟨_, rfl⟩
  rw [← hAe] at hD
  have hA : ∀ q : Nat, s.heap.size ≤ q → A q := fun q h => by rw [hAe]; exact Or.inr h
  have hS : va_S A s.heap s.heap [] := va_S.rf
  have hl := lv_entry ([.ref a_t, .int x1]) (n := 2) (Nat.le_of_ble_eq_true rfl)
  rw [e_of hargs, lg_entry_eq]
  generalize (lg_sl ([.ref a_t, .int x1]) ++ List.replicate (2 - (lg_sl ([.ref a_t, .int x1])).length) Slot.unset).toArray = ls at hl ⊢
  have hl : lv_has ls 2 [(0, .ref a_t), (1, .int x1)] := hl
  have hinX6 : ∀ w ∈ wsX60, w ∈ wsX6_fall := by decide +kernel
  refine w_q ({ frames := 0, cells := 0, slots := 0, locals := 0 } : Room) (fun Q0 hQ => ?_)
  rw [fX6_fall] at hR
  refine lv_aload_n hx hb dX6_fall_0 rfl (lv_at hl 0 rfl) ?_
  refine va_get (D := (dC, dI)) (ci := 6) (v := .ref a_kind) (C := RX6) (T := TX6) (N := 31) hx hb hts hinX6 hown hK hP 0 rfl rfl 13 (by decide) (hts (.fieldLink RX6 7 "PaperInBinModel" "kind" "[I") (by decide +kernel)) (fun _ h9 => h9) rfl dX6_fall_1 ?_
  refine lv_iload_n hx hb dX6_fall_4 rfl (lv_at hl 1 rfl) ?_
  obtain ⟨g1, hR⟩ := g_in_s hR
  refine va_iald hx hb hK hP 1 0 rfl rfl g1 dX6_fall_5 ?_
  refine lv_iconst (v := 2) hx hb dX6_fall_6 (by decide) ?_
  refine lv_icmp_ne (tgt := 14) hx hb dX6_fall_7 (by decide) (fun c7 => ?_) (fun c7 => ?_)
  · have hR := (if_neg c7).symm.trans hR
    refine lv_aload_n hx hb dX6_fall_14 rfl (lv_at hl 0 rfl) ?_
    refine va_get (D := (dC, dI)) (ci := 6) (v := .ref a_kind) (C := RX6) (T := TX6) (N := 31) hx hb hts hinX6 hown hK hP 0 rfl rfl 13 (by decide) (hts (.fieldLink RX6 7 "PaperInBinModel" "kind" "[I") (by decide +kernel)) (fun _ h9 => h9) rfl dX6_fall_15 ?_
    refine lv_iload_n hx hb dX6_fall_18 rfl (lv_at hl 1 rfl) ?_
    obtain ⟨g2, hR⟩ := g_in_s hR
    refine va_iald hx hb hK hP 1 0 rfl rfl g2 dX6_fall_19 ?_
    refine lv_iconst (v := 5) hx hb dX6_fall_20 (by decide) ?_
    refine lv_icmp_ne (tgt := 28) hx hb dX6_fall_21 (by decide) (fun c21 => ?_) (fun c21 => ?_)
    · have hR := (if_neg c21).symm.trans hR
      refine lv_iconst (v := 1) hx hb dX6_fall_28 (by decide) ?_
      subst hQ
      subst hAe
      exact W.iret (v := 1) hx hb hr (fun t ht hW => ⟨⟨1, (), rfl, Option.some.inj hR, by rw [ht]; exact hP, hD⟩, hS.F ht⟩) hS.2.2 dX6_fall_29
    · have hR := (if_pos c21).symm.trans hR
      refine lv_iconst (v := 3) hx hb dX6_fall_24 (by decide) ?_
      refine lv_goto (tgt := 29) hx hb dX6_fall_25 (by decide) ?_
      subst hQ
      subst hAe
      exact W.iret (v := 3) hx hb hr (fun t ht hW => ⟨⟨3, (), rfl, Option.some.inj hR, by rw [ht]; exact hP, hD⟩, hS.F ht⟩) hS.2.2 dX6_fall_29
  · have hR := (if_pos c7).symm.trans hR
    refine lv_iconst (v := 2) hx hb dX6_fall_10 (by decide) ?_
    refine lv_goto (tgt := 29) hx hb dX6_fall_11 (by decide) ?_
    subst hQ
    subst hAe
    exact W.iret (v := 2) hx hb hr (fun t ht hW => ⟨⟨2, (), rfl, Option.some.inj hR, by rw [ht]; exact hP, hD⟩, hS.F ht⟩) hS.2.2 dX6_fall_29
def fX6_blown (x1 : Int32) (t_puff : Int32) (kindA : Nat → Int32) : Option (Int32) :=
  g_in x1 5 (
  if (kindA (x1).toNatClampNeg) = 2 then (
   some ((t_puff / 2))) else
  if (kindA (x1).toNatClampNeg) = 3 then (
   some ((2 * t_puff))) else
  if (kindA (x1).toNatClampNeg) = 4 then (
   some ((2 * t_puff))) else
  if (kindA (x1).toNatClampNeg) = 5 then (
   some (0)) else
  some (t_puff))
set_option maxHeartbeats 4000000 in
set_option maxRecDepth 100000 in
theorem kX6_blown (l : Launch) (dC : Nat → ClassId) (dI : Nat → Nat → Nat) (cI : ClassId) (a_t a_kind a_size a_tight a_letter a_row a_refusals a_image a_ahead : Nat) (sz : Nat) (x1 : Int32) (t_hand : Int32) (t_first : Int32) (t_wide : Int32) (t_rim : Int32) (t_fill : Int32) (t_wall : Int32) (t_ceiling : Int32) (t_puff : Int32) (t_period : Int32) (t_second : Int32) (t_score : Int32) (t_thrown : Int32) (t_balls : Int32) (t_letters : Int32) (t_at : Int32) (t_value : Int32) (t_inRow : Int32) (t_imaged : Int32) (t_end : Int32) (t_cell : Int32) (t_steps : Int32) (t_highest : Int32) (t_struck : Int32) (kindA : Nat → Int32) (R : Int32) (hR : fX6_blown x1 t_puff kindA = some R) : Met l yX6_blown wsX6_blown ({ frames := 0, cells := 0, slots := 0, locals := 0 } : Room) (va_Pc [.ref a_t, .int x1] (Wp (dC, dI) [(cI, .int)] [(a_t, .inr (6, [.int t_hand, .int t_first, .int t_wide, .int t_rim, .int t_fill, .int t_wall, .int t_ceiling, .int t_puff, .int t_period, .int t_second, .int t_score, .int t_thrown, .int t_balls, .ref a_kind, .ref a_size, .ref a_tight, .int t_letters, .ref a_letter, .int t_at, .int t_value, .int t_inRow, .ref a_row, .ref a_refusals, .int t_imaged, .ref a_image, .ref a_ahead, .int t_end, .int t_cell, .int t_steps, .int t_highest, .int t_struck])), (a_kind, .inl (cI, 5, .inl kindA))] sz)) (va_Qi (fun (r : Int32) (_ : Unit) => r = R) (Wq (dC, dI) [(a_t, .inr (6, [.int t_hand, .int t_first, .int t_wide, .int t_rim, .int t_fill, .int t_wall, .int t_ceiling, .int t_puff, .int t_period, .int t_second, .int t_score, .int t_thrown, .int t_balls, .ref a_kind, .ref a_size, .ref a_tight, .int t_letters, .ref a_letter, .int t_at, .int t_value, .int t_inRow, .ref a_row, .ref a_refusals, .int t_imaged, .ref a_image, .ref a_ahead, .int t_end, .int t_cell, .int t_steps, .int t_highest, .int t_struck])), (a_kind, .inl (cI, 5, .inl kindA))] sz (fun (_ : Unit) => ([(a_t, .inr (6, [.int t_hand, .int t_first, .int t_wide, .int t_rim, .int t_fill, .int t_wall, .int t_ceiling, .int t_puff, .int t_period, .int t_second, .int t_score, .int t_thrown, .int t_balls, .ref a_kind, .ref a_size, .ref a_tight, .int t_letters, .ref a_letter, .int t_at, .int t_value, .int t_inRow, .ref a_row, .ref a_refusals, .int t_imaged, .ref a_image, .ref a_ahead, .int t_end, .int t_cell, .int t_steps, .int t_highest, .int t_struck])), (a_kind, .inl (cI, 5, .inl kindA))] : va_W))) (va_A [(a_t, .inr (6, [.int t_hand, .int t_first, .int t_wide, .int t_rim, .int t_fill, .int t_wall, .int t_ceiling, .int t_puff, .int t_period, .int t_second, .int t_score, .int t_thrown, .int t_balls, .ref a_kind, .ref a_size, .ref a_tight, .int t_letters, .ref a_letter, .int t_at, .int t_value, .int t_inRow, .ref a_row, .ref a_refusals, .int t_imaged, .ref a_image, .ref a_ahead, .int t_end, .int t_cell, .int t_steps, .int t_highest, .int t_struck])), (a_kind, .inl (cI, 5, .inl kindA))] sz)) 0 0 (va_A [(a_t, .inr (6, [.int t_hand, .int t_first, .int t_wide, .int t_rim, .int t_fill, .int t_wall, .int t_ceiling, .int t_puff, .int t_period, .int t_second, .int t_score, .int t_thrown, .int t_balls, .ref a_kind, .ref a_size, .ref a_tight, .int t_letters, .ref a_letter, .int t_at, .int t_value, .int t_inRow, .ref a_row, .ref a_refusals, .int t_imaged, .ref a_image, .ref a_ahead, .int t_end, .int t_cell, .int t_steps, .int t_highest, .int t_struck])), (a_kind, .inl (cI, 5, .inl kindA))] sz) := by
  refine Met.ofW (cc := cX6_blown) (maxL := 2) (ret := (some .int)) (by decide) rfl ?_
  intro p e s m args below meth c s₁ B hml hv
  obtain ⟨hargs, hsz, hP, hK, hD0, hN⟩ := hv
  have hx := B.exec
  have hb := B.bytes
  have hr := B.returns
  have hts := atoms_spec (ws := wsX6_blown) B.pre
  have hown : s.vm.findClass RX6 = some m.cls := findClass_of_methodNamed B.named
  have hlocks := B.notSynchronized
  subst hsz
  have hD := hD0.self (sz := s.heap.size)
  obtain ⟨A, hAe⟩ : ∃ A, A = va_A [(a_t, .inr (6, [.int t_hand, .int t_first, .int t_wide, .int t_rim, .int t_fill, .int t_wall, .int t_ceiling, .int t_puff, .int t_period, .int t_second, .int t_score, .int t_thrown, .int t_balls, .ref a_kind, .ref a_size, .ref a_tight, .int t_letters, .ref a_letter, .int t_at, .int t_value, .int t_inRow, .ref a_row, .ref a_refusals, .int t_imaged, .ref a_image, .ref a_ahead, .int t_end, .int t_cell, .int t_steps, .int t_highest, .int t_struck])), (a_kind, .inl (cI, 5, .inl kindA))] s.heap.size := ⟨_, rfl⟩
  rw [← hAe] at hD
  have hA : ∀ q : Nat, s.heap.size ≤ q → A q := fun q h => by rw [hAe]; exact Or.inr h
  have hS : va_S A s.heap s.heap [] := va_S.rf
  have hl := lv_entry ([.ref a_t, .int x1]) (n := 2) (Nat.le_of_ble_eq_true rfl)
  rw [e_of hargs, lg_entry_eq]
  generalize (lg_sl ([.ref a_t, .int x1]) ++ List.replicate (2 - (lg_sl ([.ref a_t, .int x1])).length) Slot.unset).toArray = ls at hl ⊢
  have hl : lv_has ls 2 [(0, .ref a_t), (1, .int x1)] := hl
  have hinX6 : ∀ w ∈ wsX60, w ∈ wsX6_blown := by decide +kernel
  refine w_q ({ frames := 0, cells := 0, slots := 0, locals := 0 } : Room) (fun Q0 hQ => ?_)
  rw [fX6_blown] at hR
  refine lv_aload_n hx hb dX6_blown_0 rfl (lv_at hl 0 rfl) ?_
  refine va_get (D := (dC, dI)) (ci := 6) (v := .ref a_kind) (C := RX6) (T := TX6) (N := 31) hx hb hts hinX6 hown hK hP 0 rfl rfl 13 (by decide) (hts (.fieldLink RX6 7 "PaperInBinModel" "kind" "[I") (by decide +kernel)) (fun _ h9 => h9) rfl dX6_blown_1 ?_
  refine lv_iload_n hx hb dX6_blown_4 rfl (lv_at hl 1 rfl) ?_
  obtain ⟨g1, hR⟩ := g_in_s hR
  refine va_iald hx hb hK hP 1 0 rfl rfl g1 dX6_blown_5 ?_
  by_cases c6_0 : (kindA (x1).toNatClampNeg) = 2
  · have hR := (if_pos c6_0).symm.trans hR
    refine lv_tableIn (off := 30) (tgt := 36) hx hb dX6_blown_6 (by rw [c6_0]; decide) (by rw [c6_0]; decide) (by rw [c6_0]; rfl) (by decide) ?_
    refine lv_aload_n hx hb dX6_blown_36 rfl (lv_at hl 0 rfl) ?_
    refine va_get (D := (dC, dI)) (ci := 6) (v := .int t_puff) (C := RX6) (T := TX6) (N := 31) hx hb hts hinX6 hown hK hP 0 rfl rfl 7 (by decide) (hts (.fieldLink RX6 92 "PaperInBinModel" "puff" "I") (by decide +kernel)) (fun _ h9 => h9) rfl dX6_blown_37 ?_
    refine lv_iconst (v := 2) hx hb dX6_blown_40 (by decide) ?_
    refine lv_idiv hx hb dX6_blown_41 (by decide) ?_
    subst hQ
    subst hAe
    exact W.iret (v := (t_puff / 2)) hx hb hr (fun t ht hW => ⟨⟨(t_puff / 2), (), rfl, Option.some.inj hR, by rw [ht]; exact hP, hD⟩, hS.F ht⟩) hS.2.2 dX6_blown_42
  have hR := (if_neg c6_0).symm.trans hR
  by_cases c6_1 : (kindA (x1).toNatClampNeg) = 3
  · have hR := (if_pos c6_1).symm.trans hR
    refine lv_tableIn (off := 37) (tgt := 43) hx hb dX6_blown_6 (by rw [c6_1]; decide) (by rw [c6_1]; decide) (by rw [c6_1]; rfl) (by decide) ?_
    refine lv_iconst (v := 2) hx hb dX6_blown_43 (by decide) ?_
    refine lv_aload_n hx hb dX6_blown_44 rfl (lv_at hl 0 rfl) ?_
    refine va_get (D := (dC, dI)) (ci := 6) (v := .int t_puff) (C := RX6) (T := TX6) (N := 31) hx hb hts hinX6 hown hK hP 0 rfl rfl 7 (by decide) (hts (.fieldLink RX6 92 "PaperInBinModel" "puff" "I") (by decide +kernel)) (fun _ h9 => h9) rfl dX6_blown_45 ?_
    refine lv_imul hx hb dX6_blown_48 ?_
    subst hQ
    subst hAe
    exact W.iret (v := (2 * t_puff)) hx hb hr (fun t ht hW => ⟨⟨(2 * t_puff), (), rfl, Option.some.inj hR, by rw [ht]; exact hP, hD⟩, hS.F ht⟩) hS.2.2 dX6_blown_49
  have hR := (if_neg c6_1).symm.trans hR
  by_cases c6_2 : (kindA (x1).toNatClampNeg) = 4
  · have hR := (if_pos c6_2).symm.trans hR
    refine lv_tableIn (off := 37) (tgt := 43) hx hb dX6_blown_6 (by rw [c6_2]; decide) (by rw [c6_2]; decide) (by rw [c6_2]; rfl) (by decide) ?_
    refine lv_iconst (v := 2) hx hb dX6_blown_43 (by decide) ?_
    refine lv_aload_n hx hb dX6_blown_44 rfl (lv_at hl 0 rfl) ?_
    refine va_get (D := (dC, dI)) (ci := 6) (v := .int t_puff) (C := RX6) (T := TX6) (N := 31) hx hb hts hinX6 hown hK hP 0 rfl rfl 7 (by decide) (hts (.fieldLink RX6 92 "PaperInBinModel" "puff" "I") (by decide +kernel)) (fun _ h9 => h9) rfl dX6_blown_45 ?_
    refine lv_imul hx hb dX6_blown_48 ?_
    subst hQ
    subst hAe
    exact W.iret (v := (2 * t_puff)) hx hb hr (fun t ht hW => ⟨⟨(2 * t_puff), (), rfl, Option.some.inj hR, by rw [ht]; exact hP, hD⟩, hS.F ht⟩) hS.2.2 dX6_blown_49
  have hR := (if_neg c6_2).symm.trans hR
  by_cases c6_3 : (kindA (x1).toNatClampNeg) = 5
  · have hR := (if_pos c6_3).symm.trans hR
    refine lv_tableIn (off := 44) (tgt := 50) hx hb dX6_blown_6 (by rw [c6_3]; decide) (by rw [c6_3]; decide) (by rw [c6_3]; rfl) (by decide) ?_
    refine lv_iconst (v := 0) hx hb dX6_blown_50 (by decide) ?_
    subst hQ
    subst hAe
    exact W.iret (v := 0) hx hb hr (fun t ht hW => ⟨⟨0, (), rfl, Option.some.inj hR, by rw [ht]; exact hP, hD⟩, hS.F ht⟩) hS.2.2 dX6_blown_51
  have hR := (if_neg c6_3).symm.trans hR
  have tc6_0 := lv_neT (k := 2) (a := 2) c6_0 (by decide)
  have tc6_1 := lv_neT (k := 3) (a := 3) c6_1 (by decide)
  have tc6_2 := lv_neT (k := 4) (a := 4) c6_2 (by decide)
  have tc6_3 := lv_neT (k := 5) (a := 5) c6_3 (by decide)
  refine lv_tableOut (tgt := 52) hx hb dX6_blown_6 (by omega) (by decide) ?_
  refine lv_aload_n hx hb dX6_blown_52 rfl (lv_at hl 0 rfl) ?_
  refine va_get (D := (dC, dI)) (ci := 6) (v := .int t_puff) (C := RX6) (T := TX6) (N := 31) hx hb hts hinX6 hown hK hP 0 rfl rfl 7 (by decide) (hts (.fieldLink RX6 92 "PaperInBinModel" "puff" "I") (by decide +kernel)) (fun _ h9 => h9) rfl dX6_blown_53 ?_
  subst hQ
  subst hAe
  exact W.iret (v := t_puff) hx hb hr (fun t ht hW => ⟨⟨t_puff, (), rfl, Option.some.inj hR, by rw [ht]; exact hP, hD⟩, hS.F ht⟩) hS.2.2 dX6_blown_56
def fX6_ball (x1 : Int32) (x2 : Int32) (t_puff : Int32) (t_balls : Int32) (refusalsA : Nat → Int32) (kindA : Nat → Int32) (sizeA : Nat → Int32) (tightA : Nat → Int32) : Option (Int32 × (Nat → Int32)) :=
  b1 (fX6_isBall x1 t_balls) (fun r1 =>
  if r1 = 0 then (
   b2 (fX6_no (-1) refusalsA) (fun r15 w16 =>
   some (r15, w16)))
  else (
  if x2 = 0 then (
   g_in x1 5 (
   some ((kindA (x1).toNatClampNeg), refusalsA))) else
  if x2 = 1 then (
   g_in x1 5 (
   some ((sizeA (x1).toNatClampNeg), refusalsA))) else
  if x2 = 2 then (
   g_in x1 5 (
   some ((tightA (x1).toNatClampNeg), refusalsA))) else
  if x2 = 3 then (
   b1 (fX6_drag x1 sizeA tightA kindA) (fun r6 =>
   some (r6, refusalsA))) else
  if x2 = 4 then (
   b1 (fX6_fall x1 kindA) (fun r8 =>
   some (r8, refusalsA))) else
  if x2 = 5 then (
   b1 (fX6_blown x1 t_puff kindA) (fun r10 =>
   some ((10 + r10), refusalsA))) else
  b2 (fX6_no (-2) refusalsA) (fun r12 w13 =>
  some (r12, w13))))
set_option maxHeartbeats 4000000 in
set_option maxRecDepth 100000 in
theorem kX6_ball (l : Launch) (dC : Nat → ClassId) (dI : Nat → Nat → Nat) (cI : ClassId) (a_t a_kind a_size a_tight a_letter a_row a_refusals a_image a_ahead : Nat) (sz : Nat) (x1 : Int32) (x2 : Int32) (t_hand : Int32) (t_first : Int32) (t_wide : Int32) (t_rim : Int32) (t_fill : Int32) (t_wall : Int32) (t_ceiling : Int32) (t_puff : Int32) (t_period : Int32) (t_second : Int32) (t_score : Int32) (t_thrown : Int32) (t_balls : Int32) (t_letters : Int32) (t_at : Int32) (t_value : Int32) (t_inRow : Int32) (t_imaged : Int32) (t_end : Int32) (t_cell : Int32) (t_steps : Int32) (t_highest : Int32) (t_struck : Int32) (refusalsA : Nat → Int32) (kindA : Nat → Int32) (sizeA : Nat → Int32) (tightA : Nat → Int32) (R : Int32 × (Nat → Int32)) (hR : fX6_ball x1 x2 t_puff t_balls refusalsA kindA sizeA tightA = some R) : Met l yX6_ball wsX6_ball ({ frames := 2, cells := 0, slots := 0, locals := 43 } : Room) (va_Pc [.ref a_t, .int x1, .int x2] (Wp (dC, dI) [(cI, .int)] [(a_t, .inr (6, [.int t_hand, .int t_first, .int t_wide, .int t_rim, .int t_fill, .int t_wall, .int t_ceiling, .int t_puff, .int t_period, .int t_second, .int t_score, .int t_thrown, .int t_balls, .ref a_kind, .ref a_size, .ref a_tight, .int t_letters, .ref a_letter, .int t_at, .int t_value, .int t_inRow, .ref a_row, .ref a_refusals, .int t_imaged, .ref a_image, .ref a_ahead, .int t_end, .int t_cell, .int t_steps, .int t_highest, .int t_struck])), (a_refusals, .inl (cI, 7, .inl refusalsA)), (a_kind, .inl (cI, 5, .inl kindA)), (a_size, .inl (cI, 5, .inl sizeA)), (a_tight, .inl (cI, 5, .inl tightA))] sz)) (va_Qi (fun (r : Int32) (u : (Nat → Int32)) => (r, u) = R) (Wq (dC, dI) [(a_t, .inr (6, [.int t_hand, .int t_first, .int t_wide, .int t_rim, .int t_fill, .int t_wall, .int t_ceiling, .int t_puff, .int t_period, .int t_second, .int t_score, .int t_thrown, .int t_balls, .ref a_kind, .ref a_size, .ref a_tight, .int t_letters, .ref a_letter, .int t_at, .int t_value, .int t_inRow, .ref a_row, .ref a_refusals, .int t_imaged, .ref a_image, .ref a_ahead, .int t_end, .int t_cell, .int t_steps, .int t_highest, .int t_struck])), (a_refusals, .inl (cI, 7, .inl refusalsA)), (a_kind, .inl (cI, 5, .inl kindA)), (a_size, .inl (cI, 5, .inl sizeA)), (a_tight, .inl (cI, 5, .inl tightA))] sz (fun (u : (Nat → Int32)) => ([(a_t, .inr (6, [.int t_hand, .int t_first, .int t_wide, .int t_rim, .int t_fill, .int t_wall, .int t_ceiling, .int t_puff, .int t_period, .int t_second, .int t_score, .int t_thrown, .int t_balls, .ref a_kind, .ref a_size, .ref a_tight, .int t_letters, .ref a_letter, .int t_at, .int t_value, .int t_inRow, .ref a_row, .ref a_refusals, .int t_imaged, .ref a_image, .ref a_ahead, .int t_end, .int t_cell, .int t_steps, .int t_highest, .int t_struck])), (a_refusals, .inl (cI, 7, .inl u)), (a_kind, .inl (cI, 5, .inl kindA)), (a_size, .inl (cI, 5, .inl sizeA)), (a_tight, .inl (cI, 5, .inl tightA))] : va_W))) (va_A [(a_t, .inr (6, [.int t_hand, .int t_first, .int t_wide, .int t_rim, .int t_fill, .int t_wall, .int t_ceiling, .int t_puff, .int t_period, .int t_second, .int t_score, .int t_thrown, .int t_balls, .ref a_kind, .ref a_size, .ref a_tight, .int t_letters, .ref a_letter, .int t_at, .int t_value, .int t_inRow, .ref a_row, .ref a_refusals, .int t_imaged, .ref a_image, .ref a_ahead, .int t_end, .int t_cell, .int t_steps, .int t_highest, .int t_struck])), (a_refusals, .inl (cI, 7, .inl refusalsA)), (a_kind, .inl (cI, 5, .inl kindA)), (a_size, .inl (cI, 5, .inl sizeA)), (a_tight, .inl (cI, 5, .inl tightA))] sz)) 0 0 (va_A [(a_t, .inr (6, [.int t_hand, .int t_first, .int t_wide, .int t_rim, .int t_fill, .int t_wall, .int t_ceiling, .int t_puff, .int t_period, .int t_second, .int t_score, .int t_thrown, .int t_balls, .ref a_kind, .ref a_size, .ref a_tight, .int t_letters, .ref a_letter, .int t_at, .int t_value, .int t_inRow, .ref a_row, .ref a_refusals, .int t_imaged, .ref a_image, .ref a_ahead, .int t_end, .int t_cell, .int t_steps, .int t_highest, .int t_struck])), (a_refusals, .inl (cI, 7, .inl refusalsA)), (a_kind, .inl (cI, 5, .inl kindA)), (a_size, .inl (cI, 5, .inl sizeA)), (a_tight, .inl (cI, 5, .inl tightA))] sz) := by
  refine Met.ofW (cc := cX6_ball) (maxL := 3) (ret := (some .int)) (by decide) rfl ?_
  intro p e s m args below meth c s₁ B hml hv
  obtain ⟨hargs, hsz, hP, hK, hD0, hN⟩ := hv
  have hx := B.exec
  have hb := B.bytes
  have hr := B.returns
  have hts := atoms_spec (ws := wsX6_ball) B.pre
  have hown : s.vm.findClass RX6 = some m.cls := findClass_of_methodNamed B.named
  have hlocks := B.notSynchronized
  subst hsz
  have hD := hD0.self (sz := s.heap.size)
  obtain ⟨A, hAe⟩ : ∃ A, A = va_A [(a_t, .inr (6, [.int t_hand, .int t_first, .int t_wide, .int t_rim, .int t_fill, .int t_wall, .int t_ceiling, .int t_puff, .int t_period, .int t_second, .int t_score, .int t_thrown, .int t_balls, .ref a_kind, .ref a_size, .ref a_tight, .int t_letters, .ref a_letter, .int t_at, .int t_value, .int t_inRow, .ref a_row, .ref a_refusals, .int t_imaged, .ref a_image, .ref a_ahead, .int t_end, .int t_cell, .int t_steps, .int t_highest, .int t_struck])), (a_refusals, .inl (cI, 7, .inl refusalsA)), (a_kind, .inl (cI, 5, .inl kindA)), (a_size, .inl (cI, 5, .inl sizeA)), (a_tight, .inl (cI, 5, .inl tightA))] s.heap.size := ⟨_, rfl⟩
  rw [← hAe] at hD
  have hA : ∀ q : Nat, s.heap.size ≤ q → A q := fun q h => by rw [hAe]; exact Or.inr h
  have hS : va_S A s.heap s.heap [] := va_S.rf
  have hl := lv_entry ([.ref a_t, .int x1, .int x2]) (n := 3) (Nat.le_of_ble_eq_true rfl)
  rw [e_of hargs, lg_entry_eq]
  generalize (lg_sl ([.ref a_t, .int x1, .int x2]) ++ List.replicate (3 - (lg_sl ([.ref a_t, .int x1, .int x2])).length) Slot.unset).toArray = ls at hl ⊢
  have hl : lv_has ls 3 [(0, .ref a_t), (1, .int x1), (2, .int x2)] := hl
  have hinX6 : ∀ w ∈ wsX60, w ∈ wsX6_ball := by decide +kernel
  refine w_q ({ frames := 2, cells := 0, slots := 0, locals := 43 } : Room) (fun Q0 hQ => ?_)
  rw [fX6_ball] at hR
  refine lv_aload_n hx hb dX6_ball_0 rfl (lv_at hl 0 rfl) ?_
  refine lv_iload_n hx hb dX6_ball_1 rfl (lv_at hl 1 rfl) ?_
  obtain ⟨r1, hu2, hR⟩ := b1_s hR
  refine cl_ViN (As := [.int x1]) (rest := []) (wc := [(a_t, .inr (6, [.int t_hand, .int t_first, .int t_wide, .int t_rim, .int t_fill, .int t_wall, .int t_ceiling, .int t_puff, .int t_period, .int t_second, .int t_score, .int t_thrown, .int t_balls, .ref a_kind, .ref a_size, .ref a_tight, .int t_letters, .ref a_letter, .int t_at, .int t_value, .int t_inRow, .ref a_row, .ref a_refusals, .int t_imaged, .ref a_image, .ref a_ahead, .int t_end, .int t_cell, .int t_steps, .int t_highest, .int t_struck]))]) (wr := [(a_refusals, .inl (cI, 7, .inl refusalsA)), (a_kind, .inl (cI, 5, .inl kindA)), (a_size, .inl (cI, 5, .inl sizeA)), (a_tight, .inl (cI, 5, .inl tightA))]) ⟨hx, hb, hml, hown, hts⟩ (kX6_isBall l dC dI cI a_t a_kind a_size a_tight a_letter a_row a_refusals a_image a_ahead s.heap.size x1 t_hand t_first t_wide t_rim t_fill t_wall t_ceiling t_puff t_period t_second t_score t_thrown t_balls t_letters t_at t_value t_inRow t_imaged t_end t_cell t_steps t_highest t_struck r1 hu2) (cwV 1 hts gX6_ball_X6_isBall rfl rfl rfl (by decide +kernel) ⟨Nat.le_of_ble_eq_true rfl, Nat.le_of_ble_eq_true rfl⟩) hK hN hP hD hS hA (va_recv hK hP (ci := 6) (q0 := 0) rfl rfl) [0] [1, 2, 3, 4] rfl rfl rfl rfl rfl (by decide) rfl hl.1 rfl (Nat.le_of_ble_eq_true rfl) dX6_ball_2 (fun H locs hP hD hS => ?_)
  have hP : va_P (dC, dI) vwCl [(a_refusals, .inl (cI, 7, .inl refusalsA)), (a_kind, .inl (cI, 5, .inl kindA)), (a_size, .inl (cI, 5, .inl sizeA)), (a_tight, .inl (cI, 5, .inl tightA)), (a_t, .inr (6, [.int t_hand, .int t_first, .int t_wide, .int t_rim, .int t_fill, .int t_wall, .int t_ceiling, .int t_puff, .int t_period, .int t_second, .int t_score, .int t_thrown, .int t_balls, .ref a_kind, .ref a_size, .ref a_tight, .int t_letters, .ref a_letter, .int t_at, .int t_value, .int t_inRow, .ref a_row, .ref a_refusals, .int t_imaged, .ref a_image, .ref a_ahead, .int t_end, .int t_cell, .int t_steps, .int t_highest, .int t_struck]))] H := hP
  have hD : va_D A [(a_refusals, .inl (cI, 7, .inl refusalsA)), (a_kind, .inl (cI, 5, .inl kindA)), (a_size, .inl (cI, 5, .inl sizeA)), (a_tight, .inl (cI, 5, .inl tightA)), (a_t, .inr (6, [.int t_hand, .int t_first, .int t_wide, .int t_rim, .int t_fill, .int t_wall, .int t_ceiling, .int t_puff, .int t_period, .int t_second, .int t_score, .int t_thrown, .int t_balls, .ref a_kind, .ref a_size, .ref a_tight, .int t_letters, .ref a_letter, .int t_at, .int t_value, .int t_inRow, .ref a_row, .ref a_refusals, .int t_imaged, .ref a_image, .ref a_ahead, .int t_end, .int t_cell, .int t_steps, .int t_highest, .int t_struck]))] := hD
  refine lv_if_ne (tgt := 14) hx hb dX6_ball_5 (by decide) (fun c5 => ?_) (fun c5 => ?_)
  · have hR := (if_neg c5).symm.trans hR
    refine lv_iload_n hx hb dX6_ball_14 rfl (lv_at hl 2 rfl) ?_
    by_cases c15_0 : x2 = 0
    · have hR := (if_pos c15_0).symm.trans hR
      refine lv_tableIn (off := 37) (tgt := 52) hx hb dX6_ball_15 (by rw [c15_0]; decide) (by rw [c15_0]; decide) (by rw [c15_0]; rfl) (by decide) ?_
      refine lv_aload_n hx hb dX6_ball_52 rfl (lv_at hl 0 rfl) ?_
      refine va_get (D := (dC, dI)) (ci := 6) (v := .ref a_kind) (C := RX6) (T := TX6) (N := 31) hx hb hts hinX6 hown hK hP 4 rfl rfl 13 (by decide) (hts (.fieldLink RX6 7 "PaperInBinModel" "kind" "[I") (by decide +kernel)) (fun _ h9 => h9) rfl dX6_ball_53 ?_
      refine lv_iload_n hx hb dX6_ball_56 rfl (lv_at hl 1 rfl) ?_
      obtain ⟨g3, hR⟩ := g_in_s hR
      refine va_iald hx hb hK hP 1 0 rfl rfl g3 dX6_ball_57 ?_
      have hP := hP.sub (ws' := [(a_t, .inr (6, [.int t_hand, .int t_first, .int t_wide, .int t_rim, .int t_fill, .int t_wall, .int t_ceiling, .int t_puff, .int t_period, .int t_second, .int t_score, .int t_thrown, .int t_balls, .ref a_kind, .ref a_size, .ref a_tight, .int t_letters, .ref a_letter, .int t_at, .int t_value, .int t_inRow, .ref a_row, .ref a_refusals, .int t_imaged, .ref a_image, .ref a_ahead, .int t_end, .int t_cell, .int t_steps, .int t_highest, .int t_struck])), (a_refusals, .inl (cI, 7, .inl refusalsA)), (a_kind, .inl (cI, 5, .inl kindA)), (a_size, .inl (cI, 5, .inl sizeA)), (a_tight, .inl (cI, 5, .inl tightA))]) [4, 0, 1, 2, 3] rfl
      have hD := hD.sub (ws' := [(a_t, .inr (6, [.int t_hand, .int t_first, .int t_wide, .int t_rim, .int t_fill, .int t_wall, .int t_ceiling, .int t_puff, .int t_period, .int t_second, .int t_score, .int t_thrown, .int t_balls, .ref a_kind, .ref a_size, .ref a_tight, .int t_letters, .ref a_letter, .int t_at, .int t_value, .int t_inRow, .ref a_row, .ref a_refusals, .int t_imaged, .ref a_image, .ref a_ahead, .int t_end, .int t_cell, .int t_steps, .int t_highest, .int t_struck])), (a_refusals, .inl (cI, 7, .inl refusalsA)), (a_kind, .inl (cI, 5, .inl kindA)), (a_size, .inl (cI, 5, .inl sizeA)), (a_tight, .inl (cI, 5, .inl tightA))]) [4, 0, 1, 2, 3] (by decide) rfl
      subst hQ
      subst hAe
      exact W.iret (v := (kindA (x1).toNatClampNeg)) hx hb hr (fun t ht hW => ⟨⟨(kindA (x1).toNatClampNeg), (refusalsA), rfl, Option.some.inj hR, by rw [ht]; exact hP, hD⟩, hS.F ht⟩) hS.2.2 dX6_ball_58
    have hR := (if_neg c15_0).symm.trans hR
    by_cases c15_1 : x2 = 1
    · have hR := (if_pos c15_1).symm.trans hR
      refine lv_tableIn (off := 44) (tgt := 59) hx hb dX6_ball_15 (by rw [c15_1]; decide) (by rw [c15_1]; decide) (by rw [c15_1]; rfl) (by decide) ?_
      refine lv_aload_n hx hb dX6_ball_59 rfl (lv_at hl 0 rfl) ?_
      refine va_get (D := (dC, dI)) (ci := 6) (v := .ref a_size) (C := RX6) (T := TX6) (N := 31) hx hb hts hinX6 hown hK hP 4 rfl rfl 14 (by decide) (hts (.fieldLink RX6 13 "PaperInBinModel" "size" "[I") (by decide +kernel)) (fun _ h9 => h9) rfl dX6_ball_60 ?_
      refine lv_iload_n hx hb dX6_ball_63 rfl (lv_at hl 1 rfl) ?_
      obtain ⟨g4, hR⟩ := g_in_s hR
      refine va_iald hx hb hK hP 2 0 rfl rfl g4 dX6_ball_64 ?_
      have hP := hP.sub (ws' := [(a_t, .inr (6, [.int t_hand, .int t_first, .int t_wide, .int t_rim, .int t_fill, .int t_wall, .int t_ceiling, .int t_puff, .int t_period, .int t_second, .int t_score, .int t_thrown, .int t_balls, .ref a_kind, .ref a_size, .ref a_tight, .int t_letters, .ref a_letter, .int t_at, .int t_value, .int t_inRow, .ref a_row, .ref a_refusals, .int t_imaged, .ref a_image, .ref a_ahead, .int t_end, .int t_cell, .int t_steps, .int t_highest, .int t_struck])), (a_refusals, .inl (cI, 7, .inl refusalsA)), (a_kind, .inl (cI, 5, .inl kindA)), (a_size, .inl (cI, 5, .inl sizeA)), (a_tight, .inl (cI, 5, .inl tightA))]) [4, 0, 1, 2, 3] rfl
      have hD := hD.sub (ws' := [(a_t, .inr (6, [.int t_hand, .int t_first, .int t_wide, .int t_rim, .int t_fill, .int t_wall, .int t_ceiling, .int t_puff, .int t_period, .int t_second, .int t_score, .int t_thrown, .int t_balls, .ref a_kind, .ref a_size, .ref a_tight, .int t_letters, .ref a_letter, .int t_at, .int t_value, .int t_inRow, .ref a_row, .ref a_refusals, .int t_imaged, .ref a_image, .ref a_ahead, .int t_end, .int t_cell, .int t_steps, .int t_highest, .int t_struck])), (a_refusals, .inl (cI, 7, .inl refusalsA)), (a_kind, .inl (cI, 5, .inl kindA)), (a_size, .inl (cI, 5, .inl sizeA)), (a_tight, .inl (cI, 5, .inl tightA))]) [4, 0, 1, 2, 3] (by decide) rfl
      subst hQ
      subst hAe
      exact W.iret (v := (sizeA (x1).toNatClampNeg)) hx hb hr (fun t ht hW => ⟨⟨(sizeA (x1).toNatClampNeg), (refusalsA), rfl, Option.some.inj hR, by rw [ht]; exact hP, hD⟩, hS.F ht⟩) hS.2.2 dX6_ball_65
    have hR := (if_neg c15_1).symm.trans hR
    by_cases c15_2 : x2 = 2
    · have hR := (if_pos c15_2).symm.trans hR
      refine lv_tableIn (off := 51) (tgt := 66) hx hb dX6_ball_15 (by rw [c15_2]; decide) (by rw [c15_2]; decide) (by rw [c15_2]; rfl) (by decide) ?_
      refine lv_aload_n hx hb dX6_ball_66 rfl (lv_at hl 0 rfl) ?_
      refine va_get (D := (dC, dI)) (ci := 6) (v := .ref a_tight) (C := RX6) (T := TX6) (N := 31) hx hb hts hinX6 hown hK hP 4 rfl rfl 15 (by decide) (hts (.fieldLink RX6 16 "PaperInBinModel" "tight" "[I") (by decide +kernel)) (fun _ h9 => h9) rfl dX6_ball_67 ?_
      refine lv_iload_n hx hb dX6_ball_70 rfl (lv_at hl 1 rfl) ?_
      obtain ⟨g5, hR⟩ := g_in_s hR
      refine va_iald hx hb hK hP 3 0 rfl rfl g5 dX6_ball_71 ?_
      have hP := hP.sub (ws' := [(a_t, .inr (6, [.int t_hand, .int t_first, .int t_wide, .int t_rim, .int t_fill, .int t_wall, .int t_ceiling, .int t_puff, .int t_period, .int t_second, .int t_score, .int t_thrown, .int t_balls, .ref a_kind, .ref a_size, .ref a_tight, .int t_letters, .ref a_letter, .int t_at, .int t_value, .int t_inRow, .ref a_row, .ref a_refusals, .int t_imaged, .ref a_image, .ref a_ahead, .int t_end, .int t_cell, .int t_steps, .int t_highest, .int t_struck])), (a_refusals, .inl (cI, 7, .inl refusalsA)), (a_kind, .inl (cI, 5, .inl kindA)), (a_size, .inl (cI, 5, .inl sizeA)), (a_tight, .inl (cI, 5, .inl tightA))]) [4, 0, 1, 2, 3] rfl
      have hD := hD.sub (ws' := [(a_t, .inr (6, [.int t_hand, .int t_first, .int t_wide, .int t_rim, .int t_fill, .int t_wall, .int t_ceiling, .int t_puff, .int t_period, .int t_second, .int t_score, .int t_thrown, .int t_balls, .ref a_kind, .ref a_size, .ref a_tight, .int t_letters, .ref a_letter, .int t_at, .int t_value, .int t_inRow, .ref a_row, .ref a_refusals, .int t_imaged, .ref a_image, .ref a_ahead, .int t_end, .int t_cell, .int t_steps, .int t_highest, .int t_struck])), (a_refusals, .inl (cI, 7, .inl refusalsA)), (a_kind, .inl (cI, 5, .inl kindA)), (a_size, .inl (cI, 5, .inl sizeA)), (a_tight, .inl (cI, 5, .inl tightA))]) [4, 0, 1, 2, 3] (by decide) rfl
      subst hQ
      subst hAe
      exact W.iret (v := (tightA (x1).toNatClampNeg)) hx hb hr (fun t ht hW => ⟨⟨(tightA (x1).toNatClampNeg), (refusalsA), rfl, Option.some.inj hR, by rw [ht]; exact hP, hD⟩, hS.F ht⟩) hS.2.2 dX6_ball_72
    have hR := (if_neg c15_2).symm.trans hR
    by_cases c15_3 : x2 = 3
    · have hR := (if_pos c15_3).symm.trans hR
      refine lv_tableIn (off := 58) (tgt := 73) hx hb dX6_ball_15 (by rw [c15_3]; decide) (by rw [c15_3]; decide) (by rw [c15_3]; rfl) (by decide) ?_
      refine lv_aload_n hx hb dX6_ball_73 rfl (lv_at hl 0 rfl) ?_
      refine lv_iload_n hx hb dX6_ball_74 rfl (lv_at hl 1 rfl) ?_
      obtain ⟨r6, hu7, hR⟩ := b1_s hR
      refine cl_ViN (As := [.int x1]) (rest := []) (wc := [(a_t, .inr (6, [.int t_hand, .int t_first, .int t_wide, .int t_rim, .int t_fill, .int t_wall, .int t_ceiling, .int t_puff, .int t_period, .int t_second, .int t_score, .int t_thrown, .int t_balls, .ref a_kind, .ref a_size, .ref a_tight, .int t_letters, .ref a_letter, .int t_at, .int t_value, .int t_inRow, .ref a_row, .ref a_refusals, .int t_imaged, .ref a_image, .ref a_ahead, .int t_end, .int t_cell, .int t_steps, .int t_highest, .int t_struck])), (a_size, .inl (cI, 5, .inl sizeA)), (a_tight, .inl (cI, 5, .inl tightA)), (a_kind, .inl (cI, 5, .inl kindA))]) (wr := [(a_refusals, .inl (cI, 7, .inl refusalsA))]) ⟨hx, hb, hml, hown, hts⟩ (kX6_drag l dC dI cI a_t a_kind a_size a_tight a_letter a_row a_refusals a_image a_ahead H.size x1 t_hand t_first t_wide t_rim t_fill t_wall t_ceiling t_puff t_period t_second t_score t_thrown t_balls t_letters t_at t_value t_inRow t_imaged t_end t_cell t_steps t_highest t_struck sizeA tightA kindA r6 hu7) (cwV 1 hts gX6_ball_X6_drag rfl rfl rfl (by decide +kernel) ⟨Nat.le_of_ble_eq_true rfl, Nat.le_of_ble_eq_true rfl⟩) hK hN hP hD hS hA (va_recv hK hP (ci := 6) (q0 := 4) rfl rfl) [4, 2, 3, 1] [0] rfl rfl rfl rfl rfl (by decide) rfl hl.1 rfl (Nat.le_of_ble_eq_true rfl) dX6_ball_75 (fun H locs hP hD hS => ?_)
      have hP : va_P (dC, dI) vwCl [(a_refusals, .inl (cI, 7, .inl refusalsA)), (a_t, .inr (6, [.int t_hand, .int t_first, .int t_wide, .int t_rim, .int t_fill, .int t_wall, .int t_ceiling, .int t_puff, .int t_period, .int t_second, .int t_score, .int t_thrown, .int t_balls, .ref a_kind, .ref a_size, .ref a_tight, .int t_letters, .ref a_letter, .int t_at, .int t_value, .int t_inRow, .ref a_row, .ref a_refusals, .int t_imaged, .ref a_image, .ref a_ahead, .int t_end, .int t_cell, .int t_steps, .int t_highest, .int t_struck])), (a_size, .inl (cI, 5, .inl sizeA)), (a_tight, .inl (cI, 5, .inl tightA)), (a_kind, .inl (cI, 5, .inl kindA))] H := hP
      have hD : va_D A [(a_refusals, .inl (cI, 7, .inl refusalsA)), (a_t, .inr (6, [.int t_hand, .int t_first, .int t_wide, .int t_rim, .int t_fill, .int t_wall, .int t_ceiling, .int t_puff, .int t_period, .int t_second, .int t_score, .int t_thrown, .int t_balls, .ref a_kind, .ref a_size, .ref a_tight, .int t_letters, .ref a_letter, .int t_at, .int t_value, .int t_inRow, .ref a_row, .ref a_refusals, .int t_imaged, .ref a_image, .ref a_ahead, .int t_end, .int t_cell, .int t_steps, .int t_highest, .int t_struck])), (a_size, .inl (cI, 5, .inl sizeA)), (a_tight, .inl (cI, 5, .inl tightA)), (a_kind, .inl (cI, 5, .inl kindA))] := hD
      have hP := hP.sub (ws' := [(a_t, .inr (6, [.int t_hand, .int t_first, .int t_wide, .int t_rim, .int t_fill, .int t_wall, .int t_ceiling, .int t_puff, .int t_period, .int t_second, .int t_score, .int t_thrown, .int t_balls, .ref a_kind, .ref a_size, .ref a_tight, .int t_letters, .ref a_letter, .int t_at, .int t_value, .int t_inRow, .ref a_row, .ref a_refusals, .int t_imaged, .ref a_image, .ref a_ahead, .int t_end, .int t_cell, .int t_steps, .int t_highest, .int t_struck])), (a_refusals, .inl (cI, 7, .inl refusalsA)), (a_kind, .inl (cI, 5, .inl kindA)), (a_size, .inl (cI, 5, .inl sizeA)), (a_tight, .inl (cI, 5, .inl tightA))]) [1, 0, 4, 2, 3] rfl
      have hD := hD.sub (ws' := [(a_t, .inr (6, [.int t_hand, .int t_first, .int t_wide, .int t_rim, .int t_fill, .int t_wall, .int t_ceiling, .int t_puff, .int t_period, .int t_second, .int t_score, .int t_thrown, .int t_balls, .ref a_kind, .ref a_size, .ref a_tight, .int t_letters, .ref a_letter, .int t_at, .int t_value, .int t_inRow, .ref a_row, .ref a_refusals, .int t_imaged, .ref a_image, .ref a_ahead, .int t_end, .int t_cell, .int t_steps, .int t_highest, .int t_struck])), (a_refusals, .inl (cI, 7, .inl refusalsA)), (a_kind, .inl (cI, 5, .inl kindA)), (a_size, .inl (cI, 5, .inl sizeA)), (a_tight, .inl (cI, 5, .inl tightA))]) [1, 0, 4, 2, 3] (by decide) rfl
      subst hQ
      subst hAe
      exact W.iret (v := r6) hx hb hr (fun t ht hW => ⟨⟨r6, (refusalsA), rfl, Option.some.inj hR, by rw [ht]; exact hP, hD⟩, hS.F ht⟩) hS.2.2 dX6_ball_78
    have hR := (if_neg c15_3).symm.trans hR
    by_cases c15_4 : x2 = 4
    · have hR := (if_pos c15_4).symm.trans hR
      refine lv_tableIn (off := 64) (tgt := 79) hx hb dX6_ball_15 (by rw [c15_4]; decide) (by rw [c15_4]; decide) (by rw [c15_4]; rfl) (by decide) ?_
      refine lv_aload_n hx hb dX6_ball_79 rfl (lv_at hl 0 rfl) ?_
      refine lv_iload_n hx hb dX6_ball_80 rfl (lv_at hl 1 rfl) ?_
      obtain ⟨r8, hu9, hR⟩ := b1_s hR
      refine cl_ViN (As := [.int x1]) (rest := []) (wc := [(a_t, .inr (6, [.int t_hand, .int t_first, .int t_wide, .int t_rim, .int t_fill, .int t_wall, .int t_ceiling, .int t_puff, .int t_period, .int t_second, .int t_score, .int t_thrown, .int t_balls, .ref a_kind, .ref a_size, .ref a_tight, .int t_letters, .ref a_letter, .int t_at, .int t_value, .int t_inRow, .ref a_row, .ref a_refusals, .int t_imaged, .ref a_image, .ref a_ahead, .int t_end, .int t_cell, .int t_steps, .int t_highest, .int t_struck])), (a_kind, .inl (cI, 5, .inl kindA))]) (wr := [(a_refusals, .inl (cI, 7, .inl refusalsA)), (a_size, .inl (cI, 5, .inl sizeA)), (a_tight, .inl (cI, 5, .inl tightA))]) ⟨hx, hb, hml, hown, hts⟩ (kX6_fall l dC dI cI a_t a_kind a_size a_tight a_letter a_row a_refusals a_image a_ahead H.size x1 t_hand t_first t_wide t_rim t_fill t_wall t_ceiling t_puff t_period t_second t_score t_thrown t_balls t_letters t_at t_value t_inRow t_imaged t_end t_cell t_steps t_highest t_struck kindA r8 hu9) (cwV 1 hts gX6_ball_X6_fall rfl rfl rfl (by decide +kernel) ⟨Nat.le_of_ble_eq_true rfl, Nat.le_of_ble_eq_true rfl⟩) hK hN hP hD hS hA (va_recv hK hP (ci := 6) (q0 := 4) rfl rfl) [4, 1] [0, 2, 3] rfl rfl rfl rfl rfl (by decide) rfl hl.1 rfl (Nat.le_of_ble_eq_true rfl) dX6_ball_81 (fun H locs hP hD hS => ?_)
      have hP : va_P (dC, dI) vwCl [(a_refusals, .inl (cI, 7, .inl refusalsA)), (a_size, .inl (cI, 5, .inl sizeA)), (a_tight, .inl (cI, 5, .inl tightA)), (a_t, .inr (6, [.int t_hand, .int t_first, .int t_wide, .int t_rim, .int t_fill, .int t_wall, .int t_ceiling, .int t_puff, .int t_period, .int t_second, .int t_score, .int t_thrown, .int t_balls, .ref a_kind, .ref a_size, .ref a_tight, .int t_letters, .ref a_letter, .int t_at, .int t_value, .int t_inRow, .ref a_row, .ref a_refusals, .int t_imaged, .ref a_image, .ref a_ahead, .int t_end, .int t_cell, .int t_steps, .int t_highest, .int t_struck])), (a_kind, .inl (cI, 5, .inl kindA))] H := hP
      have hD : va_D A [(a_refusals, .inl (cI, 7, .inl refusalsA)), (a_size, .inl (cI, 5, .inl sizeA)), (a_tight, .inl (cI, 5, .inl tightA)), (a_t, .inr (6, [.int t_hand, .int t_first, .int t_wide, .int t_rim, .int t_fill, .int t_wall, .int t_ceiling, .int t_puff, .int t_period, .int t_second, .int t_score, .int t_thrown, .int t_balls, .ref a_kind, .ref a_size, .ref a_tight, .int t_letters, .ref a_letter, .int t_at, .int t_value, .int t_inRow, .ref a_row, .ref a_refusals, .int t_imaged, .ref a_image, .ref a_ahead, .int t_end, .int t_cell, .int t_steps, .int t_highest, .int t_struck])), (a_kind, .inl (cI, 5, .inl kindA))] := hD
      have hP := hP.sub (ws' := [(a_t, .inr (6, [.int t_hand, .int t_first, .int t_wide, .int t_rim, .int t_fill, .int t_wall, .int t_ceiling, .int t_puff, .int t_period, .int t_second, .int t_score, .int t_thrown, .int t_balls, .ref a_kind, .ref a_size, .ref a_tight, .int t_letters, .ref a_letter, .int t_at, .int t_value, .int t_inRow, .ref a_row, .ref a_refusals, .int t_imaged, .ref a_image, .ref a_ahead, .int t_end, .int t_cell, .int t_steps, .int t_highest, .int t_struck])), (a_refusals, .inl (cI, 7, .inl refusalsA)), (a_kind, .inl (cI, 5, .inl kindA)), (a_size, .inl (cI, 5, .inl sizeA)), (a_tight, .inl (cI, 5, .inl tightA))]) [3, 0, 4, 1, 2] rfl
      have hD := hD.sub (ws' := [(a_t, .inr (6, [.int t_hand, .int t_first, .int t_wide, .int t_rim, .int t_fill, .int t_wall, .int t_ceiling, .int t_puff, .int t_period, .int t_second, .int t_score, .int t_thrown, .int t_balls, .ref a_kind, .ref a_size, .ref a_tight, .int t_letters, .ref a_letter, .int t_at, .int t_value, .int t_inRow, .ref a_row, .ref a_refusals, .int t_imaged, .ref a_image, .ref a_ahead, .int t_end, .int t_cell, .int t_steps, .int t_highest, .int t_struck])), (a_refusals, .inl (cI, 7, .inl refusalsA)), (a_kind, .inl (cI, 5, .inl kindA)), (a_size, .inl (cI, 5, .inl sizeA)), (a_tight, .inl (cI, 5, .inl tightA))]) [3, 0, 4, 1, 2] (by decide) rfl
      subst hQ
      subst hAe
      exact W.iret (v := r8) hx hb hr (fun t ht hW => ⟨⟨r8, (refusalsA), rfl, Option.some.inj hR, by rw [ht]; exact hP, hD⟩, hS.F ht⟩) hS.2.2 dX6_ball_84
    have hR := (if_neg c15_4).symm.trans hR
    by_cases c15_5 : x2 = 5
    · have hR := (if_pos c15_5).symm.trans hR
      refine lv_tableIn (off := 70) (tgt := 85) hx hb dX6_ball_15 (by rw [c15_5]; decide) (by rw [c15_5]; decide) (by rw [c15_5]; rfl) (by decide) ?_
      refine lv_bipush (v := 10) hx hb dX6_ball_85 (by decide) ?_
      refine lv_aload_n hx hb dX6_ball_87 rfl (lv_at hl 0 rfl) ?_
      refine lv_iload_n hx hb dX6_ball_88 rfl (lv_at hl 1 rfl) ?_
      obtain ⟨r10, hu11, hR⟩ := b1_s hR
      refine cl_ViN (As := [.int x1]) (rest := [.int 10]) (wc := [(a_t, .inr (6, [.int t_hand, .int t_first, .int t_wide, .int t_rim, .int t_fill, .int t_wall, .int t_ceiling, .int t_puff, .int t_period, .int t_second, .int t_score, .int t_thrown, .int t_balls, .ref a_kind, .ref a_size, .ref a_tight, .int t_letters, .ref a_letter, .int t_at, .int t_value, .int t_inRow, .ref a_row, .ref a_refusals, .int t_imaged, .ref a_image, .ref a_ahead, .int t_end, .int t_cell, .int t_steps, .int t_highest, .int t_struck])), (a_kind, .inl (cI, 5, .inl kindA))]) (wr := [(a_refusals, .inl (cI, 7, .inl refusalsA)), (a_size, .inl (cI, 5, .inl sizeA)), (a_tight, .inl (cI, 5, .inl tightA))]) ⟨hx, hb, hml, hown, hts⟩ (kX6_blown l dC dI cI a_t a_kind a_size a_tight a_letter a_row a_refusals a_image a_ahead H.size x1 t_hand t_first t_wide t_rim t_fill t_wall t_ceiling t_puff t_period t_second t_score t_thrown t_balls t_letters t_at t_value t_inRow t_imaged t_end t_cell t_steps t_highest t_struck kindA r10 hu11) (cwV 1 hts gX6_ball_X6_blown rfl rfl rfl (by decide +kernel) ⟨Nat.le_of_ble_eq_true rfl, Nat.le_of_ble_eq_true rfl⟩) hK hN hP hD hS hA (va_recv hK hP (ci := 6) (q0 := 4) rfl rfl) [4, 1] [0, 2, 3] rfl rfl rfl rfl rfl (by decide) rfl hl.1 rfl (Nat.le_of_ble_eq_true rfl) dX6_ball_89 (fun H locs hP hD hS => ?_)
      have hP : va_P (dC, dI) vwCl [(a_refusals, .inl (cI, 7, .inl refusalsA)), (a_size, .inl (cI, 5, .inl sizeA)), (a_tight, .inl (cI, 5, .inl tightA)), (a_t, .inr (6, [.int t_hand, .int t_first, .int t_wide, .int t_rim, .int t_fill, .int t_wall, .int t_ceiling, .int t_puff, .int t_period, .int t_second, .int t_score, .int t_thrown, .int t_balls, .ref a_kind, .ref a_size, .ref a_tight, .int t_letters, .ref a_letter, .int t_at, .int t_value, .int t_inRow, .ref a_row, .ref a_refusals, .int t_imaged, .ref a_image, .ref a_ahead, .int t_end, .int t_cell, .int t_steps, .int t_highest, .int t_struck])), (a_kind, .inl (cI, 5, .inl kindA))] H := hP
      have hD : va_D A [(a_refusals, .inl (cI, 7, .inl refusalsA)), (a_size, .inl (cI, 5, .inl sizeA)), (a_tight, .inl (cI, 5, .inl tightA)), (a_t, .inr (6, [.int t_hand, .int t_first, .int t_wide, .int t_rim, .int t_fill, .int t_wall, .int t_ceiling, .int t_puff, .int t_period, .int t_second, .int t_score, .int t_thrown, .int t_balls, .ref a_kind, .ref a_size, .ref a_tight, .int t_letters, .ref a_letter, .int t_at, .int t_value, .int t_inRow, .ref a_row, .ref a_refusals, .int t_imaged, .ref a_image, .ref a_ahead, .int t_end, .int t_cell, .int t_steps, .int t_highest, .int t_struck])), (a_kind, .inl (cI, 5, .inl kindA))] := hD
      refine lv_iadd hx hb dX6_ball_92 ?_
      have hP := hP.sub (ws' := [(a_t, .inr (6, [.int t_hand, .int t_first, .int t_wide, .int t_rim, .int t_fill, .int t_wall, .int t_ceiling, .int t_puff, .int t_period, .int t_second, .int t_score, .int t_thrown, .int t_balls, .ref a_kind, .ref a_size, .ref a_tight, .int t_letters, .ref a_letter, .int t_at, .int t_value, .int t_inRow, .ref a_row, .ref a_refusals, .int t_imaged, .ref a_image, .ref a_ahead, .int t_end, .int t_cell, .int t_steps, .int t_highest, .int t_struck])), (a_refusals, .inl (cI, 7, .inl refusalsA)), (a_kind, .inl (cI, 5, .inl kindA)), (a_size, .inl (cI, 5, .inl sizeA)), (a_tight, .inl (cI, 5, .inl tightA))]) [3, 0, 4, 1, 2] rfl
      have hD := hD.sub (ws' := [(a_t, .inr (6, [.int t_hand, .int t_first, .int t_wide, .int t_rim, .int t_fill, .int t_wall, .int t_ceiling, .int t_puff, .int t_period, .int t_second, .int t_score, .int t_thrown, .int t_balls, .ref a_kind, .ref a_size, .ref a_tight, .int t_letters, .ref a_letter, .int t_at, .int t_value, .int t_inRow, .ref a_row, .ref a_refusals, .int t_imaged, .ref a_image, .ref a_ahead, .int t_end, .int t_cell, .int t_steps, .int t_highest, .int t_struck])), (a_refusals, .inl (cI, 7, .inl refusalsA)), (a_kind, .inl (cI, 5, .inl kindA)), (a_size, .inl (cI, 5, .inl sizeA)), (a_tight, .inl (cI, 5, .inl tightA))]) [3, 0, 4, 1, 2] (by decide) rfl
      subst hQ
      subst hAe
      exact W.iret (v := (10 + r10)) hx hb hr (fun t ht hW => ⟨⟨(10 + r10), (refusalsA), rfl, Option.some.inj hR, by rw [ht]; exact hP, hD⟩, hS.F ht⟩) hS.2.2 dX6_ball_93
    have hR := (if_neg c15_5).symm.trans hR
    have tc15_0 := lv_neT (k := 0) (a := 0) c15_0 (by decide)
    have tc15_1 := lv_neT (k := 1) (a := 1) c15_1 (by decide)
    have tc15_2 := lv_neT (k := 2) (a := 2) c15_2 (by decide)
    have tc15_3 := lv_neT (k := 3) (a := 3) c15_3 (by decide)
    have tc15_4 := lv_neT (k := 4) (a := 4) c15_4 (by decide)
    have tc15_5 := lv_neT (k := 5) (a := 5) c15_5 (by decide)
    refine lv_tableOut (tgt := 94) hx hb dX6_ball_15 (by omega) (by decide) ?_
    refine lv_aload_n hx hb dX6_ball_94 rfl (lv_at hl 0 rfl) ?_
    refine lv_bipush (v := (-2)) hx hb dX6_ball_95 (by decide) ?_
    obtain ⟨r12, w13, hu14, hR⟩ := b2_s hR
    refine cl_ViT (As := [.int (-2)]) (rest := []) (wc := [(a_t, .inr (6, [.int t_hand, .int t_first, .int t_wide, .int t_rim, .int t_fill, .int t_wall, .int t_ceiling, .int t_puff, .int t_period, .int t_second, .int t_score, .int t_thrown, .int t_balls, .ref a_kind, .ref a_size, .ref a_tight, .int t_letters, .ref a_letter, .int t_at, .int t_value, .int t_inRow, .ref a_row, .ref a_refusals, .int t_imaged, .ref a_image, .ref a_ahead, .int t_end, .int t_cell, .int t_steps, .int t_highest, .int t_struck])), (a_refusals, .inl (cI, 7, .inl refusalsA))]) (wr := [(a_kind, .inl (cI, 5, .inl kindA)), (a_size, .inl (cI, 5, .inl sizeA)), (a_tight, .inl (cI, 5, .inl tightA))]) ⟨hx, hb, hml, hown, hts⟩ (kX6_no l dC dI cI a_t a_kind a_size a_tight a_letter a_row a_refusals a_image a_ahead H.size (-2) t_hand t_first t_wide t_rim t_fill t_wall t_ceiling t_puff t_period t_second t_score t_thrown t_balls t_letters t_at t_value t_inRow t_imaged t_end t_cell t_steps t_highest t_struck refusalsA (r12, w13) hu14) (cwV 1 hts gX6_ball_X6_no rfl rfl rfl (by decide +kernel) ⟨Nat.le_of_ble_eq_true rfl, Nat.le_of_ble_eq_true rfl⟩) hK hN hP hD hS hA (va_recv hK hP (ci := 6) (q0 := 4) rfl rfl) [4, 0] [1, 2, 3] rfl rfl rfl rfl rfl (by decide) rfl hl.1 rfl (Nat.le_of_ble_eq_true rfl) dX6_ball_97 (fun H locs hP hD hS => ?_)
    have hP : va_P (dC, dI) vwCl [(a_kind, .inl (cI, 5, .inl kindA)), (a_size, .inl (cI, 5, .inl sizeA)), (a_tight, .inl (cI, 5, .inl tightA)), (a_t, .inr (6, [.int t_hand, .int t_first, .int t_wide, .int t_rim, .int t_fill, .int t_wall, .int t_ceiling, .int t_puff, .int t_period, .int t_second, .int t_score, .int t_thrown, .int t_balls, .ref a_kind, .ref a_size, .ref a_tight, .int t_letters, .ref a_letter, .int t_at, .int t_value, .int t_inRow, .ref a_row, .ref a_refusals, .int t_imaged, .ref a_image, .ref a_ahead, .int t_end, .int t_cell, .int t_steps, .int t_highest, .int t_struck])), (a_refusals, .inl (cI, 7, .inl w13))] H := hP
    have hD : va_D A [(a_kind, .inl (cI, 5, .inl kindA)), (a_size, .inl (cI, 5, .inl sizeA)), (a_tight, .inl (cI, 5, .inl tightA)), (a_t, .inr (6, [.int t_hand, .int t_first, .int t_wide, .int t_rim, .int t_fill, .int t_wall, .int t_ceiling, .int t_puff, .int t_period, .int t_second, .int t_score, .int t_thrown, .int t_balls, .ref a_kind, .ref a_size, .ref a_tight, .int t_letters, .ref a_letter, .int t_at, .int t_value, .int t_inRow, .ref a_row, .ref a_refusals, .int t_imaged, .ref a_image, .ref a_ahead, .int t_end, .int t_cell, .int t_steps, .int t_highest, .int t_struck])), (a_refusals, .inl (cI, 7, .inl w13))] := hD
    have hP := hP.sub (ws' := [(a_t, .inr (6, [.int t_hand, .int t_first, .int t_wide, .int t_rim, .int t_fill, .int t_wall, .int t_ceiling, .int t_puff, .int t_period, .int t_second, .int t_score, .int t_thrown, .int t_balls, .ref a_kind, .ref a_size, .ref a_tight, .int t_letters, .ref a_letter, .int t_at, .int t_value, .int t_inRow, .ref a_row, .ref a_refusals, .int t_imaged, .ref a_image, .ref a_ahead, .int t_end, .int t_cell, .int t_steps, .int t_highest, .int t_struck])), (a_refusals, .inl (cI, 7, .inl w13)), (a_kind, .inl (cI, 5, .inl kindA)), (a_size, .inl (cI, 5, .inl sizeA)), (a_tight, .inl (cI, 5, .inl tightA))]) [3, 4, 0, 1, 2] rfl
    have hD := hD.sub (ws' := [(a_t, .inr (6, [.int t_hand, .int t_first, .int t_wide, .int t_rim, .int t_fill, .int t_wall, .int t_ceiling, .int t_puff, .int t_period, .int t_second, .int t_score, .int t_thrown, .int t_balls, .ref a_kind, .ref a_size, .ref a_tight, .int t_letters, .ref a_letter, .int t_at, .int t_value, .int t_inRow, .ref a_row, .ref a_refusals, .int t_imaged, .ref a_image, .ref a_ahead, .int t_end, .int t_cell, .int t_steps, .int t_highest, .int t_struck])), (a_refusals, .inl (cI, 7, .inl w13)), (a_kind, .inl (cI, 5, .inl kindA)), (a_size, .inl (cI, 5, .inl sizeA)), (a_tight, .inl (cI, 5, .inl tightA))]) [3, 4, 0, 1, 2] (by decide) rfl
    subst hQ
    subst hAe
    exact W.iret (v := r12) hx hb hr (fun t ht hW => ⟨⟨r12, (w13), rfl, Option.some.inj hR, by rw [ht]; exact hP, hD⟩, hS.F ht⟩) hS.2.2 dX6_ball_100
  · have hR := (if_pos c5).symm.trans hR
    refine lv_aload_n hx hb dX6_ball_8 rfl (lv_at hl 0 rfl) ?_
    refine lv_iconst (v := (-1)) hx hb dX6_ball_9 (by decide) ?_
    obtain ⟨r15, w16, hu17, hR⟩ := b2_s hR
    refine cl_ViT (As := [.int (-1)]) (rest := []) (wc := [(a_t, .inr (6, [.int t_hand, .int t_first, .int t_wide, .int t_rim, .int t_fill, .int t_wall, .int t_ceiling, .int t_puff, .int t_period, .int t_second, .int t_score, .int t_thrown, .int t_balls, .ref a_kind, .ref a_size, .ref a_tight, .int t_letters, .ref a_letter, .int t_at, .int t_value, .int t_inRow, .ref a_row, .ref a_refusals, .int t_imaged, .ref a_image, .ref a_ahead, .int t_end, .int t_cell, .int t_steps, .int t_highest, .int t_struck])), (a_refusals, .inl (cI, 7, .inl refusalsA))]) (wr := [(a_kind, .inl (cI, 5, .inl kindA)), (a_size, .inl (cI, 5, .inl sizeA)), (a_tight, .inl (cI, 5, .inl tightA))]) ⟨hx, hb, hml, hown, hts⟩ (kX6_no l dC dI cI a_t a_kind a_size a_tight a_letter a_row a_refusals a_image a_ahead H.size (-1) t_hand t_first t_wide t_rim t_fill t_wall t_ceiling t_puff t_period t_second t_score t_thrown t_balls t_letters t_at t_value t_inRow t_imaged t_end t_cell t_steps t_highest t_struck refusalsA (r15, w16) hu17) (cwV 1 hts gX6_ball_X6_no rfl rfl rfl (by decide +kernel) ⟨Nat.le_of_ble_eq_true rfl, Nat.le_of_ble_eq_true rfl⟩) hK hN hP hD hS hA (va_recv hK hP (ci := 6) (q0 := 4) rfl rfl) [4, 0] [1, 2, 3] rfl rfl rfl rfl rfl (by decide) rfl hl.1 rfl (Nat.le_of_ble_eq_true rfl) dX6_ball_10 (fun H locs hP hD hS => ?_)
    have hP : va_P (dC, dI) vwCl [(a_kind, .inl (cI, 5, .inl kindA)), (a_size, .inl (cI, 5, .inl sizeA)), (a_tight, .inl (cI, 5, .inl tightA)), (a_t, .inr (6, [.int t_hand, .int t_first, .int t_wide, .int t_rim, .int t_fill, .int t_wall, .int t_ceiling, .int t_puff, .int t_period, .int t_second, .int t_score, .int t_thrown, .int t_balls, .ref a_kind, .ref a_size, .ref a_tight, .int t_letters, .ref a_letter, .int t_at, .int t_value, .int t_inRow, .ref a_row, .ref a_refusals, .int t_imaged, .ref a_image, .ref a_ahead, .int t_end, .int t_cell, .int t_steps, .int t_highest, .int t_struck])), (a_refusals, .inl (cI, 7, .inl w16))] H := hP
    have hD : va_D A [(a_kind, .inl (cI, 5, .inl kindA)), (a_size, .inl (cI, 5, .inl sizeA)), (a_tight, .inl (cI, 5, .inl tightA)), (a_t, .inr (6, [.int t_hand, .int t_first, .int t_wide, .int t_rim, .int t_fill, .int t_wall, .int t_ceiling, .int t_puff, .int t_period, .int t_second, .int t_score, .int t_thrown, .int t_balls, .ref a_kind, .ref a_size, .ref a_tight, .int t_letters, .ref a_letter, .int t_at, .int t_value, .int t_inRow, .ref a_row, .ref a_refusals, .int t_imaged, .ref a_image, .ref a_ahead, .int t_end, .int t_cell, .int t_steps, .int t_highest, .int t_struck])), (a_refusals, .inl (cI, 7, .inl w16))] := hD
    have hP := hP.sub (ws' := [(a_t, .inr (6, [.int t_hand, .int t_first, .int t_wide, .int t_rim, .int t_fill, .int t_wall, .int t_ceiling, .int t_puff, .int t_period, .int t_second, .int t_score, .int t_thrown, .int t_balls, .ref a_kind, .ref a_size, .ref a_tight, .int t_letters, .ref a_letter, .int t_at, .int t_value, .int t_inRow, .ref a_row, .ref a_refusals, .int t_imaged, .ref a_image, .ref a_ahead, .int t_end, .int t_cell, .int t_steps, .int t_highest, .int t_struck])), (a_refusals, .inl (cI, 7, .inl w16)), (a_kind, .inl (cI, 5, .inl kindA)), (a_size, .inl (cI, 5, .inl sizeA)), (a_tight, .inl (cI, 5, .inl tightA))]) [3, 4, 0, 1, 2] rfl
    have hD := hD.sub (ws' := [(a_t, .inr (6, [.int t_hand, .int t_first, .int t_wide, .int t_rim, .int t_fill, .int t_wall, .int t_ceiling, .int t_puff, .int t_period, .int t_second, .int t_score, .int t_thrown, .int t_balls, .ref a_kind, .ref a_size, .ref a_tight, .int t_letters, .ref a_letter, .int t_at, .int t_value, .int t_inRow, .ref a_row, .ref a_refusals, .int t_imaged, .ref a_image, .ref a_ahead, .int t_end, .int t_cell, .int t_steps, .int t_highest, .int t_struck])), (a_refusals, .inl (cI, 7, .inl w16)), (a_kind, .inl (cI, 5, .inl kindA)), (a_size, .inl (cI, 5, .inl sizeA)), (a_tight, .inl (cI, 5, .inl tightA))]) [3, 4, 0, 1, 2] (by decide) rfl
    subst hQ
    subst hAe
    exact W.iret (v := r15) hx hb hr (fun t ht hW => ⟨⟨r15, (w16), rfl, Option.some.inj hR, by rw [ht]; exact hP, hD⟩, hS.F ht⟩) hS.2.2 dX6_ball_13
def fX6_crumple (x1 : Int32) (x2 : Int32) (t_balls : Int32) (refusalsA : Nat → Int32) (tightA : Nat → Int32) : Option (Int32 × (Nat → Int32) × (Nat → Int32)) :=
  b1 (fX6_isBall x1 t_balls) (fun r1 =>
  if r1 = 0 then (
   b2 (fX6_no (-1) refusalsA) (fun r11 w12 =>
   some (r11, w12, tightA)))
  else (
  if 0 ≤ x2 then (
   if x2 ≤ 9 then (
    g_in x1 5 (
    g_in x1 5 (
    some ((tightA (x1).toNatClampNeg), refusalsA, (upd tightA (x1).toNatClampNeg x2)))))
   else (
   b2 (fX6_no (-6) refusalsA) (fun r5 w6 =>
   some (r5, w6, tightA))))
  else (
  b2 (fX6_no (-4) refusalsA) (fun r8 w9 =>
  some (r8, w9, tightA)))))
set_option maxHeartbeats 4000000 in
set_option maxRecDepth 100000 in
theorem kX6_crumple (l : Launch) (dC : Nat → ClassId) (dI : Nat → Nat → Nat) (cI : ClassId) (a_t a_kind a_size a_tight a_letter a_row a_refusals a_image a_ahead : Nat) (sz : Nat) (x1 : Int32) (x2 : Int32) (t_hand : Int32) (t_first : Int32) (t_wide : Int32) (t_rim : Int32) (t_fill : Int32) (t_wall : Int32) (t_ceiling : Int32) (t_puff : Int32) (t_period : Int32) (t_second : Int32) (t_score : Int32) (t_thrown : Int32) (t_balls : Int32) (t_letters : Int32) (t_at : Int32) (t_value : Int32) (t_inRow : Int32) (t_imaged : Int32) (t_end : Int32) (t_cell : Int32) (t_steps : Int32) (t_highest : Int32) (t_struck : Int32) (refusalsA : Nat → Int32) (tightA : Nat → Int32) (R : Int32 × (Nat → Int32) × (Nat → Int32)) (hR : fX6_crumple x1 x2 t_balls refusalsA tightA = some R) : Met l yX6_crumple wsX6_crumple ({ frames := 2, cells := 0, slots := 0, locals := 43 } : Room) (va_Pc [.ref a_t, .int x1, .int x2] (Wp (dC, dI) [(cI, .int)] [(a_t, .inr (6, [.int t_hand, .int t_first, .int t_wide, .int t_rim, .int t_fill, .int t_wall, .int t_ceiling, .int t_puff, .int t_period, .int t_second, .int t_score, .int t_thrown, .int t_balls, .ref a_kind, .ref a_size, .ref a_tight, .int t_letters, .ref a_letter, .int t_at, .int t_value, .int t_inRow, .ref a_row, .ref a_refusals, .int t_imaged, .ref a_image, .ref a_ahead, .int t_end, .int t_cell, .int t_steps, .int t_highest, .int t_struck])), (a_refusals, .inl (cI, 7, .inl refusalsA)), (a_tight, .inl (cI, 5, .inl tightA))] sz)) (va_Qi (fun (r : Int32) (u : (Nat → Int32) × (Nat → Int32)) => (r, u) = R) (Wq (dC, dI) [(a_t, .inr (6, [.int t_hand, .int t_first, .int t_wide, .int t_rim, .int t_fill, .int t_wall, .int t_ceiling, .int t_puff, .int t_period, .int t_second, .int t_score, .int t_thrown, .int t_balls, .ref a_kind, .ref a_size, .ref a_tight, .int t_letters, .ref a_letter, .int t_at, .int t_value, .int t_inRow, .ref a_row, .ref a_refusals, .int t_imaged, .ref a_image, .ref a_ahead, .int t_end, .int t_cell, .int t_steps, .int t_highest, .int t_struck])), (a_refusals, .inl (cI, 7, .inl refusalsA)), (a_tight, .inl (cI, 5, .inl tightA))] sz (fun (u : (Nat → Int32) × (Nat → Int32)) => ([(a_t, .inr (6, [.int t_hand, .int t_first, .int t_wide, .int t_rim, .int t_fill, .int t_wall, .int t_ceiling, .int t_puff, .int t_period, .int t_second, .int t_score, .int t_thrown, .int t_balls, .ref a_kind, .ref a_size, .ref a_tight, .int t_letters, .ref a_letter, .int t_at, .int t_value, .int t_inRow, .ref a_row, .ref a_refusals, .int t_imaged, .ref a_image, .ref a_ahead, .int t_end, .int t_cell, .int t_steps, .int t_highest, .int t_struck])), (a_refusals, .inl (cI, 7, .inl u.1)), (a_tight, .inl (cI, 5, .inl u.2))] : va_W))) (va_A [(a_t, .inr (6, [.int t_hand, .int t_first, .int t_wide, .int t_rim, .int t_fill, .int t_wall, .int t_ceiling, .int t_puff, .int t_period, .int t_second, .int t_score, .int t_thrown, .int t_balls, .ref a_kind, .ref a_size, .ref a_tight, .int t_letters, .ref a_letter, .int t_at, .int t_value, .int t_inRow, .ref a_row, .ref a_refusals, .int t_imaged, .ref a_image, .ref a_ahead, .int t_end, .int t_cell, .int t_steps, .int t_highest, .int t_struck])), (a_refusals, .inl (cI, 7, .inl refusalsA)), (a_tight, .inl (cI, 5, .inl tightA))] sz)) 0 0 (va_A [(a_t, .inr (6, [.int t_hand, .int t_first, .int t_wide, .int t_rim, .int t_fill, .int t_wall, .int t_ceiling, .int t_puff, .int t_period, .int t_second, .int t_score, .int t_thrown, .int t_balls, .ref a_kind, .ref a_size, .ref a_tight, .int t_letters, .ref a_letter, .int t_at, .int t_value, .int t_inRow, .ref a_row, .ref a_refusals, .int t_imaged, .ref a_image, .ref a_ahead, .int t_end, .int t_cell, .int t_steps, .int t_highest, .int t_struck])), (a_refusals, .inl (cI, 7, .inl refusalsA)), (a_tight, .inl (cI, 5, .inl tightA))] sz) := by
  refine Met.ofW (cc := cX6_crumple) (maxL := 4) (ret := (some .int)) (by decide) rfl ?_
  intro p e s m args below meth c s₁ B hml hv
  obtain ⟨hargs, hsz, hP, hK, hD0, hN⟩ := hv
  have hx := B.exec
  have hb := B.bytes
  have hr := B.returns
  have hts := atoms_spec (ws := wsX6_crumple) B.pre
  have hown : s.vm.findClass RX6 = some m.cls := findClass_of_methodNamed B.named
  have hlocks := B.notSynchronized
  subst hsz
  have hD := hD0.self (sz := s.heap.size)
  obtain ⟨A, hAe⟩ : ∃ A, A = va_A [(a_t, .inr (6, [.int t_hand, .int t_first, .int t_wide, .int t_rim, .int t_fill, .int t_wall, .int t_ceiling, .int t_puff, .int t_period, .int t_second, .int t_score, .int t_thrown, .int t_balls, .ref a_kind, .ref a_size, .ref a_tight, .int t_letters, .ref a_letter, .int t_at, .int t_value, .int t_inRow, .ref a_row, .ref a_refusals, .int t_imaged, .ref a_image, .ref a_ahead, .int t_end, .int t_cell, .int t_steps, .int t_highest, .int t_struck])), (a_refusals, .inl (cI, 7, .inl refusalsA)), (a_tight, .inl (cI, 5, .inl tightA))] s.heap.size := ⟨_, rfl⟩
  rw [← hAe] at hD
  have hA : ∀ q : Nat, s.heap.size ≤ q → A q := fun q h => by rw [hAe]; exact Or.inr h
  have hS : va_S A s.heap s.heap [] := va_S.rf
  have hl := lv_entry ([.ref a_t, .int x1, .int x2]) (n := 4) (Nat.le_of_ble_eq_true rfl)
  rw [e_of hargs, lg_entry_eq]
  generalize (lg_sl ([.ref a_t, .int x1, .int x2]) ++ List.replicate (4 - (lg_sl ([.ref a_t, .int x1, .int x2])).length) Slot.unset).toArray = ls at hl ⊢
  have hl : lv_has ls 4 [(0, .ref a_t), (1, .int x1), (2, .int x2)] := hl
  have hinX6 : ∀ w ∈ wsX60, w ∈ wsX6_crumple := by decide +kernel
  refine w_q ({ frames := 2, cells := 0, slots := 0, locals := 43 } : Room) (fun Q0 hQ => ?_)
  rw [fX6_crumple] at hR
  refine lv_aload_n hx hb dX6_crumple_0 rfl (lv_at hl 0 rfl) ?_
  refine lv_iload_n hx hb dX6_crumple_1 rfl (lv_at hl 1 rfl) ?_
  obtain ⟨r1, hu2, hR⟩ := b1_s hR
  refine cl_ViN (As := [.int x1]) (rest := []) (wc := [(a_t, .inr (6, [.int t_hand, .int t_first, .int t_wide, .int t_rim, .int t_fill, .int t_wall, .int t_ceiling, .int t_puff, .int t_period, .int t_second, .int t_score, .int t_thrown, .int t_balls, .ref a_kind, .ref a_size, .ref a_tight, .int t_letters, .ref a_letter, .int t_at, .int t_value, .int t_inRow, .ref a_row, .ref a_refusals, .int t_imaged, .ref a_image, .ref a_ahead, .int t_end, .int t_cell, .int t_steps, .int t_highest, .int t_struck]))]) (wr := [(a_refusals, .inl (cI, 7, .inl refusalsA)), (a_tight, .inl (cI, 5, .inl tightA))]) ⟨hx, hb, hml, hown, hts⟩ (kX6_isBall l dC dI cI a_t a_kind a_size a_tight a_letter a_row a_refusals a_image a_ahead s.heap.size x1 t_hand t_first t_wide t_rim t_fill t_wall t_ceiling t_puff t_period t_second t_score t_thrown t_balls t_letters t_at t_value t_inRow t_imaged t_end t_cell t_steps t_highest t_struck r1 hu2) (cwV 1 hts gX6_crumple_X6_isBall rfl rfl rfl (by decide +kernel) ⟨Nat.le_of_ble_eq_true rfl, Nat.le_of_ble_eq_true rfl⟩) hK hN hP hD hS hA (va_recv hK hP (ci := 6) (q0 := 0) rfl rfl) [0] [1, 2] rfl rfl rfl rfl rfl (by decide) rfl hl.1 rfl (Nat.le_of_ble_eq_true rfl) dX6_crumple_2 (fun H locs hP hD hS => ?_)
  have hP : va_P (dC, dI) vwCl [(a_refusals, .inl (cI, 7, .inl refusalsA)), (a_tight, .inl (cI, 5, .inl tightA)), (a_t, .inr (6, [.int t_hand, .int t_first, .int t_wide, .int t_rim, .int t_fill, .int t_wall, .int t_ceiling, .int t_puff, .int t_period, .int t_second, .int t_score, .int t_thrown, .int t_balls, .ref a_kind, .ref a_size, .ref a_tight, .int t_letters, .ref a_letter, .int t_at, .int t_value, .int t_inRow, .ref a_row, .ref a_refusals, .int t_imaged, .ref a_image, .ref a_ahead, .int t_end, .int t_cell, .int t_steps, .int t_highest, .int t_struck]))] H := hP
  have hD : va_D A [(a_refusals, .inl (cI, 7, .inl refusalsA)), (a_tight, .inl (cI, 5, .inl tightA)), (a_t, .inr (6, [.int t_hand, .int t_first, .int t_wide, .int t_rim, .int t_fill, .int t_wall, .int t_ceiling, .int t_puff, .int t_period, .int t_second, .int t_score, .int t_thrown, .int t_balls, .ref a_kind, .ref a_size, .ref a_tight, .int t_letters, .ref a_letter, .int t_at, .int t_value, .int t_inRow, .ref a_row, .ref a_refusals, .int t_imaged, .ref a_image, .ref a_ahead, .int t_end, .int t_cell, .int t_steps, .int t_highest, .int t_struck]))] := hD
  refine lv_if_ne (tgt := 14) hx hb dX6_crumple_5 (by decide) (fun c5 => ?_) (fun c5 => ?_)
  · have hR := (if_neg c5).symm.trans hR
    refine lv_iload_n hx hb dX6_crumple_14 rfl (lv_at hl 2 rfl) ?_
    refine lv_if_ge (tgt := 25) hx hb dX6_crumple_15 (by decide) (fun c15 => ?_) (fun c15 => ?_)
    · have hR := (if_pos c15).symm.trans hR
      refine lv_iload_n hx hb dX6_crumple_25 rfl (lv_at hl 2 rfl) ?_
      refine lv_bipush (v := 9) hx hb dX6_crumple_26 (by decide) ?_
      refine lv_icmp_le (tgt := 38) hx hb dX6_crumple_28 (by decide) (fun c28 => ?_) (fun c28 => ?_)
      · have hR := (if_pos c28).symm.trans hR
        refine lv_aload_n hx hb dX6_crumple_38 rfl (lv_at hl 0 rfl) ?_
        refine va_get (D := (dC, dI)) (ci := 6) (v := .ref a_tight) (C := RX6) (T := TX6) (N := 31) hx hb hts hinX6 hown hK hP 2 rfl rfl 15 (by decide) (hts (.fieldLink RX6 16 "PaperInBinModel" "tight" "[I") (by decide +kernel)) (fun _ h9 => h9) rfl dX6_crumple_39 ?_
        refine lv_iload_n hx hb dX6_crumple_42 rfl (lv_at hl 1 rfl) ?_
        obtain ⟨g3, hR⟩ := g_in_s hR
        refine va_iald hx hb hK hP 1 0 rfl rfl g3 dX6_crumple_43 ?_
        refine lv_istore_n (lv' := [(3, .int (tightA (x1).toNatClampNeg)), (0, .ref a_t), (1, .int x1), (2, .int x2)]) hx hb dX6_crumple_44 rfl hl (by decide) rfl (fun ls hl => ?_)
        refine lv_aload_n hx hb dX6_crumple_45 rfl (lv_at hl 1 rfl) ?_
        refine va_get (D := (dC, dI)) (ci := 6) (v := .ref a_tight) (C := RX6) (T := TX6) (N := 31) hx hb hts hinX6 hown hK hP 2 rfl rfl 15 (by decide) (hts (.fieldLink RX6 16 "PaperInBinModel" "tight" "[I") (by decide +kernel)) (fun _ h9 => h9) rfl dX6_crumple_46 ?_
        refine lv_iload_n hx hb dX6_crumple_49 rfl (lv_at hl 2 rfl) ?_
        refine lv_iload_n hx hb dX6_crumple_50 rfl (lv_at hl 3 rfl) ?_
        obtain ⟨g4, hR⟩ := g_in_s hR
        refine va_iast hx hb hK hP hD hS 1 0 rfl rfl g4 dX6_crumple_51 (fun H locs hP hD hS => ?_)
        have hP : va_P (dC, dI) vwCl [(a_refusals, .inl (cI, 7, .inl refusalsA)), (a_tight, .inl (cI, 5, .inl (upd tightA (x1).toNatClampNeg x2))), (a_t, .inr (6, [.int t_hand, .int t_first, .int t_wide, .int t_rim, .int t_fill, .int t_wall, .int t_ceiling, .int t_puff, .int t_period, .int t_second, .int t_score, .int t_thrown, .int t_balls, .ref a_kind, .ref a_size, .ref a_tight, .int t_letters, .ref a_letter, .int t_at, .int t_value, .int t_inRow, .ref a_row, .ref a_refusals, .int t_imaged, .ref a_image, .ref a_ahead, .int t_end, .int t_cell, .int t_steps, .int t_highest, .int t_struck]))] H := hP
        have hD : va_D A [(a_refusals, .inl (cI, 7, .inl refusalsA)), (a_tight, .inl (cI, 5, .inl (upd tightA (x1).toNatClampNeg x2))), (a_t, .inr (6, [.int t_hand, .int t_first, .int t_wide, .int t_rim, .int t_fill, .int t_wall, .int t_ceiling, .int t_puff, .int t_period, .int t_second, .int t_score, .int t_thrown, .int t_balls, .ref a_kind, .ref a_size, .ref a_tight, .int t_letters, .ref a_letter, .int t_at, .int t_value, .int t_inRow, .ref a_row, .ref a_refusals, .int t_imaged, .ref a_image, .ref a_ahead, .int t_end, .int t_cell, .int t_steps, .int t_highest, .int t_struck]))] := hD
        refine lv_iload_n hx hb dX6_crumple_52 rfl (lv_at hl 0 rfl) ?_
        have hP := hP.sub (ws' := [(a_t, .inr (6, [.int t_hand, .int t_first, .int t_wide, .int t_rim, .int t_fill, .int t_wall, .int t_ceiling, .int t_puff, .int t_period, .int t_second, .int t_score, .int t_thrown, .int t_balls, .ref a_kind, .ref a_size, .ref a_tight, .int t_letters, .ref a_letter, .int t_at, .int t_value, .int t_inRow, .ref a_row, .ref a_refusals, .int t_imaged, .ref a_image, .ref a_ahead, .int t_end, .int t_cell, .int t_steps, .int t_highest, .int t_struck])), (a_refusals, .inl (cI, 7, .inl refusalsA)), (a_tight, .inl (cI, 5, .inl (upd tightA (x1).toNatClampNeg x2)))]) [2, 0, 1] rfl
        have hD := hD.sub (ws' := [(a_t, .inr (6, [.int t_hand, .int t_first, .int t_wide, .int t_rim, .int t_fill, .int t_wall, .int t_ceiling, .int t_puff, .int t_period, .int t_second, .int t_score, .int t_thrown, .int t_balls, .ref a_kind, .ref a_size, .ref a_tight, .int t_letters, .ref a_letter, .int t_at, .int t_value, .int t_inRow, .ref a_row, .ref a_refusals, .int t_imaged, .ref a_image, .ref a_ahead, .int t_end, .int t_cell, .int t_steps, .int t_highest, .int t_struck])), (a_refusals, .inl (cI, 7, .inl refusalsA)), (a_tight, .inl (cI, 5, .inl (upd tightA (x1).toNatClampNeg x2)))]) [2, 0, 1] (by decide) rfl
        subst hQ
        subst hAe
        exact W.iret (v := (tightA (x1).toNatClampNeg)) hx hb hr (fun t ht hW => ⟨⟨(tightA (x1).toNatClampNeg), (refusalsA, (upd tightA (x1).toNatClampNeg x2)), rfl, Option.some.inj hR, by rw [ht]; exact hP, hD⟩, hS.F ht⟩) hS.2.2 dX6_crumple_53
      · have hR := (if_neg c28).symm.trans hR
        refine lv_aload_n hx hb dX6_crumple_31 rfl (lv_at hl 0 rfl) ?_
        refine lv_bipush (v := (-6)) hx hb dX6_crumple_32 (by decide) ?_
        obtain ⟨r5, w6, hu7, hR⟩ := b2_s hR
        refine cl_ViT (As := [.int (-6)]) (rest := []) (wc := [(a_t, .inr (6, [.int t_hand, .int t_first, .int t_wide, .int t_rim, .int t_fill, .int t_wall, .int t_ceiling, .int t_puff, .int t_period, .int t_second, .int t_score, .int t_thrown, .int t_balls, .ref a_kind, .ref a_size, .ref a_tight, .int t_letters, .ref a_letter, .int t_at, .int t_value, .int t_inRow, .ref a_row, .ref a_refusals, .int t_imaged, .ref a_image, .ref a_ahead, .int t_end, .int t_cell, .int t_steps, .int t_highest, .int t_struck])), (a_refusals, .inl (cI, 7, .inl refusalsA))]) (wr := [(a_tight, .inl (cI, 5, .inl tightA))]) ⟨hx, hb, hml, hown, hts⟩ (kX6_no l dC dI cI a_t a_kind a_size a_tight a_letter a_row a_refusals a_image a_ahead H.size (-6) t_hand t_first t_wide t_rim t_fill t_wall t_ceiling t_puff t_period t_second t_score t_thrown t_balls t_letters t_at t_value t_inRow t_imaged t_end t_cell t_steps t_highest t_struck refusalsA (r5, w6) hu7) (cwV 1 hts gX6_crumple_X6_no rfl rfl rfl (by decide +kernel) ⟨Nat.le_of_ble_eq_true rfl, Nat.le_of_ble_eq_true rfl⟩) hK hN hP hD hS hA (va_recv hK hP (ci := 6) (q0 := 2) rfl rfl) [2, 0] [1] rfl rfl rfl rfl rfl (by decide) rfl hl.1 rfl (Nat.le_of_ble_eq_true rfl) dX6_crumple_34 (fun H locs hP hD hS => ?_)
        have hP : va_P (dC, dI) vwCl [(a_tight, .inl (cI, 5, .inl tightA)), (a_t, .inr (6, [.int t_hand, .int t_first, .int t_wide, .int t_rim, .int t_fill, .int t_wall, .int t_ceiling, .int t_puff, .int t_period, .int t_second, .int t_score, .int t_thrown, .int t_balls, .ref a_kind, .ref a_size, .ref a_tight, .int t_letters, .ref a_letter, .int t_at, .int t_value, .int t_inRow, .ref a_row, .ref a_refusals, .int t_imaged, .ref a_image, .ref a_ahead, .int t_end, .int t_cell, .int t_steps, .int t_highest, .int t_struck])), (a_refusals, .inl (cI, 7, .inl w6))] H := hP
        have hD : va_D A [(a_tight, .inl (cI, 5, .inl tightA)), (a_t, .inr (6, [.int t_hand, .int t_first, .int t_wide, .int t_rim, .int t_fill, .int t_wall, .int t_ceiling, .int t_puff, .int t_period, .int t_second, .int t_score, .int t_thrown, .int t_balls, .ref a_kind, .ref a_size, .ref a_tight, .int t_letters, .ref a_letter, .int t_at, .int t_value, .int t_inRow, .ref a_row, .ref a_refusals, .int t_imaged, .ref a_image, .ref a_ahead, .int t_end, .int t_cell, .int t_steps, .int t_highest, .int t_struck])), (a_refusals, .inl (cI, 7, .inl w6))] := hD
        have hP := hP.sub (ws' := [(a_t, .inr (6, [.int t_hand, .int t_first, .int t_wide, .int t_rim, .int t_fill, .int t_wall, .int t_ceiling, .int t_puff, .int t_period, .int t_second, .int t_score, .int t_thrown, .int t_balls, .ref a_kind, .ref a_size, .ref a_tight, .int t_letters, .ref a_letter, .int t_at, .int t_value, .int t_inRow, .ref a_row, .ref a_refusals, .int t_imaged, .ref a_image, .ref a_ahead, .int t_end, .int t_cell, .int t_steps, .int t_highest, .int t_struck])), (a_refusals, .inl (cI, 7, .inl w6)), (a_tight, .inl (cI, 5, .inl tightA))]) [1, 2, 0] rfl
        have hD := hD.sub (ws' := [(a_t, .inr (6, [.int t_hand, .int t_first, .int t_wide, .int t_rim, .int t_fill, .int t_wall, .int t_ceiling, .int t_puff, .int t_period, .int t_second, .int t_score, .int t_thrown, .int t_balls, .ref a_kind, .ref a_size, .ref a_tight, .int t_letters, .ref a_letter, .int t_at, .int t_value, .int t_inRow, .ref a_row, .ref a_refusals, .int t_imaged, .ref a_image, .ref a_ahead, .int t_end, .int t_cell, .int t_steps, .int t_highest, .int t_struck])), (a_refusals, .inl (cI, 7, .inl w6)), (a_tight, .inl (cI, 5, .inl tightA))]) [1, 2, 0] (by decide) rfl
        subst hQ
        subst hAe
        exact W.iret (v := r5) hx hb hr (fun t ht hW => ⟨⟨r5, (w6, tightA), rfl, Option.some.inj hR, by rw [ht]; exact hP, hD⟩, hS.F ht⟩) hS.2.2 dX6_crumple_37
    · have hR := (if_neg c15).symm.trans hR
      refine lv_aload_n hx hb dX6_crumple_18 rfl (lv_at hl 0 rfl) ?_
      refine lv_bipush (v := (-4)) hx hb dX6_crumple_19 (by decide) ?_
      obtain ⟨r8, w9, hu10, hR⟩ := b2_s hR
      refine cl_ViT (As := [.int (-4)]) (rest := []) (wc := [(a_t, .inr (6, [.int t_hand, .int t_first, .int t_wide, .int t_rim, .int t_fill, .int t_wall, .int t_ceiling, .int t_puff, .int t_period, .int t_second, .int t_score, .int t_thrown, .int t_balls, .ref a_kind, .ref a_size, .ref a_tight, .int t_letters, .ref a_letter, .int t_at, .int t_value, .int t_inRow, .ref a_row, .ref a_refusals, .int t_imaged, .ref a_image, .ref a_ahead, .int t_end, .int t_cell, .int t_steps, .int t_highest, .int t_struck])), (a_refusals, .inl (cI, 7, .inl refusalsA))]) (wr := [(a_tight, .inl (cI, 5, .inl tightA))]) ⟨hx, hb, hml, hown, hts⟩ (kX6_no l dC dI cI a_t a_kind a_size a_tight a_letter a_row a_refusals a_image a_ahead H.size (-4) t_hand t_first t_wide t_rim t_fill t_wall t_ceiling t_puff t_period t_second t_score t_thrown t_balls t_letters t_at t_value t_inRow t_imaged t_end t_cell t_steps t_highest t_struck refusalsA (r8, w9) hu10) (cwV 1 hts gX6_crumple_X6_no rfl rfl rfl (by decide +kernel) ⟨Nat.le_of_ble_eq_true rfl, Nat.le_of_ble_eq_true rfl⟩) hK hN hP hD hS hA (va_recv hK hP (ci := 6) (q0 := 2) rfl rfl) [2, 0] [1] rfl rfl rfl rfl rfl (by decide) rfl hl.1 rfl (Nat.le_of_ble_eq_true rfl) dX6_crumple_21 (fun H locs hP hD hS => ?_)
      have hP : va_P (dC, dI) vwCl [(a_tight, .inl (cI, 5, .inl tightA)), (a_t, .inr (6, [.int t_hand, .int t_first, .int t_wide, .int t_rim, .int t_fill, .int t_wall, .int t_ceiling, .int t_puff, .int t_period, .int t_second, .int t_score, .int t_thrown, .int t_balls, .ref a_kind, .ref a_size, .ref a_tight, .int t_letters, .ref a_letter, .int t_at, .int t_value, .int t_inRow, .ref a_row, .ref a_refusals, .int t_imaged, .ref a_image, .ref a_ahead, .int t_end, .int t_cell, .int t_steps, .int t_highest, .int t_struck])), (a_refusals, .inl (cI, 7, .inl w9))] H := hP
      have hD : va_D A [(a_tight, .inl (cI, 5, .inl tightA)), (a_t, .inr (6, [.int t_hand, .int t_first, .int t_wide, .int t_rim, .int t_fill, .int t_wall, .int t_ceiling, .int t_puff, .int t_period, .int t_second, .int t_score, .int t_thrown, .int t_balls, .ref a_kind, .ref a_size, .ref a_tight, .int t_letters, .ref a_letter, .int t_at, .int t_value, .int t_inRow, .ref a_row, .ref a_refusals, .int t_imaged, .ref a_image, .ref a_ahead, .int t_end, .int t_cell, .int t_steps, .int t_highest, .int t_struck])), (a_refusals, .inl (cI, 7, .inl w9))] := hD
      have hP := hP.sub (ws' := [(a_t, .inr (6, [.int t_hand, .int t_first, .int t_wide, .int t_rim, .int t_fill, .int t_wall, .int t_ceiling, .int t_puff, .int t_period, .int t_second, .int t_score, .int t_thrown, .int t_balls, .ref a_kind, .ref a_size, .ref a_tight, .int t_letters, .ref a_letter, .int t_at, .int t_value, .int t_inRow, .ref a_row, .ref a_refusals, .int t_imaged, .ref a_image, .ref a_ahead, .int t_end, .int t_cell, .int t_steps, .int t_highest, .int t_struck])), (a_refusals, .inl (cI, 7, .inl w9)), (a_tight, .inl (cI, 5, .inl tightA))]) [1, 2, 0] rfl
      have hD := hD.sub (ws' := [(a_t, .inr (6, [.int t_hand, .int t_first, .int t_wide, .int t_rim, .int t_fill, .int t_wall, .int t_ceiling, .int t_puff, .int t_period, .int t_second, .int t_score, .int t_thrown, .int t_balls, .ref a_kind, .ref a_size, .ref a_tight, .int t_letters, .ref a_letter, .int t_at, .int t_value, .int t_inRow, .ref a_row, .ref a_refusals, .int t_imaged, .ref a_image, .ref a_ahead, .int t_end, .int t_cell, .int t_steps, .int t_highest, .int t_struck])), (a_refusals, .inl (cI, 7, .inl w9)), (a_tight, .inl (cI, 5, .inl tightA))]) [1, 2, 0] (by decide) rfl
      subst hQ
      subst hAe
      exact W.iret (v := r8) hx hb hr (fun t ht hW => ⟨⟨r8, (w9, tightA), rfl, Option.some.inj hR, by rw [ht]; exact hP, hD⟩, hS.F ht⟩) hS.2.2 dX6_crumple_24
  · have hR := (if_pos c5).symm.trans hR
    refine lv_aload_n hx hb dX6_crumple_8 rfl (lv_at hl 0 rfl) ?_
    refine lv_iconst (v := (-1)) hx hb dX6_crumple_9 (by decide) ?_
    obtain ⟨r11, w12, hu13, hR⟩ := b2_s hR
    refine cl_ViT (As := [.int (-1)]) (rest := []) (wc := [(a_t, .inr (6, [.int t_hand, .int t_first, .int t_wide, .int t_rim, .int t_fill, .int t_wall, .int t_ceiling, .int t_puff, .int t_period, .int t_second, .int t_score, .int t_thrown, .int t_balls, .ref a_kind, .ref a_size, .ref a_tight, .int t_letters, .ref a_letter, .int t_at, .int t_value, .int t_inRow, .ref a_row, .ref a_refusals, .int t_imaged, .ref a_image, .ref a_ahead, .int t_end, .int t_cell, .int t_steps, .int t_highest, .int t_struck])), (a_refusals, .inl (cI, 7, .inl refusalsA))]) (wr := [(a_tight, .inl (cI, 5, .inl tightA))]) ⟨hx, hb, hml, hown, hts⟩ (kX6_no l dC dI cI a_t a_kind a_size a_tight a_letter a_row a_refusals a_image a_ahead H.size (-1) t_hand t_first t_wide t_rim t_fill t_wall t_ceiling t_puff t_period t_second t_score t_thrown t_balls t_letters t_at t_value t_inRow t_imaged t_end t_cell t_steps t_highest t_struck refusalsA (r11, w12) hu13) (cwV 1 hts gX6_crumple_X6_no rfl rfl rfl (by decide +kernel) ⟨Nat.le_of_ble_eq_true rfl, Nat.le_of_ble_eq_true rfl⟩) hK hN hP hD hS hA (va_recv hK hP (ci := 6) (q0 := 2) rfl rfl) [2, 0] [1] rfl rfl rfl rfl rfl (by decide) rfl hl.1 rfl (Nat.le_of_ble_eq_true rfl) dX6_crumple_10 (fun H locs hP hD hS => ?_)
    have hP : va_P (dC, dI) vwCl [(a_tight, .inl (cI, 5, .inl tightA)), (a_t, .inr (6, [.int t_hand, .int t_first, .int t_wide, .int t_rim, .int t_fill, .int t_wall, .int t_ceiling, .int t_puff, .int t_period, .int t_second, .int t_score, .int t_thrown, .int t_balls, .ref a_kind, .ref a_size, .ref a_tight, .int t_letters, .ref a_letter, .int t_at, .int t_value, .int t_inRow, .ref a_row, .ref a_refusals, .int t_imaged, .ref a_image, .ref a_ahead, .int t_end, .int t_cell, .int t_steps, .int t_highest, .int t_struck])), (a_refusals, .inl (cI, 7, .inl w12))] H := hP
    have hD : va_D A [(a_tight, .inl (cI, 5, .inl tightA)), (a_t, .inr (6, [.int t_hand, .int t_first, .int t_wide, .int t_rim, .int t_fill, .int t_wall, .int t_ceiling, .int t_puff, .int t_period, .int t_second, .int t_score, .int t_thrown, .int t_balls, .ref a_kind, .ref a_size, .ref a_tight, .int t_letters, .ref a_letter, .int t_at, .int t_value, .int t_inRow, .ref a_row, .ref a_refusals, .int t_imaged, .ref a_image, .ref a_ahead, .int t_end, .int t_cell, .int t_steps, .int t_highest, .int t_struck])), (a_refusals, .inl (cI, 7, .inl w12))] := hD
    have hP := hP.sub (ws' := [(a_t, .inr (6, [.int t_hand, .int t_first, .int t_wide, .int t_rim, .int t_fill, .int t_wall, .int t_ceiling, .int t_puff, .int t_period, .int t_second, .int t_score, .int t_thrown, .int t_balls, .ref a_kind, .ref a_size, .ref a_tight, .int t_letters, .ref a_letter, .int t_at, .int t_value, .int t_inRow, .ref a_row, .ref a_refusals, .int t_imaged, .ref a_image, .ref a_ahead, .int t_end, .int t_cell, .int t_steps, .int t_highest, .int t_struck])), (a_refusals, .inl (cI, 7, .inl w12)), (a_tight, .inl (cI, 5, .inl tightA))]) [1, 2, 0] rfl
    have hD := hD.sub (ws' := [(a_t, .inr (6, [.int t_hand, .int t_first, .int t_wide, .int t_rim, .int t_fill, .int t_wall, .int t_ceiling, .int t_puff, .int t_period, .int t_second, .int t_score, .int t_thrown, .int t_balls, .ref a_kind, .ref a_size, .ref a_tight, .int t_letters, .ref a_letter, .int t_at, .int t_value, .int t_inRow, .ref a_row, .ref a_refusals, .int t_imaged, .ref a_image, .ref a_ahead, .int t_end, .int t_cell, .int t_steps, .int t_highest, .int t_struck])), (a_refusals, .inl (cI, 7, .inl w12)), (a_tight, .inl (cI, 5, .inl tightA))]) [1, 2, 0] (by decide) rfl
    subst hQ
    subst hAe
    exact W.iret (v := r11) hx hb hr (fun t ht hW => ⟨⟨r11, (w12, tightA), rfl, Option.some.inj hR, by rw [ht]; exact hP, hD⟩, hS.F ht⟩) hS.2.2 dX6_crumple_13
def jX6_flies_419 (x2 : Int32) (x3 : Int32) (x5 : Int32) (x6 : Int32) (t_cell : Int32) (t_steps : Int32) (t_highest : Int32) (t_struck : Int32) (kk36 : Int32 → Int32 → Int32 → Int32 → Int32 → Int32 → Int32 → Int32 → Option (Int32 × Int32 × Int32 × Int32 × Int32 × Int32)) : Option (Int32 × Int32 × Int32 × Int32 × Int32 × Int32) :=
  kk36 x2 x3 x5 x6 t_cell t_steps t_highest t_struck
def jX6_flies_385 (x1 : Int32) (x4 : Int32) (t_puff : Int32) (t_period : Int32) (kindA : Nat → Int32) (x3 : Int32) (x5 : Int32) (x6 : Int32) (st0 : Int32) (t_cell : Int32) (t_steps : Int32) (t_highest : Int32) (t_struck : Int32) (kk36 : Int32 → Int32 → Int32 → Int32 → Int32 → Int32 → Int32 → Int32 → Option (Int32 × Int32 × Int32 × Int32 × Int32 × Int32)) : Option (Int32 × Int32 × Int32 × Int32 × Int32 × Int32) :=
  b1 (fX6_fall x1 kindA) (fun r1 =>
  g_nz t_period (
  if ((x4 + (t_steps / 4)) - (x4 + (t_steps / 4)) / t_period * t_period) = 0 then (
   b1 (fX6_blown x1 t_puff kindA) (fun r4 =>
   jX6_flies_419 (st0 + r4) (x3 - r1) x5 x6 t_cell t_steps t_highest t_struck kk36))
  else (
  jX6_flies_419 st0 (x3 - r1) x5 x6 t_cell t_steps t_highest t_struck kk36)))
def jX6_flies_319 (x1 : Int32) (x4 : Int32) (t_first : Int32) (t_puff : Int32) (t_period : Int32) (kindA : Nat → Int32) (x2 : Int32) (x3 : Int32) (x5 : Int32) (x6 : Int32) (t_cell : Int32) (t_steps : Int32) (t_highest : Int32) (t_struck : Int32) (kk36 : Int32 → Int32 → Int32 → Int32 → Int32 → Int32 → Int32 → Int32 → Option (Int32 × Int32 × Int32 × Int32 × Int32 × Int32)) : Option (Int32 × Int32 × Int32 × Int32 × Int32 × Int32) :=
  if 0 < x5 then (
   if x2 ≤ 0 then (
    jX6_flies_385 x1 x4 t_puff t_period kindA x3 x5 x6 (if (x2 + x6) < (0 : Int32) then (x2 + x6) else (0 : Int32)) t_cell t_steps (if t_highest < x5 then x5 else t_highest) t_struck kk36)
   else (
   jX6_flies_385 x1 x4 t_puff t_period kindA x3 x5 x6 (if (0 : Int32) < (x2 - x6) then (x2 - x6) else (0 : Int32)) t_cell t_steps (if t_highest < x5 then x5 else t_highest) t_struck kk36))
  else (
  if t_first ≤ t_cell then (
   some (2, 2, t_cell, t_steps, (if t_highest < x5 then x5 else t_highest), t_struck))
  else (
  some (1, 1, t_cell, t_steps, (if t_highest < x5 then x5 else t_highest), t_struck)))
def jX6_flies_287 (x1 : Int32) (x4 : Int32) (t_first : Int32) (t_rim : Int32) (t_puff : Int32) (t_period : Int32) (kindA : Nat → Int32) (x2 : Int32) (x3 : Int32) (x5 : Int32) (x6 : Int32) (t_cell : Int32) (t_steps : Int32) (t_highest : Int32) (t_struck : Int32) (kk36 : Int32 → Int32 → Int32 → Int32 → Int32 → Int32 → Int32 → Int32 → Option (Int32 × Int32 × Int32 × Int32 × Int32 × Int32)) : Option (Int32 × Int32 × Int32 × Int32 × Int32 × Int32) :=
  if (t_struck &&& 4) = 0 then (
   jX6_flies_319 x1 x4 t_first t_puff t_period kindA (-x2) 1 (t_rim + 1) x6 t_cell t_steps t_highest (t_struck ||| 4) kk36)
  else (
  jX6_flies_319 x1 x4 t_first t_puff t_period kindA x2 x3 x5 x6 t_cell t_steps t_highest t_struck kk36)
def jX6_flies_174 (x1 : Int32) (x4 : Int32) (t_first : Int32) (t_wide : Int32) (t_rim : Int32) (t_fill : Int32) (t_puff : Int32) (t_period : Int32) (kindA : Nat → Int32) (x2 : Int32) (x3 : Int32) (x5 : Int32) (x6 : Int32) (x7 : Int32) (x8 : Int32) (t_cell : Int32) (t_steps : Int32) (t_highest : Int32) (t_struck : Int32) (kk36 : Int32 → Int32 → Int32 → Int32 → Int32 → Int32 → Int32 → Int32 → Option (Int32 × Int32 × Int32 × Int32 × Int32 × Int32)) : Option (Int32 × Int32 × Int32 × Int32 × Int32 × Int32) :=
  if x8 = 0 then (
   jX6_flies_319 x1 x4 t_first t_puff t_period kindA x2 x3 x5 x6 t_cell t_steps t_highest t_struck kk36)
  else (
  if x7 ≤ t_rim then (
   jX6_flies_319 x1 x4 t_first t_puff t_period kindA x2 x3 x5 x6 t_cell t_steps t_highest t_struck kk36)
  else (
  if t_rim < x5 then (
   jX6_flies_319 x1 x4 t_first t_puff t_period kindA x2 x3 x5 x6 t_cell t_steps t_highest t_struck kk36)
  else (
  b1 (fX6_within t_cell t_first ((t_first + t_wide) - 1)) (fun r6 =>
  if r6 = 0 then (
   if t_cell = (t_first - 1) then (
    jX6_flies_287 x1 x4 t_first t_rim t_puff t_period kindA x2 x3 x5 x6 t_cell t_steps t_highest t_struck kk36)
   else (
   if t_cell = (t_first + t_wide) then (
    jX6_flies_287 x1 x4 t_first t_rim t_puff t_period kindA x2 x3 x5 x6 t_cell t_steps t_highest t_struck kk36)
   else (
   jX6_flies_319 x1 x4 t_first t_puff t_period kindA x2 x3 x5 x6 t_cell t_steps t_highest t_struck kk36)))
  else (
  if t_fill = 9 then (
   some (3, 3, t_cell, t_steps, (if t_highest < x5 then x5 else t_highest), t_struck))
  else (
  some (0, 0, t_cell, t_steps, (if t_highest < x5 then x5 else t_highest), t_struck)))))))
def jX6_flies_160 (x1 : Int32) (x4 : Int32) (t_first : Int32) (t_wide : Int32) (t_rim : Int32) (t_fill : Int32) (t_puff : Int32) (t_period : Int32) (kindA : Nat → Int32) (x2 : Int32) (x3 : Int32) (x5 : Int32) (x6 : Int32) (x7 : Int32) (x8 : Int32) (t_cell : Int32) (t_steps : Int32) (t_highest : Int32) (t_struck : Int32) (kk36 : Int32 → Int32 → Int32 → Int32 → Int32 → Int32 → Int32 → Int32 → Option (Int32 × Int32 × Int32 × Int32 × Int32 × Int32)) : Option (Int32 × Int32 × Int32 × Int32 × Int32 × Int32) :=
  if 0 ≤ t_cell then (
   jX6_flies_174 x1 x4 t_first t_wide t_rim t_fill t_puff t_period kindA x2 x3 x5 x6 x7 x8 t_cell t_steps t_highest t_struck kk36)
  else (
  jX6_flies_174 x1 x4 t_first t_wide t_rim t_fill t_puff t_period kindA 0 x3 x5 x6 x7 x8 0 t_steps t_highest t_struck kk36)
def jX6_flies_119 (x1 : Int32) (x4 : Int32) (t_first : Int32) (t_wide : Int32) (t_rim : Int32) (t_fill : Int32) (t_wall : Int32) (t_puff : Int32) (t_period : Int32) (kindA : Nat → Int32) (x2 : Int32) (x3 : Int32) (x5 : Int32) (x6 : Int32) (x7 : Int32) (x8 : Int32) (t_cell : Int32) (t_steps : Int32) (t_highest : Int32) (t_struck : Int32) (kk36 : Int32 → Int32 → Int32 → Int32 → Int32 → Int32 → Int32 → Int32 → Option (Int32 × Int32 × Int32 × Int32 × Int32 × Int32)) : Option (Int32 × Int32 × Int32 × Int32 × Int32 × Int32) :=
  if t_cell ≤ t_wall then (
   jX6_flies_160 x1 x4 t_first t_wide t_rim t_fill t_puff t_period kindA x2 x3 x5 x6 x7 x8 t_cell t_steps t_highest t_struck kk36)
  else (
  jX6_flies_160 x1 x4 t_first t_wide t_rim t_fill t_puff t_period kindA ((-x2) / 2) x3 x5 x6 x7 x8 ((2 * t_wall) - t_cell) t_steps t_highest (t_struck ||| 2) kk36)
def jX6_flies_68 (x1 : Int32) (x4 : Int32) (t_first : Int32) (t_wide : Int32) (t_rim : Int32) (t_fill : Int32) (t_wall : Int32) (t_ceiling : Int32) (t_puff : Int32) (t_period : Int32) (kindA : Nat → Int32) (x2 : Int32) (x3 : Int32) (x5 : Int32) (x6 : Int32) (x7 : Int32) (st0 : Int32) (t_cell : Int32) (t_steps : Int32) (t_highest : Int32) (t_struck : Int32) (kk36 : Int32 → Int32 → Int32 → Int32 → Int32 → Int32 → Int32 → Int32 → Option (Int32 × Int32 × Int32 × Int32 × Int32 × Int32)) : Option (Int32 × Int32 × Int32 × Int32 × Int32 × Int32) :=
  if (x5 + x3) ≤ t_ceiling then (
   jX6_flies_119 x1 x4 t_first t_wide t_rim t_fill t_wall t_puff t_period kindA x2 x3 (x5 + x3) x6 x7 st0 (t_cell + x2) t_steps t_highest t_struck kk36)
  else (
  jX6_flies_119 x1 x4 t_first t_wide t_rim t_fill t_wall t_puff t_period kindA x2 (-x3) ((2 * t_ceiling) - (x5 + x3)) x6 x7 st0 (t_cell + x2) t_steps t_highest (t_struck ||| 1) kk36)
def lX6_flies_36 (x1 : Int32) (x4 : Int32) (t_first : Int32) (t_wide : Int32) (t_rim : Int32) (t_fill : Int32) (t_wall : Int32) (t_ceiling : Int32) (t_puff : Int32) (t_period : Int32) (kindA : Nat → Int32) : Nat → Int32 → Int32 → Int32 → Int32 → Int32 → Int32 → Int32 → Int32 → Option (Int32 × Int32 × Int32 × Int32 × Int32 × Int32)
  | 0, _, _, _, _, _, _, _, _ => none
  | n + 1, x2, x3, x5, x6, t_cell, t_steps, t_highest, t_struck =>
    if 60 ≤ t_steps then (
     some (1, 1, t_cell, t_steps, t_highest, t_struck))
    else (
    if 0 ≤ x3 then (
     jX6_flies_68 x1 x4 t_first t_wide t_rim t_fill t_wall t_ceiling t_puff t_period kindA x2 x3 x5 x6 x5 0 t_cell (t_steps + 1) t_highest t_struck (lX6_flies_36 x1 x4 t_first t_wide t_rim t_fill t_wall t_ceiling t_puff t_period kindA n))
    else (
    jX6_flies_68 x1 x4 t_first t_wide t_rim t_fill t_wall t_ceiling t_puff t_period kindA x2 x3 x5 x6 x5 1 t_cell (t_steps + 1) t_highest t_struck (lX6_flies_36 x1 x4 t_first t_wide t_rim t_fill t_wall t_ceiling t_puff t_period kindA n)))
def fX6_flies (x1 : Int32) (x2 : Int32) (x3 : Int32) (x4 : Int32) (t_hand : Int32) (t_first : Int32) (t_wide : Int32) (t_rim : Int32) (t_fill : Int32) (t_wall : Int32) (t_ceiling : Int32) (t_puff : Int32) (t_period : Int32) (sizeA : Nat → Int32) (tightA : Nat → Int32) (kindA : Nat → Int32) : Option (Int32 × Int32 × Int32 × Int32 × Int32 × Int32) :=
  b1 (fX6_drag x1 sizeA tightA kindA) (fun r8 =>
  lX6_flies_36 x1 x4 t_first t_wide t_rim t_fill t_wall t_ceiling t_puff t_period kindA (100) x2 x3 t_hand r8 0 0 t_hand 0)
set_option maxHeartbeats 4000000 in
set_option maxRecDepth 100000 in
theorem kX6_flies (l : Launch) (dC : Nat → ClassId) (dI : Nat → Nat → Nat) (cI : ClassId) (a_t a_kind a_size a_tight a_letter a_row a_refusals a_image a_ahead : Nat) (sz : Nat) (x1 : Int32) (x2 : Int32) (x3 : Int32) (x4 : Int32) (t_hand : Int32) (t_first : Int32) (t_wide : Int32) (t_rim : Int32) (t_fill : Int32) (t_wall : Int32) (t_ceiling : Int32) (t_puff : Int32) (t_period : Int32) (t_second : Int32) (t_score : Int32) (t_thrown : Int32) (t_balls : Int32) (t_letters : Int32) (t_at : Int32) (t_value : Int32) (t_inRow : Int32) (t_imaged : Int32) (t_end : Int32) (t_cell : Int32) (t_steps : Int32) (t_highest : Int32) (t_struck : Int32) (sizeA : Nat → Int32) (tightA : Nat → Int32) (kindA : Nat → Int32) (R : Int32 × Int32 × Int32 × Int32 × Int32 × Int32) (hR : fX6_flies x1 x2 x3 x4 t_hand t_first t_wide t_rim t_fill t_wall t_ceiling t_puff t_period sizeA tightA kindA = some R) : Met l yX6_flies wsX6_flies ({ frames := 2, cells := 0, slots := 0, locals := 43 } : Room) (va_Pc [.ref a_t, .int x1, .int x2, .int x3, .int x4] (Wp (dC, dI) [(cI, .int)] [(a_t, .inr (6, [.int t_hand, .int t_first, .int t_wide, .int t_rim, .int t_fill, .int t_wall, .int t_ceiling, .int t_puff, .int t_period, .int t_second, .int t_score, .int t_thrown, .int t_balls, .ref a_kind, .ref a_size, .ref a_tight, .int t_letters, .ref a_letter, .int t_at, .int t_value, .int t_inRow, .ref a_row, .ref a_refusals, .int t_imaged, .ref a_image, .ref a_ahead, .int t_end, .int t_cell, .int t_steps, .int t_highest, .int t_struck])), (a_size, .inl (cI, 5, .inl sizeA)), (a_tight, .inl (cI, 5, .inl tightA)), (a_kind, .inl (cI, 5, .inl kindA))] sz)) (va_Qi (fun (r : Int32) (u : Int32 × Int32 × Int32 × Int32 × Int32) => (r, u) = R) (Wq (dC, dI) [(a_t, .inr (6, [.int t_hand, .int t_first, .int t_wide, .int t_rim, .int t_fill, .int t_wall, .int t_ceiling, .int t_puff, .int t_period, .int t_second, .int t_score, .int t_thrown, .int t_balls, .ref a_kind, .ref a_size, .ref a_tight, .int t_letters, .ref a_letter, .int t_at, .int t_value, .int t_inRow, .ref a_row, .ref a_refusals, .int t_imaged, .ref a_image, .ref a_ahead, .int t_end, .int t_cell, .int t_steps, .int t_highest, .int t_struck])), (a_size, .inl (cI, 5, .inl sizeA)), (a_tight, .inl (cI, 5, .inl tightA)), (a_kind, .inl (cI, 5, .inl kindA))] sz (fun (u : Int32 × Int32 × Int32 × Int32 × Int32) => ([(a_t, .inr (6, [.int t_hand, .int t_first, .int t_wide, .int t_rim, .int t_fill, .int t_wall, .int t_ceiling, .int t_puff, .int t_period, .int t_second, .int t_score, .int t_thrown, .int t_balls, .ref a_kind, .ref a_size, .ref a_tight, .int t_letters, .ref a_letter, .int t_at, .int t_value, .int t_inRow, .ref a_row, .ref a_refusals, .int t_imaged, .ref a_image, .ref a_ahead, .int u.1, .int u.2.1, .int u.2.2.1, .int u.2.2.2.1, .int u.2.2.2.2])), (a_size, .inl (cI, 5, .inl sizeA)), (a_tight, .inl (cI, 5, .inl tightA)), (a_kind, .inl (cI, 5, .inl kindA))] : va_W))) (va_A [(a_t, .inr (6, [.int t_hand, .int t_first, .int t_wide, .int t_rim, .int t_fill, .int t_wall, .int t_ceiling, .int t_puff, .int t_period, .int t_second, .int t_score, .int t_thrown, .int t_balls, .ref a_kind, .ref a_size, .ref a_tight, .int t_letters, .ref a_letter, .int t_at, .int t_value, .int t_inRow, .ref a_row, .ref a_refusals, .int t_imaged, .ref a_image, .ref a_ahead, .int t_end, .int t_cell, .int t_steps, .int t_highest, .int t_struck])), (a_size, .inl (cI, 5, .inl sizeA)), (a_tight, .inl (cI, 5, .inl tightA)), (a_kind, .inl (cI, 5, .inl kindA))] sz)) 0 0 (va_A [(a_t, .inr (6, [.int t_hand, .int t_first, .int t_wide, .int t_rim, .int t_fill, .int t_wall, .int t_ceiling, .int t_puff, .int t_period, .int t_second, .int t_score, .int t_thrown, .int t_balls, .ref a_kind, .ref a_size, .ref a_tight, .int t_letters, .ref a_letter, .int t_at, .int t_value, .int t_inRow, .ref a_row, .ref a_refusals, .int t_imaged, .ref a_image, .ref a_ahead, .int t_end, .int t_cell, .int t_steps, .int t_highest, .int t_struck])), (a_size, .inl (cI, 5, .inl sizeA)), (a_tight, .inl (cI, 5, .inl tightA)), (a_kind, .inl (cI, 5, .inl kindA))] sz) := by
  refine Met.ofW (cc := cX6_flies) (maxL := 9) (ret := (some .int)) (by decide) rfl ?_
  intro p e s m args below meth c s₁ B hml hv
  obtain ⟨hargs, hsz, hP, hK, hD0, hN⟩ := hv
  have hx := B.exec
  have hb := B.bytes
  have hr := B.returns
  have hts := atoms_spec (ws := wsX6_flies) B.pre
  have hown : s.vm.findClass RX6 = some m.cls := findClass_of_methodNamed B.named
  have hlocks := B.notSynchronized
  subst hsz
  have hD := hD0.self (sz := s.heap.size)
  obtain ⟨A, hAe⟩ : ∃ A, A = va_A [(a_t, .inr (6, [.int t_hand, .int t_first, .int t_wide, .int t_rim, .int t_fill, .int t_wall, .int t_ceiling, .int t_puff, .int t_period, .int t_second, .int t_score, .int t_thrown, .int t_balls, .ref a_kind, .ref a_size, .ref a_tight, .int t_letters, .ref a_letter, .int t_at, .int t_value, .int t_inRow, .ref a_row, .ref a_refusals, .int t_imaged, .ref a_image, .ref a_ahead, .int t_end, .int t_cell, .int t_steps, .int t_highest, .int t_struck])), (a_size, .inl (cI, 5, .inl sizeA)), (a_tight, .inl (cI, 5, .inl tightA)), (a_kind, .inl (cI, 5, .inl kindA))] s.heap.size := ⟨_, rfl⟩
  rw [← hAe] at hD
  have hA : ∀ q : Nat, s.heap.size ≤ q → A q := fun q h => by rw [hAe]; exact Or.inr h
  have hS : va_S A s.heap s.heap [] := va_S.rf
  have hl := lv_entry ([.ref a_t, .int x1, .int x2, .int x3, .int x4]) (n := 9) (Nat.le_of_ble_eq_true rfl)
  rw [e_of hargs, lg_entry_eq]
  generalize (lg_sl ([.ref a_t, .int x1, .int x2, .int x3, .int x4]) ++ List.replicate (9 - (lg_sl ([.ref a_t, .int x1, .int x2, .int x3, .int x4])).length) Slot.unset).toArray = ls at hl ⊢
  have hl : lv_has ls 9 [(0, .ref a_t), (1, .int x1), (2, .int x2), (3, .int x3), (4, .int x4)] := hl
  have hinX6 : ∀ w ∈ wsX60, w ∈ wsX6_flies := by decide +kernel
  refine w_q ({ frames := 2, cells := 0, slots := 0, locals := 43 } : Room) (fun Q0 hQ => ?_)
  have K36 : ∀ (n36 : Nat) (x2 : Int32) (x3 : Int32) (x5 : Int32) (x6 : Int32) (t_end : Int32) (t_cell : Int32) (t_steps : Int32) (t_highest : Int32) (t_struck : Int32) (H : Heap) (locs : List Loc), va_P (dC, dI) vwCl [(a_t, .inr (6, [.int t_hand, .int t_first, .int t_wide, .int t_rim, .int t_fill, .int t_wall, .int t_ceiling, .int t_puff, .int t_period, .int t_second, .int t_score, .int t_thrown, .int t_balls, .ref a_kind, .ref a_size, .ref a_tight, .int t_letters, .ref a_letter, .int t_at, .int t_value, .int t_inRow, .ref a_row, .ref a_refusals, .int t_imaged, .ref a_image, .ref a_ahead, .int t_end, .int t_cell, .int t_steps, .int t_highest, .int t_struck])), (a_size, .inl (cI, 5, .inl sizeA)), (a_tight, .inl (cI, 5, .inl tightA)), (a_kind, .inl (cI, 5, .inl kindA))] H → va_D A [(a_t, .inr (6, [.int t_hand, .int t_first, .int t_wide, .int t_rim, .int t_fill, .int t_wall, .int t_ceiling, .int t_puff, .int t_period, .int t_second, .int t_score, .int t_thrown, .int t_balls, .ref a_kind, .ref a_size, .ref a_tight, .int t_letters, .ref a_letter, .int t_at, .int t_value, .int t_inRow, .ref a_row, .ref a_refusals, .int t_imaged, .ref a_image, .ref a_ahead, .int t_end, .int t_cell, .int t_steps, .int t_highest, .int t_struck])), (a_size, .inl (cI, 5, .inl sizeA)), (a_tight, .inl (cI, 5, .inl tightA)), (a_kind, .inl (cI, 5, .inl kindA))] → va_S A s.heap H locs → ∀ (ls : Array Slot), lv_has ls 9 [(0, .ref a_t), (1, .int x1), (2, .int x2), (3, .int x3), (4, .int x4), (5, .int x5), (6, .int x6)] → lX6_flies_36 x1 x4 t_first t_wide t_rim t_fill t_wall t_ceiling t_puff t_period kindA n36 x2 x3 x5 x6 t_cell t_steps t_highest t_struck = some R → W p l e ({ frames := 2, cells := 0, slots := 0, locals := 43 } : Room) s m args below meth c H locs 0 0 Q0 (F0 m 36 ls []) := by
    intro n36
    induction n36 with
    | zero =>
      intro x2 x3 x5 x6 t_end t_cell t_steps t_highest t_struck H locs hP hD hS ls hl hR
      rw [lX6_flies_36] at hR
      cases hR
    | succ n36 ih36 =>
      have K419 : ∀ (x2 : Int32) (x3 : Int32) (x5 : Int32) (x6 : Int32) (t_end : Int32) (t_cell : Int32) (t_steps : Int32) (t_highest : Int32) (t_struck : Int32) (H : Heap) (locs : List Loc), va_P (dC, dI) vwCl [(a_t, .inr (6, [.int t_hand, .int t_first, .int t_wide, .int t_rim, .int t_fill, .int t_wall, .int t_ceiling, .int t_puff, .int t_period, .int t_second, .int t_score, .int t_thrown, .int t_balls, .ref a_kind, .ref a_size, .ref a_tight, .int t_letters, .ref a_letter, .int t_at, .int t_value, .int t_inRow, .ref a_row, .ref a_refusals, .int t_imaged, .ref a_image, .ref a_ahead, .int t_end, .int t_cell, .int t_steps, .int t_highest, .int t_struck])), (a_size, .inl (cI, 5, .inl sizeA)), (a_tight, .inl (cI, 5, .inl tightA)), (a_kind, .inl (cI, 5, .inl kindA))] H → va_D A [(a_t, .inr (6, [.int t_hand, .int t_first, .int t_wide, .int t_rim, .int t_fill, .int t_wall, .int t_ceiling, .int t_puff, .int t_period, .int t_second, .int t_score, .int t_thrown, .int t_balls, .ref a_kind, .ref a_size, .ref a_tight, .int t_letters, .ref a_letter, .int t_at, .int t_value, .int t_inRow, .ref a_row, .ref a_refusals, .int t_imaged, .ref a_image, .ref a_ahead, .int t_end, .int t_cell, .int t_steps, .int t_highest, .int t_struck])), (a_size, .inl (cI, 5, .inl sizeA)), (a_tight, .inl (cI, 5, .inl tightA)), (a_kind, .inl (cI, 5, .inl kindA))] → va_S A s.heap H locs → ∀ (ls : Array Slot), lv_has ls 9 [(0, .ref a_t), (1, .int x1), (2, .int x2), (3, .int x3), (4, .int x4), (5, .int x5), (6, .int x6)] → jX6_flies_419 x2 x3 x5 x6 t_cell t_steps t_highest t_struck (lX6_flies_36 x1 x4 t_first t_wide t_rim t_fill t_wall t_ceiling t_puff t_period kindA n36) = some R → W p l e ({ frames := 2, cells := 0, slots := 0, locals := 43 } : Room) s m args below meth c H locs 0 0 Q0 (F0 m 419 ls []) := by
        intro x2 x3 x5 x6 t_end t_cell t_steps t_highest t_struck H locs hP hD hS ls hl hR
        rw [jX6_flies_419] at hR
        refine lv_goto (tgt := 36) hx hb dX6_flies_419 (by decide) ?_
        exact ih36 x2 x3 x5 x6 t_end t_cell t_steps t_highest t_struck _ _ hP hD hS _ (lv_sub hl [0, 1, 2, 3, 4, 5, 6] rfl) hR
      have K385 : ∀ (x3 : Int32) (x5 : Int32) (x6 : Int32) (st0 : Int32) (t_end : Int32) (t_cell : Int32) (t_steps : Int32) (t_highest : Int32) (t_struck : Int32) (H : Heap) (locs : List Loc), va_P (dC, dI) vwCl [(a_t, .inr (6, [.int t_hand, .int t_first, .int t_wide, .int t_rim, .int t_fill, .int t_wall, .int t_ceiling, .int t_puff, .int t_period, .int t_second, .int t_score, .int t_thrown, .int t_balls, .ref a_kind, .ref a_size, .ref a_tight, .int t_letters, .ref a_letter, .int t_at, .int t_value, .int t_inRow, .ref a_row, .ref a_refusals, .int t_imaged, .ref a_image, .ref a_ahead, .int t_end, .int t_cell, .int t_steps, .int t_highest, .int t_struck])), (a_size, .inl (cI, 5, .inl sizeA)), (a_tight, .inl (cI, 5, .inl tightA)), (a_kind, .inl (cI, 5, .inl kindA))] H → va_D A [(a_t, .inr (6, [.int t_hand, .int t_first, .int t_wide, .int t_rim, .int t_fill, .int t_wall, .int t_ceiling, .int t_puff, .int t_period, .int t_second, .int t_score, .int t_thrown, .int t_balls, .ref a_kind, .ref a_size, .ref a_tight, .int t_letters, .ref a_letter, .int t_at, .int t_value, .int t_inRow, .ref a_row, .ref a_refusals, .int t_imaged, .ref a_image, .ref a_ahead, .int t_end, .int t_cell, .int t_steps, .int t_highest, .int t_struck])), (a_size, .inl (cI, 5, .inl sizeA)), (a_tight, .inl (cI, 5, .inl tightA)), (a_kind, .inl (cI, 5, .inl kindA))] → va_S A s.heap H locs → ∀ (ls : Array Slot), lv_has ls 9 [(0, .ref a_t), (1, .int x1), (3, .int x3), (4, .int x4), (5, .int x5), (6, .int x6)] → jX6_flies_385 x1 x4 t_puff t_period kindA x3 x5 x6 st0 t_cell t_steps t_highest t_struck (lX6_flies_36 x1 x4 t_first t_wide t_rim t_fill t_wall t_ceiling t_puff t_period kindA n36) = some R → W p l e ({ frames := 2, cells := 0, slots := 0, locals := 43 } : Room) s m args below meth c H locs 0 0 Q0 (F0 m 385 ls [.int st0]) := by
        intro x3 x5 x6 st0 t_end t_cell t_steps t_highest t_struck H locs hP hD hS ls hl hR
        rw [jX6_flies_385] at hR
        refine lv_istore_n (lv' := [(2, .int st0), (0, .ref a_t), (1, .int x1), (3, .int x3), (4, .int x4), (5, .int x5), (6, .int x6)]) hx hb dX6_flies_385 rfl hl (by decide) rfl (fun ls hl => ?_)
        refine lv_iload_n hx hb dX6_flies_386 rfl (lv_at hl 3 rfl) ?_
        refine lv_aload_n hx hb dX6_flies_387 rfl (lv_at hl 1 rfl) ?_
        refine lv_iload_n hx hb dX6_flies_388 rfl (lv_at hl 2 rfl) ?_
        obtain ⟨r1, hu2, hR⟩ := b1_s hR
        refine cl_ViN (As := [.int x1]) (rest := [.int x3]) (wc := [(a_t, .inr (6, [.int t_hand, .int t_first, .int t_wide, .int t_rim, .int t_fill, .int t_wall, .int t_ceiling, .int t_puff, .int t_period, .int t_second, .int t_score, .int t_thrown, .int t_balls, .ref a_kind, .ref a_size, .ref a_tight, .int t_letters, .ref a_letter, .int t_at, .int t_value, .int t_inRow, .ref a_row, .ref a_refusals, .int t_imaged, .ref a_image, .ref a_ahead, .int t_end, .int t_cell, .int t_steps, .int t_highest, .int t_struck])), (a_kind, .inl (cI, 5, .inl kindA))]) (wr := [(a_size, .inl (cI, 5, .inl sizeA)), (a_tight, .inl (cI, 5, .inl tightA))]) ⟨hx, hb, hml, hown, hts⟩ (kX6_fall l dC dI cI a_t a_kind a_size a_tight a_letter a_row a_refusals a_image a_ahead H.size x1 t_hand t_first t_wide t_rim t_fill t_wall t_ceiling t_puff t_period t_second t_score t_thrown t_balls t_letters t_at t_value t_inRow t_imaged t_end t_cell t_steps t_highest t_struck kindA r1 hu2) (cwV 1 hts gX6_flies_X6_fall rfl rfl rfl (by decide +kernel) ⟨Nat.le_of_ble_eq_true rfl, Nat.le_of_ble_eq_true rfl⟩) hK hN hP hD hS hA (va_recv hK hP (ci := 6) (q0 := 0) rfl rfl) [0, 3] [1, 2] rfl rfl rfl rfl rfl (by decide) rfl hl.1 rfl (Nat.le_of_ble_eq_true rfl) dX6_flies_389 (fun H locs hP hD hS => ?_)
        have hP : va_P (dC, dI) vwCl [(a_size, .inl (cI, 5, .inl sizeA)), (a_tight, .inl (cI, 5, .inl tightA)), (a_t, .inr (6, [.int t_hand, .int t_first, .int t_wide, .int t_rim, .int t_fill, .int t_wall, .int t_ceiling, .int t_puff, .int t_period, .int t_second, .int t_score, .int t_thrown, .int t_balls, .ref a_kind, .ref a_size, .ref a_tight, .int t_letters, .ref a_letter, .int t_at, .int t_value, .int t_inRow, .ref a_row, .ref a_refusals, .int t_imaged, .ref a_image, .ref a_ahead, .int t_end, .int t_cell, .int t_steps, .int t_highest, .int t_struck])), (a_kind, .inl (cI, 5, .inl kindA))] H := hP
        have hD : va_D A [(a_size, .inl (cI, 5, .inl sizeA)), (a_tight, .inl (cI, 5, .inl tightA)), (a_t, .inr (6, [.int t_hand, .int t_first, .int t_wide, .int t_rim, .int t_fill, .int t_wall, .int t_ceiling, .int t_puff, .int t_period, .int t_second, .int t_score, .int t_thrown, .int t_balls, .ref a_kind, .ref a_size, .ref a_tight, .int t_letters, .ref a_letter, .int t_at, .int t_value, .int t_inRow, .ref a_row, .ref a_refusals, .int t_imaged, .ref a_image, .ref a_ahead, .int t_end, .int t_cell, .int t_steps, .int t_highest, .int t_struck])), (a_kind, .inl (cI, 5, .inl kindA))] := hD
        refine lv_isub hx hb dX6_flies_392 ?_
        refine lv_istore_n (lv' := [(3, .int (x3 - r1)), (2, .int st0), (0, .ref a_t), (1, .int x1), (4, .int x4), (5, .int x5), (6, .int x6)]) hx hb dX6_flies_393 rfl hl (by decide) rfl (fun ls hl => ?_)
        refine lv_iload hx hb dX6_flies_394 (lv_at hl 4 rfl) ?_
        refine lv_aload_n hx hb dX6_flies_396 rfl (lv_at hl 2 rfl) ?_
        refine va_get (D := (dC, dI)) (ci := 6) (v := .int t_steps) (C := RX6) (T := TX6) (N := 31) hx hb hts hinX6 hown hK hP 2 rfl rfl 28 (by decide) (hts (.fieldLink RX6 134 "PaperInBinModel" "steps" "I") (by decide +kernel)) (fun _ h9 => h9) rfl dX6_flies_397 ?_
        refine lv_iconst (v := 4) hx hb dX6_flies_400 (by decide) ?_
        refine lv_idiv hx hb dX6_flies_401 (by decide) ?_
        refine lv_iadd hx hb dX6_flies_402 ?_
        refine lv_aload_n hx hb dX6_flies_403 rfl (lv_at hl 2 rfl) ?_
        refine va_get (D := (dC, dI)) (ci := 6) (v := .int t_period) (C := RX6) (T := TX6) (N := 31) hx hb hts hinX6 hown hK hP 2 rfl rfl 8 (by decide) (hts (.fieldLink RX6 53 "PaperInBinModel" "period" "I") (by decide +kernel)) (fun _ h9 => h9) rfl dX6_flies_404 ?_
        obtain ⟨g3, hR⟩ := g_nz_s hR
        refine lv_irem hx hb dX6_flies_407 g3 ?_
        refine lv_if_ne (tgt := 419) hx hb dX6_flies_408 (by decide) (fun c408 => ?_) (fun c408 => ?_)
        · have hR := (if_neg c408).symm.trans hR
          have hP := hP.sub (ws' := [(a_t, .inr (6, [.int t_hand, .int t_first, .int t_wide, .int t_rim, .int t_fill, .int t_wall, .int t_ceiling, .int t_puff, .int t_period, .int t_second, .int t_score, .int t_thrown, .int t_balls, .ref a_kind, .ref a_size, .ref a_tight, .int t_letters, .ref a_letter, .int t_at, .int t_value, .int t_inRow, .ref a_row, .ref a_refusals, .int t_imaged, .ref a_image, .ref a_ahead, .int t_end, .int t_cell, .int t_steps, .int t_highest, .int t_struck])), (a_size, .inl (cI, 5, .inl sizeA)), (a_tight, .inl (cI, 5, .inl tightA)), (a_kind, .inl (cI, 5, .inl kindA))]) [2, 0, 1, 3] rfl
          have hD := hD.sub (ws' := [(a_t, .inr (6, [.int t_hand, .int t_first, .int t_wide, .int t_rim, .int t_fill, .int t_wall, .int t_ceiling, .int t_puff, .int t_period, .int t_second, .int t_score, .int t_thrown, .int t_balls, .ref a_kind, .ref a_size, .ref a_tight, .int t_letters, .ref a_letter, .int t_at, .int t_value, .int t_inRow, .ref a_row, .ref a_refusals, .int t_imaged, .ref a_image, .ref a_ahead, .int t_end, .int t_cell, .int t_steps, .int t_highest, .int t_struck])), (a_size, .inl (cI, 5, .inl sizeA)), (a_tight, .inl (cI, 5, .inl tightA)), (a_kind, .inl (cI, 5, .inl kindA))]) [2, 0, 1, 3] (by decide) rfl
          exact K419 st0 (x3 - r1) x5 x6 t_end t_cell t_steps t_highest t_struck _ _ hP hD hS _ (lv_sub hl [2, 3, 1, 0, 4, 5, 6] rfl) hR
        · have hR := (if_pos c408).symm.trans hR
          refine lv_iload_n hx hb dX6_flies_411 rfl (lv_at hl 1 rfl) ?_
          refine lv_aload_n hx hb dX6_flies_412 rfl (lv_at hl 2 rfl) ?_
          refine lv_iload_n hx hb dX6_flies_413 rfl (lv_at hl 3 rfl) ?_
          obtain ⟨r4, hu5, hR⟩ := b1_s hR
          refine cl_ViN (As := [.int x1]) (rest := [.int st0]) (wc := [(a_t, .inr (6, [.int t_hand, .int t_first, .int t_wide, .int t_rim, .int t_fill, .int t_wall, .int t_ceiling, .int t_puff, .int t_period, .int t_second, .int t_score, .int t_thrown, .int t_balls, .ref a_kind, .ref a_size, .ref a_tight, .int t_letters, .ref a_letter, .int t_at, .int t_value, .int t_inRow, .ref a_row, .ref a_refusals, .int t_imaged, .ref a_image, .ref a_ahead, .int t_end, .int t_cell, .int t_steps, .int t_highest, .int t_struck])), (a_kind, .inl (cI, 5, .inl kindA))]) (wr := [(a_size, .inl (cI, 5, .inl sizeA)), (a_tight, .inl (cI, 5, .inl tightA))]) ⟨hx, hb, hml, hown, hts⟩ (kX6_blown l dC dI cI a_t a_kind a_size a_tight a_letter a_row a_refusals a_image a_ahead H.size x1 t_hand t_first t_wide t_rim t_fill t_wall t_ceiling t_puff t_period t_second t_score t_thrown t_balls t_letters t_at t_value t_inRow t_imaged t_end t_cell t_steps t_highest t_struck kindA r4 hu5) (cwV 1 hts gX6_flies_X6_blown rfl rfl rfl (by decide +kernel) ⟨Nat.le_of_ble_eq_true rfl, Nat.le_of_ble_eq_true rfl⟩) hK hN hP hD hS hA (va_recv hK hP (ci := 6) (q0 := 2) rfl rfl) [2, 3] [0, 1] rfl rfl rfl rfl rfl (by decide) rfl hl.1 rfl (Nat.le_of_ble_eq_true rfl) dX6_flies_414 (fun H locs hP hD hS => ?_)
          have hP : va_P (dC, dI) vwCl [(a_size, .inl (cI, 5, .inl sizeA)), (a_tight, .inl (cI, 5, .inl tightA)), (a_t, .inr (6, [.int t_hand, .int t_first, .int t_wide, .int t_rim, .int t_fill, .int t_wall, .int t_ceiling, .int t_puff, .int t_period, .int t_second, .int t_score, .int t_thrown, .int t_balls, .ref a_kind, .ref a_size, .ref a_tight, .int t_letters, .ref a_letter, .int t_at, .int t_value, .int t_inRow, .ref a_row, .ref a_refusals, .int t_imaged, .ref a_image, .ref a_ahead, .int t_end, .int t_cell, .int t_steps, .int t_highest, .int t_struck])), (a_kind, .inl (cI, 5, .inl kindA))] H := hP
          have hD : va_D A [(a_size, .inl (cI, 5, .inl sizeA)), (a_tight, .inl (cI, 5, .inl tightA)), (a_t, .inr (6, [.int t_hand, .int t_first, .int t_wide, .int t_rim, .int t_fill, .int t_wall, .int t_ceiling, .int t_puff, .int t_period, .int t_second, .int t_score, .int t_thrown, .int t_balls, .ref a_kind, .ref a_size, .ref a_tight, .int t_letters, .ref a_letter, .int t_at, .int t_value, .int t_inRow, .ref a_row, .ref a_refusals, .int t_imaged, .ref a_image, .ref a_ahead, .int t_end, .int t_cell, .int t_steps, .int t_highest, .int t_struck])), (a_kind, .inl (cI, 5, .inl kindA))] := hD
          refine lv_iadd hx hb dX6_flies_417 ?_
          refine lv_istore_n (lv' := [(2, .int (st0 + r4)), (3, .int (x3 - r1)), (0, .ref a_t), (1, .int x1), (4, .int x4), (5, .int x5), (6, .int x6)]) hx hb dX6_flies_418 rfl hl (by decide) rfl (fun ls hl => ?_)
          have hP := hP.sub (ws' := [(a_t, .inr (6, [.int t_hand, .int t_first, .int t_wide, .int t_rim, .int t_fill, .int t_wall, .int t_ceiling, .int t_puff, .int t_period, .int t_second, .int t_score, .int t_thrown, .int t_balls, .ref a_kind, .ref a_size, .ref a_tight, .int t_letters, .ref a_letter, .int t_at, .int t_value, .int t_inRow, .ref a_row, .ref a_refusals, .int t_imaged, .ref a_image, .ref a_ahead, .int t_end, .int t_cell, .int t_steps, .int t_highest, .int t_struck])), (a_size, .inl (cI, 5, .inl sizeA)), (a_tight, .inl (cI, 5, .inl tightA)), (a_kind, .inl (cI, 5, .inl kindA))]) [2, 0, 1, 3] rfl
          have hD := hD.sub (ws' := [(a_t, .inr (6, [.int t_hand, .int t_first, .int t_wide, .int t_rim, .int t_fill, .int t_wall, .int t_ceiling, .int t_puff, .int t_period, .int t_second, .int t_score, .int t_thrown, .int t_balls, .ref a_kind, .ref a_size, .ref a_tight, .int t_letters, .ref a_letter, .int t_at, .int t_value, .int t_inRow, .ref a_row, .ref a_refusals, .int t_imaged, .ref a_image, .ref a_ahead, .int t_end, .int t_cell, .int t_steps, .int t_highest, .int t_struck])), (a_size, .inl (cI, 5, .inl sizeA)), (a_tight, .inl (cI, 5, .inl tightA)), (a_kind, .inl (cI, 5, .inl kindA))]) [2, 0, 1, 3] (by decide) rfl
          exact K419 (st0 + r4) (x3 - r1) x5 x6 t_end t_cell t_steps t_highest t_struck _ _ hP hD hS _ (lv_sub hl [2, 3, 0, 1, 4, 5, 6] rfl) hR
      have K319 : ∀ (x2 : Int32) (x3 : Int32) (x5 : Int32) (x6 : Int32) (t_end : Int32) (t_cell : Int32) (t_steps : Int32) (t_highest : Int32) (t_struck : Int32) (H : Heap) (locs : List Loc), va_P (dC, dI) vwCl [(a_t, .inr (6, [.int t_hand, .int t_first, .int t_wide, .int t_rim, .int t_fill, .int t_wall, .int t_ceiling, .int t_puff, .int t_period, .int t_second, .int t_score, .int t_thrown, .int t_balls, .ref a_kind, .ref a_size, .ref a_tight, .int t_letters, .ref a_letter, .int t_at, .int t_value, .int t_inRow, .ref a_row, .ref a_refusals, .int t_imaged, .ref a_image, .ref a_ahead, .int t_end, .int t_cell, .int t_steps, .int t_highest, .int t_struck])), (a_size, .inl (cI, 5, .inl sizeA)), (a_tight, .inl (cI, 5, .inl tightA)), (a_kind, .inl (cI, 5, .inl kindA))] H → va_D A [(a_t, .inr (6, [.int t_hand, .int t_first, .int t_wide, .int t_rim, .int t_fill, .int t_wall, .int t_ceiling, .int t_puff, .int t_period, .int t_second, .int t_score, .int t_thrown, .int t_balls, .ref a_kind, .ref a_size, .ref a_tight, .int t_letters, .ref a_letter, .int t_at, .int t_value, .int t_inRow, .ref a_row, .ref a_refusals, .int t_imaged, .ref a_image, .ref a_ahead, .int t_end, .int t_cell, .int t_steps, .int t_highest, .int t_struck])), (a_size, .inl (cI, 5, .inl sizeA)), (a_tight, .inl (cI, 5, .inl tightA)), (a_kind, .inl (cI, 5, .inl kindA))] → va_S A s.heap H locs → ∀ (ls : Array Slot), lv_has ls 9 [(0, .ref a_t), (1, .int x1), (2, .int x2), (3, .int x3), (4, .int x4), (5, .int x5), (6, .int x6)] → jX6_flies_319 x1 x4 t_first t_puff t_period kindA x2 x3 x5 x6 t_cell t_steps t_highest t_struck (lX6_flies_36 x1 x4 t_first t_wide t_rim t_fill t_wall t_ceiling t_puff t_period kindA n36) = some R → W p l e ({ frames := 2, cells := 0, slots := 0, locals := 43 } : Room) s m args below meth c H locs 0 0 Q0 (F0 m 319 ls []) := by
        intro x2 x3 x5 x6 t_end t_cell t_steps t_highest t_struck H locs hP hD hS ls hl hR
        rw [jX6_flies_319] at hR
        refine lv_aload_n hx hb dX6_flies_319 rfl (lv_at hl 0 rfl) ?_
        refine lv_aload_n hx hb dX6_flies_320 rfl (lv_at hl 0 rfl) ?_
        refine va_get (D := (dC, dI)) (ci := 6) (v := .int t_highest) (C := RX6) (T := TX6) (N := 31) hx hb hts hinX6 hown hK hP 0 rfl rfl 29 (by decide) (hts (.fieldLink RX6 137 "PaperInBinModel" "highest" "I") (by decide +kernel)) (fun _ h9 => h9) rfl dX6_flies_321 ?_
        refine lv_iload hx hb dX6_flies_324 (lv_at hl 5 rfl) ?_
        refine va_mmax hx hb (hml.trans hl.1.symm) hown (hts (.methodLink RX6 113 Lib.Math.max.name) (by decide +kernel)) (hts (.static Lib.Math.max.name) (by decide +kernel)) (hts (.initialized "java/lang/Math") (by decide +kernel)) (hts (.code Lib.Math.max.name Lib.Math.max.code 2 (some .int)) (by decide +kernel)) (Nat.le_of_ble_eq_true rfl) (Nat.le_of_ble_eq_true rfl) (Nat.zero_le _) (Nat.zero_le _) dX6_flies_326 ?_
        refine va_put (D := (dC, dI)) (ci := 6) (v := .int (if t_highest < x5 then x5 else t_highest)) (ty := .int) (C := RX6) (T := TX6) (N := 31) hx hb hts hinX6 tyX6 tyX6_ok nmX6 hown hK hP hD hS 0 rfl rfl 29 (by decide) (hts (.fieldLink RX6 137 "PaperInBinModel" "highest" "I") (by decide +kernel)) (fun _ h9 => h9) rfl (tyX6_ok 29 (by decide)) rfl rfl (Nat.le_of_ble_eq_true rfl) dX6_flies_329 (fun H locs hP hD hS => ?_)
        have hP : va_P (dC, dI) vwCl [(a_t, .inr (6, [.int t_hand, .int t_first, .int t_wide, .int t_rim, .int t_fill, .int t_wall, .int t_ceiling, .int t_puff, .int t_period, .int t_second, .int t_score, .int t_thrown, .int t_balls, .ref a_kind, .ref a_size, .ref a_tight, .int t_letters, .ref a_letter, .int t_at, .int t_value, .int t_inRow, .ref a_row, .ref a_refusals, .int t_imaged, .ref a_image, .ref a_ahead, .int t_end, .int t_cell, .int t_steps, .int (if t_highest < x5 then x5 else t_highest), .int t_struck])), (a_size, .inl (cI, 5, .inl sizeA)), (a_tight, .inl (cI, 5, .inl tightA)), (a_kind, .inl (cI, 5, .inl kindA))] H := hP
        have hD : va_D A [(a_t, .inr (6, [.int t_hand, .int t_first, .int t_wide, .int t_rim, .int t_fill, .int t_wall, .int t_ceiling, .int t_puff, .int t_period, .int t_second, .int t_score, .int t_thrown, .int t_balls, .ref a_kind, .ref a_size, .ref a_tight, .int t_letters, .ref a_letter, .int t_at, .int t_value, .int t_inRow, .ref a_row, .ref a_refusals, .int t_imaged, .ref a_image, .ref a_ahead, .int t_end, .int t_cell, .int t_steps, .int (if t_highest < x5 then x5 else t_highest), .int t_struck])), (a_size, .inl (cI, 5, .inl sizeA)), (a_tight, .inl (cI, 5, .inl tightA)), (a_kind, .inl (cI, 5, .inl kindA))] := hD
        refine lv_iload hx hb dX6_flies_332 (lv_at hl 5 rfl) ?_
        refine lv_if_gt (tgt := 362) hx hb dX6_flies_334 (by decide) (fun c334 => ?_) (fun c334 => ?_)
        · have hR := (if_pos c334).symm.trans hR
          refine lv_iload_n hx hb dX6_flies_362 rfl (lv_at hl 2 rfl) ?_
          refine lv_if_le (tgt := 377) hx hb dX6_flies_363 (by decide) (fun c363 => ?_) (fun c363 => ?_)
          · have hR := (if_pos c363).symm.trans hR
            refine lv_iconst (v := 0) hx hb dX6_flies_377 (by decide) ?_
            refine lv_iload_n hx hb dX6_flies_378 rfl (lv_at hl 2 rfl) ?_
            refine lv_iload hx hb dX6_flies_379 (lv_at hl 6 rfl) ?_
            refine lv_iadd hx hb dX6_flies_381 ?_
            refine va_mmin hx hb (hml.trans hl.1.symm) hown (hts (.methodLink RX6 146 Lib.Math.min.name) (by decide +kernel)) (hts (.static Lib.Math.min.name) (by decide +kernel)) (hts (.initialized "java/lang/Math") (by decide +kernel)) (hts (.code Lib.Math.min.name Lib.Math.min.code 2 (some .int)) (by decide +kernel)) (Nat.le_of_ble_eq_true rfl) (Nat.le_of_ble_eq_true rfl) (Nat.zero_le _) (Nat.zero_le _) dX6_flies_382 ?_
            exact K385 x3 x5 x6 (if (x2 + x6) < (0 : Int32) then (x2 + x6) else (0 : Int32)) t_end t_cell t_steps (if t_highest < x5 then x5 else t_highest) t_struck _ _ hP hD hS _ (lv_sub hl [0, 1, 3, 4, 5, 6] rfl) hR
          · have hR := (if_neg c363).symm.trans hR
            refine lv_iconst (v := 0) hx hb dX6_flies_366 (by decide) ?_
            refine lv_iload_n hx hb dX6_flies_367 rfl (lv_at hl 2 rfl) ?_
            refine lv_iload hx hb dX6_flies_368 (lv_at hl 6 rfl) ?_
            refine lv_isub hx hb dX6_flies_370 ?_
            refine va_mmax hx hb (hml.trans hl.1.symm) hown (hts (.methodLink RX6 113 Lib.Math.max.name) (by decide +kernel)) (hts (.static Lib.Math.max.name) (by decide +kernel)) (hts (.initialized "java/lang/Math") (by decide +kernel)) (hts (.code Lib.Math.max.name Lib.Math.max.code 2 (some .int)) (by decide +kernel)) (Nat.le_of_ble_eq_true rfl) (Nat.le_of_ble_eq_true rfl) (Nat.zero_le _) (Nat.zero_le _) dX6_flies_371 ?_
            refine lv_goto (tgt := 385) hx hb dX6_flies_374 (by decide) ?_
            exact K385 x3 x5 x6 (if (0 : Int32) < (x2 - x6) then (x2 - x6) else (0 : Int32)) t_end t_cell t_steps (if t_highest < x5 then x5 else t_highest) t_struck _ _ hP hD hS _ (lv_sub hl [0, 1, 3, 4, 5, 6] rfl) hR
        · have hR := (if_neg c334).symm.trans hR
          refine lv_aload_n hx hb dX6_flies_337 rfl (lv_at hl 0 rfl) ?_
          refine lv_aload_n hx hb dX6_flies_338 rfl (lv_at hl 0 rfl) ?_
          refine va_get (D := (dC, dI)) (ci := 6) (v := .int t_cell) (C := RX6) (T := TX6) (N := 31) hx hb hts hinX6 hown hK hP 0 rfl rfl 27 (by decide) (hts (.fieldLink RX6 131 "PaperInBinModel" "cell" "I") (by decide +kernel)) (fun _ h9 => h9) rfl dX6_flies_339 ?_
          refine lv_aload_n hx hb dX6_flies_342 rfl (lv_at hl 0 rfl) ?_
          refine va_get (D := (dC, dI)) (ci := 6) (v := .int t_first) (C := RX6) (T := TX6) (N := 31) hx hb hts hinX6 hown hK hP 0 rfl rfl 1 (by decide) (hts (.fieldLink RX6 38 "PaperInBinModel" "first" "I") (by decide +kernel)) (fun _ h9 => h9) rfl dX6_flies_343 ?_
          refine lv_icmp_ge (tgt := 353) hx hb dX6_flies_346 (by decide) (fun c346 => ?_) (fun c346 => ?_)
          · have hR := (if_pos c346).symm.trans hR
            refine lv_iconst (v := 2) hx hb dX6_flies_353 (by decide) ?_
            refine va_put (D := (dC, dI)) (ci := 6) (v := .int 2) (ty := .int) (C := RX6) (T := TX6) (N := 31) hx hb hts hinX6 tyX6 tyX6_ok nmX6 hown hK hP hD hS 0 rfl rfl 26 (by decide) (hts (.fieldLink RX6 143 "PaperInBinModel" "end" "I") (by decide +kernel)) (fun _ h9 => h9) rfl (tyX6_ok 26 (by decide)) rfl rfl (Nat.le_of_ble_eq_true rfl) dX6_flies_354 (fun H locs hP hD hS => ?_)
            have hP : va_P (dC, dI) vwCl [(a_t, .inr (6, [.int t_hand, .int t_first, .int t_wide, .int t_rim, .int t_fill, .int t_wall, .int t_ceiling, .int t_puff, .int t_period, .int t_second, .int t_score, .int t_thrown, .int t_balls, .ref a_kind, .ref a_size, .ref a_tight, .int t_letters, .ref a_letter, .int t_at, .int t_value, .int t_inRow, .ref a_row, .ref a_refusals, .int t_imaged, .ref a_image, .ref a_ahead, .int 2, .int t_cell, .int t_steps, .int (if t_highest < x5 then x5 else t_highest), .int t_struck])), (a_size, .inl (cI, 5, .inl sizeA)), (a_tight, .inl (cI, 5, .inl tightA)), (a_kind, .inl (cI, 5, .inl kindA))] H := hP
            have hD : va_D A [(a_t, .inr (6, [.int t_hand, .int t_first, .int t_wide, .int t_rim, .int t_fill, .int t_wall, .int t_ceiling, .int t_puff, .int t_period, .int t_second, .int t_score, .int t_thrown, .int t_balls, .ref a_kind, .ref a_size, .ref a_tight, .int t_letters, .ref a_letter, .int t_at, .int t_value, .int t_inRow, .ref a_row, .ref a_refusals, .int t_imaged, .ref a_image, .ref a_ahead, .int 2, .int t_cell, .int t_steps, .int (if t_highest < x5 then x5 else t_highest), .int t_struck])), (a_size, .inl (cI, 5, .inl sizeA)), (a_tight, .inl (cI, 5, .inl tightA)), (a_kind, .inl (cI, 5, .inl kindA))] := hD
            refine lv_aload_n hx hb dX6_flies_357 rfl (lv_at hl 0 rfl) ?_
            refine va_get (D := (dC, dI)) (ci := 6) (v := .int 2) (C := RX6) (T := TX6) (N := 31) hx hb hts hinX6 hown hK hP 0 rfl rfl 26 (by decide) (hts (.fieldLink RX6 143 "PaperInBinModel" "end" "I") (by decide +kernel)) (fun _ h9 => h9) rfl dX6_flies_358 ?_
            subst hQ
            subst hAe
            exact W.iret (v := 2) hx hb hr (fun t ht hW => ⟨⟨2, (2, t_cell, t_steps, (if t_highest < x5 then x5 else t_highest), t_struck), rfl, Option.some.inj hR, by rw [ht]; exact hP, hD⟩, hS.F ht⟩) hS.2.2 dX6_flies_361
          · have hR := (if_neg c346).symm.trans hR
            refine lv_iconst (v := 1) hx hb dX6_flies_349 (by decide) ?_
            refine lv_goto (tgt := 354) hx hb dX6_flies_350 (by decide) ?_
            refine va_put (D := (dC, dI)) (ci := 6) (v := .int 1) (ty := .int) (C := RX6) (T := TX6) (N := 31) hx hb hts hinX6 tyX6 tyX6_ok nmX6 hown hK hP hD hS 0 rfl rfl 26 (by decide) (hts (.fieldLink RX6 143 "PaperInBinModel" "end" "I") (by decide +kernel)) (fun _ h9 => h9) rfl (tyX6_ok 26 (by decide)) rfl rfl (Nat.le_of_ble_eq_true rfl) dX6_flies_354 (fun H locs hP hD hS => ?_)
            have hP : va_P (dC, dI) vwCl [(a_t, .inr (6, [.int t_hand, .int t_first, .int t_wide, .int t_rim, .int t_fill, .int t_wall, .int t_ceiling, .int t_puff, .int t_period, .int t_second, .int t_score, .int t_thrown, .int t_balls, .ref a_kind, .ref a_size, .ref a_tight, .int t_letters, .ref a_letter, .int t_at, .int t_value, .int t_inRow, .ref a_row, .ref a_refusals, .int t_imaged, .ref a_image, .ref a_ahead, .int 1, .int t_cell, .int t_steps, .int (if t_highest < x5 then x5 else t_highest), .int t_struck])), (a_size, .inl (cI, 5, .inl sizeA)), (a_tight, .inl (cI, 5, .inl tightA)), (a_kind, .inl (cI, 5, .inl kindA))] H := hP
            have hD : va_D A [(a_t, .inr (6, [.int t_hand, .int t_first, .int t_wide, .int t_rim, .int t_fill, .int t_wall, .int t_ceiling, .int t_puff, .int t_period, .int t_second, .int t_score, .int t_thrown, .int t_balls, .ref a_kind, .ref a_size, .ref a_tight, .int t_letters, .ref a_letter, .int t_at, .int t_value, .int t_inRow, .ref a_row, .ref a_refusals, .int t_imaged, .ref a_image, .ref a_ahead, .int 1, .int t_cell, .int t_steps, .int (if t_highest < x5 then x5 else t_highest), .int t_struck])), (a_size, .inl (cI, 5, .inl sizeA)), (a_tight, .inl (cI, 5, .inl tightA)), (a_kind, .inl (cI, 5, .inl kindA))] := hD
            refine lv_aload_n hx hb dX6_flies_357 rfl (lv_at hl 0 rfl) ?_
            refine va_get (D := (dC, dI)) (ci := 6) (v := .int 1) (C := RX6) (T := TX6) (N := 31) hx hb hts hinX6 hown hK hP 0 rfl rfl 26 (by decide) (hts (.fieldLink RX6 143 "PaperInBinModel" "end" "I") (by decide +kernel)) (fun _ h9 => h9) rfl dX6_flies_358 ?_
            subst hQ
            subst hAe
            exact W.iret (v := 1) hx hb hr (fun t ht hW => ⟨⟨1, (1, t_cell, t_steps, (if t_highest < x5 then x5 else t_highest), t_struck), rfl, Option.some.inj hR, by rw [ht]; exact hP, hD⟩, hS.F ht⟩) hS.2.2 dX6_flies_361
      have K287 : ∀ (x2 : Int32) (x3 : Int32) (x5 : Int32) (x6 : Int32) (t_end : Int32) (t_cell : Int32) (t_steps : Int32) (t_highest : Int32) (t_struck : Int32) (H : Heap) (locs : List Loc), va_P (dC, dI) vwCl [(a_t, .inr (6, [.int t_hand, .int t_first, .int t_wide, .int t_rim, .int t_fill, .int t_wall, .int t_ceiling, .int t_puff, .int t_period, .int t_second, .int t_score, .int t_thrown, .int t_balls, .ref a_kind, .ref a_size, .ref a_tight, .int t_letters, .ref a_letter, .int t_at, .int t_value, .int t_inRow, .ref a_row, .ref a_refusals, .int t_imaged, .ref a_image, .ref a_ahead, .int t_end, .int t_cell, .int t_steps, .int t_highest, .int t_struck])), (a_size, .inl (cI, 5, .inl sizeA)), (a_tight, .inl (cI, 5, .inl tightA)), (a_kind, .inl (cI, 5, .inl kindA))] H → va_D A [(a_t, .inr (6, [.int t_hand, .int t_first, .int t_wide, .int t_rim, .int t_fill, .int t_wall, .int t_ceiling, .int t_puff, .int t_period, .int t_second, .int t_score, .int t_thrown, .int t_balls, .ref a_kind, .ref a_size, .ref a_tight, .int t_letters, .ref a_letter, .int t_at, .int t_value, .int t_inRow, .ref a_row, .ref a_refusals, .int t_imaged, .ref a_image, .ref a_ahead, .int t_end, .int t_cell, .int t_steps, .int t_highest, .int t_struck])), (a_size, .inl (cI, 5, .inl sizeA)), (a_tight, .inl (cI, 5, .inl tightA)), (a_kind, .inl (cI, 5, .inl kindA))] → va_S A s.heap H locs → ∀ (ls : Array Slot), lv_has ls 9 [(0, .ref a_t), (1, .int x1), (2, .int x2), (3, .int x3), (4, .int x4), (5, .int x5), (6, .int x6)] → jX6_flies_287 x1 x4 t_first t_rim t_puff t_period kindA x2 x3 x5 x6 t_cell t_steps t_highest t_struck (lX6_flies_36 x1 x4 t_first t_wide t_rim t_fill t_wall t_ceiling t_puff t_period kindA n36) = some R → W p l e ({ frames := 2, cells := 0, slots := 0, locals := 43 } : Room) s m args below meth c H locs 0 0 Q0 (F0 m 287 ls []) := by
        intro x2 x3 x5 x6 t_end t_cell t_steps t_highest t_struck H locs hP hD hS ls hl hR
        rw [jX6_flies_287] at hR
        refine lv_aload_n hx hb dX6_flies_287 rfl (lv_at hl 0 rfl) ?_
        refine va_get (D := (dC, dI)) (ci := 6) (v := .int t_struck) (C := RX6) (T := TX6) (N := 31) hx hb hts hinX6 hown hK hP 0 rfl rfl 30 (by decide) (hts (.fieldLink RX6 140 "PaperInBinModel" "struck" "I") (by decide +kernel)) (fun _ h9 => h9) rfl dX6_flies_288 ?_
        refine lv_iconst (v := 4) hx hb dX6_flies_291 (by decide) ?_
        refine lv_iand hx hb dX6_flies_292 ?_
        refine lv_if_ne (tgt := 319) hx hb dX6_flies_293 (by decide) (fun c293 => ?_) (fun c293 => ?_)
        · have hR := (if_neg c293).symm.trans hR
          exact K319 x2 x3 x5 x6 t_end t_cell t_steps t_highest t_struck _ _ hP hD hS _ (lv_sub hl [0, 1, 2, 3, 4, 5, 6] rfl) hR
        · have hR := (if_pos c293).symm.trans hR
          refine lv_aload_n hx hb dX6_flies_296 rfl (lv_at hl 0 rfl) ?_
          refine va_get (D := (dC, dI)) (ci := 6) (v := .int t_rim) (C := RX6) (T := TX6) (N := 31) hx hb hts hinX6 hown hK hP 0 rfl rfl 3 (by decide) (hts (.fieldLink RX6 44 "PaperInBinModel" "rim" "I") (by decide +kernel)) (fun _ h9 => h9) rfl dX6_flies_297 ?_
          refine lv_iconst (v := 1) hx hb dX6_flies_300 (by decide) ?_
          refine lv_iadd hx hb dX6_flies_301 ?_
          refine lv_istore (lv' := [(5, .int (t_rim + 1)), (0, .ref a_t), (1, .int x1), (2, .int x2), (3, .int x3), (4, .int x4), (6, .int x6)]) hx hb dX6_flies_302 hl (by decide) rfl (fun ls hl => ?_)
          refine lv_iload_n hx hb dX6_flies_304 rfl (lv_at hl 3 rfl) ?_
          refine lv_ineg hx hb dX6_flies_305 ?_
          refine lv_istore_n (lv' := [(2, .int (-x2)), (5, .int (t_rim + 1)), (0, .ref a_t), (1, .int x1), (3, .int x3), (4, .int x4), (6, .int x6)]) hx hb dX6_flies_306 rfl hl (by decide) rfl (fun ls hl => ?_)
          refine lv_iconst (v := 1) hx hb dX6_flies_307 (by decide) ?_
          refine lv_istore_n (lv' := [(3, .int 1), (2, .int (-x2)), (5, .int (t_rim + 1)), (0, .ref a_t), (1, .int x1), (4, .int x4), (6, .int x6)]) hx hb dX6_flies_308 rfl hl (by decide) rfl (fun ls hl => ?_)
          refine lv_aload_n hx hb dX6_flies_309 rfl (lv_at hl 3 rfl) ?_
          refine lv_dup hx hb dX6_flies_310 rfl ?_
          refine va_get (D := (dC, dI)) (ci := 6) (v := .int t_struck) (C := RX6) (T := TX6) (N := 31) hx hb hts hinX6 hown hK hP 0 rfl rfl 30 (by decide) (hts (.fieldLink RX6 140 "PaperInBinModel" "struck" "I") (by decide +kernel)) (fun _ h9 => h9) rfl dX6_flies_311 ?_
          refine lv_iconst (v := 4) hx hb dX6_flies_314 (by decide) ?_
          refine lv_ior hx hb dX6_flies_315 ?_
          refine va_put (D := (dC, dI)) (ci := 6) (v := .int (t_struck ||| 4)) (ty := .int) (C := RX6) (T := TX6) (N := 31) hx hb hts hinX6 tyX6 tyX6_ok nmX6 hown hK hP hD hS 0 rfl rfl 30 (by decide) (hts (.fieldLink RX6 140 "PaperInBinModel" "struck" "I") (by decide +kernel)) (fun _ h9 => h9) rfl (tyX6_ok 30 (by decide)) rfl rfl (Nat.le_of_ble_eq_true rfl) dX6_flies_316 (fun H locs hP hD hS => ?_)
          have hP : va_P (dC, dI) vwCl [(a_t, .inr (6, [.int t_hand, .int t_first, .int t_wide, .int t_rim, .int t_fill, .int t_wall, .int t_ceiling, .int t_puff, .int t_period, .int t_second, .int t_score, .int t_thrown, .int t_balls, .ref a_kind, .ref a_size, .ref a_tight, .int t_letters, .ref a_letter, .int t_at, .int t_value, .int t_inRow, .ref a_row, .ref a_refusals, .int t_imaged, .ref a_image, .ref a_ahead, .int t_end, .int t_cell, .int t_steps, .int t_highest, .int (t_struck ||| 4)])), (a_size, .inl (cI, 5, .inl sizeA)), (a_tight, .inl (cI, 5, .inl tightA)), (a_kind, .inl (cI, 5, .inl kindA))] H := hP
          have hD : va_D A [(a_t, .inr (6, [.int t_hand, .int t_first, .int t_wide, .int t_rim, .int t_fill, .int t_wall, .int t_ceiling, .int t_puff, .int t_period, .int t_second, .int t_score, .int t_thrown, .int t_balls, .ref a_kind, .ref a_size, .ref a_tight, .int t_letters, .ref a_letter, .int t_at, .int t_value, .int t_inRow, .ref a_row, .ref a_refusals, .int t_imaged, .ref a_image, .ref a_ahead, .int t_end, .int t_cell, .int t_steps, .int t_highest, .int (t_struck ||| 4)])), (a_size, .inl (cI, 5, .inl sizeA)), (a_tight, .inl (cI, 5, .inl tightA)), (a_kind, .inl (cI, 5, .inl kindA))] := hD
          exact K319 (-x2) 1 (t_rim + 1) x6 t_end t_cell t_steps t_highest (t_struck ||| 4) _ _ hP hD hS _ (lv_sub hl [3, 4, 1, 0, 5, 2, 6] rfl) hR
      have K174 : ∀ (x2 : Int32) (x3 : Int32) (x5 : Int32) (x6 : Int32) (x7 : Int32) (x8 : Int32) (t_end : Int32) (t_cell : Int32) (t_steps : Int32) (t_highest : Int32) (t_struck : Int32) (H : Heap) (locs : List Loc), va_P (dC, dI) vwCl [(a_t, .inr (6, [.int t_hand, .int t_first, .int t_wide, .int t_rim, .int t_fill, .int t_wall, .int t_ceiling, .int t_puff, .int t_period, .int t_second, .int t_score, .int t_thrown, .int t_balls, .ref a_kind, .ref a_size, .ref a_tight, .int t_letters, .ref a_letter, .int t_at, .int t_value, .int t_inRow, .ref a_row, .ref a_refusals, .int t_imaged, .ref a_image, .ref a_ahead, .int t_end, .int t_cell, .int t_steps, .int t_highest, .int t_struck])), (a_size, .inl (cI, 5, .inl sizeA)), (a_tight, .inl (cI, 5, .inl tightA)), (a_kind, .inl (cI, 5, .inl kindA))] H → va_D A [(a_t, .inr (6, [.int t_hand, .int t_first, .int t_wide, .int t_rim, .int t_fill, .int t_wall, .int t_ceiling, .int t_puff, .int t_period, .int t_second, .int t_score, .int t_thrown, .int t_balls, .ref a_kind, .ref a_size, .ref a_tight, .int t_letters, .ref a_letter, .int t_at, .int t_value, .int t_inRow, .ref a_row, .ref a_refusals, .int t_imaged, .ref a_image, .ref a_ahead, .int t_end, .int t_cell, .int t_steps, .int t_highest, .int t_struck])), (a_size, .inl (cI, 5, .inl sizeA)), (a_tight, .inl (cI, 5, .inl tightA)), (a_kind, .inl (cI, 5, .inl kindA))] → va_S A s.heap H locs → ∀ (ls : Array Slot), lv_has ls 9 [(0, .ref a_t), (1, .int x1), (2, .int x2), (3, .int x3), (4, .int x4), (5, .int x5), (6, .int x6), (7, .int x7), (8, .int x8)] → jX6_flies_174 x1 x4 t_first t_wide t_rim t_fill t_puff t_period kindA x2 x3 x5 x6 x7 x8 t_cell t_steps t_highest t_struck (lX6_flies_36 x1 x4 t_first t_wide t_rim t_fill t_wall t_ceiling t_puff t_period kindA n36) = some R → W p l e ({ frames := 2, cells := 0, slots := 0, locals := 43 } : Room) s m args below meth c H locs 0 0 Q0 (F0 m 174 ls []) := by
        intro x2 x3 x5 x6 x7 x8 t_end t_cell t_steps t_highest t_struck H locs hP hD hS ls hl hR
        rw [jX6_flies_174] at hR
        refine lv_iload hx hb dX6_flies_174 (lv_at hl 8 rfl) ?_
        refine lv_if_eq (tgt := 319) hx hb dX6_flies_176 (by decide) (fun c176 => ?_) (fun c176 => ?_)
        · have hR := (if_pos c176).symm.trans hR
          exact K319 x2 x3 x5 x6 t_end t_cell t_steps t_highest t_struck _ _ hP hD hS _ (lv_sub hl [0, 1, 2, 3, 4, 5, 6] rfl) hR
        · have hR := (if_neg c176).symm.trans hR
          refine lv_iload hx hb dX6_flies_179 (lv_at hl 7 rfl) ?_
          refine lv_aload_n hx hb dX6_flies_181 rfl (lv_at hl 0 rfl) ?_
          refine va_get (D := (dC, dI)) (ci := 6) (v := .int t_rim) (C := RX6) (T := TX6) (N := 31) hx hb hts hinX6 hown hK hP 0 rfl rfl 3 (by decide) (hts (.fieldLink RX6 44 "PaperInBinModel" "rim" "I") (by decide +kernel)) (fun _ h9 => h9) rfl dX6_flies_182 ?_
          refine lv_icmp_le (tgt := 319) hx hb dX6_flies_185 (by decide) (fun c185 => ?_) (fun c185 => ?_)
          · have hR := (if_pos c185).symm.trans hR
            exact K319 x2 x3 x5 x6 t_end t_cell t_steps t_highest t_struck _ _ hP hD hS _ (lv_sub hl [0, 1, 2, 3, 4, 5, 6] rfl) hR
          · have hR := (if_neg c185).symm.trans hR
            refine lv_iload hx hb dX6_flies_188 (lv_at hl 5 rfl) ?_
            refine lv_aload_n hx hb dX6_flies_190 rfl (lv_at hl 0 rfl) ?_
            refine va_get (D := (dC, dI)) (ci := 6) (v := .int t_rim) (C := RX6) (T := TX6) (N := 31) hx hb hts hinX6 hown hK hP 0 rfl rfl 3 (by decide) (hts (.fieldLink RX6 44 "PaperInBinModel" "rim" "I") (by decide +kernel)) (fun _ h9 => h9) rfl dX6_flies_191 ?_
            refine lv_icmp_gt (tgt := 319) hx hb dX6_flies_194 (by decide) (fun c194 => ?_) (fun c194 => ?_)
            · have hR := (if_pos c194).symm.trans hR
              exact K319 x2 x3 x5 x6 t_end t_cell t_steps t_highest t_struck _ _ hP hD hS _ (lv_sub hl [0, 1, 2, 3, 4, 5, 6] rfl) hR
            · have hR := (if_neg c194).symm.trans hR
              refine lv_aload_n hx hb dX6_flies_197 rfl (lv_at hl 0 rfl) ?_
              refine va_get (D := (dC, dI)) (ci := 6) (v := .int t_cell) (C := RX6) (T := TX6) (N := 31) hx hb hts hinX6 hown hK hP 0 rfl rfl 27 (by decide) (hts (.fieldLink RX6 131 "PaperInBinModel" "cell" "I") (by decide +kernel)) (fun _ h9 => h9) rfl dX6_flies_198 ?_
              refine lv_aload_n hx hb dX6_flies_201 rfl (lv_at hl 0 rfl) ?_
              refine va_get (D := (dC, dI)) (ci := 6) (v := .int t_first) (C := RX6) (T := TX6) (N := 31) hx hb hts hinX6 hown hK hP 0 rfl rfl 1 (by decide) (hts (.fieldLink RX6 38 "PaperInBinModel" "first" "I") (by decide +kernel)) (fun _ h9 => h9) rfl dX6_flies_202 ?_
              refine lv_aload_n hx hb dX6_flies_205 rfl (lv_at hl 0 rfl) ?_
              refine va_get (D := (dC, dI)) (ci := 6) (v := .int t_first) (C := RX6) (T := TX6) (N := 31) hx hb hts hinX6 hown hK hP 0 rfl rfl 1 (by decide) (hts (.fieldLink RX6 38 "PaperInBinModel" "first" "I") (by decide +kernel)) (fun _ h9 => h9) rfl dX6_flies_206 ?_
              refine lv_aload_n hx hb dX6_flies_209 rfl (lv_at hl 0 rfl) ?_
              refine va_get (D := (dC, dI)) (ci := 6) (v := .int t_wide) (C := RX6) (T := TX6) (N := 31) hx hb hts hinX6 hown hK hP 0 rfl rfl 2 (by decide) (hts (.fieldLink RX6 41 "PaperInBinModel" "wide" "I") (by decide +kernel)) (fun _ h9 => h9) rfl dX6_flies_210 ?_
              refine lv_iadd hx hb dX6_flies_213 ?_
              refine lv_iconst (v := 1) hx hb dX6_flies_214 (by decide) ?_
              refine lv_isub hx hb dX6_flies_215 ?_
              obtain ⟨r6, hu7, hR⟩ := b1_s hR
              refine cl_SiN (As := [.int t_cell, .int t_first, .int ((t_first + t_wide) - 1)]) (rest := []) (wc := []) (wr := [(a_t, .inr (6, [.int t_hand, .int t_first, .int t_wide, .int t_rim, .int t_fill, .int t_wall, .int t_ceiling, .int t_puff, .int t_period, .int t_second, .int t_score, .int t_thrown, .int t_balls, .ref a_kind, .ref a_size, .ref a_tight, .int t_letters, .ref a_letter, .int t_at, .int t_value, .int t_inRow, .ref a_row, .ref a_refusals, .int t_imaged, .ref a_image, .ref a_ahead, .int t_end, .int t_cell, .int t_steps, .int t_highest, .int t_struck])), (a_size, .inl (cI, 5, .inl sizeA)), (a_tight, .inl (cI, 5, .inl tightA)), (a_kind, .inl (cI, 5, .inl kindA))]) ⟨hx, hb, hml, hown, hts⟩ (kX6_within l dC dI cI H.size t_cell t_first ((t_first + t_wide) - 1) r6 hu7) (cwS 3 hts gX6_flies_X6_within rfl rfl rfl (by decide +kernel) ⟨Nat.le_of_ble_eq_true rfl, Nat.le_of_ble_eq_true rfl⟩) hK hN hP hD hS hA [] [0, 1, 2, 3] rfl rfl rfl rfl rfl (by decide) rfl hl.1 rfl (Nat.le_of_ble_eq_true rfl) dX6_flies_216 (fun H locs hP hD hS => ?_)
              have hP : va_P (dC, dI) vwCl [(a_t, .inr (6, [.int t_hand, .int t_first, .int t_wide, .int t_rim, .int t_fill, .int t_wall, .int t_ceiling, .int t_puff, .int t_period, .int t_second, .int t_score, .int t_thrown, .int t_balls, .ref a_kind, .ref a_size, .ref a_tight, .int t_letters, .ref a_letter, .int t_at, .int t_value, .int t_inRow, .ref a_row, .ref a_refusals, .int t_imaged, .ref a_image, .ref a_ahead, .int t_end, .int t_cell, .int t_steps, .int t_highest, .int t_struck])), (a_size, .inl (cI, 5, .inl sizeA)), (a_tight, .inl (cI, 5, .inl tightA)), (a_kind, .inl (cI, 5, .inl kindA))] H := hP
              have hD : va_D A [(a_t, .inr (6, [.int t_hand, .int t_first, .int t_wide, .int t_rim, .int t_fill, .int t_wall, .int t_ceiling, .int t_puff, .int t_period, .int t_second, .int t_score, .int t_thrown, .int t_balls, .ref a_kind, .ref a_size, .ref a_tight, .int t_letters, .ref a_letter, .int t_at, .int t_value, .int t_inRow, .ref a_row, .ref a_refusals, .int t_imaged, .ref a_image, .ref a_ahead, .int t_end, .int t_cell, .int t_steps, .int t_highest, .int t_struck])), (a_size, .inl (cI, 5, .inl sizeA)), (a_tight, .inl (cI, 5, .inl tightA)), (a_kind, .inl (cI, 5, .inl kindA))] := hD
              refine lv_if_eq (tgt := 258) hx hb dX6_flies_219 (by decide) (fun c219 => ?_) (fun c219 => ?_)
              · have hR := (if_pos c219).symm.trans hR
                refine lv_aload_n hx hb dX6_flies_258 rfl (lv_at hl 0 rfl) ?_
                refine va_get (D := (dC, dI)) (ci := 6) (v := .int t_cell) (C := RX6) (T := TX6) (N := 31) hx hb hts hinX6 hown hK hP 0 rfl rfl 27 (by decide) (hts (.fieldLink RX6 131 "PaperInBinModel" "cell" "I") (by decide +kernel)) (fun _ h9 => h9) rfl dX6_flies_259 ?_
                refine lv_aload_n hx hb dX6_flies_262 rfl (lv_at hl 0 rfl) ?_
                refine va_get (D := (dC, dI)) (ci := 6) (v := .int t_first) (C := RX6) (T := TX6) (N := 31) hx hb hts hinX6 hown hK hP 0 rfl rfl 1 (by decide) (hts (.fieldLink RX6 38 "PaperInBinModel" "first" "I") (by decide +kernel)) (fun _ h9 => h9) rfl dX6_flies_263 ?_
                refine lv_iconst (v := 1) hx hb dX6_flies_266 (by decide) ?_
                refine lv_isub hx hb dX6_flies_267 ?_
                refine lv_icmp_eq (tgt := 287) hx hb dX6_flies_268 (by decide) (fun c268 => ?_) (fun c268 => ?_)
                · have hR := (if_pos c268).symm.trans hR
                  exact K287 x2 x3 x5 x6 t_end t_cell t_steps t_highest t_struck _ _ hP hD hS _ (lv_sub hl [0, 1, 2, 3, 4, 5, 6] rfl) hR
                · have hR := (if_neg c268).symm.trans hR
                  refine lv_aload_n hx hb dX6_flies_271 rfl (lv_at hl 0 rfl) ?_
                  refine va_get (D := (dC, dI)) (ci := 6) (v := .int t_cell) (C := RX6) (T := TX6) (N := 31) hx hb hts hinX6 hown hK hP 0 rfl rfl 27 (by decide) (hts (.fieldLink RX6 131 "PaperInBinModel" "cell" "I") (by decide +kernel)) (fun _ h9 => h9) rfl dX6_flies_272 ?_
                  refine lv_aload_n hx hb dX6_flies_275 rfl (lv_at hl 0 rfl) ?_
                  refine va_get (D := (dC, dI)) (ci := 6) (v := .int t_first) (C := RX6) (T := TX6) (N := 31) hx hb hts hinX6 hown hK hP 0 rfl rfl 1 (by decide) (hts (.fieldLink RX6 38 "PaperInBinModel" "first" "I") (by decide +kernel)) (fun _ h9 => h9) rfl dX6_flies_276 ?_
                  refine lv_aload_n hx hb dX6_flies_279 rfl (lv_at hl 0 rfl) ?_
                  refine va_get (D := (dC, dI)) (ci := 6) (v := .int t_wide) (C := RX6) (T := TX6) (N := 31) hx hb hts hinX6 hown hK hP 0 rfl rfl 2 (by decide) (hts (.fieldLink RX6 41 "PaperInBinModel" "wide" "I") (by decide +kernel)) (fun _ h9 => h9) rfl dX6_flies_280 ?_
                  refine lv_iadd hx hb dX6_flies_283 ?_
                  refine lv_icmp_ne (tgt := 319) hx hb dX6_flies_284 (by decide) (fun c284 => ?_) (fun c284 => ?_)
                  · have hR := (if_neg c284).symm.trans hR
                    exact K319 x2 x3 x5 x6 t_end t_cell t_steps t_highest t_struck _ _ hP hD hS _ (lv_sub hl [0, 1, 2, 3, 4, 5, 6] rfl) hR
                  · have hR := (if_pos c284).symm.trans hR
                    exact K287 x2 x3 x5 x6 t_end t_cell t_steps t_highest t_struck _ _ hP hD hS _ (lv_sub hl [0, 1, 2, 3, 4, 5, 6] rfl) hR
              · have hR := (if_neg c219).symm.trans hR
                refine lv_aload_n hx hb dX6_flies_222 rfl (lv_at hl 0 rfl) ?_
                refine lv_aload_n hx hb dX6_flies_223 rfl (lv_at hl 0 rfl) ?_
                refine va_get (D := (dC, dI)) (ci := 6) (v := .int t_highest) (C := RX6) (T := TX6) (N := 31) hx hb hts hinX6 hown hK hP 0 rfl rfl 29 (by decide) (hts (.fieldLink RX6 137 "PaperInBinModel" "highest" "I") (by decide +kernel)) (fun _ h9 => h9) rfl dX6_flies_224 ?_
                refine lv_iload hx hb dX6_flies_227 (lv_at hl 5 rfl) ?_
                refine va_mmax hx hb (hml.trans hl.1.symm) hown (hts (.methodLink RX6 113 Lib.Math.max.name) (by decide +kernel)) (hts (.static Lib.Math.max.name) (by decide +kernel)) (hts (.initialized "java/lang/Math") (by decide +kernel)) (hts (.code Lib.Math.max.name Lib.Math.max.code 2 (some .int)) (by decide +kernel)) (Nat.le_of_ble_eq_true rfl) (Nat.le_of_ble_eq_true rfl) (Nat.zero_le _) (Nat.zero_le _) dX6_flies_229 ?_
                refine va_put (D := (dC, dI)) (ci := 6) (v := .int (if t_highest < x5 then x5 else t_highest)) (ty := .int) (C := RX6) (T := TX6) (N := 31) hx hb hts hinX6 tyX6 tyX6_ok nmX6 hown hK hP hD hS 0 rfl rfl 29 (by decide) (hts (.fieldLink RX6 137 "PaperInBinModel" "highest" "I") (by decide +kernel)) (fun _ h9 => h9) rfl (tyX6_ok 29 (by decide)) rfl rfl (Nat.le_of_ble_eq_true rfl) dX6_flies_232 (fun H locs hP hD hS => ?_)
                have hP : va_P (dC, dI) vwCl [(a_t, .inr (6, [.int t_hand, .int t_first, .int t_wide, .int t_rim, .int t_fill, .int t_wall, .int t_ceiling, .int t_puff, .int t_period, .int t_second, .int t_score, .int t_thrown, .int t_balls, .ref a_kind, .ref a_size, .ref a_tight, .int t_letters, .ref a_letter, .int t_at, .int t_value, .int t_inRow, .ref a_row, .ref a_refusals, .int t_imaged, .ref a_image, .ref a_ahead, .int t_end, .int t_cell, .int t_steps, .int (if t_highest < x5 then x5 else t_highest), .int t_struck])), (a_size, .inl (cI, 5, .inl sizeA)), (a_tight, .inl (cI, 5, .inl tightA)), (a_kind, .inl (cI, 5, .inl kindA))] H := hP
                have hD : va_D A [(a_t, .inr (6, [.int t_hand, .int t_first, .int t_wide, .int t_rim, .int t_fill, .int t_wall, .int t_ceiling, .int t_puff, .int t_period, .int t_second, .int t_score, .int t_thrown, .int t_balls, .ref a_kind, .ref a_size, .ref a_tight, .int t_letters, .ref a_letter, .int t_at, .int t_value, .int t_inRow, .ref a_row, .ref a_refusals, .int t_imaged, .ref a_image, .ref a_ahead, .int t_end, .int t_cell, .int t_steps, .int (if t_highest < x5 then x5 else t_highest), .int t_struck])), (a_size, .inl (cI, 5, .inl sizeA)), (a_tight, .inl (cI, 5, .inl tightA)), (a_kind, .inl (cI, 5, .inl kindA))] := hD
                refine lv_aload_n hx hb dX6_flies_235 rfl (lv_at hl 0 rfl) ?_
                refine lv_aload_n hx hb dX6_flies_236 rfl (lv_at hl 0 rfl) ?_
                refine va_get (D := (dC, dI)) (ci := 6) (v := .int t_fill) (C := RX6) (T := TX6) (N := 31) hx hb hts hinX6 hown hK hP 0 rfl rfl 4 (by decide) (hts (.fieldLink RX6 89 "PaperInBinModel" "fill" "I") (by decide +kernel)) (fun _ h9 => h9) rfl dX6_flies_237 ?_
                refine lv_bipush (v := 9) hx hb dX6_flies_240 (by decide) ?_
                refine lv_icmp_ne (tgt := 249) hx hb dX6_flies_242 (by decide) (fun c242 => ?_) (fun c242 => ?_)
                · have hR := (if_neg c242).symm.trans hR
                  refine lv_iconst (v := 0) hx hb dX6_flies_249 (by decide) ?_
                  refine va_put (D := (dC, dI)) (ci := 6) (v := .int 0) (ty := .int) (C := RX6) (T := TX6) (N := 31) hx hb hts hinX6 tyX6 tyX6_ok nmX6 hown hK hP hD hS 0 rfl rfl 26 (by decide) (hts (.fieldLink RX6 143 "PaperInBinModel" "end" "I") (by decide +kernel)) (fun _ h9 => h9) rfl (tyX6_ok 26 (by decide)) rfl rfl (Nat.le_of_ble_eq_true rfl) dX6_flies_250 (fun H locs hP hD hS => ?_)
                  have hP : va_P (dC, dI) vwCl [(a_t, .inr (6, [.int t_hand, .int t_first, .int t_wide, .int t_rim, .int t_fill, .int t_wall, .int t_ceiling, .int t_puff, .int t_period, .int t_second, .int t_score, .int t_thrown, .int t_balls, .ref a_kind, .ref a_size, .ref a_tight, .int t_letters, .ref a_letter, .int t_at, .int t_value, .int t_inRow, .ref a_row, .ref a_refusals, .int t_imaged, .ref a_image, .ref a_ahead, .int 0, .int t_cell, .int t_steps, .int (if t_highest < x5 then x5 else t_highest), .int t_struck])), (a_size, .inl (cI, 5, .inl sizeA)), (a_tight, .inl (cI, 5, .inl tightA)), (a_kind, .inl (cI, 5, .inl kindA))] H := hP
                  have hD : va_D A [(a_t, .inr (6, [.int t_hand, .int t_first, .int t_wide, .int t_rim, .int t_fill, .int t_wall, .int t_ceiling, .int t_puff, .int t_period, .int t_second, .int t_score, .int t_thrown, .int t_balls, .ref a_kind, .ref a_size, .ref a_tight, .int t_letters, .ref a_letter, .int t_at, .int t_value, .int t_inRow, .ref a_row, .ref a_refusals, .int t_imaged, .ref a_image, .ref a_ahead, .int 0, .int t_cell, .int t_steps, .int (if t_highest < x5 then x5 else t_highest), .int t_struck])), (a_size, .inl (cI, 5, .inl sizeA)), (a_tight, .inl (cI, 5, .inl tightA)), (a_kind, .inl (cI, 5, .inl kindA))] := hD
                  refine lv_aload_n hx hb dX6_flies_253 rfl (lv_at hl 0 rfl) ?_
                  refine va_get (D := (dC, dI)) (ci := 6) (v := .int 0) (C := RX6) (T := TX6) (N := 31) hx hb hts hinX6 hown hK hP 0 rfl rfl 26 (by decide) (hts (.fieldLink RX6 143 "PaperInBinModel" "end" "I") (by decide +kernel)) (fun _ h9 => h9) rfl dX6_flies_254 ?_
                  subst hQ
                  subst hAe
                  exact W.iret (v := 0) hx hb hr (fun t ht hW => ⟨⟨0, (0, t_cell, t_steps, (if t_highest < x5 then x5 else t_highest), t_struck), rfl, Option.some.inj hR, by rw [ht]; exact hP, hD⟩, hS.F ht⟩) hS.2.2 dX6_flies_257
                · have hR := (if_pos c242).symm.trans hR
                  refine lv_iconst (v := 3) hx hb dX6_flies_245 (by decide) ?_
                  refine lv_goto (tgt := 250) hx hb dX6_flies_246 (by decide) ?_
                  refine va_put (D := (dC, dI)) (ci := 6) (v := .int 3) (ty := .int) (C := RX6) (T := TX6) (N := 31) hx hb hts hinX6 tyX6 tyX6_ok nmX6 hown hK hP hD hS 0 rfl rfl 26 (by decide) (hts (.fieldLink RX6 143 "PaperInBinModel" "end" "I") (by decide +kernel)) (fun _ h9 => h9) rfl (tyX6_ok 26 (by decide)) rfl rfl (Nat.le_of_ble_eq_true rfl) dX6_flies_250 (fun H locs hP hD hS => ?_)
                  have hP : va_P (dC, dI) vwCl [(a_t, .inr (6, [.int t_hand, .int t_first, .int t_wide, .int t_rim, .int t_fill, .int t_wall, .int t_ceiling, .int t_puff, .int t_period, .int t_second, .int t_score, .int t_thrown, .int t_balls, .ref a_kind, .ref a_size, .ref a_tight, .int t_letters, .ref a_letter, .int t_at, .int t_value, .int t_inRow, .ref a_row, .ref a_refusals, .int t_imaged, .ref a_image, .ref a_ahead, .int 3, .int t_cell, .int t_steps, .int (if t_highest < x5 then x5 else t_highest), .int t_struck])), (a_size, .inl (cI, 5, .inl sizeA)), (a_tight, .inl (cI, 5, .inl tightA)), (a_kind, .inl (cI, 5, .inl kindA))] H := hP
                  have hD : va_D A [(a_t, .inr (6, [.int t_hand, .int t_first, .int t_wide, .int t_rim, .int t_fill, .int t_wall, .int t_ceiling, .int t_puff, .int t_period, .int t_second, .int t_score, .int t_thrown, .int t_balls, .ref a_kind, .ref a_size, .ref a_tight, .int t_letters, .ref a_letter, .int t_at, .int t_value, .int t_inRow, .ref a_row, .ref a_refusals, .int t_imaged, .ref a_image, .ref a_ahead, .int 3, .int t_cell, .int t_steps, .int (if t_highest < x5 then x5 else t_highest), .int t_struck])), (a_size, .inl (cI, 5, .inl sizeA)), (a_tight, .inl (cI, 5, .inl tightA)), (a_kind, .inl (cI, 5, .inl kindA))] := hD
                  refine lv_aload_n hx hb dX6_flies_253 rfl (lv_at hl 0 rfl) ?_
                  refine va_get (D := (dC, dI)) (ci := 6) (v := .int 3) (C := RX6) (T := TX6) (N := 31) hx hb hts hinX6 hown hK hP 0 rfl rfl 26 (by decide) (hts (.fieldLink RX6 143 "PaperInBinModel" "end" "I") (by decide +kernel)) (fun _ h9 => h9) rfl dX6_flies_254 ?_
                  subst hQ
                  subst hAe
                  exact W.iret (v := 3) hx hb hr (fun t ht hW => ⟨⟨3, (3, t_cell, t_steps, (if t_highest < x5 then x5 else t_highest), t_struck), rfl, Option.some.inj hR, by rw [ht]; exact hP, hD⟩, hS.F ht⟩) hS.2.2 dX6_flies_257
      have K160 : ∀ (x2 : Int32) (x3 : Int32) (x5 : Int32) (x6 : Int32) (x7 : Int32) (x8 : Int32) (t_end : Int32) (t_cell : Int32) (t_steps : Int32) (t_highest : Int32) (t_struck : Int32) (H : Heap) (locs : List Loc), va_P (dC, dI) vwCl [(a_t, .inr (6, [.int t_hand, .int t_first, .int t_wide, .int t_rim, .int t_fill, .int t_wall, .int t_ceiling, .int t_puff, .int t_period, .int t_second, .int t_score, .int t_thrown, .int t_balls, .ref a_kind, .ref a_size, .ref a_tight, .int t_letters, .ref a_letter, .int t_at, .int t_value, .int t_inRow, .ref a_row, .ref a_refusals, .int t_imaged, .ref a_image, .ref a_ahead, .int t_end, .int t_cell, .int t_steps, .int t_highest, .int t_struck])), (a_size, .inl (cI, 5, .inl sizeA)), (a_tight, .inl (cI, 5, .inl tightA)), (a_kind, .inl (cI, 5, .inl kindA))] H → va_D A [(a_t, .inr (6, [.int t_hand, .int t_first, .int t_wide, .int t_rim, .int t_fill, .int t_wall, .int t_ceiling, .int t_puff, .int t_period, .int t_second, .int t_score, .int t_thrown, .int t_balls, .ref a_kind, .ref a_size, .ref a_tight, .int t_letters, .ref a_letter, .int t_at, .int t_value, .int t_inRow, .ref a_row, .ref a_refusals, .int t_imaged, .ref a_image, .ref a_ahead, .int t_end, .int t_cell, .int t_steps, .int t_highest, .int t_struck])), (a_size, .inl (cI, 5, .inl sizeA)), (a_tight, .inl (cI, 5, .inl tightA)), (a_kind, .inl (cI, 5, .inl kindA))] → va_S A s.heap H locs → ∀ (ls : Array Slot), lv_has ls 9 [(0, .ref a_t), (1, .int x1), (2, .int x2), (3, .int x3), (4, .int x4), (5, .int x5), (6, .int x6), (7, .int x7), (8, .int x8)] → jX6_flies_160 x1 x4 t_first t_wide t_rim t_fill t_puff t_period kindA x2 x3 x5 x6 x7 x8 t_cell t_steps t_highest t_struck (lX6_flies_36 x1 x4 t_first t_wide t_rim t_fill t_wall t_ceiling t_puff t_period kindA n36) = some R → W p l e ({ frames := 2, cells := 0, slots := 0, locals := 43 } : Room) s m args below meth c H locs 0 0 Q0 (F0 m 160 ls []) := by
        intro x2 x3 x5 x6 x7 x8 t_end t_cell t_steps t_highest t_struck H locs hP hD hS ls hl hR
        rw [jX6_flies_160] at hR
        refine lv_aload_n hx hb dX6_flies_160 rfl (lv_at hl 0 rfl) ?_
        refine va_get (D := (dC, dI)) (ci := 6) (v := .int t_cell) (C := RX6) (T := TX6) (N := 31) hx hb hts hinX6 hown hK hP 0 rfl rfl 27 (by decide) (hts (.fieldLink RX6 131 "PaperInBinModel" "cell" "I") (by decide +kernel)) (fun _ h9 => h9) rfl dX6_flies_161 ?_
        refine lv_if_ge (tgt := 174) hx hb dX6_flies_164 (by decide) (fun c164 => ?_) (fun c164 => ?_)
        · have hR := (if_pos c164).symm.trans hR
          exact K174 x2 x3 x5 x6 x7 x8 t_end t_cell t_steps t_highest t_struck _ _ hP hD hS _ (lv_sub hl [0, 1, 2, 3, 4, 5, 6, 7, 8] rfl) hR
        · have hR := (if_neg c164).symm.trans hR
          refine lv_aload_n hx hb dX6_flies_167 rfl (lv_at hl 0 rfl) ?_
          refine lv_iconst (v := 0) hx hb dX6_flies_168 (by decide) ?_
          refine va_put (D := (dC, dI)) (ci := 6) (v := .int 0) (ty := .int) (C := RX6) (T := TX6) (N := 31) hx hb hts hinX6 tyX6 tyX6_ok nmX6 hown hK hP hD hS 0 rfl rfl 27 (by decide) (hts (.fieldLink RX6 131 "PaperInBinModel" "cell" "I") (by decide +kernel)) (fun _ h9 => h9) rfl (tyX6_ok 27 (by decide)) rfl rfl (Nat.le_of_ble_eq_true rfl) dX6_flies_169 (fun H locs hP hD hS => ?_)
          have hP : va_P (dC, dI) vwCl [(a_t, .inr (6, [.int t_hand, .int t_first, .int t_wide, .int t_rim, .int t_fill, .int t_wall, .int t_ceiling, .int t_puff, .int t_period, .int t_second, .int t_score, .int t_thrown, .int t_balls, .ref a_kind, .ref a_size, .ref a_tight, .int t_letters, .ref a_letter, .int t_at, .int t_value, .int t_inRow, .ref a_row, .ref a_refusals, .int t_imaged, .ref a_image, .ref a_ahead, .int t_end, .int 0, .int t_steps, .int t_highest, .int t_struck])), (a_size, .inl (cI, 5, .inl sizeA)), (a_tight, .inl (cI, 5, .inl tightA)), (a_kind, .inl (cI, 5, .inl kindA))] H := hP
          have hD : va_D A [(a_t, .inr (6, [.int t_hand, .int t_first, .int t_wide, .int t_rim, .int t_fill, .int t_wall, .int t_ceiling, .int t_puff, .int t_period, .int t_second, .int t_score, .int t_thrown, .int t_balls, .ref a_kind, .ref a_size, .ref a_tight, .int t_letters, .ref a_letter, .int t_at, .int t_value, .int t_inRow, .ref a_row, .ref a_refusals, .int t_imaged, .ref a_image, .ref a_ahead, .int t_end, .int 0, .int t_steps, .int t_highest, .int t_struck])), (a_size, .inl (cI, 5, .inl sizeA)), (a_tight, .inl (cI, 5, .inl tightA)), (a_kind, .inl (cI, 5, .inl kindA))] := hD
          refine lv_iconst (v := 0) hx hb dX6_flies_172 (by decide) ?_
          refine lv_istore_n (lv' := [(2, .int 0), (0, .ref a_t), (1, .int x1), (3, .int x3), (4, .int x4), (5, .int x5), (6, .int x6), (7, .int x7), (8, .int x8)]) hx hb dX6_flies_173 rfl hl (by decide) rfl (fun ls hl => ?_)
          exact K174 0 x3 x5 x6 x7 x8 t_end 0 t_steps t_highest t_struck _ _ hP hD hS _ (lv_sub hl [1, 2, 0, 3, 4, 5, 6, 7, 8] rfl) hR
      have K119 : ∀ (x2 : Int32) (x3 : Int32) (x5 : Int32) (x6 : Int32) (x7 : Int32) (x8 : Int32) (t_end : Int32) (t_cell : Int32) (t_steps : Int32) (t_highest : Int32) (t_struck : Int32) (H : Heap) (locs : List Loc), va_P (dC, dI) vwCl [(a_t, .inr (6, [.int t_hand, .int t_first, .int t_wide, .int t_rim, .int t_fill, .int t_wall, .int t_ceiling, .int t_puff, .int t_period, .int t_second, .int t_score, .int t_thrown, .int t_balls, .ref a_kind, .ref a_size, .ref a_tight, .int t_letters, .ref a_letter, .int t_at, .int t_value, .int t_inRow, .ref a_row, .ref a_refusals, .int t_imaged, .ref a_image, .ref a_ahead, .int t_end, .int t_cell, .int t_steps, .int t_highest, .int t_struck])), (a_size, .inl (cI, 5, .inl sizeA)), (a_tight, .inl (cI, 5, .inl tightA)), (a_kind, .inl (cI, 5, .inl kindA))] H → va_D A [(a_t, .inr (6, [.int t_hand, .int t_first, .int t_wide, .int t_rim, .int t_fill, .int t_wall, .int t_ceiling, .int t_puff, .int t_period, .int t_second, .int t_score, .int t_thrown, .int t_balls, .ref a_kind, .ref a_size, .ref a_tight, .int t_letters, .ref a_letter, .int t_at, .int t_value, .int t_inRow, .ref a_row, .ref a_refusals, .int t_imaged, .ref a_image, .ref a_ahead, .int t_end, .int t_cell, .int t_steps, .int t_highest, .int t_struck])), (a_size, .inl (cI, 5, .inl sizeA)), (a_tight, .inl (cI, 5, .inl tightA)), (a_kind, .inl (cI, 5, .inl kindA))] → va_S A s.heap H locs → ∀ (ls : Array Slot), lv_has ls 9 [(0, .ref a_t), (1, .int x1), (2, .int x2), (3, .int x3), (4, .int x4), (5, .int x5), (6, .int x6), (7, .int x7), (8, .int x8)] → jX6_flies_119 x1 x4 t_first t_wide t_rim t_fill t_wall t_puff t_period kindA x2 x3 x5 x6 x7 x8 t_cell t_steps t_highest t_struck (lX6_flies_36 x1 x4 t_first t_wide t_rim t_fill t_wall t_ceiling t_puff t_period kindA n36) = some R → W p l e ({ frames := 2, cells := 0, slots := 0, locals := 43 } : Room) s m args below meth c H locs 0 0 Q0 (F0 m 119 ls []) := by
        intro x2 x3 x5 x6 x7 x8 t_end t_cell t_steps t_highest t_struck H locs hP hD hS ls hl hR
        rw [jX6_flies_119] at hR
        refine lv_aload_n hx hb dX6_flies_119 rfl (lv_at hl 0 rfl) ?_
        refine va_get (D := (dC, dI)) (ci := 6) (v := .int t_cell) (C := RX6) (T := TX6) (N := 31) hx hb hts hinX6 hown hK hP 0 rfl rfl 27 (by decide) (hts (.fieldLink RX6 131 "PaperInBinModel" "cell" "I") (by decide +kernel)) (fun _ h9 => h9) rfl dX6_flies_120 ?_
        refine lv_aload_n hx hb dX6_flies_123 rfl (lv_at hl 0 rfl) ?_
        refine va_get (D := (dC, dI)) (ci := 6) (v := .int t_wall) (C := RX6) (T := TX6) (N := 31) hx hb hts hinX6 hown hK hP 0 rfl rfl 5 (by decide) (hts (.fieldLink RX6 47 "PaperInBinModel" "wall" "I") (by decide +kernel)) (fun _ h9 => h9) rfl dX6_flies_124 ?_
        refine lv_icmp_le (tgt := 160) hx hb dX6_flies_127 (by decide) (fun c127 => ?_) (fun c127 => ?_)
        · have hR := (if_pos c127).symm.trans hR
          exact K160 x2 x3 x5 x6 x7 x8 t_end t_cell t_steps t_highest t_struck _ _ hP hD hS _ (lv_sub hl [0, 1, 2, 3, 4, 5, 6, 7, 8] rfl) hR
        · have hR := (if_neg c127).symm.trans hR
          refine lv_aload_n hx hb dX6_flies_130 rfl (lv_at hl 0 rfl) ?_
          refine lv_iconst (v := 2) hx hb dX6_flies_131 (by decide) ?_
          refine lv_aload_n hx hb dX6_flies_132 rfl (lv_at hl 0 rfl) ?_
          refine va_get (D := (dC, dI)) (ci := 6) (v := .int t_wall) (C := RX6) (T := TX6) (N := 31) hx hb hts hinX6 hown hK hP 0 rfl rfl 5 (by decide) (hts (.fieldLink RX6 47 "PaperInBinModel" "wall" "I") (by decide +kernel)) (fun _ h9 => h9) rfl dX6_flies_133 ?_
          refine lv_imul hx hb dX6_flies_136 ?_
          refine lv_aload_n hx hb dX6_flies_137 rfl (lv_at hl 0 rfl) ?_
          refine va_get (D := (dC, dI)) (ci := 6) (v := .int t_cell) (C := RX6) (T := TX6) (N := 31) hx hb hts hinX6 hown hK hP 0 rfl rfl 27 (by decide) (hts (.fieldLink RX6 131 "PaperInBinModel" "cell" "I") (by decide +kernel)) (fun _ h9 => h9) rfl dX6_flies_138 ?_
          refine lv_isub hx hb dX6_flies_141 ?_
          refine va_put (D := (dC, dI)) (ci := 6) (v := .int ((2 * t_wall) - t_cell)) (ty := .int) (C := RX6) (T := TX6) (N := 31) hx hb hts hinX6 tyX6 tyX6_ok nmX6 hown hK hP hD hS 0 rfl rfl 27 (by decide) (hts (.fieldLink RX6 131 "PaperInBinModel" "cell" "I") (by decide +kernel)) (fun _ h9 => h9) rfl (tyX6_ok 27 (by decide)) rfl rfl (Nat.le_of_ble_eq_true rfl) dX6_flies_142 (fun H locs hP hD hS => ?_)
          have hP : va_P (dC, dI) vwCl [(a_t, .inr (6, [.int t_hand, .int t_first, .int t_wide, .int t_rim, .int t_fill, .int t_wall, .int t_ceiling, .int t_puff, .int t_period, .int t_second, .int t_score, .int t_thrown, .int t_balls, .ref a_kind, .ref a_size, .ref a_tight, .int t_letters, .ref a_letter, .int t_at, .int t_value, .int t_inRow, .ref a_row, .ref a_refusals, .int t_imaged, .ref a_image, .ref a_ahead, .int t_end, .int ((2 * t_wall) - t_cell), .int t_steps, .int t_highest, .int t_struck])), (a_size, .inl (cI, 5, .inl sizeA)), (a_tight, .inl (cI, 5, .inl tightA)), (a_kind, .inl (cI, 5, .inl kindA))] H := hP
          have hD : va_D A [(a_t, .inr (6, [.int t_hand, .int t_first, .int t_wide, .int t_rim, .int t_fill, .int t_wall, .int t_ceiling, .int t_puff, .int t_period, .int t_second, .int t_score, .int t_thrown, .int t_balls, .ref a_kind, .ref a_size, .ref a_tight, .int t_letters, .ref a_letter, .int t_at, .int t_value, .int t_inRow, .ref a_row, .ref a_refusals, .int t_imaged, .ref a_image, .ref a_ahead, .int t_end, .int ((2 * t_wall) - t_cell), .int t_steps, .int t_highest, .int t_struck])), (a_size, .inl (cI, 5, .inl sizeA)), (a_tight, .inl (cI, 5, .inl tightA)), (a_kind, .inl (cI, 5, .inl kindA))] := hD
          refine lv_iload_n hx hb dX6_flies_145 rfl (lv_at hl 2 rfl) ?_
          refine lv_ineg hx hb dX6_flies_146 ?_
          refine lv_iconst (v := 2) hx hb dX6_flies_147 (by decide) ?_
          refine lv_idiv hx hb dX6_flies_148 (by decide) ?_
          refine lv_istore_n (lv' := [(2, .int ((-x2) / 2)), (0, .ref a_t), (1, .int x1), (3, .int x3), (4, .int x4), (5, .int x5), (6, .int x6), (7, .int x7), (8, .int x8)]) hx hb dX6_flies_149 rfl hl (by decide) rfl (fun ls hl => ?_)
          refine lv_aload_n hx hb dX6_flies_150 rfl (lv_at hl 1 rfl) ?_
          refine lv_dup hx hb dX6_flies_151 rfl ?_
          refine va_get (D := (dC, dI)) (ci := 6) (v := .int t_struck) (C := RX6) (T := TX6) (N := 31) hx hb hts hinX6 hown hK hP 0 rfl rfl 30 (by decide) (hts (.fieldLink RX6 140 "PaperInBinModel" "struck" "I") (by decide +kernel)) (fun _ h9 => h9) rfl dX6_flies_152 ?_
          refine lv_iconst (v := 2) hx hb dX6_flies_155 (by decide) ?_
          refine lv_ior hx hb dX6_flies_156 ?_
          refine va_put (D := (dC, dI)) (ci := 6) (v := .int (t_struck ||| 2)) (ty := .int) (C := RX6) (T := TX6) (N := 31) hx hb hts hinX6 tyX6 tyX6_ok nmX6 hown hK hP hD hS 0 rfl rfl 30 (by decide) (hts (.fieldLink RX6 140 "PaperInBinModel" "struck" "I") (by decide +kernel)) (fun _ h9 => h9) rfl (tyX6_ok 30 (by decide)) rfl rfl (Nat.le_of_ble_eq_true rfl) dX6_flies_157 (fun H locs hP hD hS => ?_)
          have hP : va_P (dC, dI) vwCl [(a_t, .inr (6, [.int t_hand, .int t_first, .int t_wide, .int t_rim, .int t_fill, .int t_wall, .int t_ceiling, .int t_puff, .int t_period, .int t_second, .int t_score, .int t_thrown, .int t_balls, .ref a_kind, .ref a_size, .ref a_tight, .int t_letters, .ref a_letter, .int t_at, .int t_value, .int t_inRow, .ref a_row, .ref a_refusals, .int t_imaged, .ref a_image, .ref a_ahead, .int t_end, .int ((2 * t_wall) - t_cell), .int t_steps, .int t_highest, .int (t_struck ||| 2)])), (a_size, .inl (cI, 5, .inl sizeA)), (a_tight, .inl (cI, 5, .inl tightA)), (a_kind, .inl (cI, 5, .inl kindA))] H := hP
          have hD : va_D A [(a_t, .inr (6, [.int t_hand, .int t_first, .int t_wide, .int t_rim, .int t_fill, .int t_wall, .int t_ceiling, .int t_puff, .int t_period, .int t_second, .int t_score, .int t_thrown, .int t_balls, .ref a_kind, .ref a_size, .ref a_tight, .int t_letters, .ref a_letter, .int t_at, .int t_value, .int t_inRow, .ref a_row, .ref a_refusals, .int t_imaged, .ref a_image, .ref a_ahead, .int t_end, .int ((2 * t_wall) - t_cell), .int t_steps, .int t_highest, .int (t_struck ||| 2)])), (a_size, .inl (cI, 5, .inl sizeA)), (a_tight, .inl (cI, 5, .inl tightA)), (a_kind, .inl (cI, 5, .inl kindA))] := hD
          exact K160 ((-x2) / 2) x3 x5 x6 x7 x8 t_end ((2 * t_wall) - t_cell) t_steps t_highest (t_struck ||| 2) _ _ hP hD hS _ (lv_sub hl [1, 2, 0, 3, 4, 5, 6, 7, 8] rfl) hR
      have K68 : ∀ (x2 : Int32) (x3 : Int32) (x5 : Int32) (x6 : Int32) (x7 : Int32) (st0 : Int32) (t_end : Int32) (t_cell : Int32) (t_steps : Int32) (t_highest : Int32) (t_struck : Int32) (H : Heap) (locs : List Loc), va_P (dC, dI) vwCl [(a_t, .inr (6, [.int t_hand, .int t_first, .int t_wide, .int t_rim, .int t_fill, .int t_wall, .int t_ceiling, .int t_puff, .int t_period, .int t_second, .int t_score, .int t_thrown, .int t_balls, .ref a_kind, .ref a_size, .ref a_tight, .int t_letters, .ref a_letter, .int t_at, .int t_value, .int t_inRow, .ref a_row, .ref a_refusals, .int t_imaged, .ref a_image, .ref a_ahead, .int t_end, .int t_cell, .int t_steps, .int t_highest, .int t_struck])), (a_size, .inl (cI, 5, .inl sizeA)), (a_tight, .inl (cI, 5, .inl tightA)), (a_kind, .inl (cI, 5, .inl kindA))] H → va_D A [(a_t, .inr (6, [.int t_hand, .int t_first, .int t_wide, .int t_rim, .int t_fill, .int t_wall, .int t_ceiling, .int t_puff, .int t_period, .int t_second, .int t_score, .int t_thrown, .int t_balls, .ref a_kind, .ref a_size, .ref a_tight, .int t_letters, .ref a_letter, .int t_at, .int t_value, .int t_inRow, .ref a_row, .ref a_refusals, .int t_imaged, .ref a_image, .ref a_ahead, .int t_end, .int t_cell, .int t_steps, .int t_highest, .int t_struck])), (a_size, .inl (cI, 5, .inl sizeA)), (a_tight, .inl (cI, 5, .inl tightA)), (a_kind, .inl (cI, 5, .inl kindA))] → va_S A s.heap H locs → ∀ (ls : Array Slot), lv_has ls 9 [(0, .ref a_t), (1, .int x1), (2, .int x2), (3, .int x3), (4, .int x4), (5, .int x5), (6, .int x6), (7, .int x7)] → jX6_flies_68 x1 x4 t_first t_wide t_rim t_fill t_wall t_ceiling t_puff t_period kindA x2 x3 x5 x6 x7 st0 t_cell t_steps t_highest t_struck (lX6_flies_36 x1 x4 t_first t_wide t_rim t_fill t_wall t_ceiling t_puff t_period kindA n36) = some R → W p l e ({ frames := 2, cells := 0, slots := 0, locals := 43 } : Room) s m args below meth c H locs 0 0 Q0 (F0 m 68 ls [.int st0]) := by
        intro x2 x3 x5 x6 x7 st0 t_end t_cell t_steps t_highest t_struck H locs hP hD hS ls hl hR
        rw [jX6_flies_68] at hR
        refine lv_istore (lv' := [(8, .int st0), (0, .ref a_t), (1, .int x1), (2, .int x2), (3, .int x3), (4, .int x4), (5, .int x5), (6, .int x6), (7, .int x7)]) hx hb dX6_flies_68 hl (by decide) rfl (fun ls hl => ?_)
        refine lv_aload_n hx hb dX6_flies_70 rfl (lv_at hl 1 rfl) ?_
        refine lv_dup hx hb dX6_flies_71 rfl ?_
        refine va_get (D := (dC, dI)) (ci := 6) (v := .int t_cell) (C := RX6) (T := TX6) (N := 31) hx hb hts hinX6 hown hK hP 0 rfl rfl 27 (by decide) (hts (.fieldLink RX6 131 "PaperInBinModel" "cell" "I") (by decide +kernel)) (fun _ h9 => h9) rfl dX6_flies_72 ?_
        refine lv_iload_n hx hb dX6_flies_75 rfl (lv_at hl 3 rfl) ?_
        refine lv_iadd hx hb dX6_flies_76 ?_
        refine va_put (D := (dC, dI)) (ci := 6) (v := .int (t_cell + x2)) (ty := .int) (C := RX6) (T := TX6) (N := 31) hx hb hts hinX6 tyX6 tyX6_ok nmX6 hown hK hP hD hS 0 rfl rfl 27 (by decide) (hts (.fieldLink RX6 131 "PaperInBinModel" "cell" "I") (by decide +kernel)) (fun _ h9 => h9) rfl (tyX6_ok 27 (by decide)) rfl rfl (Nat.le_of_ble_eq_true rfl) dX6_flies_77 (fun H locs hP hD hS => ?_)
        have hP : va_P (dC, dI) vwCl [(a_t, .inr (6, [.int t_hand, .int t_first, .int t_wide, .int t_rim, .int t_fill, .int t_wall, .int t_ceiling, .int t_puff, .int t_period, .int t_second, .int t_score, .int t_thrown, .int t_balls, .ref a_kind, .ref a_size, .ref a_tight, .int t_letters, .ref a_letter, .int t_at, .int t_value, .int t_inRow, .ref a_row, .ref a_refusals, .int t_imaged, .ref a_image, .ref a_ahead, .int t_end, .int (t_cell + x2), .int t_steps, .int t_highest, .int t_struck])), (a_size, .inl (cI, 5, .inl sizeA)), (a_tight, .inl (cI, 5, .inl tightA)), (a_kind, .inl (cI, 5, .inl kindA))] H := hP
        have hD : va_D A [(a_t, .inr (6, [.int t_hand, .int t_first, .int t_wide, .int t_rim, .int t_fill, .int t_wall, .int t_ceiling, .int t_puff, .int t_period, .int t_second, .int t_score, .int t_thrown, .int t_balls, .ref a_kind, .ref a_size, .ref a_tight, .int t_letters, .ref a_letter, .int t_at, .int t_value, .int t_inRow, .ref a_row, .ref a_refusals, .int t_imaged, .ref a_image, .ref a_ahead, .int t_end, .int (t_cell + x2), .int t_steps, .int t_highest, .int t_struck])), (a_size, .inl (cI, 5, .inl sizeA)), (a_tight, .inl (cI, 5, .inl tightA)), (a_kind, .inl (cI, 5, .inl kindA))] := hD
        refine lv_iload hx hb dX6_flies_80 (lv_at hl 6 rfl) ?_
        refine lv_iload_n hx hb dX6_flies_82 rfl (lv_at hl 4 rfl) ?_
        refine lv_iadd hx hb dX6_flies_83 ?_
        refine lv_istore (lv' := [(5, .int (x5 + x3)), (8, .int st0), (0, .ref a_t), (1, .int x1), (2, .int x2), (3, .int x3), (4, .int x4), (6, .int x6), (7, .int x7)]) hx hb dX6_flies_84 hl (by decide) rfl (fun ls hl => ?_)
        refine lv_iload hx hb dX6_flies_86 (lv_at hl 0 rfl) ?_
        refine lv_aload_n hx hb dX6_flies_88 rfl (lv_at hl 2 rfl) ?_
        refine va_get (D := (dC, dI)) (ci := 6) (v := .int t_ceiling) (C := RX6) (T := TX6) (N := 31) hx hb hts hinX6 hown hK hP 0 rfl rfl 6 (by decide) (hts (.fieldLink RX6 50 "PaperInBinModel" "ceiling" "I") (by decide +kernel)) (fun _ h9 => h9) rfl dX6_flies_89 ?_
        refine lv_icmp_le (tgt := 119) hx hb dX6_flies_92 (by decide) (fun c92 => ?_) (fun c92 => ?_)
        · have hR := (if_pos c92).symm.trans hR
          exact K119 x2 x3 (x5 + x3) x6 x7 st0 t_end (t_cell + x2) t_steps t_highest t_struck _ _ hP hD hS _ (lv_sub hl [2, 3, 4, 5, 6, 0, 7, 8, 1] rfl) hR
        · have hR := (if_neg c92).symm.trans hR
          refine lv_iconst (v := 2) hx hb dX6_flies_95 (by decide) ?_
          refine lv_aload_n hx hb dX6_flies_96 rfl (lv_at hl 2 rfl) ?_
          refine va_get (D := (dC, dI)) (ci := 6) (v := .int t_ceiling) (C := RX6) (T := TX6) (N := 31) hx hb hts hinX6 hown hK hP 0 rfl rfl 6 (by decide) (hts (.fieldLink RX6 50 "PaperInBinModel" "ceiling" "I") (by decide +kernel)) (fun _ h9 => h9) rfl dX6_flies_97 ?_
          refine lv_imul hx hb dX6_flies_100 ?_
          refine lv_iload hx hb dX6_flies_101 (lv_at hl 0 rfl) ?_
          refine lv_isub hx hb dX6_flies_103 ?_
          refine lv_istore (lv' := [(5, .int ((2 * t_ceiling) - (x5 + x3))), (8, .int st0), (0, .ref a_t), (1, .int x1), (2, .int x2), (3, .int x3), (4, .int x4), (6, .int x6), (7, .int x7)]) hx hb dX6_flies_104 hl (by decide) rfl (fun ls hl => ?_)
          refine lv_iload_n hx hb dX6_flies_106 rfl (lv_at hl 5 rfl) ?_
          refine lv_ineg hx hb dX6_flies_107 ?_
          refine lv_istore_n (lv' := [(3, .int (-x3)), (5, .int ((2 * t_ceiling) - (x5 + x3))), (8, .int st0), (0, .ref a_t), (1, .int x1), (2, .int x2), (4, .int x4), (6, .int x6), (7, .int x7)]) hx hb dX6_flies_108 rfl hl (by decide) rfl (fun ls hl => ?_)
          refine lv_aload_n hx hb dX6_flies_109 rfl (lv_at hl 3 rfl) ?_
          refine lv_dup hx hb dX6_flies_110 rfl ?_
          refine va_get (D := (dC, dI)) (ci := 6) (v := .int t_struck) (C := RX6) (T := TX6) (N := 31) hx hb hts hinX6 hown hK hP 0 rfl rfl 30 (by decide) (hts (.fieldLink RX6 140 "PaperInBinModel" "struck" "I") (by decide +kernel)) (fun _ h9 => h9) rfl dX6_flies_111 ?_
          refine lv_iconst (v := 1) hx hb dX6_flies_114 (by decide) ?_
          refine lv_ior hx hb dX6_flies_115 ?_
          refine va_put (D := (dC, dI)) (ci := 6) (v := .int (t_struck ||| 1)) (ty := .int) (C := RX6) (T := TX6) (N := 31) hx hb hts hinX6 tyX6 tyX6_ok nmX6 hown hK hP hD hS 0 rfl rfl 30 (by decide) (hts (.fieldLink RX6 140 "PaperInBinModel" "struck" "I") (by decide +kernel)) (fun _ h9 => h9) rfl (tyX6_ok 30 (by decide)) rfl rfl (Nat.le_of_ble_eq_true rfl) dX6_flies_116 (fun H locs hP hD hS => ?_)
          have hP : va_P (dC, dI) vwCl [(a_t, .inr (6, [.int t_hand, .int t_first, .int t_wide, .int t_rim, .int t_fill, .int t_wall, .int t_ceiling, .int t_puff, .int t_period, .int t_second, .int t_score, .int t_thrown, .int t_balls, .ref a_kind, .ref a_size, .ref a_tight, .int t_letters, .ref a_letter, .int t_at, .int t_value, .int t_inRow, .ref a_row, .ref a_refusals, .int t_imaged, .ref a_image, .ref a_ahead, .int t_end, .int (t_cell + x2), .int t_steps, .int t_highest, .int (t_struck ||| 1)])), (a_size, .inl (cI, 5, .inl sizeA)), (a_tight, .inl (cI, 5, .inl tightA)), (a_kind, .inl (cI, 5, .inl kindA))] H := hP
          have hD : va_D A [(a_t, .inr (6, [.int t_hand, .int t_first, .int t_wide, .int t_rim, .int t_fill, .int t_wall, .int t_ceiling, .int t_puff, .int t_period, .int t_second, .int t_score, .int t_thrown, .int t_balls, .ref a_kind, .ref a_size, .ref a_tight, .int t_letters, .ref a_letter, .int t_at, .int t_value, .int t_inRow, .ref a_row, .ref a_refusals, .int t_imaged, .ref a_image, .ref a_ahead, .int t_end, .int (t_cell + x2), .int t_steps, .int t_highest, .int (t_struck ||| 1)])), (a_size, .inl (cI, 5, .inl sizeA)), (a_tight, .inl (cI, 5, .inl tightA)), (a_kind, .inl (cI, 5, .inl kindA))] := hD
          exact K119 x2 (-x3) ((2 * t_ceiling) - (x5 + x3)) x6 x7 st0 t_end (t_cell + x2) t_steps t_highest (t_struck ||| 1) _ _ hP hD hS _ (lv_sub hl [3, 4, 5, 0, 6, 1, 7, 8, 2] rfl) hR
      intro x2 x3 x5 x6 t_end t_cell t_steps t_highest t_struck H locs hP hD hS ls hl hR
      rw [lX6_flies_36] at hR
      refine lv_aload_n hx hb dX6_flies_36 rfl (lv_at hl 0 rfl) ?_
      refine va_get (D := (dC, dI)) (ci := 6) (v := .int t_steps) (C := RX6) (T := TX6) (N := 31) hx hb hts hinX6 hown hK hP 0 rfl rfl 28 (by decide) (hts (.fieldLink RX6 134 "PaperInBinModel" "steps" "I") (by decide +kernel)) (fun _ h9 => h9) rfl dX6_flies_37 ?_
      refine lv_bipush (v := 60) hx hb dX6_flies_40 (by decide) ?_
      refine lv_icmp_ge (tgt := 422) hx hb dX6_flies_42 (by decide) (fun c42 => ?_) (fun c42 => ?_)
      · have hR := (if_pos c42).symm.trans hR
        refine lv_aload_n hx hb dX6_flies_422 rfl (lv_at hl 0 rfl) ?_
        refine lv_iconst (v := 1) hx hb dX6_flies_423 (by decide) ?_
        refine va_put (D := (dC, dI)) (ci := 6) (v := .int 1) (ty := .int) (C := RX6) (T := TX6) (N := 31) hx hb hts hinX6 tyX6 tyX6_ok nmX6 hown hK hP hD hS 0 rfl rfl 26 (by decide) (hts (.fieldLink RX6 143 "PaperInBinModel" "end" "I") (by decide +kernel)) (fun _ h9 => h9) rfl (tyX6_ok 26 (by decide)) rfl rfl (Nat.le_of_ble_eq_true rfl) dX6_flies_424 (fun H locs hP hD hS => ?_)
        have hP : va_P (dC, dI) vwCl [(a_t, .inr (6, [.int t_hand, .int t_first, .int t_wide, .int t_rim, .int t_fill, .int t_wall, .int t_ceiling, .int t_puff, .int t_period, .int t_second, .int t_score, .int t_thrown, .int t_balls, .ref a_kind, .ref a_size, .ref a_tight, .int t_letters, .ref a_letter, .int t_at, .int t_value, .int t_inRow, .ref a_row, .ref a_refusals, .int t_imaged, .ref a_image, .ref a_ahead, .int 1, .int t_cell, .int t_steps, .int t_highest, .int t_struck])), (a_size, .inl (cI, 5, .inl sizeA)), (a_tight, .inl (cI, 5, .inl tightA)), (a_kind, .inl (cI, 5, .inl kindA))] H := hP
        have hD : va_D A [(a_t, .inr (6, [.int t_hand, .int t_first, .int t_wide, .int t_rim, .int t_fill, .int t_wall, .int t_ceiling, .int t_puff, .int t_period, .int t_second, .int t_score, .int t_thrown, .int t_balls, .ref a_kind, .ref a_size, .ref a_tight, .int t_letters, .ref a_letter, .int t_at, .int t_value, .int t_inRow, .ref a_row, .ref a_refusals, .int t_imaged, .ref a_image, .ref a_ahead, .int 1, .int t_cell, .int t_steps, .int t_highest, .int t_struck])), (a_size, .inl (cI, 5, .inl sizeA)), (a_tight, .inl (cI, 5, .inl tightA)), (a_kind, .inl (cI, 5, .inl kindA))] := hD
        refine lv_aload_n hx hb dX6_flies_427 rfl (lv_at hl 0 rfl) ?_
        refine va_get (D := (dC, dI)) (ci := 6) (v := .int 1) (C := RX6) (T := TX6) (N := 31) hx hb hts hinX6 hown hK hP 0 rfl rfl 26 (by decide) (hts (.fieldLink RX6 143 "PaperInBinModel" "end" "I") (by decide +kernel)) (fun _ h9 => h9) rfl dX6_flies_428 ?_
        subst hQ
        subst hAe
        exact W.iret (v := 1) hx hb hr (fun t ht hW => ⟨⟨1, (1, t_cell, t_steps, t_highest, t_struck), rfl, Option.some.inj hR, by rw [ht]; exact hP, hD⟩, hS.F ht⟩) hS.2.2 dX6_flies_431
      · have hR := (if_neg c42).symm.trans hR
        refine lv_aload_n hx hb dX6_flies_45 rfl (lv_at hl 0 rfl) ?_
        refine lv_dup hx hb dX6_flies_46 rfl ?_
        refine va_get (D := (dC, dI)) (ci := 6) (v := .int t_steps) (C := RX6) (T := TX6) (N := 31) hx hb hts hinX6 hown hK hP 0 rfl rfl 28 (by decide) (hts (.fieldLink RX6 134 "PaperInBinModel" "steps" "I") (by decide +kernel)) (fun _ h9 => h9) rfl dX6_flies_47 ?_
        refine lv_iconst (v := 1) hx hb dX6_flies_50 (by decide) ?_
        refine lv_iadd hx hb dX6_flies_51 ?_
        refine va_put (D := (dC, dI)) (ci := 6) (v := .int (t_steps + 1)) (ty := .int) (C := RX6) (T := TX6) (N := 31) hx hb hts hinX6 tyX6 tyX6_ok nmX6 hown hK hP hD hS 0 rfl rfl 28 (by decide) (hts (.fieldLink RX6 134 "PaperInBinModel" "steps" "I") (by decide +kernel)) (fun _ h9 => h9) rfl (tyX6_ok 28 (by decide)) rfl rfl (Nat.le_of_ble_eq_true rfl) dX6_flies_52 (fun H locs hP hD hS => ?_)
        have hP : va_P (dC, dI) vwCl [(a_t, .inr (6, [.int t_hand, .int t_first, .int t_wide, .int t_rim, .int t_fill, .int t_wall, .int t_ceiling, .int t_puff, .int t_period, .int t_second, .int t_score, .int t_thrown, .int t_balls, .ref a_kind, .ref a_size, .ref a_tight, .int t_letters, .ref a_letter, .int t_at, .int t_value, .int t_inRow, .ref a_row, .ref a_refusals, .int t_imaged, .ref a_image, .ref a_ahead, .int t_end, .int t_cell, .int (t_steps + 1), .int t_highest, .int t_struck])), (a_size, .inl (cI, 5, .inl sizeA)), (a_tight, .inl (cI, 5, .inl tightA)), (a_kind, .inl (cI, 5, .inl kindA))] H := hP
        have hD : va_D A [(a_t, .inr (6, [.int t_hand, .int t_first, .int t_wide, .int t_rim, .int t_fill, .int t_wall, .int t_ceiling, .int t_puff, .int t_period, .int t_second, .int t_score, .int t_thrown, .int t_balls, .ref a_kind, .ref a_size, .ref a_tight, .int t_letters, .ref a_letter, .int t_at, .int t_value, .int t_inRow, .ref a_row, .ref a_refusals, .int t_imaged, .ref a_image, .ref a_ahead, .int t_end, .int t_cell, .int (t_steps + 1), .int t_highest, .int t_struck])), (a_size, .inl (cI, 5, .inl sizeA)), (a_tight, .inl (cI, 5, .inl tightA)), (a_kind, .inl (cI, 5, .inl kindA))] := hD
        refine lv_iload hx hb dX6_flies_55 (lv_at hl 5 rfl) ?_
        refine lv_istore (lv' := [(7, .int x5), (0, .ref a_t), (1, .int x1), (2, .int x2), (3, .int x3), (4, .int x4), (5, .int x5), (6, .int x6)]) hx hb dX6_flies_57 hl (by decide) rfl (fun ls hl => ?_)
        refine lv_iload_n hx hb dX6_flies_59 rfl (lv_at hl 4 rfl) ?_
        refine lv_if_ge (tgt := 67) hx hb dX6_flies_60 (by decide) (fun c60 => ?_) (fun c60 => ?_)
        · have hR := (if_pos c60).symm.trans hR
          refine lv_iconst (v := 0) hx hb dX6_flies_67 (by decide) ?_
          exact K68 x2 x3 x5 x6 x5 0 t_end t_cell (t_steps + 1) t_highest t_struck _ _ hP hD hS _ (lv_sub hl [1, 2, 3, 4, 5, 6, 7, 0] rfl) hR
        · have hR := (if_neg c60).symm.trans hR
          refine lv_iconst (v := 1) hx hb dX6_flies_63 (by decide) ?_
          refine lv_goto (tgt := 68) hx hb dX6_flies_64 (by decide) ?_
          exact K68 x2 x3 x5 x6 x5 1 t_end t_cell (t_steps + 1) t_highest t_struck _ _ hP hD hS _ (lv_sub hl [1, 2, 3, 4, 5, 6, 7, 0] rfl) hR
  rw [fX6_flies] at hR
  refine lv_aload_n hx hb dX6_flies_0 rfl (lv_at hl 0 rfl) ?_
  refine va_get (D := (dC, dI)) (ci := 6) (v := .int t_hand) (C := RX6) (T := TX6) (N := 31) hx hb hts hinX6 hown hK hP 0 rfl rfl 0 (by decide) (hts (.fieldLink RX6 34 "PaperInBinModel" "hand" "I") (by decide +kernel)) (fun _ h9 => h9) rfl dX6_flies_1 ?_
  refine lv_istore (lv' := [(5, .int t_hand), (0, .ref a_t), (1, .int x1), (2, .int x2), (3, .int x3), (4, .int x4)]) hx hb dX6_flies_4 hl (by decide) rfl (fun ls hl => ?_)
  refine lv_aload_n hx hb dX6_flies_6 rfl (lv_at hl 1 rfl) ?_
  refine lv_iload_n hx hb dX6_flies_7 rfl (lv_at hl 2 rfl) ?_
  obtain ⟨r8, hu9, hR⟩ := b1_s hR
  refine cl_ViN (As := [.int x1]) (rest := []) (wc := [(a_t, .inr (6, [.int t_hand, .int t_first, .int t_wide, .int t_rim, .int t_fill, .int t_wall, .int t_ceiling, .int t_puff, .int t_period, .int t_second, .int t_score, .int t_thrown, .int t_balls, .ref a_kind, .ref a_size, .ref a_tight, .int t_letters, .ref a_letter, .int t_at, .int t_value, .int t_inRow, .ref a_row, .ref a_refusals, .int t_imaged, .ref a_image, .ref a_ahead, .int t_end, .int t_cell, .int t_steps, .int t_highest, .int t_struck])), (a_size, .inl (cI, 5, .inl sizeA)), (a_tight, .inl (cI, 5, .inl tightA)), (a_kind, .inl (cI, 5, .inl kindA))]) (wr := []) ⟨hx, hb, hml, hown, hts⟩ (kX6_drag l dC dI cI a_t a_kind a_size a_tight a_letter a_row a_refusals a_image a_ahead s.heap.size x1 t_hand t_first t_wide t_rim t_fill t_wall t_ceiling t_puff t_period t_second t_score t_thrown t_balls t_letters t_at t_value t_inRow t_imaged t_end t_cell t_steps t_highest t_struck sizeA tightA kindA r8 hu9) (cwV 1 hts gX6_flies_X6_drag rfl rfl rfl (by decide +kernel) ⟨Nat.le_of_ble_eq_true rfl, Nat.le_of_ble_eq_true rfl⟩) hK hN hP hD hS hA (va_recv hK hP (ci := 6) (q0 := 0) rfl rfl) [0, 1, 2, 3] [] rfl rfl rfl rfl rfl (by decide) rfl hl.1 rfl (Nat.le_of_ble_eq_true rfl) dX6_flies_8 (fun H locs hP hD hS => ?_)
  have hP : va_P (dC, dI) vwCl [(a_t, .inr (6, [.int t_hand, .int t_first, .int t_wide, .int t_rim, .int t_fill, .int t_wall, .int t_ceiling, .int t_puff, .int t_period, .int t_second, .int t_score, .int t_thrown, .int t_balls, .ref a_kind, .ref a_size, .ref a_tight, .int t_letters, .ref a_letter, .int t_at, .int t_value, .int t_inRow, .ref a_row, .ref a_refusals, .int t_imaged, .ref a_image, .ref a_ahead, .int t_end, .int t_cell, .int t_steps, .int t_highest, .int t_struck])), (a_size, .inl (cI, 5, .inl sizeA)), (a_tight, .inl (cI, 5, .inl tightA)), (a_kind, .inl (cI, 5, .inl kindA))] H := hP
  have hD : va_D A [(a_t, .inr (6, [.int t_hand, .int t_first, .int t_wide, .int t_rim, .int t_fill, .int t_wall, .int t_ceiling, .int t_puff, .int t_period, .int t_second, .int t_score, .int t_thrown, .int t_balls, .ref a_kind, .ref a_size, .ref a_tight, .int t_letters, .ref a_letter, .int t_at, .int t_value, .int t_inRow, .ref a_row, .ref a_refusals, .int t_imaged, .ref a_image, .ref a_ahead, .int t_end, .int t_cell, .int t_steps, .int t_highest, .int t_struck])), (a_size, .inl (cI, 5, .inl sizeA)), (a_tight, .inl (cI, 5, .inl tightA)), (a_kind, .inl (cI, 5, .inl kindA))] := hD
  refine lv_istore (lv' := [(6, .int r8), (5, .int t_hand), (0, .ref a_t), (1, .int x1), (2, .int x2), (3, .int x3), (4, .int x4)]) hx hb dX6_flies_11 hl (by decide) rfl (fun ls hl => ?_)
  refine lv_aload_n hx hb dX6_flies_13 rfl (lv_at hl 2 rfl) ?_
  refine lv_iconst (v := 0) hx hb dX6_flies_14 (by decide) ?_
  refine va_put (D := (dC, dI)) (ci := 6) (v := .int 0) (ty := .int) (C := RX6) (T := TX6) (N := 31) hx hb hts hinX6 tyX6 tyX6_ok nmX6 hown hK hP hD hS 0 rfl rfl 27 (by decide) (hts (.fieldLink RX6 131 "PaperInBinModel" "cell" "I") (by decide +kernel)) (fun _ h9 => h9) rfl (tyX6_ok 27 (by decide)) rfl rfl (Nat.le_of_ble_eq_true rfl) dX6_flies_15 (fun H locs hP hD hS => ?_)
  have hP : va_P (dC, dI) vwCl [(a_t, .inr (6, [.int t_hand, .int t_first, .int t_wide, .int t_rim, .int t_fill, .int t_wall, .int t_ceiling, .int t_puff, .int t_period, .int t_second, .int t_score, .int t_thrown, .int t_balls, .ref a_kind, .ref a_size, .ref a_tight, .int t_letters, .ref a_letter, .int t_at, .int t_value, .int t_inRow, .ref a_row, .ref a_refusals, .int t_imaged, .ref a_image, .ref a_ahead, .int t_end, .int 0, .int t_steps, .int t_highest, .int t_struck])), (a_size, .inl (cI, 5, .inl sizeA)), (a_tight, .inl (cI, 5, .inl tightA)), (a_kind, .inl (cI, 5, .inl kindA))] H := hP
  have hD : va_D A [(a_t, .inr (6, [.int t_hand, .int t_first, .int t_wide, .int t_rim, .int t_fill, .int t_wall, .int t_ceiling, .int t_puff, .int t_period, .int t_second, .int t_score, .int t_thrown, .int t_balls, .ref a_kind, .ref a_size, .ref a_tight, .int t_letters, .ref a_letter, .int t_at, .int t_value, .int t_inRow, .ref a_row, .ref a_refusals, .int t_imaged, .ref a_image, .ref a_ahead, .int t_end, .int 0, .int t_steps, .int t_highest, .int t_struck])), (a_size, .inl (cI, 5, .inl sizeA)), (a_tight, .inl (cI, 5, .inl tightA)), (a_kind, .inl (cI, 5, .inl kindA))] := hD
  refine lv_aload_n hx hb dX6_flies_18 rfl (lv_at hl 2 rfl) ?_
  refine lv_iconst (v := 0) hx hb dX6_flies_19 (by decide) ?_
  refine va_put (D := (dC, dI)) (ci := 6) (v := .int 0) (ty := .int) (C := RX6) (T := TX6) (N := 31) hx hb hts hinX6 tyX6 tyX6_ok nmX6 hown hK hP hD hS 0 rfl rfl 28 (by decide) (hts (.fieldLink RX6 134 "PaperInBinModel" "steps" "I") (by decide +kernel)) (fun _ h9 => h9) rfl (tyX6_ok 28 (by decide)) rfl rfl (Nat.le_of_ble_eq_true rfl) dX6_flies_20 (fun H locs hP hD hS => ?_)
  have hP : va_P (dC, dI) vwCl [(a_t, .inr (6, [.int t_hand, .int t_first, .int t_wide, .int t_rim, .int t_fill, .int t_wall, .int t_ceiling, .int t_puff, .int t_period, .int t_second, .int t_score, .int t_thrown, .int t_balls, .ref a_kind, .ref a_size, .ref a_tight, .int t_letters, .ref a_letter, .int t_at, .int t_value, .int t_inRow, .ref a_row, .ref a_refusals, .int t_imaged, .ref a_image, .ref a_ahead, .int t_end, .int 0, .int 0, .int t_highest, .int t_struck])), (a_size, .inl (cI, 5, .inl sizeA)), (a_tight, .inl (cI, 5, .inl tightA)), (a_kind, .inl (cI, 5, .inl kindA))] H := hP
  have hD : va_D A [(a_t, .inr (6, [.int t_hand, .int t_first, .int t_wide, .int t_rim, .int t_fill, .int t_wall, .int t_ceiling, .int t_puff, .int t_period, .int t_second, .int t_score, .int t_thrown, .int t_balls, .ref a_kind, .ref a_size, .ref a_tight, .int t_letters, .ref a_letter, .int t_at, .int t_value, .int t_inRow, .ref a_row, .ref a_refusals, .int t_imaged, .ref a_image, .ref a_ahead, .int t_end, .int 0, .int 0, .int t_highest, .int t_struck])), (a_size, .inl (cI, 5, .inl sizeA)), (a_tight, .inl (cI, 5, .inl tightA)), (a_kind, .inl (cI, 5, .inl kindA))] := hD
  refine lv_aload_n hx hb dX6_flies_23 rfl (lv_at hl 2 rfl) ?_
  refine lv_aload_n hx hb dX6_flies_24 rfl (lv_at hl 2 rfl) ?_
  refine va_get (D := (dC, dI)) (ci := 6) (v := .int t_hand) (C := RX6) (T := TX6) (N := 31) hx hb hts hinX6 hown hK hP 0 rfl rfl 0 (by decide) (hts (.fieldLink RX6 34 "PaperInBinModel" "hand" "I") (by decide +kernel)) (fun _ h9 => h9) rfl dX6_flies_25 ?_
  refine va_put (D := (dC, dI)) (ci := 6) (v := .int t_hand) (ty := .int) (C := RX6) (T := TX6) (N := 31) hx hb hts hinX6 tyX6 tyX6_ok nmX6 hown hK hP hD hS 0 rfl rfl 29 (by decide) (hts (.fieldLink RX6 137 "PaperInBinModel" "highest" "I") (by decide +kernel)) (fun _ h9 => h9) rfl (tyX6_ok 29 (by decide)) rfl rfl (Nat.le_of_ble_eq_true rfl) dX6_flies_28 (fun H locs hP hD hS => ?_)
  have hP : va_P (dC, dI) vwCl [(a_t, .inr (6, [.int t_hand, .int t_first, .int t_wide, .int t_rim, .int t_fill, .int t_wall, .int t_ceiling, .int t_puff, .int t_period, .int t_second, .int t_score, .int t_thrown, .int t_balls, .ref a_kind, .ref a_size, .ref a_tight, .int t_letters, .ref a_letter, .int t_at, .int t_value, .int t_inRow, .ref a_row, .ref a_refusals, .int t_imaged, .ref a_image, .ref a_ahead, .int t_end, .int 0, .int 0, .int t_hand, .int t_struck])), (a_size, .inl (cI, 5, .inl sizeA)), (a_tight, .inl (cI, 5, .inl tightA)), (a_kind, .inl (cI, 5, .inl kindA))] H := hP
  have hD : va_D A [(a_t, .inr (6, [.int t_hand, .int t_first, .int t_wide, .int t_rim, .int t_fill, .int t_wall, .int t_ceiling, .int t_puff, .int t_period, .int t_second, .int t_score, .int t_thrown, .int t_balls, .ref a_kind, .ref a_size, .ref a_tight, .int t_letters, .ref a_letter, .int t_at, .int t_value, .int t_inRow, .ref a_row, .ref a_refusals, .int t_imaged, .ref a_image, .ref a_ahead, .int t_end, .int 0, .int 0, .int t_hand, .int t_struck])), (a_size, .inl (cI, 5, .inl sizeA)), (a_tight, .inl (cI, 5, .inl tightA)), (a_kind, .inl (cI, 5, .inl kindA))] := hD
  refine lv_aload_n hx hb dX6_flies_31 rfl (lv_at hl 2 rfl) ?_
  refine lv_iconst (v := 0) hx hb dX6_flies_32 (by decide) ?_
  refine va_put (D := (dC, dI)) (ci := 6) (v := .int 0) (ty := .int) (C := RX6) (T := TX6) (N := 31) hx hb hts hinX6 tyX6 tyX6_ok nmX6 hown hK hP hD hS 0 rfl rfl 30 (by decide) (hts (.fieldLink RX6 140 "PaperInBinModel" "struck" "I") (by decide +kernel)) (fun _ h9 => h9) rfl (tyX6_ok 30 (by decide)) rfl rfl (Nat.le_of_ble_eq_true rfl) dX6_flies_33 (fun H locs hP hD hS => ?_)
  have hP : va_P (dC, dI) vwCl [(a_t, .inr (6, [.int t_hand, .int t_first, .int t_wide, .int t_rim, .int t_fill, .int t_wall, .int t_ceiling, .int t_puff, .int t_period, .int t_second, .int t_score, .int t_thrown, .int t_balls, .ref a_kind, .ref a_size, .ref a_tight, .int t_letters, .ref a_letter, .int t_at, .int t_value, .int t_inRow, .ref a_row, .ref a_refusals, .int t_imaged, .ref a_image, .ref a_ahead, .int t_end, .int 0, .int 0, .int t_hand, .int 0])), (a_size, .inl (cI, 5, .inl sizeA)), (a_tight, .inl (cI, 5, .inl tightA)), (a_kind, .inl (cI, 5, .inl kindA))] H := hP
  have hD : va_D A [(a_t, .inr (6, [.int t_hand, .int t_first, .int t_wide, .int t_rim, .int t_fill, .int t_wall, .int t_ceiling, .int t_puff, .int t_period, .int t_second, .int t_score, .int t_thrown, .int t_balls, .ref a_kind, .ref a_size, .ref a_tight, .int t_letters, .ref a_letter, .int t_at, .int t_value, .int t_inRow, .ref a_row, .ref a_refusals, .int t_imaged, .ref a_image, .ref a_ahead, .int t_end, .int 0, .int 0, .int t_hand, .int 0])), (a_size, .inl (cI, 5, .inl sizeA)), (a_tight, .inl (cI, 5, .inl tightA)), (a_kind, .inl (cI, 5, .inl kindA))] := hD
  exact K36 (100) x2 x3 t_hand r8 t_end 0 0 t_hand 0 _ _ hP hD hS _ (lv_sub hl [2, 3, 4, 5, 6, 1, 0] rfl) hR
def fX6_isIn (x1 : Int32) (x2 : Int32) (x3 : Int32) (t_hand : Int32) (t_first : Int32) (t_wide : Int32) (t_rim : Int32) (t_fill : Int32) (t_wall : Int32) (t_ceiling : Int32) (t_puff : Int32) (t_period : Int32) (t_second : Int32) (sizeA : Nat → Int32) (tightA : Nat → Int32) (kindA : Nat → Int32) : Option (Int32 × Int32 × Int32 × Int32 × Int32 × Int32) :=
  b6 (fX6_flies x1 x2 x3 t_second t_hand t_first t_wide t_rim t_fill t_wall t_ceiling t_puff t_period sizeA tightA kindA) (fun r1 w2 w3 w4 w5 w6 =>
  if r1 = 0 then (
   some (1, w2, w3, w4, w5, w6))
  else (
  some (0, w2, w3, w4, w5, w6)))
set_option maxHeartbeats 4000000 in
set_option maxRecDepth 100000 in
theorem kX6_isIn (l : Launch) (dC : Nat → ClassId) (dI : Nat → Nat → Nat) (cI : ClassId) (a_t a_kind a_size a_tight a_letter a_row a_refusals a_image a_ahead : Nat) (sz : Nat) (x1 : Int32) (x2 : Int32) (x3 : Int32) (t_hand : Int32) (t_first : Int32) (t_wide : Int32) (t_rim : Int32) (t_fill : Int32) (t_wall : Int32) (t_ceiling : Int32) (t_puff : Int32) (t_period : Int32) (t_second : Int32) (t_score : Int32) (t_thrown : Int32) (t_balls : Int32) (t_letters : Int32) (t_at : Int32) (t_value : Int32) (t_inRow : Int32) (t_imaged : Int32) (t_end : Int32) (t_cell : Int32) (t_steps : Int32) (t_highest : Int32) (t_struck : Int32) (sizeA : Nat → Int32) (tightA : Nat → Int32) (kindA : Nat → Int32) (R : Int32 × Int32 × Int32 × Int32 × Int32 × Int32) (hR : fX6_isIn x1 x2 x3 t_hand t_first t_wide t_rim t_fill t_wall t_ceiling t_puff t_period t_second sizeA tightA kindA = some R) : Met l yX6_isIn wsX6_isIn ({ frames := 3, cells := 0, slots := 0, locals := 71 } : Room) (va_Pc [.ref a_t, .int x1, .int x2, .int x3] (Wp (dC, dI) [(cI, .int)] [(a_t, .inr (6, [.int t_hand, .int t_first, .int t_wide, .int t_rim, .int t_fill, .int t_wall, .int t_ceiling, .int t_puff, .int t_period, .int t_second, .int t_score, .int t_thrown, .int t_balls, .ref a_kind, .ref a_size, .ref a_tight, .int t_letters, .ref a_letter, .int t_at, .int t_value, .int t_inRow, .ref a_row, .ref a_refusals, .int t_imaged, .ref a_image, .ref a_ahead, .int t_end, .int t_cell, .int t_steps, .int t_highest, .int t_struck])), (a_size, .inl (cI, 5, .inl sizeA)), (a_tight, .inl (cI, 5, .inl tightA)), (a_kind, .inl (cI, 5, .inl kindA))] sz)) (va_Qi (fun (r : Int32) (u : Int32 × Int32 × Int32 × Int32 × Int32) => (r, u) = R) (Wq (dC, dI) [(a_t, .inr (6, [.int t_hand, .int t_first, .int t_wide, .int t_rim, .int t_fill, .int t_wall, .int t_ceiling, .int t_puff, .int t_period, .int t_second, .int t_score, .int t_thrown, .int t_balls, .ref a_kind, .ref a_size, .ref a_tight, .int t_letters, .ref a_letter, .int t_at, .int t_value, .int t_inRow, .ref a_row, .ref a_refusals, .int t_imaged, .ref a_image, .ref a_ahead, .int t_end, .int t_cell, .int t_steps, .int t_highest, .int t_struck])), (a_size, .inl (cI, 5, .inl sizeA)), (a_tight, .inl (cI, 5, .inl tightA)), (a_kind, .inl (cI, 5, .inl kindA))] sz (fun (u : Int32 × Int32 × Int32 × Int32 × Int32) => ([(a_t, .inr (6, [.int t_hand, .int t_first, .int t_wide, .int t_rim, .int t_fill, .int t_wall, .int t_ceiling, .int t_puff, .int t_period, .int t_second, .int t_score, .int t_thrown, .int t_balls, .ref a_kind, .ref a_size, .ref a_tight, .int t_letters, .ref a_letter, .int t_at, .int t_value, .int t_inRow, .ref a_row, .ref a_refusals, .int t_imaged, .ref a_image, .ref a_ahead, .int u.1, .int u.2.1, .int u.2.2.1, .int u.2.2.2.1, .int u.2.2.2.2])), (a_size, .inl (cI, 5, .inl sizeA)), (a_tight, .inl (cI, 5, .inl tightA)), (a_kind, .inl (cI, 5, .inl kindA))] : va_W))) (va_A [(a_t, .inr (6, [.int t_hand, .int t_first, .int t_wide, .int t_rim, .int t_fill, .int t_wall, .int t_ceiling, .int t_puff, .int t_period, .int t_second, .int t_score, .int t_thrown, .int t_balls, .ref a_kind, .ref a_size, .ref a_tight, .int t_letters, .ref a_letter, .int t_at, .int t_value, .int t_inRow, .ref a_row, .ref a_refusals, .int t_imaged, .ref a_image, .ref a_ahead, .int t_end, .int t_cell, .int t_steps, .int t_highest, .int t_struck])), (a_size, .inl (cI, 5, .inl sizeA)), (a_tight, .inl (cI, 5, .inl tightA)), (a_kind, .inl (cI, 5, .inl kindA))] sz)) 0 0 (va_A [(a_t, .inr (6, [.int t_hand, .int t_first, .int t_wide, .int t_rim, .int t_fill, .int t_wall, .int t_ceiling, .int t_puff, .int t_period, .int t_second, .int t_score, .int t_thrown, .int t_balls, .ref a_kind, .ref a_size, .ref a_tight, .int t_letters, .ref a_letter, .int t_at, .int t_value, .int t_inRow, .ref a_row, .ref a_refusals, .int t_imaged, .ref a_image, .ref a_ahead, .int t_end, .int t_cell, .int t_steps, .int t_highest, .int t_struck])), (a_size, .inl (cI, 5, .inl sizeA)), (a_tight, .inl (cI, 5, .inl tightA)), (a_kind, .inl (cI, 5, .inl kindA))] sz) := by
  refine Met.ofW (cc := cX6_isIn) (maxL := 4) (ret := (some .boolean)) (by decide) rfl ?_
  intro p e s m args below meth c s₁ B hml hv
  obtain ⟨hargs, hsz, hP, hK, hD0, hN⟩ := hv
  have hx := B.exec
  have hb := B.bytes
  have hr := B.returns
  have hts := atoms_spec (ws := wsX6_isIn) B.pre
  have hown : s.vm.findClass RX6 = some m.cls := findClass_of_methodNamed B.named
  have hlocks := B.notSynchronized
  subst hsz
  have hD := hD0.self (sz := s.heap.size)
  obtain ⟨A, hAe⟩ : ∃ A, A = va_A [(a_t, .inr (6, [.int t_hand, .int t_first, .int t_wide, .int t_rim, .int t_fill, .int t_wall, .int t_ceiling, .int t_puff, .int t_period, .int t_second, .int t_score, .int t_thrown, .int t_balls, .ref a_kind, .ref a_size, .ref a_tight, .int t_letters, .ref a_letter, .int t_at, .int t_value, .int t_inRow, .ref a_row, .ref a_refusals, .int t_imaged, .ref a_image, .ref a_ahead, .int t_end, .int t_cell, .int t_steps, .int t_highest, .int t_struck])), (a_size, .inl (cI, 5, .inl sizeA)), (a_tight, .inl (cI, 5, .inl tightA)), (a_kind, .inl (cI, 5, .inl kindA))] s.heap.size := ⟨_, rfl⟩
  rw [← hAe] at hD
  have hA : ∀ q : Nat, s.heap.size ≤ q → A q := fun q h => by rw [hAe]; exact Or.inr h
  have hS : va_S A s.heap s.heap [] := va_S.rf
  have hl := lv_entry ([.ref a_t, .int x1, .int x2, .int x3]) (n := 4) (Nat.le_of_ble_eq_true rfl)
  rw [e_of hargs, lg_entry_eq]
  generalize (lg_sl ([.ref a_t, .int x1, .int x2, .int x3]) ++ List.replicate (4 - (lg_sl ([.ref a_t, .int x1, .int x2, .int x3])).length) Slot.unset).toArray = ls at hl ⊢
  have hl : lv_has ls 4 [(0, .ref a_t), (1, .int x1), (2, .int x2), (3, .int x3)] := hl
  have hinX6 : ∀ w ∈ wsX60, w ∈ wsX6_isIn := by decide +kernel
  refine w_q ({ frames := 3, cells := 0, slots := 0, locals := 71 } : Room) (fun Q0 hQ => ?_)
  rw [fX6_isIn] at hR
  refine lv_aload_n hx hb dX6_isIn_0 rfl (lv_at hl 0 rfl) ?_
  refine lv_iload_n hx hb dX6_isIn_1 rfl (lv_at hl 1 rfl) ?_
  refine lv_iload_n hx hb dX6_isIn_2 rfl (lv_at hl 2 rfl) ?_
  refine lv_iload_n hx hb dX6_isIn_3 rfl (lv_at hl 3 rfl) ?_
  refine lv_aload_n hx hb dX6_isIn_4 rfl (lv_at hl 0 rfl) ?_
  refine va_get (D := (dC, dI)) (ci := 6) (v := .int t_second) (C := RX6) (T := TX6) (N := 31) hx hb hts hinX6 hown hK hP 0 rfl rfl 9 (by decide) (hts (.fieldLink RX6 149 "PaperInBinModel" "second" "I") (by decide +kernel)) (fun _ h9 => h9) rfl dX6_isIn_5 ?_
  obtain ⟨r1, w2, w3, w4, w5, w6, hu7, hR⟩ := b6_s hR
  refine cl_ViT (As := [.int x1, .int x2, .int x3, .int t_second]) (rest := []) (wc := [(a_t, .inr (6, [.int t_hand, .int t_first, .int t_wide, .int t_rim, .int t_fill, .int t_wall, .int t_ceiling, .int t_puff, .int t_period, .int t_second, .int t_score, .int t_thrown, .int t_balls, .ref a_kind, .ref a_size, .ref a_tight, .int t_letters, .ref a_letter, .int t_at, .int t_value, .int t_inRow, .ref a_row, .ref a_refusals, .int t_imaged, .ref a_image, .ref a_ahead, .int t_end, .int t_cell, .int t_steps, .int t_highest, .int t_struck])), (a_size, .inl (cI, 5, .inl sizeA)), (a_tight, .inl (cI, 5, .inl tightA)), (a_kind, .inl (cI, 5, .inl kindA))]) (wr := []) ⟨hx, hb, hml, hown, hts⟩ (kX6_flies l dC dI cI a_t a_kind a_size a_tight a_letter a_row a_refusals a_image a_ahead s.heap.size x1 x2 x3 t_second t_hand t_first t_wide t_rim t_fill t_wall t_ceiling t_puff t_period t_second t_score t_thrown t_balls t_letters t_at t_value t_inRow t_imaged t_end t_cell t_steps t_highest t_struck sizeA tightA kindA (r1, w2, w3, w4, w5, w6) hu7) (cwV 4 hts gX6_isIn_X6_flies rfl rfl rfl (by decide +kernel) ⟨Nat.le_of_ble_eq_true rfl, Nat.le_of_ble_eq_true rfl⟩) hK hN hP hD hS hA (va_recv hK hP (ci := 6) (q0 := 0) rfl rfl) [0, 1, 2, 3] [] rfl rfl rfl rfl rfl (by decide) rfl hl.1 rfl (Nat.le_of_ble_eq_true rfl) dX6_isIn_8 (fun H locs hP hD hS => ?_)
  have hP : va_P (dC, dI) vwCl [(a_t, .inr (6, [.int t_hand, .int t_first, .int t_wide, .int t_rim, .int t_fill, .int t_wall, .int t_ceiling, .int t_puff, .int t_period, .int t_second, .int t_score, .int t_thrown, .int t_balls, .ref a_kind, .ref a_size, .ref a_tight, .int t_letters, .ref a_letter, .int t_at, .int t_value, .int t_inRow, .ref a_row, .ref a_refusals, .int t_imaged, .ref a_image, .ref a_ahead, .int w2, .int w3, .int w4, .int w5, .int w6])), (a_size, .inl (cI, 5, .inl sizeA)), (a_tight, .inl (cI, 5, .inl tightA)), (a_kind, .inl (cI, 5, .inl kindA))] H := hP
  have hD : va_D A [(a_t, .inr (6, [.int t_hand, .int t_first, .int t_wide, .int t_rim, .int t_fill, .int t_wall, .int t_ceiling, .int t_puff, .int t_period, .int t_second, .int t_score, .int t_thrown, .int t_balls, .ref a_kind, .ref a_size, .ref a_tight, .int t_letters, .ref a_letter, .int t_at, .int t_value, .int t_inRow, .ref a_row, .ref a_refusals, .int t_imaged, .ref a_image, .ref a_ahead, .int w2, .int w3, .int w4, .int w5, .int w6])), (a_size, .inl (cI, 5, .inl sizeA)), (a_tight, .inl (cI, 5, .inl tightA)), (a_kind, .inl (cI, 5, .inl kindA))] := hD
  refine lv_if_ne (tgt := 18) hx hb dX6_isIn_11 (by decide) (fun c11 => ?_) (fun c11 => ?_)
  · have hR := (if_neg c11).symm.trans hR
    refine lv_iconst (v := 0) hx hb dX6_isIn_18 (by decide) ?_
    subst hQ
    subst hAe
    exact W.zret (ty := .boolean) (v := 0) hx hb hr rfl (fun t ht hW => ⟨⟨0, (w2, w3, w4, w5, w6), rfl, Option.some.inj hR, by rw [ht]; exact hP, hD⟩, hS.F ht⟩) hS.2.2 dX6_isIn_19
  · have hR := (if_pos c11).symm.trans hR
    refine lv_iconst (v := 1) hx hb dX6_isIn_14 (by decide) ?_
    refine lv_goto (tgt := 19) hx hb dX6_isIn_15 (by decide) ?_
    subst hQ
    subst hAe
    exact W.zret (ty := .boolean) (v := 1) hx hb hr rfl (fun t ht hW => ⟨⟨1, (w2, w3, w4, w5, w6), rfl, Option.some.inj hR, by rw [ht]; exact hP, hD⟩, hS.F ht⟩) hS.2.2 dX6_isIn_19
def fX6_noThrow (x1 : Int32) (x2 : Int32) : Option (Int32) :=
  if x1 < 1 then (
   some ((-4)))
  else (
  if (-5) ≤ x2 then (
   if 9 < x1 then (
    some ((-6)))
   else (
   if x2 ≤ 15 then (
    some (0))
   else (
   some ((-6)))))
  else (
  some ((-4))))
set_option maxHeartbeats 4000000 in
set_option maxRecDepth 100000 in
theorem kX6_noThrow (l : Launch) (dC : Nat → ClassId) (dI : Nat → Nat → Nat) (cI : ClassId) (a_t : Nat) (sz : Nat) (x1 : Int32) (x2 : Int32) (R : Int32) (hR : fX6_noThrow x1 x2 = some R) : Met l yX6_noThrow wsX6_noThrow ({ frames := 0, cells := 0, slots := 0, locals := 0 } : Room) (va_Pc [.ref a_t, .int x1, .int x2] (Wp (dC, dI) [(cI, .int)] [] sz)) (va_Qi (fun (r : Int32) (_ : Unit) => r = R) (Wq (dC, dI) [] sz (fun (_ : Unit) => ([] : va_W))) (va_A [] sz)) 0 0 (va_A [] sz) := by
  refine Met.ofW (cc := cX6_noThrow) (maxL := 3) (ret := (some .int)) (by decide) rfl ?_
  intro p e s m args below meth c s₁ B hml hv
  obtain ⟨hargs, hsz, hP, hK, hD0, hN⟩ := hv
  have hx := B.exec
  have hb := B.bytes
  have hr := B.returns
  have hts := atoms_spec (ws := wsX6_noThrow) B.pre
  have hown : s.vm.findClass RX6 = some m.cls := findClass_of_methodNamed B.named
  have hlocks := B.notSynchronized
  subst hsz
  have hD := hD0.self (sz := s.heap.size)
  obtain ⟨A, hAe⟩ : ∃ A, A = va_A [] s.heap.size := ⟨_, rfl⟩
  rw [← hAe] at hD
  have hA : ∀ q : Nat, s.heap.size ≤ q → A q := fun q h => by rw [hAe]; exact Or.inr h
  have hS : va_S A s.heap s.heap [] := va_S.rf
  have hl := lv_entry ([.ref a_t, .int x1, .int x2]) (n := 3) (Nat.le_of_ble_eq_true rfl)
  rw [e_of hargs, lg_entry_eq]
  generalize (lg_sl ([.ref a_t, .int x1, .int x2]) ++ List.replicate (3 - (lg_sl ([.ref a_t, .int x1, .int x2])).length) Slot.unset).toArray = ls at hl ⊢
  have hl : lv_has ls 3 [(0, .ref a_t), (1, .int x1), (2, .int x2)] := hl
  refine w_q ({ frames := 0, cells := 0, slots := 0, locals := 0 } : Room) (fun Q0 hQ => ?_)
  rw [fX6_noThrow] at hR
  refine lv_iload_n hx hb dX6_noThrow_0 rfl (lv_at hl 1 rfl) ?_
  refine lv_iconst (v := 1) hx hb dX6_noThrow_1 (by decide) ?_
  refine lv_icmp_lt (tgt := 11) hx hb dX6_noThrow_2 (by decide) (fun c2 => ?_) (fun c2 => ?_)
  · have hR := (if_pos c2).symm.trans hR
    refine lv_bipush (v := (-4)) hx hb dX6_noThrow_11 (by decide) ?_
    subst hQ
    subst hAe
    exact W.iret (v := (-4)) hx hb hr (fun t ht hW => ⟨⟨(-4), (), rfl, Option.some.inj hR, by rw [ht]; exact hP, hD⟩, hS.F ht⟩) hS.2.2 dX6_noThrow_13
  · have hR := (if_neg c2).symm.trans hR
    refine lv_iload_n hx hb dX6_noThrow_5 rfl (lv_at hl 2 rfl) ?_
    refine lv_bipush (v := (-5)) hx hb dX6_noThrow_6 (by decide) ?_
    refine lv_icmp_ge (tgt := 14) hx hb dX6_noThrow_8 (by decide) (fun c8 => ?_) (fun c8 => ?_)
    · have hR := (if_pos c8).symm.trans hR
      refine lv_iload_n hx hb dX6_noThrow_14 rfl (lv_at hl 1 rfl) ?_
      refine lv_bipush (v := 9) hx hb dX6_noThrow_15 (by decide) ?_
      refine lv_icmp_gt (tgt := 26) hx hb dX6_noThrow_17 (by decide) (fun c17 => ?_) (fun c17 => ?_)
      · have hR := (if_pos c17).symm.trans hR
        refine lv_bipush (v := (-6)) hx hb dX6_noThrow_26 (by decide) ?_
        refine lv_goto (tgt := 32) hx hb dX6_noThrow_28 (by decide) ?_
        subst hQ
        subst hAe
        exact W.iret (v := (-6)) hx hb hr (fun t ht hW => ⟨⟨(-6), (), rfl, Option.some.inj hR, by rw [ht]; exact hP, hD⟩, hS.F ht⟩) hS.2.2 dX6_noThrow_32
      · have hR := (if_neg c17).symm.trans hR
        refine lv_iload_n hx hb dX6_noThrow_20 rfl (lv_at hl 2 rfl) ?_
        refine lv_bipush (v := 15) hx hb dX6_noThrow_21 (by decide) ?_
        refine lv_icmp_le (tgt := 31) hx hb dX6_noThrow_23 (by decide) (fun c23 => ?_) (fun c23 => ?_)
        · have hR := (if_pos c23).symm.trans hR
          refine lv_iconst (v := 0) hx hb dX6_noThrow_31 (by decide) ?_
          subst hQ
          subst hAe
          exact W.iret (v := 0) hx hb hr (fun t ht hW => ⟨⟨0, (), rfl, Option.some.inj hR, by rw [ht]; exact hP, hD⟩, hS.F ht⟩) hS.2.2 dX6_noThrow_32
        · have hR := (if_neg c23).symm.trans hR
          refine lv_bipush (v := (-6)) hx hb dX6_noThrow_26 (by decide) ?_
          refine lv_goto (tgt := 32) hx hb dX6_noThrow_28 (by decide) ?_
          subst hQ
          subst hAe
          exact W.iret (v := (-6)) hx hb hr (fun t ht hW => ⟨⟨(-6), (), rfl, Option.some.inj hR, by rw [ht]; exact hP, hD⟩, hS.F ht⟩) hS.2.2 dX6_noThrow_32
    · have hR := (if_neg c8).symm.trans hR
      refine lv_bipush (v := (-4)) hx hb dX6_noThrow_11 (by decide) ?_
      subst hQ
      subst hAe
      exact W.iret (v := (-4)) hx hb hr (fun t ht hW => ⟨⟨(-4), (), rfl, Option.some.inj hR, by rw [ht]; exact hP, hD⟩, hS.F ht⟩) hS.2.2 dX6_noThrow_13
def fX6_fly (x1 : Int32) (x2 : Int32) (x3 : Int32) (x4 : Int32) (t_hand : Int32) (t_first : Int32) (t_wide : Int32) (t_rim : Int32) (t_fill : Int32) (t_wall : Int32) (t_ceiling : Int32) (t_puff : Int32) (t_period : Int32) (t_second : Int32) (t_balls : Int32) (t_end : Int32) (t_cell : Int32) (t_steps : Int32) (t_highest : Int32) (t_struck : Int32) (refusalsA : Nat → Int32) (sizeA : Nat → Int32) (tightA : Nat → Int32) (kindA : Nat → Int32) : Option (Int32 × Int32 × Int32 × Int32 × Int32 × Int32 × (Nat → Int32)) :=
  b1 (fX6_isBall x1 t_balls) (fun r1 =>
  if r1 = 0 then (
   b2 (fX6_no (-1) refusalsA) (fun r20 w21 =>
   some (r20, t_end, t_cell, t_steps, t_highest, t_struck, w21)))
  else (
  b1 (fX6_noThrow x2 x3) (fun r3 =>
  if 0 ≤ r3 then (
   b1 (fX6_within x4 0 4) (fun r5 =>
   if r5 = 0 then (
    b2 (fX6_no (-2) refusalsA) (fun r14 w15 =>
    some (r14, t_end, t_cell, t_steps, t_highest, t_struck, w15)))
   else (
   b6 (fX6_flies x1 x2 x3 t_second t_hand t_first t_wide t_rim t_fill t_wall t_ceiling t_puff t_period sizeA tightA kindA) (fun r7 w8 w9 w10 w11 w12 =>
   if x4 = 0 then (
    some (w8, w8, w9, w10, w11, w12, refusalsA))
   else (
   if x4 = 1 then (
    some (w9, w8, w9, w10, w11, w12, refusalsA))
   else (
   if x4 = 2 then (
    some (w10, w8, w9, w10, w11, w12, refusalsA))
   else (
   if x4 = 3 then (
    some (w11, w8, w9, w10, w11, w12, refusalsA))
   else (
   some (w12, w8, w9, w10, w11, w12, refusalsA)))))))))
  else (
  b2 (fX6_no r3 refusalsA) (fun r17 w18 =>
  some (r17, t_end, t_cell, t_steps, t_highest, t_struck, w18))))))
set_option maxHeartbeats 4000000 in
set_option maxRecDepth 100000 in
theorem kX6_fly (l : Launch) (dC : Nat → ClassId) (dI : Nat → Nat → Nat) (cI : ClassId) (a_t a_kind a_size a_tight a_letter a_row a_refusals a_image a_ahead : Nat) (sz : Nat) (x1 : Int32) (x2 : Int32) (x3 : Int32) (x4 : Int32) (t_hand : Int32) (t_first : Int32) (t_wide : Int32) (t_rim : Int32) (t_fill : Int32) (t_wall : Int32) (t_ceiling : Int32) (t_puff : Int32) (t_period : Int32) (t_second : Int32) (t_score : Int32) (t_thrown : Int32) (t_balls : Int32) (t_letters : Int32) (t_at : Int32) (t_value : Int32) (t_inRow : Int32) (t_imaged : Int32) (t_end : Int32) (t_cell : Int32) (t_steps : Int32) (t_highest : Int32) (t_struck : Int32) (refusalsA : Nat → Int32) (sizeA : Nat → Int32) (tightA : Nat → Int32) (kindA : Nat → Int32) (R : Int32 × Int32 × Int32 × Int32 × Int32 × Int32 × (Nat → Int32)) (hR : fX6_fly x1 x2 x3 x4 t_hand t_first t_wide t_rim t_fill t_wall t_ceiling t_puff t_period t_second t_balls t_end t_cell t_steps t_highest t_struck refusalsA sizeA tightA kindA = some R) : Met l yX6_fly wsX6_fly ({ frames := 3, cells := 0, slots := 0, locals := 71 } : Room) (va_Pc [.ref a_t, .int x1, .int x2, .int x3, .int x4] (Wp (dC, dI) [(cI, .int)] [(a_t, .inr (6, [.int t_hand, .int t_first, .int t_wide, .int t_rim, .int t_fill, .int t_wall, .int t_ceiling, .int t_puff, .int t_period, .int t_second, .int t_score, .int t_thrown, .int t_balls, .ref a_kind, .ref a_size, .ref a_tight, .int t_letters, .ref a_letter, .int t_at, .int t_value, .int t_inRow, .ref a_row, .ref a_refusals, .int t_imaged, .ref a_image, .ref a_ahead, .int t_end, .int t_cell, .int t_steps, .int t_highest, .int t_struck])), (a_refusals, .inl (cI, 7, .inl refusalsA)), (a_size, .inl (cI, 5, .inl sizeA)), (a_tight, .inl (cI, 5, .inl tightA)), (a_kind, .inl (cI, 5, .inl kindA))] sz)) (va_Qi (fun (r : Int32) (u : Int32 × Int32 × Int32 × Int32 × Int32 × (Nat → Int32)) => (r, u) = R) (Wq (dC, dI) [(a_t, .inr (6, [.int t_hand, .int t_first, .int t_wide, .int t_rim, .int t_fill, .int t_wall, .int t_ceiling, .int t_puff, .int t_period, .int t_second, .int t_score, .int t_thrown, .int t_balls, .ref a_kind, .ref a_size, .ref a_tight, .int t_letters, .ref a_letter, .int t_at, .int t_value, .int t_inRow, .ref a_row, .ref a_refusals, .int t_imaged, .ref a_image, .ref a_ahead, .int t_end, .int t_cell, .int t_steps, .int t_highest, .int t_struck])), (a_refusals, .inl (cI, 7, .inl refusalsA)), (a_size, .inl (cI, 5, .inl sizeA)), (a_tight, .inl (cI, 5, .inl tightA)), (a_kind, .inl (cI, 5, .inl kindA))] sz (fun (u : Int32 × Int32 × Int32 × Int32 × Int32 × (Nat → Int32)) => ([(a_t, .inr (6, [.int t_hand, .int t_first, .int t_wide, .int t_rim, .int t_fill, .int t_wall, .int t_ceiling, .int t_puff, .int t_period, .int t_second, .int t_score, .int t_thrown, .int t_balls, .ref a_kind, .ref a_size, .ref a_tight, .int t_letters, .ref a_letter, .int t_at, .int t_value, .int t_inRow, .ref a_row, .ref a_refusals, .int t_imaged, .ref a_image, .ref a_ahead, .int u.1, .int u.2.1, .int u.2.2.1, .int u.2.2.2.1, .int u.2.2.2.2.1])), (a_refusals, .inl (cI, 7, .inl u.2.2.2.2.2)), (a_size, .inl (cI, 5, .inl sizeA)), (a_tight, .inl (cI, 5, .inl tightA)), (a_kind, .inl (cI, 5, .inl kindA))] : va_W))) (va_A [(a_t, .inr (6, [.int t_hand, .int t_first, .int t_wide, .int t_rim, .int t_fill, .int t_wall, .int t_ceiling, .int t_puff, .int t_period, .int t_second, .int t_score, .int t_thrown, .int t_balls, .ref a_kind, .ref a_size, .ref a_tight, .int t_letters, .ref a_letter, .int t_at, .int t_value, .int t_inRow, .ref a_row, .ref a_refusals, .int t_imaged, .ref a_image, .ref a_ahead, .int t_end, .int t_cell, .int t_steps, .int t_highest, .int t_struck])), (a_refusals, .inl (cI, 7, .inl refusalsA)), (a_size, .inl (cI, 5, .inl sizeA)), (a_tight, .inl (cI, 5, .inl tightA)), (a_kind, .inl (cI, 5, .inl kindA))] sz)) 0 0 (va_A [(a_t, .inr (6, [.int t_hand, .int t_first, .int t_wide, .int t_rim, .int t_fill, .int t_wall, .int t_ceiling, .int t_puff, .int t_period, .int t_second, .int t_score, .int t_thrown, .int t_balls, .ref a_kind, .ref a_size, .ref a_tight, .int t_letters, .ref a_letter, .int t_at, .int t_value, .int t_inRow, .ref a_row, .ref a_refusals, .int t_imaged, .ref a_image, .ref a_ahead, .int t_end, .int t_cell, .int t_steps, .int t_highest, .int t_struck])), (a_refusals, .inl (cI, 7, .inl refusalsA)), (a_size, .inl (cI, 5, .inl sizeA)), (a_tight, .inl (cI, 5, .inl tightA)), (a_kind, .inl (cI, 5, .inl kindA))] sz) := by
  refine Met.ofW (cc := cX6_fly) (maxL := 6) (ret := (some .int)) (by decide) rfl ?_
  intro p e s m args below meth c s₁ B hml hv
  obtain ⟨hargs, hsz, hP, hK, hD0, hN⟩ := hv
  have hx := B.exec
  have hb := B.bytes
  have hr := B.returns
  have hts := atoms_spec (ws := wsX6_fly) B.pre
  have hown : s.vm.findClass RX6 = some m.cls := findClass_of_methodNamed B.named
  have hlocks := B.notSynchronized
  subst hsz
  have hD := hD0.self (sz := s.heap.size)
  obtain ⟨A, hAe⟩ : ∃ A, A = va_A [(a_t, .inr (6, [.int t_hand, .int t_first, .int t_wide, .int t_rim, .int t_fill, .int t_wall, .int t_ceiling, .int t_puff, .int t_period, .int t_second, .int t_score, .int t_thrown, .int t_balls, .ref a_kind, .ref a_size, .ref a_tight, .int t_letters, .ref a_letter, .int t_at, .int t_value, .int t_inRow, .ref a_row, .ref a_refusals, .int t_imaged, .ref a_image, .ref a_ahead, .int t_end, .int t_cell, .int t_steps, .int t_highest, .int t_struck])), (a_refusals, .inl (cI, 7, .inl refusalsA)), (a_size, .inl (cI, 5, .inl sizeA)), (a_tight, .inl (cI, 5, .inl tightA)), (a_kind, .inl (cI, 5, .inl kindA))] s.heap.size := ⟨_, rfl⟩
  rw [← hAe] at hD
  have hA : ∀ q : Nat, s.heap.size ≤ q → A q := fun q h => by rw [hAe]; exact Or.inr h
  have hS : va_S A s.heap s.heap [] := va_S.rf
  have hl := lv_entry ([.ref a_t, .int x1, .int x2, .int x3, .int x4]) (n := 6) (Nat.le_of_ble_eq_true rfl)
  rw [e_of hargs, lg_entry_eq]
  generalize (lg_sl ([.ref a_t, .int x1, .int x2, .int x3, .int x4]) ++ List.replicate (6 - (lg_sl ([.ref a_t, .int x1, .int x2, .int x3, .int x4])).length) Slot.unset).toArray = ls at hl ⊢
  have hl : lv_has ls 6 [(0, .ref a_t), (1, .int x1), (2, .int x2), (3, .int x3), (4, .int x4)] := hl
  have hinX6 : ∀ w ∈ wsX60, w ∈ wsX6_fly := by decide +kernel
  refine w_q ({ frames := 3, cells := 0, slots := 0, locals := 71 } : Room) (fun Q0 hQ => ?_)
  rw [fX6_fly] at hR
  refine lv_aload_n hx hb dX6_fly_0 rfl (lv_at hl 0 rfl) ?_
  refine lv_iload_n hx hb dX6_fly_1 rfl (lv_at hl 1 rfl) ?_
  obtain ⟨r1, hu2, hR⟩ := b1_s hR
  refine cl_ViN (As := [.int x1]) (rest := []) (wc := [(a_t, .inr (6, [.int t_hand, .int t_first, .int t_wide, .int t_rim, .int t_fill, .int t_wall, .int t_ceiling, .int t_puff, .int t_period, .int t_second, .int t_score, .int t_thrown, .int t_balls, .ref a_kind, .ref a_size, .ref a_tight, .int t_letters, .ref a_letter, .int t_at, .int t_value, .int t_inRow, .ref a_row, .ref a_refusals, .int t_imaged, .ref a_image, .ref a_ahead, .int t_end, .int t_cell, .int t_steps, .int t_highest, .int t_struck]))]) (wr := [(a_refusals, .inl (cI, 7, .inl refusalsA)), (a_size, .inl (cI, 5, .inl sizeA)), (a_tight, .inl (cI, 5, .inl tightA)), (a_kind, .inl (cI, 5, .inl kindA))]) ⟨hx, hb, hml, hown, hts⟩ (kX6_isBall l dC dI cI a_t a_kind a_size a_tight a_letter a_row a_refusals a_image a_ahead s.heap.size x1 t_hand t_first t_wide t_rim t_fill t_wall t_ceiling t_puff t_period t_second t_score t_thrown t_balls t_letters t_at t_value t_inRow t_imaged t_end t_cell t_steps t_highest t_struck r1 hu2) (cwV 1 hts gX6_fly_X6_isBall rfl rfl rfl (by decide +kernel) ⟨Nat.le_of_ble_eq_true rfl, Nat.le_of_ble_eq_true rfl⟩) hK hN hP hD hS hA (va_recv hK hP (ci := 6) (q0 := 0) rfl rfl) [0] [1, 2, 3, 4] rfl rfl rfl rfl rfl (by decide) rfl hl.1 rfl (Nat.le_of_ble_eq_true rfl) dX6_fly_2 (fun H locs hP hD hS => ?_)
  have hP : va_P (dC, dI) vwCl [(a_refusals, .inl (cI, 7, .inl refusalsA)), (a_size, .inl (cI, 5, .inl sizeA)), (a_tight, .inl (cI, 5, .inl tightA)), (a_kind, .inl (cI, 5, .inl kindA)), (a_t, .inr (6, [.int t_hand, .int t_first, .int t_wide, .int t_rim, .int t_fill, .int t_wall, .int t_ceiling, .int t_puff, .int t_period, .int t_second, .int t_score, .int t_thrown, .int t_balls, .ref a_kind, .ref a_size, .ref a_tight, .int t_letters, .ref a_letter, .int t_at, .int t_value, .int t_inRow, .ref a_row, .ref a_refusals, .int t_imaged, .ref a_image, .ref a_ahead, .int t_end, .int t_cell, .int t_steps, .int t_highest, .int t_struck]))] H := hP
  have hD : va_D A [(a_refusals, .inl (cI, 7, .inl refusalsA)), (a_size, .inl (cI, 5, .inl sizeA)), (a_tight, .inl (cI, 5, .inl tightA)), (a_kind, .inl (cI, 5, .inl kindA)), (a_t, .inr (6, [.int t_hand, .int t_first, .int t_wide, .int t_rim, .int t_fill, .int t_wall, .int t_ceiling, .int t_puff, .int t_period, .int t_second, .int t_score, .int t_thrown, .int t_balls, .ref a_kind, .ref a_size, .ref a_tight, .int t_letters, .ref a_letter, .int t_at, .int t_value, .int t_inRow, .ref a_row, .ref a_refusals, .int t_imaged, .ref a_image, .ref a_ahead, .int t_end, .int t_cell, .int t_steps, .int t_highest, .int t_struck]))] := hD
  refine lv_if_ne (tgt := 14) hx hb dX6_fly_5 (by decide) (fun c5 => ?_) (fun c5 => ?_)
  · have hR := (if_neg c5).symm.trans hR
    refine lv_aload_n hx hb dX6_fly_14 rfl (lv_at hl 0 rfl) ?_
    refine lv_iload_n hx hb dX6_fly_15 rfl (lv_at hl 2 rfl) ?_
    refine lv_iload_n hx hb dX6_fly_16 rfl (lv_at hl 3 rfl) ?_
    obtain ⟨r3, hu4, hR⟩ := b1_s hR
    refine cl_ViN (As := [.int x2, .int x3]) (rest := []) (wc := []) (wr := [(a_refusals, .inl (cI, 7, .inl refusalsA)), (a_size, .inl (cI, 5, .inl sizeA)), (a_tight, .inl (cI, 5, .inl tightA)), (a_kind, .inl (cI, 5, .inl kindA)), (a_t, .inr (6, [.int t_hand, .int t_first, .int t_wide, .int t_rim, .int t_fill, .int t_wall, .int t_ceiling, .int t_puff, .int t_period, .int t_second, .int t_score, .int t_thrown, .int t_balls, .ref a_kind, .ref a_size, .ref a_tight, .int t_letters, .ref a_letter, .int t_at, .int t_value, .int t_inRow, .ref a_row, .ref a_refusals, .int t_imaged, .ref a_image, .ref a_ahead, .int t_end, .int t_cell, .int t_steps, .int t_highest, .int t_struck]))]) ⟨hx, hb, hml, hown, hts⟩ (kX6_noThrow l dC dI cI a_t H.size x2 x3 r3 hu4) (cwV 2 hts gX6_fly_X6_noThrow rfl rfl rfl (by decide +kernel) ⟨Nat.le_of_ble_eq_true rfl, Nat.le_of_ble_eq_true rfl⟩) hK hN hP hD hS hA (va_recv hK hP (ci := 6) (q0 := 4) rfl rfl) [] [0, 1, 2, 3, 4] rfl rfl rfl rfl rfl (by decide) rfl hl.1 rfl (Nat.le_of_ble_eq_true rfl) dX6_fly_17 (fun H locs hP hD hS => ?_)
    have hP : va_P (dC, dI) vwCl [(a_refusals, .inl (cI, 7, .inl refusalsA)), (a_size, .inl (cI, 5, .inl sizeA)), (a_tight, .inl (cI, 5, .inl tightA)), (a_kind, .inl (cI, 5, .inl kindA)), (a_t, .inr (6, [.int t_hand, .int t_first, .int t_wide, .int t_rim, .int t_fill, .int t_wall, .int t_ceiling, .int t_puff, .int t_period, .int t_second, .int t_score, .int t_thrown, .int t_balls, .ref a_kind, .ref a_size, .ref a_tight, .int t_letters, .ref a_letter, .int t_at, .int t_value, .int t_inRow, .ref a_row, .ref a_refusals, .int t_imaged, .ref a_image, .ref a_ahead, .int t_end, .int t_cell, .int t_steps, .int t_highest, .int t_struck]))] H := hP
    have hD : va_D A [(a_refusals, .inl (cI, 7, .inl refusalsA)), (a_size, .inl (cI, 5, .inl sizeA)), (a_tight, .inl (cI, 5, .inl tightA)), (a_kind, .inl (cI, 5, .inl kindA)), (a_t, .inr (6, [.int t_hand, .int t_first, .int t_wide, .int t_rim, .int t_fill, .int t_wall, .int t_ceiling, .int t_puff, .int t_period, .int t_second, .int t_score, .int t_thrown, .int t_balls, .ref a_kind, .ref a_size, .ref a_tight, .int t_letters, .ref a_letter, .int t_at, .int t_value, .int t_inRow, .ref a_row, .ref a_refusals, .int t_imaged, .ref a_image, .ref a_ahead, .int t_end, .int t_cell, .int t_steps, .int t_highest, .int t_struck]))] := hD
    refine lv_istore (lv' := [(5, .int r3), (0, .ref a_t), (1, .int x1), (2, .int x2), (3, .int x3), (4, .int x4)]) hx hb dX6_fly_20 hl (by decide) rfl (fun ls hl => ?_)
    refine lv_iload hx hb dX6_fly_22 (lv_at hl 0 rfl) ?_
    refine lv_if_ge (tgt := 34) hx hb dX6_fly_24 (by decide) (fun c24 => ?_) (fun c24 => ?_)
    · have hR := (if_pos c24).symm.trans hR
      refine lv_iload hx hb dX6_fly_34 (lv_at hl 5 rfl) ?_
      refine lv_iconst (v := 0) hx hb dX6_fly_36 (by decide) ?_
      refine lv_iconst (v := 4) hx hb dX6_fly_37 (by decide) ?_
      obtain ⟨r5, hu6, hR⟩ := b1_s hR
      refine cl_SiN (As := [.int x4, .int 0, .int 4]) (rest := []) (wc := []) (wr := [(a_refusals, .inl (cI, 7, .inl refusalsA)), (a_size, .inl (cI, 5, .inl sizeA)), (a_tight, .inl (cI, 5, .inl tightA)), (a_kind, .inl (cI, 5, .inl kindA)), (a_t, .inr (6, [.int t_hand, .int t_first, .int t_wide, .int t_rim, .int t_fill, .int t_wall, .int t_ceiling, .int t_puff, .int t_period, .int t_second, .int t_score, .int t_thrown, .int t_balls, .ref a_kind, .ref a_size, .ref a_tight, .int t_letters, .ref a_letter, .int t_at, .int t_value, .int t_inRow, .ref a_row, .ref a_refusals, .int t_imaged, .ref a_image, .ref a_ahead, .int t_end, .int t_cell, .int t_steps, .int t_highest, .int t_struck]))]) ⟨hx, hb, hml, hown, hts⟩ (kX6_within l dC dI cI H.size x4 0 4 r5 hu6) (cwS 3 hts gX6_fly_X6_within rfl rfl rfl (by decide +kernel) ⟨Nat.le_of_ble_eq_true rfl, Nat.le_of_ble_eq_true rfl⟩) hK hN hP hD hS hA [] [0, 1, 2, 3, 4] rfl rfl rfl rfl rfl (by decide) rfl hl.1 rfl (Nat.le_of_ble_eq_true rfl) dX6_fly_38 (fun H locs hP hD hS => ?_)
      have hP : va_P (dC, dI) vwCl [(a_refusals, .inl (cI, 7, .inl refusalsA)), (a_size, .inl (cI, 5, .inl sizeA)), (a_tight, .inl (cI, 5, .inl tightA)), (a_kind, .inl (cI, 5, .inl kindA)), (a_t, .inr (6, [.int t_hand, .int t_first, .int t_wide, .int t_rim, .int t_fill, .int t_wall, .int t_ceiling, .int t_puff, .int t_period, .int t_second, .int t_score, .int t_thrown, .int t_balls, .ref a_kind, .ref a_size, .ref a_tight, .int t_letters, .ref a_letter, .int t_at, .int t_value, .int t_inRow, .ref a_row, .ref a_refusals, .int t_imaged, .ref a_image, .ref a_ahead, .int t_end, .int t_cell, .int t_steps, .int t_highest, .int t_struck]))] H := hP
      have hD : va_D A [(a_refusals, .inl (cI, 7, .inl refusalsA)), (a_size, .inl (cI, 5, .inl sizeA)), (a_tight, .inl (cI, 5, .inl tightA)), (a_kind, .inl (cI, 5, .inl kindA)), (a_t, .inr (6, [.int t_hand, .int t_first, .int t_wide, .int t_rim, .int t_fill, .int t_wall, .int t_ceiling, .int t_puff, .int t_period, .int t_second, .int t_score, .int t_thrown, .int t_balls, .ref a_kind, .ref a_size, .ref a_tight, .int t_letters, .ref a_letter, .int t_at, .int t_value, .int t_inRow, .ref a_row, .ref a_refusals, .int t_imaged, .ref a_image, .ref a_ahead, .int t_end, .int t_cell, .int t_steps, .int t_highest, .int t_struck]))] := hD
      refine lv_if_ne (tgt := 51) hx hb dX6_fly_41 (by decide) (fun c41 => ?_) (fun c41 => ?_)
      · have hR := (if_neg c41).symm.trans hR
        refine lv_aload_n hx hb dX6_fly_51 rfl (lv_at hl 1 rfl) ?_
        refine lv_iload_n hx hb dX6_fly_52 rfl (lv_at hl 2 rfl) ?_
        refine lv_iload_n hx hb dX6_fly_53 rfl (lv_at hl 3 rfl) ?_
        refine lv_iload_n hx hb dX6_fly_54 rfl (lv_at hl 4 rfl) ?_
        refine lv_aload_n hx hb dX6_fly_55 rfl (lv_at hl 1 rfl) ?_
        refine va_get (D := (dC, dI)) (ci := 6) (v := .int t_second) (C := RX6) (T := TX6) (N := 31) hx hb hts hinX6 hown hK hP 4 rfl rfl 9 (by decide) (hts (.fieldLink RX6 149 "PaperInBinModel" "second" "I") (by decide +kernel)) (fun _ h9 => h9) rfl dX6_fly_56 ?_
        obtain ⟨r7, w8, w9, w10, w11, w12, hu13, hR⟩ := b6_s hR
        refine cl_ViT (As := [.int x1, .int x2, .int x3, .int t_second]) (rest := []) (wc := [(a_t, .inr (6, [.int t_hand, .int t_first, .int t_wide, .int t_rim, .int t_fill, .int t_wall, .int t_ceiling, .int t_puff, .int t_period, .int t_second, .int t_score, .int t_thrown, .int t_balls, .ref a_kind, .ref a_size, .ref a_tight, .int t_letters, .ref a_letter, .int t_at, .int t_value, .int t_inRow, .ref a_row, .ref a_refusals, .int t_imaged, .ref a_image, .ref a_ahead, .int t_end, .int t_cell, .int t_steps, .int t_highest, .int t_struck])), (a_size, .inl (cI, 5, .inl sizeA)), (a_tight, .inl (cI, 5, .inl tightA)), (a_kind, .inl (cI, 5, .inl kindA))]) (wr := [(a_refusals, .inl (cI, 7, .inl refusalsA))]) ⟨hx, hb, hml, hown, hts⟩ (kX6_flies l dC dI cI a_t a_kind a_size a_tight a_letter a_row a_refusals a_image a_ahead H.size x1 x2 x3 t_second t_hand t_first t_wide t_rim t_fill t_wall t_ceiling t_puff t_period t_second t_score t_thrown t_balls t_letters t_at t_value t_inRow t_imaged t_end t_cell t_steps t_highest t_struck sizeA tightA kindA (r7, w8, w9, w10, w11, w12) hu13) (cwV 4 hts gX6_fly_X6_flies rfl rfl rfl (by decide +kernel) ⟨Nat.le_of_ble_eq_true rfl, Nat.le_of_ble_eq_true rfl⟩) hK hN hP hD hS hA (va_recv hK hP (ci := 6) (q0 := 4) rfl rfl) [4, 1, 2, 3] [0] rfl rfl rfl rfl rfl (by decide) rfl hl.1 rfl (Nat.le_of_ble_eq_true rfl) dX6_fly_59 (fun H locs hP hD hS => ?_)
        have hP : va_P (dC, dI) vwCl [(a_refusals, .inl (cI, 7, .inl refusalsA)), (a_t, .inr (6, [.int t_hand, .int t_first, .int t_wide, .int t_rim, .int t_fill, .int t_wall, .int t_ceiling, .int t_puff, .int t_period, .int t_second, .int t_score, .int t_thrown, .int t_balls, .ref a_kind, .ref a_size, .ref a_tight, .int t_letters, .ref a_letter, .int t_at, .int t_value, .int t_inRow, .ref a_row, .ref a_refusals, .int t_imaged, .ref a_image, .ref a_ahead, .int w8, .int w9, .int w10, .int w11, .int w12])), (a_size, .inl (cI, 5, .inl sizeA)), (a_tight, .inl (cI, 5, .inl tightA)), (a_kind, .inl (cI, 5, .inl kindA))] H := hP
        have hD : va_D A [(a_refusals, .inl (cI, 7, .inl refusalsA)), (a_t, .inr (6, [.int t_hand, .int t_first, .int t_wide, .int t_rim, .int t_fill, .int t_wall, .int t_ceiling, .int t_puff, .int t_period, .int t_second, .int t_score, .int t_thrown, .int t_balls, .ref a_kind, .ref a_size, .ref a_tight, .int t_letters, .ref a_letter, .int t_at, .int t_value, .int t_inRow, .ref a_row, .ref a_refusals, .int t_imaged, .ref a_image, .ref a_ahead, .int w8, .int w9, .int w10, .int w11, .int w12])), (a_size, .inl (cI, 5, .inl sizeA)), (a_tight, .inl (cI, 5, .inl tightA)), (a_kind, .inl (cI, 5, .inl kindA))] := hD
        refine lv_pop hx hb dX6_fly_62 rfl ?_
        refine lv_iload hx hb dX6_fly_63 (lv_at hl 5 rfl) ?_
        refine lv_if_ne (tgt := 75) hx hb dX6_fly_65 (by decide) (fun c65 => ?_) (fun c65 => ?_)
        · have hR := (if_neg c65).symm.trans hR
          refine lv_iload hx hb dX6_fly_75 (lv_at hl 5 rfl) ?_
          refine lv_iconst (v := 1) hx hb dX6_fly_77 (by decide) ?_
          refine lv_icmp_ne (tgt := 88) hx hb dX6_fly_78 (by decide) (fun c78 => ?_) (fun c78 => ?_)
          · have hR := (if_neg c78).symm.trans hR
            refine lv_iload hx hb dX6_fly_88 (lv_at hl 5 rfl) ?_
            refine lv_iconst (v := 2) hx hb dX6_fly_90 (by decide) ?_
            refine lv_icmp_ne (tgt := 101) hx hb dX6_fly_91 (by decide) (fun c91 => ?_) (fun c91 => ?_)
            · have hR := (if_neg c91).symm.trans hR
              refine lv_iload hx hb dX6_fly_101 (lv_at hl 5 rfl) ?_
              refine lv_iconst (v := 3) hx hb dX6_fly_103 (by decide) ?_
              refine lv_icmp_ne (tgt := 114) hx hb dX6_fly_104 (by decide) (fun c104 => ?_) (fun c104 => ?_)
              · have hR := (if_neg c104).symm.trans hR
                refine lv_aload_n hx hb dX6_fly_114 rfl (lv_at hl 1 rfl) ?_
                refine va_get (D := (dC, dI)) (ci := 6) (v := .int w12) (C := RX6) (T := TX6) (N := 31) hx hb hts hinX6 hown hK hP 1 rfl rfl 30 (by decide) (hts (.fieldLink RX6 140 "PaperInBinModel" "struck" "I") (by decide +kernel)) (fun _ h9 => h9) rfl dX6_fly_115 ?_
                have hP := hP.sub (ws' := [(a_t, .inr (6, [.int t_hand, .int t_first, .int t_wide, .int t_rim, .int t_fill, .int t_wall, .int t_ceiling, .int t_puff, .int t_period, .int t_second, .int t_score, .int t_thrown, .int t_balls, .ref a_kind, .ref a_size, .ref a_tight, .int t_letters, .ref a_letter, .int t_at, .int t_value, .int t_inRow, .ref a_row, .ref a_refusals, .int t_imaged, .ref a_image, .ref a_ahead, .int w8, .int w9, .int w10, .int w11, .int w12])), (a_refusals, .inl (cI, 7, .inl refusalsA)), (a_size, .inl (cI, 5, .inl sizeA)), (a_tight, .inl (cI, 5, .inl tightA)), (a_kind, .inl (cI, 5, .inl kindA))]) [1, 0, 2, 3, 4] rfl
                have hD := hD.sub (ws' := [(a_t, .inr (6, [.int t_hand, .int t_first, .int t_wide, .int t_rim, .int t_fill, .int t_wall, .int t_ceiling, .int t_puff, .int t_period, .int t_second, .int t_score, .int t_thrown, .int t_balls, .ref a_kind, .ref a_size, .ref a_tight, .int t_letters, .ref a_letter, .int t_at, .int t_value, .int t_inRow, .ref a_row, .ref a_refusals, .int t_imaged, .ref a_image, .ref a_ahead, .int w8, .int w9, .int w10, .int w11, .int w12])), (a_refusals, .inl (cI, 7, .inl refusalsA)), (a_size, .inl (cI, 5, .inl sizeA)), (a_tight, .inl (cI, 5, .inl tightA)), (a_kind, .inl (cI, 5, .inl kindA))]) [1, 0, 2, 3, 4] (by decide) rfl
                subst hQ
                subst hAe
                exact W.iret (v := w12) hx hb hr (fun t ht hW => ⟨⟨w12, (w8, w9, w10, w11, w12, refusalsA), rfl, Option.some.inj hR, by rw [ht]; exact hP, hD⟩, hS.F ht⟩) hS.2.2 dX6_fly_118
              · have hR := (if_pos c104).symm.trans hR
                refine lv_aload_n hx hb dX6_fly_107 rfl (lv_at hl 1 rfl) ?_
                refine va_get (D := (dC, dI)) (ci := 6) (v := .int w11) (C := RX6) (T := TX6) (N := 31) hx hb hts hinX6 hown hK hP 1 rfl rfl 29 (by decide) (hts (.fieldLink RX6 137 "PaperInBinModel" "highest" "I") (by decide +kernel)) (fun _ h9 => h9) rfl dX6_fly_108 ?_
                refine lv_goto (tgt := 118) hx hb dX6_fly_111 (by decide) ?_
                have hP := hP.sub (ws' := [(a_t, .inr (6, [.int t_hand, .int t_first, .int t_wide, .int t_rim, .int t_fill, .int t_wall, .int t_ceiling, .int t_puff, .int t_period, .int t_second, .int t_score, .int t_thrown, .int t_balls, .ref a_kind, .ref a_size, .ref a_tight, .int t_letters, .ref a_letter, .int t_at, .int t_value, .int t_inRow, .ref a_row, .ref a_refusals, .int t_imaged, .ref a_image, .ref a_ahead, .int w8, .int w9, .int w10, .int w11, .int w12])), (a_refusals, .inl (cI, 7, .inl refusalsA)), (a_size, .inl (cI, 5, .inl sizeA)), (a_tight, .inl (cI, 5, .inl tightA)), (a_kind, .inl (cI, 5, .inl kindA))]) [1, 0, 2, 3, 4] rfl
                have hD := hD.sub (ws' := [(a_t, .inr (6, [.int t_hand, .int t_first, .int t_wide, .int t_rim, .int t_fill, .int t_wall, .int t_ceiling, .int t_puff, .int t_period, .int t_second, .int t_score, .int t_thrown, .int t_balls, .ref a_kind, .ref a_size, .ref a_tight, .int t_letters, .ref a_letter, .int t_at, .int t_value, .int t_inRow, .ref a_row, .ref a_refusals, .int t_imaged, .ref a_image, .ref a_ahead, .int w8, .int w9, .int w10, .int w11, .int w12])), (a_refusals, .inl (cI, 7, .inl refusalsA)), (a_size, .inl (cI, 5, .inl sizeA)), (a_tight, .inl (cI, 5, .inl tightA)), (a_kind, .inl (cI, 5, .inl kindA))]) [1, 0, 2, 3, 4] (by decide) rfl
                subst hQ
                subst hAe
                exact W.iret (v := w11) hx hb hr (fun t ht hW => ⟨⟨w11, (w8, w9, w10, w11, w12, refusalsA), rfl, Option.some.inj hR, by rw [ht]; exact hP, hD⟩, hS.F ht⟩) hS.2.2 dX6_fly_118
            · have hR := (if_pos c91).symm.trans hR
              refine lv_aload_n hx hb dX6_fly_94 rfl (lv_at hl 1 rfl) ?_
              refine va_get (D := (dC, dI)) (ci := 6) (v := .int w10) (C := RX6) (T := TX6) (N := 31) hx hb hts hinX6 hown hK hP 1 rfl rfl 28 (by decide) (hts (.fieldLink RX6 134 "PaperInBinModel" "steps" "I") (by decide +kernel)) (fun _ h9 => h9) rfl dX6_fly_95 ?_
              refine lv_goto (tgt := 118) hx hb dX6_fly_98 (by decide) ?_
              have hP := hP.sub (ws' := [(a_t, .inr (6, [.int t_hand, .int t_first, .int t_wide, .int t_rim, .int t_fill, .int t_wall, .int t_ceiling, .int t_puff, .int t_period, .int t_second, .int t_score, .int t_thrown, .int t_balls, .ref a_kind, .ref a_size, .ref a_tight, .int t_letters, .ref a_letter, .int t_at, .int t_value, .int t_inRow, .ref a_row, .ref a_refusals, .int t_imaged, .ref a_image, .ref a_ahead, .int w8, .int w9, .int w10, .int w11, .int w12])), (a_refusals, .inl (cI, 7, .inl refusalsA)), (a_size, .inl (cI, 5, .inl sizeA)), (a_tight, .inl (cI, 5, .inl tightA)), (a_kind, .inl (cI, 5, .inl kindA))]) [1, 0, 2, 3, 4] rfl
              have hD := hD.sub (ws' := [(a_t, .inr (6, [.int t_hand, .int t_first, .int t_wide, .int t_rim, .int t_fill, .int t_wall, .int t_ceiling, .int t_puff, .int t_period, .int t_second, .int t_score, .int t_thrown, .int t_balls, .ref a_kind, .ref a_size, .ref a_tight, .int t_letters, .ref a_letter, .int t_at, .int t_value, .int t_inRow, .ref a_row, .ref a_refusals, .int t_imaged, .ref a_image, .ref a_ahead, .int w8, .int w9, .int w10, .int w11, .int w12])), (a_refusals, .inl (cI, 7, .inl refusalsA)), (a_size, .inl (cI, 5, .inl sizeA)), (a_tight, .inl (cI, 5, .inl tightA)), (a_kind, .inl (cI, 5, .inl kindA))]) [1, 0, 2, 3, 4] (by decide) rfl
              subst hQ
              subst hAe
              exact W.iret (v := w10) hx hb hr (fun t ht hW => ⟨⟨w10, (w8, w9, w10, w11, w12, refusalsA), rfl, Option.some.inj hR, by rw [ht]; exact hP, hD⟩, hS.F ht⟩) hS.2.2 dX6_fly_118
          · have hR := (if_pos c78).symm.trans hR
            refine lv_aload_n hx hb dX6_fly_81 rfl (lv_at hl 1 rfl) ?_
            refine va_get (D := (dC, dI)) (ci := 6) (v := .int w9) (C := RX6) (T := TX6) (N := 31) hx hb hts hinX6 hown hK hP 1 rfl rfl 27 (by decide) (hts (.fieldLink RX6 131 "PaperInBinModel" "cell" "I") (by decide +kernel)) (fun _ h9 => h9) rfl dX6_fly_82 ?_
            refine lv_goto (tgt := 118) hx hb dX6_fly_85 (by decide) ?_
            have hP := hP.sub (ws' := [(a_t, .inr (6, [.int t_hand, .int t_first, .int t_wide, .int t_rim, .int t_fill, .int t_wall, .int t_ceiling, .int t_puff, .int t_period, .int t_second, .int t_score, .int t_thrown, .int t_balls, .ref a_kind, .ref a_size, .ref a_tight, .int t_letters, .ref a_letter, .int t_at, .int t_value, .int t_inRow, .ref a_row, .ref a_refusals, .int t_imaged, .ref a_image, .ref a_ahead, .int w8, .int w9, .int w10, .int w11, .int w12])), (a_refusals, .inl (cI, 7, .inl refusalsA)), (a_size, .inl (cI, 5, .inl sizeA)), (a_tight, .inl (cI, 5, .inl tightA)), (a_kind, .inl (cI, 5, .inl kindA))]) [1, 0, 2, 3, 4] rfl
            have hD := hD.sub (ws' := [(a_t, .inr (6, [.int t_hand, .int t_first, .int t_wide, .int t_rim, .int t_fill, .int t_wall, .int t_ceiling, .int t_puff, .int t_period, .int t_second, .int t_score, .int t_thrown, .int t_balls, .ref a_kind, .ref a_size, .ref a_tight, .int t_letters, .ref a_letter, .int t_at, .int t_value, .int t_inRow, .ref a_row, .ref a_refusals, .int t_imaged, .ref a_image, .ref a_ahead, .int w8, .int w9, .int w10, .int w11, .int w12])), (a_refusals, .inl (cI, 7, .inl refusalsA)), (a_size, .inl (cI, 5, .inl sizeA)), (a_tight, .inl (cI, 5, .inl tightA)), (a_kind, .inl (cI, 5, .inl kindA))]) [1, 0, 2, 3, 4] (by decide) rfl
            subst hQ
            subst hAe
            exact W.iret (v := w9) hx hb hr (fun t ht hW => ⟨⟨w9, (w8, w9, w10, w11, w12, refusalsA), rfl, Option.some.inj hR, by rw [ht]; exact hP, hD⟩, hS.F ht⟩) hS.2.2 dX6_fly_118
        · have hR := (if_pos c65).symm.trans hR
          refine lv_aload_n hx hb dX6_fly_68 rfl (lv_at hl 1 rfl) ?_
          refine va_get (D := (dC, dI)) (ci := 6) (v := .int w8) (C := RX6) (T := TX6) (N := 31) hx hb hts hinX6 hown hK hP 1 rfl rfl 26 (by decide) (hts (.fieldLink RX6 143 "PaperInBinModel" "end" "I") (by decide +kernel)) (fun _ h9 => h9) rfl dX6_fly_69 ?_
          refine lv_goto (tgt := 118) hx hb dX6_fly_72 (by decide) ?_
          have hP := hP.sub (ws' := [(a_t, .inr (6, [.int t_hand, .int t_first, .int t_wide, .int t_rim, .int t_fill, .int t_wall, .int t_ceiling, .int t_puff, .int t_period, .int t_second, .int t_score, .int t_thrown, .int t_balls, .ref a_kind, .ref a_size, .ref a_tight, .int t_letters, .ref a_letter, .int t_at, .int t_value, .int t_inRow, .ref a_row, .ref a_refusals, .int t_imaged, .ref a_image, .ref a_ahead, .int w8, .int w9, .int w10, .int w11, .int w12])), (a_refusals, .inl (cI, 7, .inl refusalsA)), (a_size, .inl (cI, 5, .inl sizeA)), (a_tight, .inl (cI, 5, .inl tightA)), (a_kind, .inl (cI, 5, .inl kindA))]) [1, 0, 2, 3, 4] rfl
          have hD := hD.sub (ws' := [(a_t, .inr (6, [.int t_hand, .int t_first, .int t_wide, .int t_rim, .int t_fill, .int t_wall, .int t_ceiling, .int t_puff, .int t_period, .int t_second, .int t_score, .int t_thrown, .int t_balls, .ref a_kind, .ref a_size, .ref a_tight, .int t_letters, .ref a_letter, .int t_at, .int t_value, .int t_inRow, .ref a_row, .ref a_refusals, .int t_imaged, .ref a_image, .ref a_ahead, .int w8, .int w9, .int w10, .int w11, .int w12])), (a_refusals, .inl (cI, 7, .inl refusalsA)), (a_size, .inl (cI, 5, .inl sizeA)), (a_tight, .inl (cI, 5, .inl tightA)), (a_kind, .inl (cI, 5, .inl kindA))]) [1, 0, 2, 3, 4] (by decide) rfl
          subst hQ
          subst hAe
          exact W.iret (v := w8) hx hb hr (fun t ht hW => ⟨⟨w8, (w8, w9, w10, w11, w12, refusalsA), rfl, Option.some.inj hR, by rw [ht]; exact hP, hD⟩, hS.F ht⟩) hS.2.2 dX6_fly_118
      · have hR := (if_pos c41).symm.trans hR
        refine lv_aload_n hx hb dX6_fly_44 rfl (lv_at hl 1 rfl) ?_
        refine lv_bipush (v := (-2)) hx hb dX6_fly_45 (by decide) ?_
        obtain ⟨r14, w15, hu16, hR⟩ := b2_s hR
        refine cl_ViT (As := [.int (-2)]) (rest := []) (wc := [(a_t, .inr (6, [.int t_hand, .int t_first, .int t_wide, .int t_rim, .int t_fill, .int t_wall, .int t_ceiling, .int t_puff, .int t_period, .int t_second, .int t_score, .int t_thrown, .int t_balls, .ref a_kind, .ref a_size, .ref a_tight, .int t_letters, .ref a_letter, .int t_at, .int t_value, .int t_inRow, .ref a_row, .ref a_refusals, .int t_imaged, .ref a_image, .ref a_ahead, .int t_end, .int t_cell, .int t_steps, .int t_highest, .int t_struck])), (a_refusals, .inl (cI, 7, .inl refusalsA))]) (wr := [(a_size, .inl (cI, 5, .inl sizeA)), (a_tight, .inl (cI, 5, .inl tightA)), (a_kind, .inl (cI, 5, .inl kindA))]) ⟨hx, hb, hml, hown, hts⟩ (kX6_no l dC dI cI a_t a_kind a_size a_tight a_letter a_row a_refusals a_image a_ahead H.size (-2) t_hand t_first t_wide t_rim t_fill t_wall t_ceiling t_puff t_period t_second t_score t_thrown t_balls t_letters t_at t_value t_inRow t_imaged t_end t_cell t_steps t_highest t_struck refusalsA (r14, w15) hu16) (cwV 1 hts gX6_fly_X6_no rfl rfl rfl (by decide +kernel) ⟨Nat.le_of_ble_eq_true rfl, Nat.le_of_ble_eq_true rfl⟩) hK hN hP hD hS hA (va_recv hK hP (ci := 6) (q0 := 4) rfl rfl) [4, 0] [1, 2, 3] rfl rfl rfl rfl rfl (by decide) rfl hl.1 rfl (Nat.le_of_ble_eq_true rfl) dX6_fly_47 (fun H locs hP hD hS => ?_)
        have hP : va_P (dC, dI) vwCl [(a_size, .inl (cI, 5, .inl sizeA)), (a_tight, .inl (cI, 5, .inl tightA)), (a_kind, .inl (cI, 5, .inl kindA)), (a_t, .inr (6, [.int t_hand, .int t_first, .int t_wide, .int t_rim, .int t_fill, .int t_wall, .int t_ceiling, .int t_puff, .int t_period, .int t_second, .int t_score, .int t_thrown, .int t_balls, .ref a_kind, .ref a_size, .ref a_tight, .int t_letters, .ref a_letter, .int t_at, .int t_value, .int t_inRow, .ref a_row, .ref a_refusals, .int t_imaged, .ref a_image, .ref a_ahead, .int t_end, .int t_cell, .int t_steps, .int t_highest, .int t_struck])), (a_refusals, .inl (cI, 7, .inl w15))] H := hP
        have hD : va_D A [(a_size, .inl (cI, 5, .inl sizeA)), (a_tight, .inl (cI, 5, .inl tightA)), (a_kind, .inl (cI, 5, .inl kindA)), (a_t, .inr (6, [.int t_hand, .int t_first, .int t_wide, .int t_rim, .int t_fill, .int t_wall, .int t_ceiling, .int t_puff, .int t_period, .int t_second, .int t_score, .int t_thrown, .int t_balls, .ref a_kind, .ref a_size, .ref a_tight, .int t_letters, .ref a_letter, .int t_at, .int t_value, .int t_inRow, .ref a_row, .ref a_refusals, .int t_imaged, .ref a_image, .ref a_ahead, .int t_end, .int t_cell, .int t_steps, .int t_highest, .int t_struck])), (a_refusals, .inl (cI, 7, .inl w15))] := hD
        have hP := hP.sub (ws' := [(a_t, .inr (6, [.int t_hand, .int t_first, .int t_wide, .int t_rim, .int t_fill, .int t_wall, .int t_ceiling, .int t_puff, .int t_period, .int t_second, .int t_score, .int t_thrown, .int t_balls, .ref a_kind, .ref a_size, .ref a_tight, .int t_letters, .ref a_letter, .int t_at, .int t_value, .int t_inRow, .ref a_row, .ref a_refusals, .int t_imaged, .ref a_image, .ref a_ahead, .int t_end, .int t_cell, .int t_steps, .int t_highest, .int t_struck])), (a_refusals, .inl (cI, 7, .inl w15)), (a_size, .inl (cI, 5, .inl sizeA)), (a_tight, .inl (cI, 5, .inl tightA)), (a_kind, .inl (cI, 5, .inl kindA))]) [3, 4, 0, 1, 2] rfl
        have hD := hD.sub (ws' := [(a_t, .inr (6, [.int t_hand, .int t_first, .int t_wide, .int t_rim, .int t_fill, .int t_wall, .int t_ceiling, .int t_puff, .int t_period, .int t_second, .int t_score, .int t_thrown, .int t_balls, .ref a_kind, .ref a_size, .ref a_tight, .int t_letters, .ref a_letter, .int t_at, .int t_value, .int t_inRow, .ref a_row, .ref a_refusals, .int t_imaged, .ref a_image, .ref a_ahead, .int t_end, .int t_cell, .int t_steps, .int t_highest, .int t_struck])), (a_refusals, .inl (cI, 7, .inl w15)), (a_size, .inl (cI, 5, .inl sizeA)), (a_tight, .inl (cI, 5, .inl tightA)), (a_kind, .inl (cI, 5, .inl kindA))]) [3, 4, 0, 1, 2] (by decide) rfl
        subst hQ
        subst hAe
        exact W.iret (v := r14) hx hb hr (fun t ht hW => ⟨⟨r14, (t_end, t_cell, t_steps, t_highest, t_struck, w15), rfl, Option.some.inj hR, by rw [ht]; exact hP, hD⟩, hS.F ht⟩) hS.2.2 dX6_fly_50
    · have hR := (if_neg c24).symm.trans hR
      refine lv_aload_n hx hb dX6_fly_27 rfl (lv_at hl 1 rfl) ?_
      refine lv_iload hx hb dX6_fly_28 (lv_at hl 0 rfl) ?_
      obtain ⟨r17, w18, hu19, hR⟩ := b2_s hR
      refine cl_ViT (As := [.int r3]) (rest := []) (wc := [(a_t, .inr (6, [.int t_hand, .int t_first, .int t_wide, .int t_rim, .int t_fill, .int t_wall, .int t_ceiling, .int t_puff, .int t_period, .int t_second, .int t_score, .int t_thrown, .int t_balls, .ref a_kind, .ref a_size, .ref a_tight, .int t_letters, .ref a_letter, .int t_at, .int t_value, .int t_inRow, .ref a_row, .ref a_refusals, .int t_imaged, .ref a_image, .ref a_ahead, .int t_end, .int t_cell, .int t_steps, .int t_highest, .int t_struck])), (a_refusals, .inl (cI, 7, .inl refusalsA))]) (wr := [(a_size, .inl (cI, 5, .inl sizeA)), (a_tight, .inl (cI, 5, .inl tightA)), (a_kind, .inl (cI, 5, .inl kindA))]) ⟨hx, hb, hml, hown, hts⟩ (kX6_no l dC dI cI a_t a_kind a_size a_tight a_letter a_row a_refusals a_image a_ahead H.size r3 t_hand t_first t_wide t_rim t_fill t_wall t_ceiling t_puff t_period t_second t_score t_thrown t_balls t_letters t_at t_value t_inRow t_imaged t_end t_cell t_steps t_highest t_struck refusalsA (r17, w18) hu19) (cwV 1 hts gX6_fly_X6_no rfl rfl rfl (by decide +kernel) ⟨Nat.le_of_ble_eq_true rfl, Nat.le_of_ble_eq_true rfl⟩) hK hN hP hD hS hA (va_recv hK hP (ci := 6) (q0 := 4) rfl rfl) [4, 0] [1, 2, 3] rfl rfl rfl rfl rfl (by decide) rfl hl.1 rfl (Nat.le_of_ble_eq_true rfl) dX6_fly_30 (fun H locs hP hD hS => ?_)
      have hP : va_P (dC, dI) vwCl [(a_size, .inl (cI, 5, .inl sizeA)), (a_tight, .inl (cI, 5, .inl tightA)), (a_kind, .inl (cI, 5, .inl kindA)), (a_t, .inr (6, [.int t_hand, .int t_first, .int t_wide, .int t_rim, .int t_fill, .int t_wall, .int t_ceiling, .int t_puff, .int t_period, .int t_second, .int t_score, .int t_thrown, .int t_balls, .ref a_kind, .ref a_size, .ref a_tight, .int t_letters, .ref a_letter, .int t_at, .int t_value, .int t_inRow, .ref a_row, .ref a_refusals, .int t_imaged, .ref a_image, .ref a_ahead, .int t_end, .int t_cell, .int t_steps, .int t_highest, .int t_struck])), (a_refusals, .inl (cI, 7, .inl w18))] H := hP
      have hD : va_D A [(a_size, .inl (cI, 5, .inl sizeA)), (a_tight, .inl (cI, 5, .inl tightA)), (a_kind, .inl (cI, 5, .inl kindA)), (a_t, .inr (6, [.int t_hand, .int t_first, .int t_wide, .int t_rim, .int t_fill, .int t_wall, .int t_ceiling, .int t_puff, .int t_period, .int t_second, .int t_score, .int t_thrown, .int t_balls, .ref a_kind, .ref a_size, .ref a_tight, .int t_letters, .ref a_letter, .int t_at, .int t_value, .int t_inRow, .ref a_row, .ref a_refusals, .int t_imaged, .ref a_image, .ref a_ahead, .int t_end, .int t_cell, .int t_steps, .int t_highest, .int t_struck])), (a_refusals, .inl (cI, 7, .inl w18))] := hD
      have hP := hP.sub (ws' := [(a_t, .inr (6, [.int t_hand, .int t_first, .int t_wide, .int t_rim, .int t_fill, .int t_wall, .int t_ceiling, .int t_puff, .int t_period, .int t_second, .int t_score, .int t_thrown, .int t_balls, .ref a_kind, .ref a_size, .ref a_tight, .int t_letters, .ref a_letter, .int t_at, .int t_value, .int t_inRow, .ref a_row, .ref a_refusals, .int t_imaged, .ref a_image, .ref a_ahead, .int t_end, .int t_cell, .int t_steps, .int t_highest, .int t_struck])), (a_refusals, .inl (cI, 7, .inl w18)), (a_size, .inl (cI, 5, .inl sizeA)), (a_tight, .inl (cI, 5, .inl tightA)), (a_kind, .inl (cI, 5, .inl kindA))]) [3, 4, 0, 1, 2] rfl
      have hD := hD.sub (ws' := [(a_t, .inr (6, [.int t_hand, .int t_first, .int t_wide, .int t_rim, .int t_fill, .int t_wall, .int t_ceiling, .int t_puff, .int t_period, .int t_second, .int t_score, .int t_thrown, .int t_balls, .ref a_kind, .ref a_size, .ref a_tight, .int t_letters, .ref a_letter, .int t_at, .int t_value, .int t_inRow, .ref a_row, .ref a_refusals, .int t_imaged, .ref a_image, .ref a_ahead, .int t_end, .int t_cell, .int t_steps, .int t_highest, .int t_struck])), (a_refusals, .inl (cI, 7, .inl w18)), (a_size, .inl (cI, 5, .inl sizeA)), (a_tight, .inl (cI, 5, .inl tightA)), (a_kind, .inl (cI, 5, .inl kindA))]) [3, 4, 0, 1, 2] (by decide) rfl
      subst hQ
      subst hAe
      exact W.iret (v := r17) hx hb hr (fun t ht hW => ⟨⟨r17, (t_end, t_cell, t_steps, t_highest, t_struck, w18), rfl, Option.some.inj hR, by rw [ht]; exact hP, hD⟩, hS.F ht⟩) hS.2.2 dX6_fly_33
  · have hR := (if_pos c5).symm.trans hR
    refine lv_aload_n hx hb dX6_fly_8 rfl (lv_at hl 0 rfl) ?_
    refine lv_iconst (v := (-1)) hx hb dX6_fly_9 (by decide) ?_
    obtain ⟨r20, w21, hu22, hR⟩ := b2_s hR
    refine cl_ViT (As := [.int (-1)]) (rest := []) (wc := [(a_t, .inr (6, [.int t_hand, .int t_first, .int t_wide, .int t_rim, .int t_fill, .int t_wall, .int t_ceiling, .int t_puff, .int t_period, .int t_second, .int t_score, .int t_thrown, .int t_balls, .ref a_kind, .ref a_size, .ref a_tight, .int t_letters, .ref a_letter, .int t_at, .int t_value, .int t_inRow, .ref a_row, .ref a_refusals, .int t_imaged, .ref a_image, .ref a_ahead, .int t_end, .int t_cell, .int t_steps, .int t_highest, .int t_struck])), (a_refusals, .inl (cI, 7, .inl refusalsA))]) (wr := [(a_size, .inl (cI, 5, .inl sizeA)), (a_tight, .inl (cI, 5, .inl tightA)), (a_kind, .inl (cI, 5, .inl kindA))]) ⟨hx, hb, hml, hown, hts⟩ (kX6_no l dC dI cI a_t a_kind a_size a_tight a_letter a_row a_refusals a_image a_ahead H.size (-1) t_hand t_first t_wide t_rim t_fill t_wall t_ceiling t_puff t_period t_second t_score t_thrown t_balls t_letters t_at t_value t_inRow t_imaged t_end t_cell t_steps t_highest t_struck refusalsA (r20, w21) hu22) (cwV 1 hts gX6_fly_X6_no rfl rfl rfl (by decide +kernel) ⟨Nat.le_of_ble_eq_true rfl, Nat.le_of_ble_eq_true rfl⟩) hK hN hP hD hS hA (va_recv hK hP (ci := 6) (q0 := 4) rfl rfl) [4, 0] [1, 2, 3] rfl rfl rfl rfl rfl (by decide) rfl hl.1 rfl (Nat.le_of_ble_eq_true rfl) dX6_fly_10 (fun H locs hP hD hS => ?_)
    have hP : va_P (dC, dI) vwCl [(a_size, .inl (cI, 5, .inl sizeA)), (a_tight, .inl (cI, 5, .inl tightA)), (a_kind, .inl (cI, 5, .inl kindA)), (a_t, .inr (6, [.int t_hand, .int t_first, .int t_wide, .int t_rim, .int t_fill, .int t_wall, .int t_ceiling, .int t_puff, .int t_period, .int t_second, .int t_score, .int t_thrown, .int t_balls, .ref a_kind, .ref a_size, .ref a_tight, .int t_letters, .ref a_letter, .int t_at, .int t_value, .int t_inRow, .ref a_row, .ref a_refusals, .int t_imaged, .ref a_image, .ref a_ahead, .int t_end, .int t_cell, .int t_steps, .int t_highest, .int t_struck])), (a_refusals, .inl (cI, 7, .inl w21))] H := hP
    have hD : va_D A [(a_size, .inl (cI, 5, .inl sizeA)), (a_tight, .inl (cI, 5, .inl tightA)), (a_kind, .inl (cI, 5, .inl kindA)), (a_t, .inr (6, [.int t_hand, .int t_first, .int t_wide, .int t_rim, .int t_fill, .int t_wall, .int t_ceiling, .int t_puff, .int t_period, .int t_second, .int t_score, .int t_thrown, .int t_balls, .ref a_kind, .ref a_size, .ref a_tight, .int t_letters, .ref a_letter, .int t_at, .int t_value, .int t_inRow, .ref a_row, .ref a_refusals, .int t_imaged, .ref a_image, .ref a_ahead, .int t_end, .int t_cell, .int t_steps, .int t_highest, .int t_struck])), (a_refusals, .inl (cI, 7, .inl w21))] := hD
    have hP := hP.sub (ws' := [(a_t, .inr (6, [.int t_hand, .int t_first, .int t_wide, .int t_rim, .int t_fill, .int t_wall, .int t_ceiling, .int t_puff, .int t_period, .int t_second, .int t_score, .int t_thrown, .int t_balls, .ref a_kind, .ref a_size, .ref a_tight, .int t_letters, .ref a_letter, .int t_at, .int t_value, .int t_inRow, .ref a_row, .ref a_refusals, .int t_imaged, .ref a_image, .ref a_ahead, .int t_end, .int t_cell, .int t_steps, .int t_highest, .int t_struck])), (a_refusals, .inl (cI, 7, .inl w21)), (a_size, .inl (cI, 5, .inl sizeA)), (a_tight, .inl (cI, 5, .inl tightA)), (a_kind, .inl (cI, 5, .inl kindA))]) [3, 4, 0, 1, 2] rfl
    have hD := hD.sub (ws' := [(a_t, .inr (6, [.int t_hand, .int t_first, .int t_wide, .int t_rim, .int t_fill, .int t_wall, .int t_ceiling, .int t_puff, .int t_period, .int t_second, .int t_score, .int t_thrown, .int t_balls, .ref a_kind, .ref a_size, .ref a_tight, .int t_letters, .ref a_letter, .int t_at, .int t_value, .int t_inRow, .ref a_row, .ref a_refusals, .int t_imaged, .ref a_image, .ref a_ahead, .int t_end, .int t_cell, .int t_steps, .int t_highest, .int t_struck])), (a_refusals, .inl (cI, 7, .inl w21)), (a_size, .inl (cI, 5, .inl sizeA)), (a_tight, .inl (cI, 5, .inl tightA)), (a_kind, .inl (cI, 5, .inl kindA))]) [3, 4, 0, 1, 2] (by decide) rfl
    subst hQ
    subst hAe
    exact W.iret (v := r20) hx hb hr (fun t ht hW => ⟨⟨r20, (t_end, t_cell, t_steps, t_highest, t_struck, w21), rfl, Option.some.inj hR, by rw [ht]; exact hP, hD⟩, hS.F ht⟩) hS.2.2 dX6_fly_13
def fX6_goes (x1 : Int32) (x2 : Int32) (x3 : Int32) (t_hand : Int32) (t_first : Int32) (t_wide : Int32) (t_rim : Int32) (t_fill : Int32) (t_wall : Int32) (t_ceiling : Int32) (t_puff : Int32) (t_period : Int32) (t_second : Int32) (t_score : Int32) (t_thrown : Int32) (sizeA : Nat → Int32) (tightA : Nat → Int32) (kindA : Nat → Int32) : Option (Int32 × Int32 × Int32 × Int32 × Int32 × Int32 × Int32 × Int32 × Int32 × Int32) :=
  b6 (fX6_flies x1 x2 x3 t_second t_hand t_first t_wide t_rim t_fill t_wall t_ceiling t_puff t_period sizeA tightA kindA) (fun r1 w2 w3 w4 w5 w6 =>
  if r1 = 0 then (
   some (r1, (t_fill + 1), (t_second + 1), (t_score + 1), (t_thrown + 1), w2, w3, w4, w5, w6))
  else (
  some (r1, t_fill, (t_second + 1), t_score, (t_thrown + 1), w2, w3, w4, w5, w6)))
set_option maxHeartbeats 4000000 in
set_option maxRecDepth 100000 in
theorem kX6_goes (l : Launch) (dC : Nat → ClassId) (dI : Nat → Nat → Nat) (cI : ClassId) (a_t a_kind a_size a_tight a_letter a_row a_refusals a_image a_ahead : Nat) (sz : Nat) (x1 : Int32) (x2 : Int32) (x3 : Int32) (t_hand : Int32) (t_first : Int32) (t_wide : Int32) (t_rim : Int32) (t_fill : Int32) (t_wall : Int32) (t_ceiling : Int32) (t_puff : Int32) (t_period : Int32) (t_second : Int32) (t_score : Int32) (t_thrown : Int32) (t_balls : Int32) (t_letters : Int32) (t_at : Int32) (t_value : Int32) (t_inRow : Int32) (t_imaged : Int32) (t_end : Int32) (t_cell : Int32) (t_steps : Int32) (t_highest : Int32) (t_struck : Int32) (sizeA : Nat → Int32) (tightA : Nat → Int32) (kindA : Nat → Int32) (R : Int32 × Int32 × Int32 × Int32 × Int32 × Int32 × Int32 × Int32 × Int32 × Int32) (hR : fX6_goes x1 x2 x3 t_hand t_first t_wide t_rim t_fill t_wall t_ceiling t_puff t_period t_second t_score t_thrown sizeA tightA kindA = some R) : Met l yX6_goes wsX6_goes ({ frames := 3, cells := 0, slots := 0, locals := 71 } : Room) (va_Pc [.ref a_t, .int x1, .int x2, .int x3] (Wp (dC, dI) [(cI, .int)] [(a_t, .inr (6, [.int t_hand, .int t_first, .int t_wide, .int t_rim, .int t_fill, .int t_wall, .int t_ceiling, .int t_puff, .int t_period, .int t_second, .int t_score, .int t_thrown, .int t_balls, .ref a_kind, .ref a_size, .ref a_tight, .int t_letters, .ref a_letter, .int t_at, .int t_value, .int t_inRow, .ref a_row, .ref a_refusals, .int t_imaged, .ref a_image, .ref a_ahead, .int t_end, .int t_cell, .int t_steps, .int t_highest, .int t_struck])), (a_size, .inl (cI, 5, .inl sizeA)), (a_tight, .inl (cI, 5, .inl tightA)), (a_kind, .inl (cI, 5, .inl kindA))] sz)) (va_Qi (fun (r : Int32) (u : Int32 × Int32 × Int32 × Int32 × Int32 × Int32 × Int32 × Int32 × Int32) => (r, u) = R) (Wq (dC, dI) [(a_t, .inr (6, [.int t_hand, .int t_first, .int t_wide, .int t_rim, .int t_fill, .int t_wall, .int t_ceiling, .int t_puff, .int t_period, .int t_second, .int t_score, .int t_thrown, .int t_balls, .ref a_kind, .ref a_size, .ref a_tight, .int t_letters, .ref a_letter, .int t_at, .int t_value, .int t_inRow, .ref a_row, .ref a_refusals, .int t_imaged, .ref a_image, .ref a_ahead, .int t_end, .int t_cell, .int t_steps, .int t_highest, .int t_struck])), (a_size, .inl (cI, 5, .inl sizeA)), (a_tight, .inl (cI, 5, .inl tightA)), (a_kind, .inl (cI, 5, .inl kindA))] sz (fun (u : Int32 × Int32 × Int32 × Int32 × Int32 × Int32 × Int32 × Int32 × Int32) => ([(a_t, .inr (6, [.int t_hand, .int t_first, .int t_wide, .int t_rim, .int u.1, .int t_wall, .int t_ceiling, .int t_puff, .int t_period, .int u.2.1, .int u.2.2.1, .int u.2.2.2.1, .int t_balls, .ref a_kind, .ref a_size, .ref a_tight, .int t_letters, .ref a_letter, .int t_at, .int t_value, .int t_inRow, .ref a_row, .ref a_refusals, .int t_imaged, .ref a_image, .ref a_ahead, .int u.2.2.2.2.1, .int u.2.2.2.2.2.1, .int u.2.2.2.2.2.2.1, .int u.2.2.2.2.2.2.2.1, .int u.2.2.2.2.2.2.2.2])), (a_size, .inl (cI, 5, .inl sizeA)), (a_tight, .inl (cI, 5, .inl tightA)), (a_kind, .inl (cI, 5, .inl kindA))] : va_W))) (va_A [(a_t, .inr (6, [.int t_hand, .int t_first, .int t_wide, .int t_rim, .int t_fill, .int t_wall, .int t_ceiling, .int t_puff, .int t_period, .int t_second, .int t_score, .int t_thrown, .int t_balls, .ref a_kind, .ref a_size, .ref a_tight, .int t_letters, .ref a_letter, .int t_at, .int t_value, .int t_inRow, .ref a_row, .ref a_refusals, .int t_imaged, .ref a_image, .ref a_ahead, .int t_end, .int t_cell, .int t_steps, .int t_highest, .int t_struck])), (a_size, .inl (cI, 5, .inl sizeA)), (a_tight, .inl (cI, 5, .inl tightA)), (a_kind, .inl (cI, 5, .inl kindA))] sz)) 0 0 (va_A [(a_t, .inr (6, [.int t_hand, .int t_first, .int t_wide, .int t_rim, .int t_fill, .int t_wall, .int t_ceiling, .int t_puff, .int t_period, .int t_second, .int t_score, .int t_thrown, .int t_balls, .ref a_kind, .ref a_size, .ref a_tight, .int t_letters, .ref a_letter, .int t_at, .int t_value, .int t_inRow, .ref a_row, .ref a_refusals, .int t_imaged, .ref a_image, .ref a_ahead, .int t_end, .int t_cell, .int t_steps, .int t_highest, .int t_struck])), (a_size, .inl (cI, 5, .inl sizeA)), (a_tight, .inl (cI, 5, .inl tightA)), (a_kind, .inl (cI, 5, .inl kindA))] sz) := by
  refine Met.ofW (cc := cX6_goes) (maxL := 5) (ret := (some .int)) (by decide) rfl ?_
  intro p e s m args below meth c s₁ B hml hv
  obtain ⟨hargs, hsz, hP, hK, hD0, hN⟩ := hv
  have hx := B.exec
  have hb := B.bytes
  have hr := B.returns
  have hts := atoms_spec (ws := wsX6_goes) B.pre
  have hown : s.vm.findClass RX6 = some m.cls := findClass_of_methodNamed B.named
  have hlocks := B.notSynchronized
  subst hsz
  have hD := hD0.self (sz := s.heap.size)
  obtain ⟨A, hAe⟩ : ∃ A, A = va_A [(a_t, .inr (6, [.int t_hand, .int t_first, .int t_wide, .int t_rim, .int t_fill, .int t_wall, .int t_ceiling, .int t_puff, .int t_period, .int t_second, .int t_score, .int t_thrown, .int t_balls, .ref a_kind, .ref a_size, .ref a_tight, .int t_letters, .ref a_letter, .int t_at, .int t_value, .int t_inRow, .ref a_row, .ref a_refusals, .int t_imaged, .ref a_image, .ref a_ahead, .int t_end, .int t_cell, .int t_steps, .int t_highest, .int t_struck])), (a_size, .inl (cI, 5, .inl sizeA)), (a_tight, .inl (cI, 5, .inl tightA)), (a_kind, .inl (cI, 5, .inl kindA))] s.heap.size := ⟨_, rfl⟩
  rw [← hAe] at hD
  have hA : ∀ q : Nat, s.heap.size ≤ q → A q := fun q h => by rw [hAe]; exact Or.inr h
  have hS : va_S A s.heap s.heap [] := va_S.rf
  have hl := lv_entry ([.ref a_t, .int x1, .int x2, .int x3]) (n := 5) (Nat.le_of_ble_eq_true rfl)
  rw [e_of hargs, lg_entry_eq]
  generalize (lg_sl ([.ref a_t, .int x1, .int x2, .int x3]) ++ List.replicate (5 - (lg_sl ([.ref a_t, .int x1, .int x2, .int x3])).length) Slot.unset).toArray = ls at hl ⊢
  have hl : lv_has ls 5 [(0, .ref a_t), (1, .int x1), (2, .int x2), (3, .int x3)] := hl
  have hinX6 : ∀ w ∈ wsX60, w ∈ wsX6_goes := by decide +kernel
  refine w_q ({ frames := 3, cells := 0, slots := 0, locals := 71 } : Room) (fun Q0 hQ => ?_)
  rw [fX6_goes] at hR
  refine lv_aload_n hx hb dX6_goes_0 rfl (lv_at hl 0 rfl) ?_
  refine lv_iload_n hx hb dX6_goes_1 rfl (lv_at hl 1 rfl) ?_
  refine lv_iload_n hx hb dX6_goes_2 rfl (lv_at hl 2 rfl) ?_
  refine lv_iload_n hx hb dX6_goes_3 rfl (lv_at hl 3 rfl) ?_
  refine lv_aload_n hx hb dX6_goes_4 rfl (lv_at hl 0 rfl) ?_
  refine va_get (D := (dC, dI)) (ci := 6) (v := .int t_second) (C := RX6) (T := TX6) (N := 31) hx hb hts hinX6 hown hK hP 0 rfl rfl 9 (by decide) (hts (.fieldLink RX6 149 "PaperInBinModel" "second" "I") (by decide +kernel)) (fun _ h9 => h9) rfl dX6_goes_5 ?_
  obtain ⟨r1, w2, w3, w4, w5, w6, hu7, hR⟩ := b6_s hR
  refine cl_ViT (As := [.int x1, .int x2, .int x3, .int t_second]) (rest := []) (wc := [(a_t, .inr (6, [.int t_hand, .int t_first, .int t_wide, .int t_rim, .int t_fill, .int t_wall, .int t_ceiling, .int t_puff, .int t_period, .int t_second, .int t_score, .int t_thrown, .int t_balls, .ref a_kind, .ref a_size, .ref a_tight, .int t_letters, .ref a_letter, .int t_at, .int t_value, .int t_inRow, .ref a_row, .ref a_refusals, .int t_imaged, .ref a_image, .ref a_ahead, .int t_end, .int t_cell, .int t_steps, .int t_highest, .int t_struck])), (a_size, .inl (cI, 5, .inl sizeA)), (a_tight, .inl (cI, 5, .inl tightA)), (a_kind, .inl (cI, 5, .inl kindA))]) (wr := []) ⟨hx, hb, hml, hown, hts⟩ (kX6_flies l dC dI cI a_t a_kind a_size a_tight a_letter a_row a_refusals a_image a_ahead s.heap.size x1 x2 x3 t_second t_hand t_first t_wide t_rim t_fill t_wall t_ceiling t_puff t_period t_second t_score t_thrown t_balls t_letters t_at t_value t_inRow t_imaged t_end t_cell t_steps t_highest t_struck sizeA tightA kindA (r1, w2, w3, w4, w5, w6) hu7) (cwV 4 hts gX6_goes_X6_flies rfl rfl rfl (by decide +kernel) ⟨Nat.le_of_ble_eq_true rfl, Nat.le_of_ble_eq_true rfl⟩) hK hN hP hD hS hA (va_recv hK hP (ci := 6) (q0 := 0) rfl rfl) [0, 1, 2, 3] [] rfl rfl rfl rfl rfl (by decide) rfl hl.1 rfl (Nat.le_of_ble_eq_true rfl) dX6_goes_8 (fun H locs hP hD hS => ?_)
  have hP : va_P (dC, dI) vwCl [(a_t, .inr (6, [.int t_hand, .int t_first, .int t_wide, .int t_rim, .int t_fill, .int t_wall, .int t_ceiling, .int t_puff, .int t_period, .int t_second, .int t_score, .int t_thrown, .int t_balls, .ref a_kind, .ref a_size, .ref a_tight, .int t_letters, .ref a_letter, .int t_at, .int t_value, .int t_inRow, .ref a_row, .ref a_refusals, .int t_imaged, .ref a_image, .ref a_ahead, .int w2, .int w3, .int w4, .int w5, .int w6])), (a_size, .inl (cI, 5, .inl sizeA)), (a_tight, .inl (cI, 5, .inl tightA)), (a_kind, .inl (cI, 5, .inl kindA))] H := hP
  have hD : va_D A [(a_t, .inr (6, [.int t_hand, .int t_first, .int t_wide, .int t_rim, .int t_fill, .int t_wall, .int t_ceiling, .int t_puff, .int t_period, .int t_second, .int t_score, .int t_thrown, .int t_balls, .ref a_kind, .ref a_size, .ref a_tight, .int t_letters, .ref a_letter, .int t_at, .int t_value, .int t_inRow, .ref a_row, .ref a_refusals, .int t_imaged, .ref a_image, .ref a_ahead, .int w2, .int w3, .int w4, .int w5, .int w6])), (a_size, .inl (cI, 5, .inl sizeA)), (a_tight, .inl (cI, 5, .inl tightA)), (a_kind, .inl (cI, 5, .inl kindA))] := hD
  refine lv_istore (lv' := [(4, .int r1), (0, .ref a_t), (1, .int x1), (2, .int x2), (3, .int x3)]) hx hb dX6_goes_11 hl (by decide) rfl (fun ls hl => ?_)
  refine lv_aload_n hx hb dX6_goes_13 rfl (lv_at hl 1 rfl) ?_
  refine lv_dup hx hb dX6_goes_14 rfl ?_
  refine va_get (D := (dC, dI)) (ci := 6) (v := .int t_second) (C := RX6) (T := TX6) (N := 31) hx hb hts hinX6 hown hK hP 0 rfl rfl 9 (by decide) (hts (.fieldLink RX6 149 "PaperInBinModel" "second" "I") (by decide +kernel)) (fun _ h9 => h9) rfl dX6_goes_15 ?_
  refine lv_iconst (v := 1) hx hb dX6_goes_18 (by decide) ?_
  refine lv_iadd hx hb dX6_goes_19 ?_
  refine va_put (D := (dC, dI)) (ci := 6) (v := .int (t_second + 1)) (ty := .int) (C := RX6) (T := TX6) (N := 31) hx hb hts hinX6 tyX6 tyX6_ok nmX6 hown hK hP hD hS 0 rfl rfl 9 (by decide) (hts (.fieldLink RX6 149 "PaperInBinModel" "second" "I") (by decide +kernel)) (fun _ h9 => h9) rfl (tyX6_ok 9 (by decide)) rfl rfl (Nat.le_of_ble_eq_true rfl) dX6_goes_20 (fun H locs hP hD hS => ?_)
  have hP : va_P (dC, dI) vwCl [(a_t, .inr (6, [.int t_hand, .int t_first, .int t_wide, .int t_rim, .int t_fill, .int t_wall, .int t_ceiling, .int t_puff, .int t_period, .int (t_second + 1), .int t_score, .int t_thrown, .int t_balls, .ref a_kind, .ref a_size, .ref a_tight, .int t_letters, .ref a_letter, .int t_at, .int t_value, .int t_inRow, .ref a_row, .ref a_refusals, .int t_imaged, .ref a_image, .ref a_ahead, .int w2, .int w3, .int w4, .int w5, .int w6])), (a_size, .inl (cI, 5, .inl sizeA)), (a_tight, .inl (cI, 5, .inl tightA)), (a_kind, .inl (cI, 5, .inl kindA))] H := hP
  have hD : va_D A [(a_t, .inr (6, [.int t_hand, .int t_first, .int t_wide, .int t_rim, .int t_fill, .int t_wall, .int t_ceiling, .int t_puff, .int t_period, .int (t_second + 1), .int t_score, .int t_thrown, .int t_balls, .ref a_kind, .ref a_size, .ref a_tight, .int t_letters, .ref a_letter, .int t_at, .int t_value, .int t_inRow, .ref a_row, .ref a_refusals, .int t_imaged, .ref a_image, .ref a_ahead, .int w2, .int w3, .int w4, .int w5, .int w6])), (a_size, .inl (cI, 5, .inl sizeA)), (a_tight, .inl (cI, 5, .inl tightA)), (a_kind, .inl (cI, 5, .inl kindA))] := hD
  refine lv_aload_n hx hb dX6_goes_23 rfl (lv_at hl 1 rfl) ?_
  refine lv_dup hx hb dX6_goes_24 rfl ?_
  refine va_get (D := (dC, dI)) (ci := 6) (v := .int t_thrown) (C := RX6) (T := TX6) (N := 31) hx hb hts hinX6 hown hK hP 0 rfl rfl 11 (by decide) (hts (.fieldLink RX6 159 "PaperInBinModel" "thrown" "I") (by decide +kernel)) (fun _ h9 => h9) rfl dX6_goes_25 ?_
  refine lv_iconst (v := 1) hx hb dX6_goes_28 (by decide) ?_
  refine lv_iadd hx hb dX6_goes_29 ?_
  refine va_put (D := (dC, dI)) (ci := 6) (v := .int (t_thrown + 1)) (ty := .int) (C := RX6) (T := TX6) (N := 31) hx hb hts hinX6 tyX6 tyX6_ok nmX6 hown hK hP hD hS 0 rfl rfl 11 (by decide) (hts (.fieldLink RX6 159 "PaperInBinModel" "thrown" "I") (by decide +kernel)) (fun _ h9 => h9) rfl (tyX6_ok 11 (by decide)) rfl rfl (Nat.le_of_ble_eq_true rfl) dX6_goes_30 (fun H locs hP hD hS => ?_)
  have hP : va_P (dC, dI) vwCl [(a_t, .inr (6, [.int t_hand, .int t_first, .int t_wide, .int t_rim, .int t_fill, .int t_wall, .int t_ceiling, .int t_puff, .int t_period, .int (t_second + 1), .int t_score, .int (t_thrown + 1), .int t_balls, .ref a_kind, .ref a_size, .ref a_tight, .int t_letters, .ref a_letter, .int t_at, .int t_value, .int t_inRow, .ref a_row, .ref a_refusals, .int t_imaged, .ref a_image, .ref a_ahead, .int w2, .int w3, .int w4, .int w5, .int w6])), (a_size, .inl (cI, 5, .inl sizeA)), (a_tight, .inl (cI, 5, .inl tightA)), (a_kind, .inl (cI, 5, .inl kindA))] H := hP
  have hD : va_D A [(a_t, .inr (6, [.int t_hand, .int t_first, .int t_wide, .int t_rim, .int t_fill, .int t_wall, .int t_ceiling, .int t_puff, .int t_period, .int (t_second + 1), .int t_score, .int (t_thrown + 1), .int t_balls, .ref a_kind, .ref a_size, .ref a_tight, .int t_letters, .ref a_letter, .int t_at, .int t_value, .int t_inRow, .ref a_row, .ref a_refusals, .int t_imaged, .ref a_image, .ref a_ahead, .int w2, .int w3, .int w4, .int w5, .int w6])), (a_size, .inl (cI, 5, .inl sizeA)), (a_tight, .inl (cI, 5, .inl tightA)), (a_kind, .inl (cI, 5, .inl kindA))] := hD
  refine lv_iload hx hb dX6_goes_33 (lv_at hl 0 rfl) ?_
  refine lv_if_ne (tgt := 58) hx hb dX6_goes_35 (by decide) (fun c35 => ?_) (fun c35 => ?_)
  · have hR := (if_neg c35).symm.trans hR
    refine lv_iload hx hb dX6_goes_58 (lv_at hl 0 rfl) ?_
    subst hQ
    subst hAe
    exact W.iret (v := r1) hx hb hr (fun t ht hW => ⟨⟨r1, (t_fill, (t_second + 1), t_score, (t_thrown + 1), w2, w3, w4, w5, w6), rfl, Option.some.inj hR, by rw [ht]; exact hP, hD⟩, hS.F ht⟩) hS.2.2 dX6_goes_60
  · have hR := (if_pos c35).symm.trans hR
    refine lv_aload_n hx hb dX6_goes_38 rfl (lv_at hl 1 rfl) ?_
    refine lv_dup hx hb dX6_goes_39 rfl ?_
    refine va_get (D := (dC, dI)) (ci := 6) (v := .int t_score) (C := RX6) (T := TX6) (N := 31) hx hb hts hinX6 hown hK hP 0 rfl rfl 10 (by decide) (hts (.fieldLink RX6 162 "PaperInBinModel" "score" "I") (by decide +kernel)) (fun _ h9 => h9) rfl dX6_goes_40 ?_
    refine lv_iconst (v := 1) hx hb dX6_goes_43 (by decide) ?_
    refine lv_iadd hx hb dX6_goes_44 ?_
    refine va_put (D := (dC, dI)) (ci := 6) (v := .int (t_score + 1)) (ty := .int) (C := RX6) (T := TX6) (N := 31) hx hb hts hinX6 tyX6 tyX6_ok nmX6 hown hK hP hD hS 0 rfl rfl 10 (by decide) (hts (.fieldLink RX6 162 "PaperInBinModel" "score" "I") (by decide +kernel)) (fun _ h9 => h9) rfl (tyX6_ok 10 (by decide)) rfl rfl (Nat.le_of_ble_eq_true rfl) dX6_goes_45 (fun H locs hP hD hS => ?_)
    have hP : va_P (dC, dI) vwCl [(a_t, .inr (6, [.int t_hand, .int t_first, .int t_wide, .int t_rim, .int t_fill, .int t_wall, .int t_ceiling, .int t_puff, .int t_period, .int (t_second + 1), .int (t_score + 1), .int (t_thrown + 1), .int t_balls, .ref a_kind, .ref a_size, .ref a_tight, .int t_letters, .ref a_letter, .int t_at, .int t_value, .int t_inRow, .ref a_row, .ref a_refusals, .int t_imaged, .ref a_image, .ref a_ahead, .int w2, .int w3, .int w4, .int w5, .int w6])), (a_size, .inl (cI, 5, .inl sizeA)), (a_tight, .inl (cI, 5, .inl tightA)), (a_kind, .inl (cI, 5, .inl kindA))] H := hP
    have hD : va_D A [(a_t, .inr (6, [.int t_hand, .int t_first, .int t_wide, .int t_rim, .int t_fill, .int t_wall, .int t_ceiling, .int t_puff, .int t_period, .int (t_second + 1), .int (t_score + 1), .int (t_thrown + 1), .int t_balls, .ref a_kind, .ref a_size, .ref a_tight, .int t_letters, .ref a_letter, .int t_at, .int t_value, .int t_inRow, .ref a_row, .ref a_refusals, .int t_imaged, .ref a_image, .ref a_ahead, .int w2, .int w3, .int w4, .int w5, .int w6])), (a_size, .inl (cI, 5, .inl sizeA)), (a_tight, .inl (cI, 5, .inl tightA)), (a_kind, .inl (cI, 5, .inl kindA))] := hD
    refine lv_aload_n hx hb dX6_goes_48 rfl (lv_at hl 1 rfl) ?_
    refine lv_dup hx hb dX6_goes_49 rfl ?_
    refine va_get (D := (dC, dI)) (ci := 6) (v := .int t_fill) (C := RX6) (T := TX6) (N := 31) hx hb hts hinX6 hown hK hP 0 rfl rfl 4 (by decide) (hts (.fieldLink RX6 89 "PaperInBinModel" "fill" "I") (by decide +kernel)) (fun _ h9 => h9) rfl dX6_goes_50 ?_
    refine lv_iconst (v := 1) hx hb dX6_goes_53 (by decide) ?_
    refine lv_iadd hx hb dX6_goes_54 ?_
    refine va_put (D := (dC, dI)) (ci := 6) (v := .int (t_fill + 1)) (ty := .int) (C := RX6) (T := TX6) (N := 31) hx hb hts hinX6 tyX6 tyX6_ok nmX6 hown hK hP hD hS 0 rfl rfl 4 (by decide) (hts (.fieldLink RX6 89 "PaperInBinModel" "fill" "I") (by decide +kernel)) (fun _ h9 => h9) rfl (tyX6_ok 4 (by decide)) rfl rfl (Nat.le_of_ble_eq_true rfl) dX6_goes_55 (fun H locs hP hD hS => ?_)
    have hP : va_P (dC, dI) vwCl [(a_t, .inr (6, [.int t_hand, .int t_first, .int t_wide, .int t_rim, .int (t_fill + 1), .int t_wall, .int t_ceiling, .int t_puff, .int t_period, .int (t_second + 1), .int (t_score + 1), .int (t_thrown + 1), .int t_balls, .ref a_kind, .ref a_size, .ref a_tight, .int t_letters, .ref a_letter, .int t_at, .int t_value, .int t_inRow, .ref a_row, .ref a_refusals, .int t_imaged, .ref a_image, .ref a_ahead, .int w2, .int w3, .int w4, .int w5, .int w6])), (a_size, .inl (cI, 5, .inl sizeA)), (a_tight, .inl (cI, 5, .inl tightA)), (a_kind, .inl (cI, 5, .inl kindA))] H := hP
    have hD : va_D A [(a_t, .inr (6, [.int t_hand, .int t_first, .int t_wide, .int t_rim, .int (t_fill + 1), .int t_wall, .int t_ceiling, .int t_puff, .int t_period, .int (t_second + 1), .int (t_score + 1), .int (t_thrown + 1), .int t_balls, .ref a_kind, .ref a_size, .ref a_tight, .int t_letters, .ref a_letter, .int t_at, .int t_value, .int t_inRow, .ref a_row, .ref a_refusals, .int t_imaged, .ref a_image, .ref a_ahead, .int w2, .int w3, .int w4, .int w5, .int w6])), (a_size, .inl (cI, 5, .inl sizeA)), (a_tight, .inl (cI, 5, .inl tightA)), (a_kind, .inl (cI, 5, .inl kindA))] := hD
    refine lv_iload hx hb dX6_goes_58 (lv_at hl 0 rfl) ?_
    subst hQ
    subst hAe
    exact W.iret (v := r1) hx hb hr (fun t ht hW => ⟨⟨r1, ((t_fill + 1), (t_second + 1), (t_score + 1), (t_thrown + 1), w2, w3, w4, w5, w6), rfl, Option.some.inj hR, by rw [ht]; exact hP, hD⟩, hS.F ht⟩) hS.2.2 dX6_goes_60
def fX6_throwIt (x1 : Int32) (x2 : Int32) (x3 : Int32) (t_hand : Int32) (t_first : Int32) (t_wide : Int32) (t_rim : Int32) (t_fill : Int32) (t_wall : Int32) (t_ceiling : Int32) (t_puff : Int32) (t_period : Int32) (t_second : Int32) (t_score : Int32) (t_thrown : Int32) (t_balls : Int32) (t_end : Int32) (t_cell : Int32) (t_steps : Int32) (t_highest : Int32) (t_struck : Int32) (refusalsA : Nat → Int32) (sizeA : Nat → Int32) (tightA : Nat → Int32) (kindA : Nat → Int32) : Option (Int32 × Int32 × Int32 × Int32 × Int32 × Int32 × Int32 × Int32 × Int32 × Int32 × (Nat → Int32)) :=
  b1 (fX6_isBall x1 t_balls) (fun r1 =>
  if r1 = 0 then (
   b2 (fX6_no (-1) refusalsA) (fun r22 w23 =>
   some (r22, t_fill, t_second, t_score, t_thrown, t_end, t_cell, t_steps, t_highest, t_struck, w23)))
  else (
  b1 (fX6_noThrow x2 x3) (fun r3 =>
  if 0 ≤ r3 then (
   if t_second = 9999 then (
    b2 (fX6_no (-6) refusalsA) (fun r16 w17 =>
    some (r16, t_fill, t_second, t_score, t_thrown, t_end, t_cell, t_steps, t_highest, t_struck, w17)))
   else (
   b10 (fX6_goes x1 x2 x3 t_hand t_first t_wide t_rim t_fill t_wall t_ceiling t_puff t_period t_second t_score t_thrown sizeA tightA kindA) (fun r5 w6 w7 w8 w9 w10 w11 w12 w13 w14 =>
   some (r5, w6, w7, w8, w9, w10, w11, w12, w13, w14, refusalsA))))
  else (
  b2 (fX6_no r3 refusalsA) (fun r19 w20 =>
  some (r19, t_fill, t_second, t_score, t_thrown, t_end, t_cell, t_steps, t_highest, t_struck, w20))))))
set_option maxHeartbeats 4000000 in
set_option maxRecDepth 100000 in
theorem kX6_throwIt (l : Launch) (dC : Nat → ClassId) (dI : Nat → Nat → Nat) (cI : ClassId) (a_t a_kind a_size a_tight a_letter a_row a_refusals a_image a_ahead : Nat) (sz : Nat) (x1 : Int32) (x2 : Int32) (x3 : Int32) (t_hand : Int32) (t_first : Int32) (t_wide : Int32) (t_rim : Int32) (t_fill : Int32) (t_wall : Int32) (t_ceiling : Int32) (t_puff : Int32) (t_period : Int32) (t_second : Int32) (t_score : Int32) (t_thrown : Int32) (t_balls : Int32) (t_letters : Int32) (t_at : Int32) (t_value : Int32) (t_inRow : Int32) (t_imaged : Int32) (t_end : Int32) (t_cell : Int32) (t_steps : Int32) (t_highest : Int32) (t_struck : Int32) (refusalsA : Nat → Int32) (sizeA : Nat → Int32) (tightA : Nat → Int32) (kindA : Nat → Int32) (R : Int32 × Int32 × Int32 × Int32 × Int32 × Int32 × Int32 × Int32 × Int32 × Int32 × (Nat → Int32)) (hR : fX6_throwIt x1 x2 x3 t_hand t_first t_wide t_rim t_fill t_wall t_ceiling t_puff t_period t_second t_score t_thrown t_balls t_end t_cell t_steps t_highest t_struck refusalsA sizeA tightA kindA = some R) : Met l yX6_throwIt wsX6_throwIt ({ frames := 4, cells := 0, slots := 0, locals := 95 } : Room) (va_Pc [.ref a_t, .int x1, .int x2, .int x3] (Wp (dC, dI) [(cI, .int)] [(a_t, .inr (6, [.int t_hand, .int t_first, .int t_wide, .int t_rim, .int t_fill, .int t_wall, .int t_ceiling, .int t_puff, .int t_period, .int t_second, .int t_score, .int t_thrown, .int t_balls, .ref a_kind, .ref a_size, .ref a_tight, .int t_letters, .ref a_letter, .int t_at, .int t_value, .int t_inRow, .ref a_row, .ref a_refusals, .int t_imaged, .ref a_image, .ref a_ahead, .int t_end, .int t_cell, .int t_steps, .int t_highest, .int t_struck])), (a_refusals, .inl (cI, 7, .inl refusalsA)), (a_size, .inl (cI, 5, .inl sizeA)), (a_tight, .inl (cI, 5, .inl tightA)), (a_kind, .inl (cI, 5, .inl kindA))] sz)) (va_Qi (fun (r : Int32) (u : Int32 × Int32 × Int32 × Int32 × Int32 × Int32 × Int32 × Int32 × Int32 × (Nat → Int32)) => (r, u) = R) (Wq (dC, dI) [(a_t, .inr (6, [.int t_hand, .int t_first, .int t_wide, .int t_rim, .int t_fill, .int t_wall, .int t_ceiling, .int t_puff, .int t_period, .int t_second, .int t_score, .int t_thrown, .int t_balls, .ref a_kind, .ref a_size, .ref a_tight, .int t_letters, .ref a_letter, .int t_at, .int t_value, .int t_inRow, .ref a_row, .ref a_refusals, .int t_imaged, .ref a_image, .ref a_ahead, .int t_end, .int t_cell, .int t_steps, .int t_highest, .int t_struck])), (a_refusals, .inl (cI, 7, .inl refusalsA)), (a_size, .inl (cI, 5, .inl sizeA)), (a_tight, .inl (cI, 5, .inl tightA)), (a_kind, .inl (cI, 5, .inl kindA))] sz (fun (u : Int32 × Int32 × Int32 × Int32 × Int32 × Int32 × Int32 × Int32 × Int32 × (Nat → Int32)) => ([(a_t, .inr (6, [.int t_hand, .int t_first, .int t_wide, .int t_rim, .int u.1, .int t_wall, .int t_ceiling, .int t_puff, .int t_period, .int u.2.1, .int u.2.2.1, .int u.2.2.2.1, .int t_balls, .ref a_kind, .ref a_size, .ref a_tight, .int t_letters, .ref a_letter, .int t_at, .int t_value, .int t_inRow, .ref a_row, .ref a_refusals, .int t_imaged, .ref a_image, .ref a_ahead, .int u.2.2.2.2.1, .int u.2.2.2.2.2.1, .int u.2.2.2.2.2.2.1, .int u.2.2.2.2.2.2.2.1, .int u.2.2.2.2.2.2.2.2.1])), (a_refusals, .inl (cI, 7, .inl u.2.2.2.2.2.2.2.2.2)), (a_size, .inl (cI, 5, .inl sizeA)), (a_tight, .inl (cI, 5, .inl tightA)), (a_kind, .inl (cI, 5, .inl kindA))] : va_W))) (va_A [(a_t, .inr (6, [.int t_hand, .int t_first, .int t_wide, .int t_rim, .int t_fill, .int t_wall, .int t_ceiling, .int t_puff, .int t_period, .int t_second, .int t_score, .int t_thrown, .int t_balls, .ref a_kind, .ref a_size, .ref a_tight, .int t_letters, .ref a_letter, .int t_at, .int t_value, .int t_inRow, .ref a_row, .ref a_refusals, .int t_imaged, .ref a_image, .ref a_ahead, .int t_end, .int t_cell, .int t_steps, .int t_highest, .int t_struck])), (a_refusals, .inl (cI, 7, .inl refusalsA)), (a_size, .inl (cI, 5, .inl sizeA)), (a_tight, .inl (cI, 5, .inl tightA)), (a_kind, .inl (cI, 5, .inl kindA))] sz)) 0 0 (va_A [(a_t, .inr (6, [.int t_hand, .int t_first, .int t_wide, .int t_rim, .int t_fill, .int t_wall, .int t_ceiling, .int t_puff, .int t_period, .int t_second, .int t_score, .int t_thrown, .int t_balls, .ref a_kind, .ref a_size, .ref a_tight, .int t_letters, .ref a_letter, .int t_at, .int t_value, .int t_inRow, .ref a_row, .ref a_refusals, .int t_imaged, .ref a_image, .ref a_ahead, .int t_end, .int t_cell, .int t_steps, .int t_highest, .int t_struck])), (a_refusals, .inl (cI, 7, .inl refusalsA)), (a_size, .inl (cI, 5, .inl sizeA)), (a_tight, .inl (cI, 5, .inl tightA)), (a_kind, .inl (cI, 5, .inl kindA))] sz) := by
  refine Met.ofW (cc := cX6_throwIt) (maxL := 5) (ret := (some .int)) (by decide) rfl ?_
  intro p e s m args below meth c s₁ B hml hv
  obtain ⟨hargs, hsz, hP, hK, hD0, hN⟩ := hv
  have hx := B.exec
  have hb := B.bytes
  have hr := B.returns
  have hts := atoms_spec (ws := wsX6_throwIt) B.pre
  have hown : s.vm.findClass RX6 = some m.cls := findClass_of_methodNamed B.named
  have hlocks := B.notSynchronized
  subst hsz
  have hD := hD0.self (sz := s.heap.size)
  obtain ⟨A, hAe⟩ : ∃ A, A = va_A [(a_t, .inr (6, [.int t_hand, .int t_first, .int t_wide, .int t_rim, .int t_fill, .int t_wall, .int t_ceiling, .int t_puff, .int t_period, .int t_second, .int t_score, .int t_thrown, .int t_balls, .ref a_kind, .ref a_size, .ref a_tight, .int t_letters, .ref a_letter, .int t_at, .int t_value, .int t_inRow, .ref a_row, .ref a_refusals, .int t_imaged, .ref a_image, .ref a_ahead, .int t_end, .int t_cell, .int t_steps, .int t_highest, .int t_struck])), (a_refusals, .inl (cI, 7, .inl refusalsA)), (a_size, .inl (cI, 5, .inl sizeA)), (a_tight, .inl (cI, 5, .inl tightA)), (a_kind, .inl (cI, 5, .inl kindA))] s.heap.size := ⟨_, rfl⟩
  rw [← hAe] at hD
  have hA : ∀ q : Nat, s.heap.size ≤ q → A q := fun q h => by rw [hAe]; exact Or.inr h
  have hS : va_S A s.heap s.heap [] := va_S.rf
  have hl := lv_entry ([.ref a_t, .int x1, .int x2, .int x3]) (n := 5) (Nat.le_of_ble_eq_true rfl)
  rw [e_of hargs, lg_entry_eq]
  generalize (lg_sl ([.ref a_t, .int x1, .int x2, .int x3]) ++ List.replicate (5 - (lg_sl ([.ref a_t, .int x1, .int x2, .int x3])).length) Slot.unset).toArray = ls at hl ⊢
  have hl : lv_has ls 5 [(0, .ref a_t), (1, .int x1), (2, .int x2), (3, .int x3)] := hl
  have hinX6 : ∀ w ∈ wsX60, w ∈ wsX6_throwIt := by decide +kernel
  refine w_q ({ frames := 4, cells := 0, slots := 0, locals := 95 } : Room) (fun Q0 hQ => ?_)
  rw [fX6_throwIt] at hR
  refine lv_aload_n hx hb dX6_throwIt_0 rfl (lv_at hl 0 rfl) ?_
  refine lv_iload_n hx hb dX6_throwIt_1 rfl (lv_at hl 1 rfl) ?_
  obtain ⟨r1, hu2, hR⟩ := b1_s hR
  refine cl_ViN (As := [.int x1]) (rest := []) (wc := [(a_t, .inr (6, [.int t_hand, .int t_first, .int t_wide, .int t_rim, .int t_fill, .int t_wall, .int t_ceiling, .int t_puff, .int t_period, .int t_second, .int t_score, .int t_thrown, .int t_balls, .ref a_kind, .ref a_size, .ref a_tight, .int t_letters, .ref a_letter, .int t_at, .int t_value, .int t_inRow, .ref a_row, .ref a_refusals, .int t_imaged, .ref a_image, .ref a_ahead, .int t_end, .int t_cell, .int t_steps, .int t_highest, .int t_struck]))]) (wr := [(a_refusals, .inl (cI, 7, .inl refusalsA)), (a_size, .inl (cI, 5, .inl sizeA)), (a_tight, .inl (cI, 5, .inl tightA)), (a_kind, .inl (cI, 5, .inl kindA))]) ⟨hx, hb, hml, hown, hts⟩ (kX6_isBall l dC dI cI a_t a_kind a_size a_tight a_letter a_row a_refusals a_image a_ahead s.heap.size x1 t_hand t_first t_wide t_rim t_fill t_wall t_ceiling t_puff t_period t_second t_score t_thrown t_balls t_letters t_at t_value t_inRow t_imaged t_end t_cell t_steps t_highest t_struck r1 hu2) (cwV 1 hts gX6_throwIt_X6_isBall rfl rfl rfl (by decide +kernel) ⟨Nat.le_of_ble_eq_true rfl, Nat.le_of_ble_eq_true rfl⟩) hK hN hP hD hS hA (va_recv hK hP (ci := 6) (q0 := 0) rfl rfl) [0] [1, 2, 3, 4] rfl rfl rfl rfl rfl (by decide) rfl hl.1 rfl (Nat.le_of_ble_eq_true rfl) dX6_throwIt_2 (fun H locs hP hD hS => ?_)
  have hP : va_P (dC, dI) vwCl [(a_refusals, .inl (cI, 7, .inl refusalsA)), (a_size, .inl (cI, 5, .inl sizeA)), (a_tight, .inl (cI, 5, .inl tightA)), (a_kind, .inl (cI, 5, .inl kindA)), (a_t, .inr (6, [.int t_hand, .int t_first, .int t_wide, .int t_rim, .int t_fill, .int t_wall, .int t_ceiling, .int t_puff, .int t_period, .int t_second, .int t_score, .int t_thrown, .int t_balls, .ref a_kind, .ref a_size, .ref a_tight, .int t_letters, .ref a_letter, .int t_at, .int t_value, .int t_inRow, .ref a_row, .ref a_refusals, .int t_imaged, .ref a_image, .ref a_ahead, .int t_end, .int t_cell, .int t_steps, .int t_highest, .int t_struck]))] H := hP
  have hD : va_D A [(a_refusals, .inl (cI, 7, .inl refusalsA)), (a_size, .inl (cI, 5, .inl sizeA)), (a_tight, .inl (cI, 5, .inl tightA)), (a_kind, .inl (cI, 5, .inl kindA)), (a_t, .inr (6, [.int t_hand, .int t_first, .int t_wide, .int t_rim, .int t_fill, .int t_wall, .int t_ceiling, .int t_puff, .int t_period, .int t_second, .int t_score, .int t_thrown, .int t_balls, .ref a_kind, .ref a_size, .ref a_tight, .int t_letters, .ref a_letter, .int t_at, .int t_value, .int t_inRow, .ref a_row, .ref a_refusals, .int t_imaged, .ref a_image, .ref a_ahead, .int t_end, .int t_cell, .int t_steps, .int t_highest, .int t_struck]))] := hD
  refine lv_if_ne (tgt := 14) hx hb dX6_throwIt_5 (by decide) (fun c5 => ?_) (fun c5 => ?_)
  · have hR := (if_neg c5).symm.trans hR
    refine lv_aload_n hx hb dX6_throwIt_14 rfl (lv_at hl 0 rfl) ?_
    refine lv_iload_n hx hb dX6_throwIt_15 rfl (lv_at hl 2 rfl) ?_
    refine lv_iload_n hx hb dX6_throwIt_16 rfl (lv_at hl 3 rfl) ?_
    obtain ⟨r3, hu4, hR⟩ := b1_s hR
    refine cl_ViN (As := [.int x2, .int x3]) (rest := []) (wc := []) (wr := [(a_refusals, .inl (cI, 7, .inl refusalsA)), (a_size, .inl (cI, 5, .inl sizeA)), (a_tight, .inl (cI, 5, .inl tightA)), (a_kind, .inl (cI, 5, .inl kindA)), (a_t, .inr (6, [.int t_hand, .int t_first, .int t_wide, .int t_rim, .int t_fill, .int t_wall, .int t_ceiling, .int t_puff, .int t_period, .int t_second, .int t_score, .int t_thrown, .int t_balls, .ref a_kind, .ref a_size, .ref a_tight, .int t_letters, .ref a_letter, .int t_at, .int t_value, .int t_inRow, .ref a_row, .ref a_refusals, .int t_imaged, .ref a_image, .ref a_ahead, .int t_end, .int t_cell, .int t_steps, .int t_highest, .int t_struck]))]) ⟨hx, hb, hml, hown, hts⟩ (kX6_noThrow l dC dI cI a_t H.size x2 x3 r3 hu4) (cwV 2 hts gX6_throwIt_X6_noThrow rfl rfl rfl (by decide +kernel) ⟨Nat.le_of_ble_eq_true rfl, Nat.le_of_ble_eq_true rfl⟩) hK hN hP hD hS hA (va_recv hK hP (ci := 6) (q0 := 4) rfl rfl) [] [0, 1, 2, 3, 4] rfl rfl rfl rfl rfl (by decide) rfl hl.1 rfl (Nat.le_of_ble_eq_true rfl) dX6_throwIt_17 (fun H locs hP hD hS => ?_)
    have hP : va_P (dC, dI) vwCl [(a_refusals, .inl (cI, 7, .inl refusalsA)), (a_size, .inl (cI, 5, .inl sizeA)), (a_tight, .inl (cI, 5, .inl tightA)), (a_kind, .inl (cI, 5, .inl kindA)), (a_t, .inr (6, [.int t_hand, .int t_first, .int t_wide, .int t_rim, .int t_fill, .int t_wall, .int t_ceiling, .int t_puff, .int t_period, .int t_second, .int t_score, .int t_thrown, .int t_balls, .ref a_kind, .ref a_size, .ref a_tight, .int t_letters, .ref a_letter, .int t_at, .int t_value, .int t_inRow, .ref a_row, .ref a_refusals, .int t_imaged, .ref a_image, .ref a_ahead, .int t_end, .int t_cell, .int t_steps, .int t_highest, .int t_struck]))] H := hP
    have hD : va_D A [(a_refusals, .inl (cI, 7, .inl refusalsA)), (a_size, .inl (cI, 5, .inl sizeA)), (a_tight, .inl (cI, 5, .inl tightA)), (a_kind, .inl (cI, 5, .inl kindA)), (a_t, .inr (6, [.int t_hand, .int t_first, .int t_wide, .int t_rim, .int t_fill, .int t_wall, .int t_ceiling, .int t_puff, .int t_period, .int t_second, .int t_score, .int t_thrown, .int t_balls, .ref a_kind, .ref a_size, .ref a_tight, .int t_letters, .ref a_letter, .int t_at, .int t_value, .int t_inRow, .ref a_row, .ref a_refusals, .int t_imaged, .ref a_image, .ref a_ahead, .int t_end, .int t_cell, .int t_steps, .int t_highest, .int t_struck]))] := hD
    refine lv_istore (lv' := [(4, .int r3), (0, .ref a_t), (1, .int x1), (2, .int x2), (3, .int x3)]) hx hb dX6_throwIt_20 hl (by decide) rfl (fun ls hl => ?_)
    refine lv_iload hx hb dX6_throwIt_22 (lv_at hl 0 rfl) ?_
    refine lv_if_ge (tgt := 34) hx hb dX6_throwIt_24 (by decide) (fun c24 => ?_) (fun c24 => ?_)
    · have hR := (if_pos c24).symm.trans hR
      refine lv_aload_n hx hb dX6_throwIt_34 rfl (lv_at hl 1 rfl) ?_
      refine va_get (D := (dC, dI)) (ci := 6) (v := .int t_second) (C := RX6) (T := TX6) (N := 31) hx hb hts hinX6 hown hK hP 4 rfl rfl 9 (by decide) (hts (.fieldLink RX6 149 "PaperInBinModel" "second" "I") (by decide +kernel)) (fun _ h9 => h9) rfl dX6_throwIt_35 ?_
      refine lv_sipush (v := 9999) hx hb dX6_throwIt_38 (by decide) ?_
      refine lv_icmp_ne (tgt := 53) hx hb dX6_throwIt_41 (by decide) (fun c41 => ?_) (fun c41 => ?_)
      · have hR := (if_neg c41).symm.trans hR
        refine lv_aload_n hx hb dX6_throwIt_53 rfl (lv_at hl 1 rfl) ?_
        refine lv_iload_n hx hb dX6_throwIt_54 rfl (lv_at hl 2 rfl) ?_
        refine lv_iload_n hx hb dX6_throwIt_55 rfl (lv_at hl 3 rfl) ?_
        refine lv_iload_n hx hb dX6_throwIt_56 rfl (lv_at hl 4 rfl) ?_
        obtain ⟨r5, w6, w7, w8, w9, w10, w11, w12, w13, w14, hu15, hR⟩ := b10_s hR
        refine cl_ViT (As := [.int x1, .int x2, .int x3]) (rest := []) (wc := [(a_t, .inr (6, [.int t_hand, .int t_first, .int t_wide, .int t_rim, .int t_fill, .int t_wall, .int t_ceiling, .int t_puff, .int t_period, .int t_second, .int t_score, .int t_thrown, .int t_balls, .ref a_kind, .ref a_size, .ref a_tight, .int t_letters, .ref a_letter, .int t_at, .int t_value, .int t_inRow, .ref a_row, .ref a_refusals, .int t_imaged, .ref a_image, .ref a_ahead, .int t_end, .int t_cell, .int t_steps, .int t_highest, .int t_struck])), (a_size, .inl (cI, 5, .inl sizeA)), (a_tight, .inl (cI, 5, .inl tightA)), (a_kind, .inl (cI, 5, .inl kindA))]) (wr := [(a_refusals, .inl (cI, 7, .inl refusalsA))]) ⟨hx, hb, hml, hown, hts⟩ (kX6_goes l dC dI cI a_t a_kind a_size a_tight a_letter a_row a_refusals a_image a_ahead H.size x1 x2 x3 t_hand t_first t_wide t_rim t_fill t_wall t_ceiling t_puff t_period t_second t_score t_thrown t_balls t_letters t_at t_value t_inRow t_imaged t_end t_cell t_steps t_highest t_struck sizeA tightA kindA (r5, w6, w7, w8, w9, w10, w11, w12, w13, w14) hu15) (cwV 3 hts gX6_throwIt_X6_goes rfl rfl rfl (by decide +kernel) ⟨Nat.le_of_ble_eq_true rfl, Nat.le_of_ble_eq_true rfl⟩) hK hN hP hD hS hA (va_recv hK hP (ci := 6) (q0 := 4) rfl rfl) [4, 1, 2, 3] [0] rfl rfl rfl rfl rfl (by decide) rfl hl.1 rfl (Nat.le_of_ble_eq_true rfl) dX6_throwIt_57 (fun H locs hP hD hS => ?_)
        have hP : va_P (dC, dI) vwCl [(a_refusals, .inl (cI, 7, .inl refusalsA)), (a_t, .inr (6, [.int t_hand, .int t_first, .int t_wide, .int t_rim, .int w6, .int t_wall, .int t_ceiling, .int t_puff, .int t_period, .int w7, .int w8, .int w9, .int t_balls, .ref a_kind, .ref a_size, .ref a_tight, .int t_letters, .ref a_letter, .int t_at, .int t_value, .int t_inRow, .ref a_row, .ref a_refusals, .int t_imaged, .ref a_image, .ref a_ahead, .int w10, .int w11, .int w12, .int w13, .int w14])), (a_size, .inl (cI, 5, .inl sizeA)), (a_tight, .inl (cI, 5, .inl tightA)), (a_kind, .inl (cI, 5, .inl kindA))] H := hP
        have hD : va_D A [(a_refusals, .inl (cI, 7, .inl refusalsA)), (a_t, .inr (6, [.int t_hand, .int t_first, .int t_wide, .int t_rim, .int w6, .int t_wall, .int t_ceiling, .int t_puff, .int t_period, .int w7, .int w8, .int w9, .int t_balls, .ref a_kind, .ref a_size, .ref a_tight, .int t_letters, .ref a_letter, .int t_at, .int t_value, .int t_inRow, .ref a_row, .ref a_refusals, .int t_imaged, .ref a_image, .ref a_ahead, .int w10, .int w11, .int w12, .int w13, .int w14])), (a_size, .inl (cI, 5, .inl sizeA)), (a_tight, .inl (cI, 5, .inl tightA)), (a_kind, .inl (cI, 5, .inl kindA))] := hD
        have hP := hP.sub (ws' := [(a_t, .inr (6, [.int t_hand, .int t_first, .int t_wide, .int t_rim, .int w6, .int t_wall, .int t_ceiling, .int t_puff, .int t_period, .int w7, .int w8, .int w9, .int t_balls, .ref a_kind, .ref a_size, .ref a_tight, .int t_letters, .ref a_letter, .int t_at, .int t_value, .int t_inRow, .ref a_row, .ref a_refusals, .int t_imaged, .ref a_image, .ref a_ahead, .int w10, .int w11, .int w12, .int w13, .int w14])), (a_refusals, .inl (cI, 7, .inl refusalsA)), (a_size, .inl (cI, 5, .inl sizeA)), (a_tight, .inl (cI, 5, .inl tightA)), (a_kind, .inl (cI, 5, .inl kindA))]) [1, 0, 2, 3, 4] rfl
        have hD := hD.sub (ws' := [(a_t, .inr (6, [.int t_hand, .int t_first, .int t_wide, .int t_rim, .int w6, .int t_wall, .int t_ceiling, .int t_puff, .int t_period, .int w7, .int w8, .int w9, .int t_balls, .ref a_kind, .ref a_size, .ref a_tight, .int t_letters, .ref a_letter, .int t_at, .int t_value, .int t_inRow, .ref a_row, .ref a_refusals, .int t_imaged, .ref a_image, .ref a_ahead, .int w10, .int w11, .int w12, .int w13, .int w14])), (a_refusals, .inl (cI, 7, .inl refusalsA)), (a_size, .inl (cI, 5, .inl sizeA)), (a_tight, .inl (cI, 5, .inl tightA)), (a_kind, .inl (cI, 5, .inl kindA))]) [1, 0, 2, 3, 4] (by decide) rfl
        subst hQ
        subst hAe
        exact W.iret (v := r5) hx hb hr (fun t ht hW => ⟨⟨r5, (w6, w7, w8, w9, w10, w11, w12, w13, w14, refusalsA), rfl, Option.some.inj hR, by rw [ht]; exact hP, hD⟩, hS.F ht⟩) hS.2.2 dX6_throwIt_60
      · have hR := (if_pos c41).symm.trans hR
        refine lv_aload_n hx hb dX6_throwIt_44 rfl (lv_at hl 1 rfl) ?_
        refine lv_bipush (v := (-6)) hx hb dX6_throwIt_45 (by decide) ?_
        obtain ⟨r16, w17, hu18, hR⟩ := b2_s hR
        refine cl_ViT (As := [.int (-6)]) (rest := []) (wc := [(a_t, .inr (6, [.int t_hand, .int t_first, .int t_wide, .int t_rim, .int t_fill, .int t_wall, .int t_ceiling, .int t_puff, .int t_period, .int t_second, .int t_score, .int t_thrown, .int t_balls, .ref a_kind, .ref a_size, .ref a_tight, .int t_letters, .ref a_letter, .int t_at, .int t_value, .int t_inRow, .ref a_row, .ref a_refusals, .int t_imaged, .ref a_image, .ref a_ahead, .int t_end, .int t_cell, .int t_steps, .int t_highest, .int t_struck])), (a_refusals, .inl (cI, 7, .inl refusalsA))]) (wr := [(a_size, .inl (cI, 5, .inl sizeA)), (a_tight, .inl (cI, 5, .inl tightA)), (a_kind, .inl (cI, 5, .inl kindA))]) ⟨hx, hb, hml, hown, hts⟩ (kX6_no l dC dI cI a_t a_kind a_size a_tight a_letter a_row a_refusals a_image a_ahead H.size (-6) t_hand t_first t_wide t_rim t_fill t_wall t_ceiling t_puff t_period t_second t_score t_thrown t_balls t_letters t_at t_value t_inRow t_imaged t_end t_cell t_steps t_highest t_struck refusalsA (r16, w17) hu18) (cwV 1 hts gX6_throwIt_X6_no rfl rfl rfl (by decide +kernel) ⟨Nat.le_of_ble_eq_true rfl, Nat.le_of_ble_eq_true rfl⟩) hK hN hP hD hS hA (va_recv hK hP (ci := 6) (q0 := 4) rfl rfl) [4, 0] [1, 2, 3] rfl rfl rfl rfl rfl (by decide) rfl hl.1 rfl (Nat.le_of_ble_eq_true rfl) dX6_throwIt_47 (fun H locs hP hD hS => ?_)
        have hP : va_P (dC, dI) vwCl [(a_size, .inl (cI, 5, .inl sizeA)), (a_tight, .inl (cI, 5, .inl tightA)), (a_kind, .inl (cI, 5, .inl kindA)), (a_t, .inr (6, [.int t_hand, .int t_first, .int t_wide, .int t_rim, .int t_fill, .int t_wall, .int t_ceiling, .int t_puff, .int t_period, .int t_second, .int t_score, .int t_thrown, .int t_balls, .ref a_kind, .ref a_size, .ref a_tight, .int t_letters, .ref a_letter, .int t_at, .int t_value, .int t_inRow, .ref a_row, .ref a_refusals, .int t_imaged, .ref a_image, .ref a_ahead, .int t_end, .int t_cell, .int t_steps, .int t_highest, .int t_struck])), (a_refusals, .inl (cI, 7, .inl w17))] H := hP
        have hD : va_D A [(a_size, .inl (cI, 5, .inl sizeA)), (a_tight, .inl (cI, 5, .inl tightA)), (a_kind, .inl (cI, 5, .inl kindA)), (a_t, .inr (6, [.int t_hand, .int t_first, .int t_wide, .int t_rim, .int t_fill, .int t_wall, .int t_ceiling, .int t_puff, .int t_period, .int t_second, .int t_score, .int t_thrown, .int t_balls, .ref a_kind, .ref a_size, .ref a_tight, .int t_letters, .ref a_letter, .int t_at, .int t_value, .int t_inRow, .ref a_row, .ref a_refusals, .int t_imaged, .ref a_image, .ref a_ahead, .int t_end, .int t_cell, .int t_steps, .int t_highest, .int t_struck])), (a_refusals, .inl (cI, 7, .inl w17))] := hD
        refine lv_goto (tgt := 60) hx hb dX6_throwIt_50 (by decide) ?_
        have hP := hP.sub (ws' := [(a_t, .inr (6, [.int t_hand, .int t_first, .int t_wide, .int t_rim, .int t_fill, .int t_wall, .int t_ceiling, .int t_puff, .int t_period, .int t_second, .int t_score, .int t_thrown, .int t_balls, .ref a_kind, .ref a_size, .ref a_tight, .int t_letters, .ref a_letter, .int t_at, .int t_value, .int t_inRow, .ref a_row, .ref a_refusals, .int t_imaged, .ref a_image, .ref a_ahead, .int t_end, .int t_cell, .int t_steps, .int t_highest, .int t_struck])), (a_refusals, .inl (cI, 7, .inl w17)), (a_size, .inl (cI, 5, .inl sizeA)), (a_tight, .inl (cI, 5, .inl tightA)), (a_kind, .inl (cI, 5, .inl kindA))]) [3, 4, 0, 1, 2] rfl
        have hD := hD.sub (ws' := [(a_t, .inr (6, [.int t_hand, .int t_first, .int t_wide, .int t_rim, .int t_fill, .int t_wall, .int t_ceiling, .int t_puff, .int t_period, .int t_second, .int t_score, .int t_thrown, .int t_balls, .ref a_kind, .ref a_size, .ref a_tight, .int t_letters, .ref a_letter, .int t_at, .int t_value, .int t_inRow, .ref a_row, .ref a_refusals, .int t_imaged, .ref a_image, .ref a_ahead, .int t_end, .int t_cell, .int t_steps, .int t_highest, .int t_struck])), (a_refusals, .inl (cI, 7, .inl w17)), (a_size, .inl (cI, 5, .inl sizeA)), (a_tight, .inl (cI, 5, .inl tightA)), (a_kind, .inl (cI, 5, .inl kindA))]) [3, 4, 0, 1, 2] (by decide) rfl
        subst hQ
        subst hAe
        exact W.iret (v := r16) hx hb hr (fun t ht hW => ⟨⟨r16, (t_fill, t_second, t_score, t_thrown, t_end, t_cell, t_steps, t_highest, t_struck, w17), rfl, Option.some.inj hR, by rw [ht]; exact hP, hD⟩, hS.F ht⟩) hS.2.2 dX6_throwIt_60
    · have hR := (if_neg c24).symm.trans hR
      refine lv_aload_n hx hb dX6_throwIt_27 rfl (lv_at hl 1 rfl) ?_
      refine lv_iload hx hb dX6_throwIt_28 (lv_at hl 0 rfl) ?_
      obtain ⟨r19, w20, hu21, hR⟩ := b2_s hR
      refine cl_ViT (As := [.int r3]) (rest := []) (wc := [(a_t, .inr (6, [.int t_hand, .int t_first, .int t_wide, .int t_rim, .int t_fill, .int t_wall, .int t_ceiling, .int t_puff, .int t_period, .int t_second, .int t_score, .int t_thrown, .int t_balls, .ref a_kind, .ref a_size, .ref a_tight, .int t_letters, .ref a_letter, .int t_at, .int t_value, .int t_inRow, .ref a_row, .ref a_refusals, .int t_imaged, .ref a_image, .ref a_ahead, .int t_end, .int t_cell, .int t_steps, .int t_highest, .int t_struck])), (a_refusals, .inl (cI, 7, .inl refusalsA))]) (wr := [(a_size, .inl (cI, 5, .inl sizeA)), (a_tight, .inl (cI, 5, .inl tightA)), (a_kind, .inl (cI, 5, .inl kindA))]) ⟨hx, hb, hml, hown, hts⟩ (kX6_no l dC dI cI a_t a_kind a_size a_tight a_letter a_row a_refusals a_image a_ahead H.size r3 t_hand t_first t_wide t_rim t_fill t_wall t_ceiling t_puff t_period t_second t_score t_thrown t_balls t_letters t_at t_value t_inRow t_imaged t_end t_cell t_steps t_highest t_struck refusalsA (r19, w20) hu21) (cwV 1 hts gX6_throwIt_X6_no rfl rfl rfl (by decide +kernel) ⟨Nat.le_of_ble_eq_true rfl, Nat.le_of_ble_eq_true rfl⟩) hK hN hP hD hS hA (va_recv hK hP (ci := 6) (q0 := 4) rfl rfl) [4, 0] [1, 2, 3] rfl rfl rfl rfl rfl (by decide) rfl hl.1 rfl (Nat.le_of_ble_eq_true rfl) dX6_throwIt_30 (fun H locs hP hD hS => ?_)
      have hP : va_P (dC, dI) vwCl [(a_size, .inl (cI, 5, .inl sizeA)), (a_tight, .inl (cI, 5, .inl tightA)), (a_kind, .inl (cI, 5, .inl kindA)), (a_t, .inr (6, [.int t_hand, .int t_first, .int t_wide, .int t_rim, .int t_fill, .int t_wall, .int t_ceiling, .int t_puff, .int t_period, .int t_second, .int t_score, .int t_thrown, .int t_balls, .ref a_kind, .ref a_size, .ref a_tight, .int t_letters, .ref a_letter, .int t_at, .int t_value, .int t_inRow, .ref a_row, .ref a_refusals, .int t_imaged, .ref a_image, .ref a_ahead, .int t_end, .int t_cell, .int t_steps, .int t_highest, .int t_struck])), (a_refusals, .inl (cI, 7, .inl w20))] H := hP
      have hD : va_D A [(a_size, .inl (cI, 5, .inl sizeA)), (a_tight, .inl (cI, 5, .inl tightA)), (a_kind, .inl (cI, 5, .inl kindA)), (a_t, .inr (6, [.int t_hand, .int t_first, .int t_wide, .int t_rim, .int t_fill, .int t_wall, .int t_ceiling, .int t_puff, .int t_period, .int t_second, .int t_score, .int t_thrown, .int t_balls, .ref a_kind, .ref a_size, .ref a_tight, .int t_letters, .ref a_letter, .int t_at, .int t_value, .int t_inRow, .ref a_row, .ref a_refusals, .int t_imaged, .ref a_image, .ref a_ahead, .int t_end, .int t_cell, .int t_steps, .int t_highest, .int t_struck])), (a_refusals, .inl (cI, 7, .inl w20))] := hD
      have hP := hP.sub (ws' := [(a_t, .inr (6, [.int t_hand, .int t_first, .int t_wide, .int t_rim, .int t_fill, .int t_wall, .int t_ceiling, .int t_puff, .int t_period, .int t_second, .int t_score, .int t_thrown, .int t_balls, .ref a_kind, .ref a_size, .ref a_tight, .int t_letters, .ref a_letter, .int t_at, .int t_value, .int t_inRow, .ref a_row, .ref a_refusals, .int t_imaged, .ref a_image, .ref a_ahead, .int t_end, .int t_cell, .int t_steps, .int t_highest, .int t_struck])), (a_refusals, .inl (cI, 7, .inl w20)), (a_size, .inl (cI, 5, .inl sizeA)), (a_tight, .inl (cI, 5, .inl tightA)), (a_kind, .inl (cI, 5, .inl kindA))]) [3, 4, 0, 1, 2] rfl
      have hD := hD.sub (ws' := [(a_t, .inr (6, [.int t_hand, .int t_first, .int t_wide, .int t_rim, .int t_fill, .int t_wall, .int t_ceiling, .int t_puff, .int t_period, .int t_second, .int t_score, .int t_thrown, .int t_balls, .ref a_kind, .ref a_size, .ref a_tight, .int t_letters, .ref a_letter, .int t_at, .int t_value, .int t_inRow, .ref a_row, .ref a_refusals, .int t_imaged, .ref a_image, .ref a_ahead, .int t_end, .int t_cell, .int t_steps, .int t_highest, .int t_struck])), (a_refusals, .inl (cI, 7, .inl w20)), (a_size, .inl (cI, 5, .inl sizeA)), (a_tight, .inl (cI, 5, .inl tightA)), (a_kind, .inl (cI, 5, .inl kindA))]) [3, 4, 0, 1, 2] (by decide) rfl
      subst hQ
      subst hAe
      exact W.iret (v := r19) hx hb hr (fun t ht hW => ⟨⟨r19, (t_fill, t_second, t_score, t_thrown, t_end, t_cell, t_steps, t_highest, t_struck, w20), rfl, Option.some.inj hR, by rw [ht]; exact hP, hD⟩, hS.F ht⟩) hS.2.2 dX6_throwIt_33
  · have hR := (if_pos c5).symm.trans hR
    refine lv_aload_n hx hb dX6_throwIt_8 rfl (lv_at hl 0 rfl) ?_
    refine lv_iconst (v := (-1)) hx hb dX6_throwIt_9 (by decide) ?_
    obtain ⟨r22, w23, hu24, hR⟩ := b2_s hR
    refine cl_ViT (As := [.int (-1)]) (rest := []) (wc := [(a_t, .inr (6, [.int t_hand, .int t_first, .int t_wide, .int t_rim, .int t_fill, .int t_wall, .int t_ceiling, .int t_puff, .int t_period, .int t_second, .int t_score, .int t_thrown, .int t_balls, .ref a_kind, .ref a_size, .ref a_tight, .int t_letters, .ref a_letter, .int t_at, .int t_value, .int t_inRow, .ref a_row, .ref a_refusals, .int t_imaged, .ref a_image, .ref a_ahead, .int t_end, .int t_cell, .int t_steps, .int t_highest, .int t_struck])), (a_refusals, .inl (cI, 7, .inl refusalsA))]) (wr := [(a_size, .inl (cI, 5, .inl sizeA)), (a_tight, .inl (cI, 5, .inl tightA)), (a_kind, .inl (cI, 5, .inl kindA))]) ⟨hx, hb, hml, hown, hts⟩ (kX6_no l dC dI cI a_t a_kind a_size a_tight a_letter a_row a_refusals a_image a_ahead H.size (-1) t_hand t_first t_wide t_rim t_fill t_wall t_ceiling t_puff t_period t_second t_score t_thrown t_balls t_letters t_at t_value t_inRow t_imaged t_end t_cell t_steps t_highest t_struck refusalsA (r22, w23) hu24) (cwV 1 hts gX6_throwIt_X6_no rfl rfl rfl (by decide +kernel) ⟨Nat.le_of_ble_eq_true rfl, Nat.le_of_ble_eq_true rfl⟩) hK hN hP hD hS hA (va_recv hK hP (ci := 6) (q0 := 4) rfl rfl) [4, 0] [1, 2, 3] rfl rfl rfl rfl rfl (by decide) rfl hl.1 rfl (Nat.le_of_ble_eq_true rfl) dX6_throwIt_10 (fun H locs hP hD hS => ?_)
    have hP : va_P (dC, dI) vwCl [(a_size, .inl (cI, 5, .inl sizeA)), (a_tight, .inl (cI, 5, .inl tightA)), (a_kind, .inl (cI, 5, .inl kindA)), (a_t, .inr (6, [.int t_hand, .int t_first, .int t_wide, .int t_rim, .int t_fill, .int t_wall, .int t_ceiling, .int t_puff, .int t_period, .int t_second, .int t_score, .int t_thrown, .int t_balls, .ref a_kind, .ref a_size, .ref a_tight, .int t_letters, .ref a_letter, .int t_at, .int t_value, .int t_inRow, .ref a_row, .ref a_refusals, .int t_imaged, .ref a_image, .ref a_ahead, .int t_end, .int t_cell, .int t_steps, .int t_highest, .int t_struck])), (a_refusals, .inl (cI, 7, .inl w23))] H := hP
    have hD : va_D A [(a_size, .inl (cI, 5, .inl sizeA)), (a_tight, .inl (cI, 5, .inl tightA)), (a_kind, .inl (cI, 5, .inl kindA)), (a_t, .inr (6, [.int t_hand, .int t_first, .int t_wide, .int t_rim, .int t_fill, .int t_wall, .int t_ceiling, .int t_puff, .int t_period, .int t_second, .int t_score, .int t_thrown, .int t_balls, .ref a_kind, .ref a_size, .ref a_tight, .int t_letters, .ref a_letter, .int t_at, .int t_value, .int t_inRow, .ref a_row, .ref a_refusals, .int t_imaged, .ref a_image, .ref a_ahead, .int t_end, .int t_cell, .int t_steps, .int t_highest, .int t_struck])), (a_refusals, .inl (cI, 7, .inl w23))] := hD
    have hP := hP.sub (ws' := [(a_t, .inr (6, [.int t_hand, .int t_first, .int t_wide, .int t_rim, .int t_fill, .int t_wall, .int t_ceiling, .int t_puff, .int t_period, .int t_second, .int t_score, .int t_thrown, .int t_balls, .ref a_kind, .ref a_size, .ref a_tight, .int t_letters, .ref a_letter, .int t_at, .int t_value, .int t_inRow, .ref a_row, .ref a_refusals, .int t_imaged, .ref a_image, .ref a_ahead, .int t_end, .int t_cell, .int t_steps, .int t_highest, .int t_struck])), (a_refusals, .inl (cI, 7, .inl w23)), (a_size, .inl (cI, 5, .inl sizeA)), (a_tight, .inl (cI, 5, .inl tightA)), (a_kind, .inl (cI, 5, .inl kindA))]) [3, 4, 0, 1, 2] rfl
    have hD := hD.sub (ws' := [(a_t, .inr (6, [.int t_hand, .int t_first, .int t_wide, .int t_rim, .int t_fill, .int t_wall, .int t_ceiling, .int t_puff, .int t_period, .int t_second, .int t_score, .int t_thrown, .int t_balls, .ref a_kind, .ref a_size, .ref a_tight, .int t_letters, .ref a_letter, .int t_at, .int t_value, .int t_inRow, .ref a_row, .ref a_refusals, .int t_imaged, .ref a_image, .ref a_ahead, .int t_end, .int t_cell, .int t_steps, .int t_highest, .int t_struck])), (a_refusals, .inl (cI, 7, .inl w23)), (a_size, .inl (cI, 5, .inl sizeA)), (a_tight, .inl (cI, 5, .inl tightA)), (a_kind, .inl (cI, 5, .inl kindA))]) [3, 4, 0, 1, 2] (by decide) rfl
    subst hQ
    subst hAe
    exact W.iret (v := r22) hx hb hr (fun t ht hW => ⟨⟨r22, (t_fill, t_second, t_score, t_thrown, t_end, t_cell, t_steps, t_highest, t_struck, w23), rfl, Option.some.inj hR, by rw [ht]; exact hP, hD⟩, hS.F ht⟩) hS.2.2 dX6_throwIt_13
def fX6_pass (x1 : Int32) (t_second : Int32) (refusalsA : Nat → Int32) : Option (Int32 × Int32 × (Nat → Int32)) :=
  if 1 ≤ x1 then (
   if 99 < x1 then (
    b2 (fX6_no (-6) refusalsA) (fun r1 w2 =>
    some (r1, t_second, w2)))
   else (
   if (t_second + x1) ≤ 9999 then (
    some ((t_second + x1), (t_second + x1), refusalsA))
   else (
   b2 (fX6_no (-6) refusalsA) (fun r4 w5 =>
   some (r4, t_second, w5)))))
  else (
  b2 (fX6_no (-4) refusalsA) (fun r7 w8 =>
  some (r7, t_second, w8)))
set_option maxHeartbeats 4000000 in
set_option maxRecDepth 100000 in
theorem kX6_pass (l : Launch) (dC : Nat → ClassId) (dI : Nat → Nat → Nat) (cI : ClassId) (a_t a_kind a_size a_tight a_letter a_row a_refusals a_image a_ahead : Nat) (sz : Nat) (x1 : Int32) (t_hand : Int32) (t_first : Int32) (t_wide : Int32) (t_rim : Int32) (t_fill : Int32) (t_wall : Int32) (t_ceiling : Int32) (t_puff : Int32) (t_period : Int32) (t_second : Int32) (t_score : Int32) (t_thrown : Int32) (t_balls : Int32) (t_letters : Int32) (t_at : Int32) (t_value : Int32) (t_inRow : Int32) (t_imaged : Int32) (t_end : Int32) (t_cell : Int32) (t_steps : Int32) (t_highest : Int32) (t_struck : Int32) (refusalsA : Nat → Int32) (R : Int32 × Int32 × (Nat → Int32)) (hR : fX6_pass x1 t_second refusalsA = some R) : Met l yX6_pass wsX6_pass ({ frames := 1, cells := 0, slots := 0, locals := 21 } : Room) (va_Pc [.ref a_t, .int x1] (Wp (dC, dI) [(cI, .int)] [(a_t, .inr (6, [.int t_hand, .int t_first, .int t_wide, .int t_rim, .int t_fill, .int t_wall, .int t_ceiling, .int t_puff, .int t_period, .int t_second, .int t_score, .int t_thrown, .int t_balls, .ref a_kind, .ref a_size, .ref a_tight, .int t_letters, .ref a_letter, .int t_at, .int t_value, .int t_inRow, .ref a_row, .ref a_refusals, .int t_imaged, .ref a_image, .ref a_ahead, .int t_end, .int t_cell, .int t_steps, .int t_highest, .int t_struck])), (a_refusals, .inl (cI, 7, .inl refusalsA))] sz)) (va_Qi (fun (r : Int32) (u : Int32 × (Nat → Int32)) => (r, u) = R) (Wq (dC, dI) [(a_t, .inr (6, [.int t_hand, .int t_first, .int t_wide, .int t_rim, .int t_fill, .int t_wall, .int t_ceiling, .int t_puff, .int t_period, .int t_second, .int t_score, .int t_thrown, .int t_balls, .ref a_kind, .ref a_size, .ref a_tight, .int t_letters, .ref a_letter, .int t_at, .int t_value, .int t_inRow, .ref a_row, .ref a_refusals, .int t_imaged, .ref a_image, .ref a_ahead, .int t_end, .int t_cell, .int t_steps, .int t_highest, .int t_struck])), (a_refusals, .inl (cI, 7, .inl refusalsA))] sz (fun (u : Int32 × (Nat → Int32)) => ([(a_t, .inr (6, [.int t_hand, .int t_first, .int t_wide, .int t_rim, .int t_fill, .int t_wall, .int t_ceiling, .int t_puff, .int t_period, .int u.1, .int t_score, .int t_thrown, .int t_balls, .ref a_kind, .ref a_size, .ref a_tight, .int t_letters, .ref a_letter, .int t_at, .int t_value, .int t_inRow, .ref a_row, .ref a_refusals, .int t_imaged, .ref a_image, .ref a_ahead, .int t_end, .int t_cell, .int t_steps, .int t_highest, .int t_struck])), (a_refusals, .inl (cI, 7, .inl u.2))] : va_W))) (va_A [(a_t, .inr (6, [.int t_hand, .int t_first, .int t_wide, .int t_rim, .int t_fill, .int t_wall, .int t_ceiling, .int t_puff, .int t_period, .int t_second, .int t_score, .int t_thrown, .int t_balls, .ref a_kind, .ref a_size, .ref a_tight, .int t_letters, .ref a_letter, .int t_at, .int t_value, .int t_inRow, .ref a_row, .ref a_refusals, .int t_imaged, .ref a_image, .ref a_ahead, .int t_end, .int t_cell, .int t_steps, .int t_highest, .int t_struck])), (a_refusals, .inl (cI, 7, .inl refusalsA))] sz)) 0 0 (va_A [(a_t, .inr (6, [.int t_hand, .int t_first, .int t_wide, .int t_rim, .int t_fill, .int t_wall, .int t_ceiling, .int t_puff, .int t_period, .int t_second, .int t_score, .int t_thrown, .int t_balls, .ref a_kind, .ref a_size, .ref a_tight, .int t_letters, .ref a_letter, .int t_at, .int t_value, .int t_inRow, .ref a_row, .ref a_refusals, .int t_imaged, .ref a_image, .ref a_ahead, .int t_end, .int t_cell, .int t_steps, .int t_highest, .int t_struck])), (a_refusals, .inl (cI, 7, .inl refusalsA))] sz) := by
  refine Met.ofW (cc := cX6_pass) (maxL := 2) (ret := (some .int)) (by decide) rfl ?_
  intro p e s m args below meth c s₁ B hml hv
  obtain ⟨hargs, hsz, hP, hK, hD0, hN⟩ := hv
  have hx := B.exec
  have hb := B.bytes
  have hr := B.returns
  have hts := atoms_spec (ws := wsX6_pass) B.pre
  have hown : s.vm.findClass RX6 = some m.cls := findClass_of_methodNamed B.named
  have hlocks := B.notSynchronized
  subst hsz
  have hD := hD0.self (sz := s.heap.size)
  obtain ⟨A, hAe⟩ : ∃ A, A = va_A [(a_t, .inr (6, [.int t_hand, .int t_first, .int t_wide, .int t_rim, .int t_fill, .int t_wall, .int t_ceiling, .int t_puff, .int t_period, .int t_second, .int t_score, .int t_thrown, .int t_balls, .ref a_kind, .ref a_size, .ref a_tight, .int t_letters, .ref a_letter, .int t_at, .int t_value, .int t_inRow, .ref a_row, .ref a_refusals, .int t_imaged, .ref a_image, .ref a_ahead, .int t_end, .int t_cell, .int t_steps, .int t_highest, .int t_struck])), (a_refusals, .inl (cI, 7, .inl refusalsA))] s.heap.size := ⟨_, rfl⟩
  rw [← hAe] at hD
  have hA : ∀ q : Nat, s.heap.size ≤ q → A q := fun q h => by rw [hAe]; exact Or.inr h
  have hS : va_S A s.heap s.heap [] := va_S.rf
  have hl := lv_entry ([.ref a_t, .int x1]) (n := 2) (Nat.le_of_ble_eq_true rfl)
  rw [e_of hargs, lg_entry_eq]
  generalize (lg_sl ([.ref a_t, .int x1]) ++ List.replicate (2 - (lg_sl ([.ref a_t, .int x1])).length) Slot.unset).toArray = ls at hl ⊢
  have hl : lv_has ls 2 [(0, .ref a_t), (1, .int x1)] := hl
  have hinX6 : ∀ w ∈ wsX60, w ∈ wsX6_pass := by decide +kernel
  refine w_q ({ frames := 1, cells := 0, slots := 0, locals := 21 } : Room) (fun Q0 hQ => ?_)
  rw [fX6_pass] at hR
  refine lv_iload_n hx hb dX6_pass_0 rfl (lv_at hl 1 rfl) ?_
  refine lv_iconst (v := 1) hx hb dX6_pass_1 (by decide) ?_
  refine lv_icmp_ge (tgt := 12) hx hb dX6_pass_2 (by decide) (fun c2 => ?_) (fun c2 => ?_)
  · have hR := (if_pos c2).symm.trans hR
    refine lv_iload_n hx hb dX6_pass_12 rfl (lv_at hl 1 rfl) ?_
    refine lv_bipush (v := 99) hx hb dX6_pass_13 (by decide) ?_
    refine lv_icmp_gt (tgt := 30) hx hb dX6_pass_15 (by decide) (fun c15 => ?_) (fun c15 => ?_)
    · have hR := (if_pos c15).symm.trans hR
      refine lv_aload_n hx hb dX6_pass_30 rfl (lv_at hl 0 rfl) ?_
      refine lv_bipush (v := (-6)) hx hb dX6_pass_31 (by decide) ?_
      obtain ⟨r1, w2, hu3, hR⟩ := b2_s hR
      refine cl_ViT (As := [.int (-6)]) (rest := []) (wc := [(a_t, .inr (6, [.int t_hand, .int t_first, .int t_wide, .int t_rim, .int t_fill, .int t_wall, .int t_ceiling, .int t_puff, .int t_period, .int t_second, .int t_score, .int t_thrown, .int t_balls, .ref a_kind, .ref a_size, .ref a_tight, .int t_letters, .ref a_letter, .int t_at, .int t_value, .int t_inRow, .ref a_row, .ref a_refusals, .int t_imaged, .ref a_image, .ref a_ahead, .int t_end, .int t_cell, .int t_steps, .int t_highest, .int t_struck])), (a_refusals, .inl (cI, 7, .inl refusalsA))]) (wr := []) ⟨hx, hb, hml, hown, hts⟩ (kX6_no l dC dI cI a_t a_kind a_size a_tight a_letter a_row a_refusals a_image a_ahead s.heap.size (-6) t_hand t_first t_wide t_rim t_fill t_wall t_ceiling t_puff t_period t_second t_score t_thrown t_balls t_letters t_at t_value t_inRow t_imaged t_end t_cell t_steps t_highest t_struck refusalsA (r1, w2) hu3) (cwV 1 hts gX6_pass_X6_no rfl rfl rfl (by decide +kernel) ⟨Nat.le_of_ble_eq_true rfl, Nat.le_of_ble_eq_true rfl⟩) hK hN hP hD hS hA (va_recv hK hP (ci := 6) (q0 := 0) rfl rfl) [0, 1] [] rfl rfl rfl rfl rfl (by decide) rfl hl.1 rfl (Nat.le_of_ble_eq_true rfl) dX6_pass_33 (fun H locs hP hD hS => ?_)
      have hP : va_P (dC, dI) vwCl [(a_t, .inr (6, [.int t_hand, .int t_first, .int t_wide, .int t_rim, .int t_fill, .int t_wall, .int t_ceiling, .int t_puff, .int t_period, .int t_second, .int t_score, .int t_thrown, .int t_balls, .ref a_kind, .ref a_size, .ref a_tight, .int t_letters, .ref a_letter, .int t_at, .int t_value, .int t_inRow, .ref a_row, .ref a_refusals, .int t_imaged, .ref a_image, .ref a_ahead, .int t_end, .int t_cell, .int t_steps, .int t_highest, .int t_struck])), (a_refusals, .inl (cI, 7, .inl w2))] H := hP
      have hD : va_D A [(a_t, .inr (6, [.int t_hand, .int t_first, .int t_wide, .int t_rim, .int t_fill, .int t_wall, .int t_ceiling, .int t_puff, .int t_period, .int t_second, .int t_score, .int t_thrown, .int t_balls, .ref a_kind, .ref a_size, .ref a_tight, .int t_letters, .ref a_letter, .int t_at, .int t_value, .int t_inRow, .ref a_row, .ref a_refusals, .int t_imaged, .ref a_image, .ref a_ahead, .int t_end, .int t_cell, .int t_steps, .int t_highest, .int t_struck])), (a_refusals, .inl (cI, 7, .inl w2))] := hD
      subst hQ
      subst hAe
      exact W.iret (v := r1) hx hb hr (fun t ht hW => ⟨⟨r1, (t_second, w2), rfl, Option.some.inj hR, by rw [ht]; exact hP, hD⟩, hS.F ht⟩) hS.2.2 dX6_pass_36
    · have hR := (if_neg c15).symm.trans hR
      refine lv_aload_n hx hb dX6_pass_18 rfl (lv_at hl 0 rfl) ?_
      refine va_get (D := (dC, dI)) (ci := 6) (v := .int t_second) (C := RX6) (T := TX6) (N := 31) hx hb hts hinX6 hown hK hP 0 rfl rfl 9 (by decide) (hts (.fieldLink RX6 149 "PaperInBinModel" "second" "I") (by decide +kernel)) (fun _ h9 => h9) rfl dX6_pass_19 ?_
      refine lv_iload_n hx hb dX6_pass_22 rfl (lv_at hl 1 rfl) ?_
      refine lv_iadd hx hb dX6_pass_23 ?_
      refine lv_sipush (v := 9999) hx hb dX6_pass_24 (by decide) ?_
      refine lv_icmp_le (tgt := 37) hx hb dX6_pass_27 (by decide) (fun c27 => ?_) (fun c27 => ?_)
      · have hR := (if_pos c27).symm.trans hR
        refine lv_aload_n hx hb dX6_pass_37 rfl (lv_at hl 0 rfl) ?_
        refine lv_dup hx hb dX6_pass_38 rfl ?_
        refine va_get (D := (dC, dI)) (ci := 6) (v := .int t_second) (C := RX6) (T := TX6) (N := 31) hx hb hts hinX6 hown hK hP 0 rfl rfl 9 (by decide) (hts (.fieldLink RX6 149 "PaperInBinModel" "second" "I") (by decide +kernel)) (fun _ h9 => h9) rfl dX6_pass_39 ?_
        refine lv_iload_n hx hb dX6_pass_42 rfl (lv_at hl 1 rfl) ?_
        refine lv_iadd hx hb dX6_pass_43 ?_
        refine va_put (D := (dC, dI)) (ci := 6) (v := .int (t_second + x1)) (ty := .int) (C := RX6) (T := TX6) (N := 31) hx hb hts hinX6 tyX6 tyX6_ok nmX6 hown hK hP hD hS 0 rfl rfl 9 (by decide) (hts (.fieldLink RX6 149 "PaperInBinModel" "second" "I") (by decide +kernel)) (fun _ h9 => h9) rfl (tyX6_ok 9 (by decide)) rfl rfl (Nat.le_of_ble_eq_true rfl) dX6_pass_44 (fun H locs hP hD hS => ?_)
        have hP : va_P (dC, dI) vwCl [(a_t, .inr (6, [.int t_hand, .int t_first, .int t_wide, .int t_rim, .int t_fill, .int t_wall, .int t_ceiling, .int t_puff, .int t_period, .int (t_second + x1), .int t_score, .int t_thrown, .int t_balls, .ref a_kind, .ref a_size, .ref a_tight, .int t_letters, .ref a_letter, .int t_at, .int t_value, .int t_inRow, .ref a_row, .ref a_refusals, .int t_imaged, .ref a_image, .ref a_ahead, .int t_end, .int t_cell, .int t_steps, .int t_highest, .int t_struck])), (a_refusals, .inl (cI, 7, .inl refusalsA))] H := hP
        have hD : va_D A [(a_t, .inr (6, [.int t_hand, .int t_first, .int t_wide, .int t_rim, .int t_fill, .int t_wall, .int t_ceiling, .int t_puff, .int t_period, .int (t_second + x1), .int t_score, .int t_thrown, .int t_balls, .ref a_kind, .ref a_size, .ref a_tight, .int t_letters, .ref a_letter, .int t_at, .int t_value, .int t_inRow, .ref a_row, .ref a_refusals, .int t_imaged, .ref a_image, .ref a_ahead, .int t_end, .int t_cell, .int t_steps, .int t_highest, .int t_struck])), (a_refusals, .inl (cI, 7, .inl refusalsA))] := hD
        refine lv_aload_n hx hb dX6_pass_47 rfl (lv_at hl 0 rfl) ?_
        refine va_get (D := (dC, dI)) (ci := 6) (v := .int (t_second + x1)) (C := RX6) (T := TX6) (N := 31) hx hb hts hinX6 hown hK hP 0 rfl rfl 9 (by decide) (hts (.fieldLink RX6 149 "PaperInBinModel" "second" "I") (by decide +kernel)) (fun _ h9 => h9) rfl dX6_pass_48 ?_
        subst hQ
        subst hAe
        exact W.iret (v := (t_second + x1)) hx hb hr (fun t ht hW => ⟨⟨(t_second + x1), ((t_second + x1), refusalsA), rfl, Option.some.inj hR, by rw [ht]; exact hP, hD⟩, hS.F ht⟩) hS.2.2 dX6_pass_51
      · have hR := (if_neg c27).symm.trans hR
        refine lv_aload_n hx hb dX6_pass_30 rfl (lv_at hl 0 rfl) ?_
        refine lv_bipush (v := (-6)) hx hb dX6_pass_31 (by decide) ?_
        obtain ⟨r4, w5, hu6, hR⟩ := b2_s hR
        refine cl_ViT (As := [.int (-6)]) (rest := []) (wc := [(a_t, .inr (6, [.int t_hand, .int t_first, .int t_wide, .int t_rim, .int t_fill, .int t_wall, .int t_ceiling, .int t_puff, .int t_period, .int t_second, .int t_score, .int t_thrown, .int t_balls, .ref a_kind, .ref a_size, .ref a_tight, .int t_letters, .ref a_letter, .int t_at, .int t_value, .int t_inRow, .ref a_row, .ref a_refusals, .int t_imaged, .ref a_image, .ref a_ahead, .int t_end, .int t_cell, .int t_steps, .int t_highest, .int t_struck])), (a_refusals, .inl (cI, 7, .inl refusalsA))]) (wr := []) ⟨hx, hb, hml, hown, hts⟩ (kX6_no l dC dI cI a_t a_kind a_size a_tight a_letter a_row a_refusals a_image a_ahead s.heap.size (-6) t_hand t_first t_wide t_rim t_fill t_wall t_ceiling t_puff t_period t_second t_score t_thrown t_balls t_letters t_at t_value t_inRow t_imaged t_end t_cell t_steps t_highest t_struck refusalsA (r4, w5) hu6) (cwV 1 hts gX6_pass_X6_no rfl rfl rfl (by decide +kernel) ⟨Nat.le_of_ble_eq_true rfl, Nat.le_of_ble_eq_true rfl⟩) hK hN hP hD hS hA (va_recv hK hP (ci := 6) (q0 := 0) rfl rfl) [0, 1] [] rfl rfl rfl rfl rfl (by decide) rfl hl.1 rfl (Nat.le_of_ble_eq_true rfl) dX6_pass_33 (fun H locs hP hD hS => ?_)
        have hP : va_P (dC, dI) vwCl [(a_t, .inr (6, [.int t_hand, .int t_first, .int t_wide, .int t_rim, .int t_fill, .int t_wall, .int t_ceiling, .int t_puff, .int t_period, .int t_second, .int t_score, .int t_thrown, .int t_balls, .ref a_kind, .ref a_size, .ref a_tight, .int t_letters, .ref a_letter, .int t_at, .int t_value, .int t_inRow, .ref a_row, .ref a_refusals, .int t_imaged, .ref a_image, .ref a_ahead, .int t_end, .int t_cell, .int t_steps, .int t_highest, .int t_struck])), (a_refusals, .inl (cI, 7, .inl w5))] H := hP
        have hD : va_D A [(a_t, .inr (6, [.int t_hand, .int t_first, .int t_wide, .int t_rim, .int t_fill, .int t_wall, .int t_ceiling, .int t_puff, .int t_period, .int t_second, .int t_score, .int t_thrown, .int t_balls, .ref a_kind, .ref a_size, .ref a_tight, .int t_letters, .ref a_letter, .int t_at, .int t_value, .int t_inRow, .ref a_row, .ref a_refusals, .int t_imaged, .ref a_image, .ref a_ahead, .int t_end, .int t_cell, .int t_steps, .int t_highest, .int t_struck])), (a_refusals, .inl (cI, 7, .inl w5))] := hD
        subst hQ
        subst hAe
        exact W.iret (v := r4) hx hb hr (fun t ht hW => ⟨⟨r4, (t_second, w5), rfl, Option.some.inj hR, by rw [ht]; exact hP, hD⟩, hS.F ht⟩) hS.2.2 dX6_pass_36
  · have hR := (if_neg c2).symm.trans hR
    refine lv_aload_n hx hb dX6_pass_5 rfl (lv_at hl 0 rfl) ?_
    refine lv_bipush (v := (-4)) hx hb dX6_pass_6 (by decide) ?_
    obtain ⟨r7, w8, hu9, hR⟩ := b2_s hR
    refine cl_ViT (As := [.int (-4)]) (rest := []) (wc := [(a_t, .inr (6, [.int t_hand, .int t_first, .int t_wide, .int t_rim, .int t_fill, .int t_wall, .int t_ceiling, .int t_puff, .int t_period, .int t_second, .int t_score, .int t_thrown, .int t_balls, .ref a_kind, .ref a_size, .ref a_tight, .int t_letters, .ref a_letter, .int t_at, .int t_value, .int t_inRow, .ref a_row, .ref a_refusals, .int t_imaged, .ref a_image, .ref a_ahead, .int t_end, .int t_cell, .int t_steps, .int t_highest, .int t_struck])), (a_refusals, .inl (cI, 7, .inl refusalsA))]) (wr := []) ⟨hx, hb, hml, hown, hts⟩ (kX6_no l dC dI cI a_t a_kind a_size a_tight a_letter a_row a_refusals a_image a_ahead s.heap.size (-4) t_hand t_first t_wide t_rim t_fill t_wall t_ceiling t_puff t_period t_second t_score t_thrown t_balls t_letters t_at t_value t_inRow t_imaged t_end t_cell t_steps t_highest t_struck refusalsA (r7, w8) hu9) (cwV 1 hts gX6_pass_X6_no rfl rfl rfl (by decide +kernel) ⟨Nat.le_of_ble_eq_true rfl, Nat.le_of_ble_eq_true rfl⟩) hK hN hP hD hS hA (va_recv hK hP (ci := 6) (q0 := 0) rfl rfl) [0, 1] [] rfl rfl rfl rfl rfl (by decide) rfl hl.1 rfl (Nat.le_of_ble_eq_true rfl) dX6_pass_8 (fun H locs hP hD hS => ?_)
    have hP : va_P (dC, dI) vwCl [(a_t, .inr (6, [.int t_hand, .int t_first, .int t_wide, .int t_rim, .int t_fill, .int t_wall, .int t_ceiling, .int t_puff, .int t_period, .int t_second, .int t_score, .int t_thrown, .int t_balls, .ref a_kind, .ref a_size, .ref a_tight, .int t_letters, .ref a_letter, .int t_at, .int t_value, .int t_inRow, .ref a_row, .ref a_refusals, .int t_imaged, .ref a_image, .ref a_ahead, .int t_end, .int t_cell, .int t_steps, .int t_highest, .int t_struck])), (a_refusals, .inl (cI, 7, .inl w8))] H := hP
    have hD : va_D A [(a_t, .inr (6, [.int t_hand, .int t_first, .int t_wide, .int t_rim, .int t_fill, .int t_wall, .int t_ceiling, .int t_puff, .int t_period, .int t_second, .int t_score, .int t_thrown, .int t_balls, .ref a_kind, .ref a_size, .ref a_tight, .int t_letters, .ref a_letter, .int t_at, .int t_value, .int t_inRow, .ref a_row, .ref a_refusals, .int t_imaged, .ref a_image, .ref a_ahead, .int t_end, .int t_cell, .int t_steps, .int t_highest, .int t_struck])), (a_refusals, .inl (cI, 7, .inl w8))] := hD
    subst hQ
    subst hAe
    exact W.iret (v := r7) hx hb hr (fun t ht hW => ⟨⟨r7, (t_second, w8), rfl, Option.some.inj hR, by rw [ht]; exact hP, hD⟩, hS.F ht⟩) hS.2.2 dX6_pass_11
def fX6_clearBin (t_fill : Int32) : Option (Int32 × Int32) :=
  some (t_fill, 0)
set_option maxHeartbeats 4000000 in
set_option maxRecDepth 100000 in
theorem kX6_clearBin (l : Launch) (dC : Nat → ClassId) (dI : Nat → Nat → Nat) (cI : ClassId) (a_t a_kind a_size a_tight a_letter a_row a_refusals a_image a_ahead : Nat) (sz : Nat) (t_hand : Int32) (t_first : Int32) (t_wide : Int32) (t_rim : Int32) (t_fill : Int32) (t_wall : Int32) (t_ceiling : Int32) (t_puff : Int32) (t_period : Int32) (t_second : Int32) (t_score : Int32) (t_thrown : Int32) (t_balls : Int32) (t_letters : Int32) (t_at : Int32) (t_value : Int32) (t_inRow : Int32) (t_imaged : Int32) (t_end : Int32) (t_cell : Int32) (t_steps : Int32) (t_highest : Int32) (t_struck : Int32) (R : Int32 × Int32) (hR : fX6_clearBin t_fill = some R) : Met l yX6_clearBin wsX6_clearBin ({ frames := 0, cells := 0, slots := 0, locals := 0 } : Room) (va_Pc [.ref a_t] (Wp (dC, dI) [(cI, .int)] [(a_t, .inr (6, [.int t_hand, .int t_first, .int t_wide, .int t_rim, .int t_fill, .int t_wall, .int t_ceiling, .int t_puff, .int t_period, .int t_second, .int t_score, .int t_thrown, .int t_balls, .ref a_kind, .ref a_size, .ref a_tight, .int t_letters, .ref a_letter, .int t_at, .int t_value, .int t_inRow, .ref a_row, .ref a_refusals, .int t_imaged, .ref a_image, .ref a_ahead, .int t_end, .int t_cell, .int t_steps, .int t_highest, .int t_struck]))] sz)) (va_Qi (fun (r : Int32) (u : Int32) => (r, u) = R) (Wq (dC, dI) [(a_t, .inr (6, [.int t_hand, .int t_first, .int t_wide, .int t_rim, .int t_fill, .int t_wall, .int t_ceiling, .int t_puff, .int t_period, .int t_second, .int t_score, .int t_thrown, .int t_balls, .ref a_kind, .ref a_size, .ref a_tight, .int t_letters, .ref a_letter, .int t_at, .int t_value, .int t_inRow, .ref a_row, .ref a_refusals, .int t_imaged, .ref a_image, .ref a_ahead, .int t_end, .int t_cell, .int t_steps, .int t_highest, .int t_struck]))] sz (fun (u : Int32) => ([(a_t, .inr (6, [.int t_hand, .int t_first, .int t_wide, .int t_rim, .int u, .int t_wall, .int t_ceiling, .int t_puff, .int t_period, .int t_second, .int t_score, .int t_thrown, .int t_balls, .ref a_kind, .ref a_size, .ref a_tight, .int t_letters, .ref a_letter, .int t_at, .int t_value, .int t_inRow, .ref a_row, .ref a_refusals, .int t_imaged, .ref a_image, .ref a_ahead, .int t_end, .int t_cell, .int t_steps, .int t_highest, .int t_struck]))] : va_W))) (va_A [(a_t, .inr (6, [.int t_hand, .int t_first, .int t_wide, .int t_rim, .int t_fill, .int t_wall, .int t_ceiling, .int t_puff, .int t_period, .int t_second, .int t_score, .int t_thrown, .int t_balls, .ref a_kind, .ref a_size, .ref a_tight, .int t_letters, .ref a_letter, .int t_at, .int t_value, .int t_inRow, .ref a_row, .ref a_refusals, .int t_imaged, .ref a_image, .ref a_ahead, .int t_end, .int t_cell, .int t_steps, .int t_highest, .int t_struck]))] sz)) 0 0 (va_A [(a_t, .inr (6, [.int t_hand, .int t_first, .int t_wide, .int t_rim, .int t_fill, .int t_wall, .int t_ceiling, .int t_puff, .int t_period, .int t_second, .int t_score, .int t_thrown, .int t_balls, .ref a_kind, .ref a_size, .ref a_tight, .int t_letters, .ref a_letter, .int t_at, .int t_value, .int t_inRow, .ref a_row, .ref a_refusals, .int t_imaged, .ref a_image, .ref a_ahead, .int t_end, .int t_cell, .int t_steps, .int t_highest, .int t_struck]))] sz) := by
  refine Met.ofW (cc := cX6_clearBin) (maxL := 2) (ret := (some .int)) (by decide) rfl ?_
  intro p e s m args below meth c s₁ B hml hv
  obtain ⟨hargs, hsz, hP, hK, hD0, hN⟩ := hv
  have hx := B.exec
  have hb := B.bytes
  have hr := B.returns
  have hts := atoms_spec (ws := wsX6_clearBin) B.pre
  have hown : s.vm.findClass RX6 = some m.cls := findClass_of_methodNamed B.named
  have hlocks := B.notSynchronized
  subst hsz
  have hD := hD0.self (sz := s.heap.size)
  obtain ⟨A, hAe⟩ : ∃ A, A = va_A [(a_t, .inr (6, [.int t_hand, .int t_first, .int t_wide, .int t_rim, .int t_fill, .int t_wall, .int t_ceiling, .int t_puff, .int t_period, .int t_second, .int t_score, .int t_thrown, .int t_balls, .ref a_kind, .ref a_size, .ref a_tight, .int t_letters, .ref a_letter, .int t_at, .int t_value, .int t_inRow, .ref a_row, .ref a_refusals, .int t_imaged, .ref a_image, .ref a_ahead, .int t_end, .int t_cell, .int t_steps, .int t_highest, .int t_struck]))] s.heap.size := ⟨_, rfl⟩
  rw [← hAe] at hD
  have hA : ∀ q : Nat, s.heap.size ≤ q → A q := fun q h => by rw [hAe]; exact Or.inr h
  have hS : va_S A s.heap s.heap [] := va_S.rf
  have hl := lv_entry ([.ref a_t]) (n := 2) (Nat.le_of_ble_eq_true rfl)
  rw [e_of hargs, lg_entry_eq]
  generalize (lg_sl ([.ref a_t]) ++ List.replicate (2 - (lg_sl ([.ref a_t])).length) Slot.unset).toArray = ls at hl ⊢
  have hl : lv_has ls 2 [(0, .ref a_t)] := hl
  have hinX6 : ∀ w ∈ wsX60, w ∈ wsX6_clearBin := by decide +kernel
  refine w_q ({ frames := 0, cells := 0, slots := 0, locals := 0 } : Room) (fun Q0 hQ => ?_)
  rw [fX6_clearBin] at hR
  refine lv_aload_n hx hb dX6_clearBin_0 rfl (lv_at hl 0 rfl) ?_
  refine va_get (D := (dC, dI)) (ci := 6) (v := .int t_fill) (C := RX6) (T := TX6) (N := 31) hx hb hts hinX6 hown hK hP 0 rfl rfl 4 (by decide) (hts (.fieldLink RX6 89 "PaperInBinModel" "fill" "I") (by decide +kernel)) (fun _ h9 => h9) rfl dX6_clearBin_1 ?_
  refine lv_istore_n (lv' := [(1, .int t_fill), (0, .ref a_t)]) hx hb dX6_clearBin_4 rfl hl (by decide) rfl (fun ls hl => ?_)
  refine lv_aload_n hx hb dX6_clearBin_5 rfl (lv_at hl 1 rfl) ?_
  refine lv_iconst (v := 0) hx hb dX6_clearBin_6 (by decide) ?_
  refine va_put (D := (dC, dI)) (ci := 6) (v := .int 0) (ty := .int) (C := RX6) (T := TX6) (N := 31) hx hb hts hinX6 tyX6 tyX6_ok nmX6 hown hK hP hD hS 0 rfl rfl 4 (by decide) (hts (.fieldLink RX6 89 "PaperInBinModel" "fill" "I") (by decide +kernel)) (fun _ h9 => h9) rfl (tyX6_ok 4 (by decide)) rfl rfl (Nat.le_of_ble_eq_true rfl) dX6_clearBin_7 (fun H locs hP hD hS => ?_)
  have hP : va_P (dC, dI) vwCl [(a_t, .inr (6, [.int t_hand, .int t_first, .int t_wide, .int t_rim, .int 0, .int t_wall, .int t_ceiling, .int t_puff, .int t_period, .int t_second, .int t_score, .int t_thrown, .int t_balls, .ref a_kind, .ref a_size, .ref a_tight, .int t_letters, .ref a_letter, .int t_at, .int t_value, .int t_inRow, .ref a_row, .ref a_refusals, .int t_imaged, .ref a_image, .ref a_ahead, .int t_end, .int t_cell, .int t_steps, .int t_highest, .int t_struck]))] H := hP
  have hD : va_D A [(a_t, .inr (6, [.int t_hand, .int t_first, .int t_wide, .int t_rim, .int 0, .int t_wall, .int t_ceiling, .int t_puff, .int t_period, .int t_second, .int t_score, .int t_thrown, .int t_balls, .ref a_kind, .ref a_size, .ref a_tight, .int t_letters, .ref a_letter, .int t_at, .int t_value, .int t_inRow, .ref a_row, .ref a_refusals, .int t_imaged, .ref a_image, .ref a_ahead, .int t_end, .int t_cell, .int t_steps, .int t_highest, .int t_struck]))] := hD
  refine lv_iload_n hx hb dX6_clearBin_10 rfl (lv_at hl 0 rfl) ?_
  subst hQ
  subst hAe
  exact W.iret (v := t_fill) hx hb hr (fun t ht hW => ⟨⟨t_fill, (0), rfl, Option.some.inj hR, by rw [ht]; exact hP, hD⟩, hS.F ht⟩) hS.2.2 dX6_clearBin_11
def lX6_power_5 (x0 : Int64) (x2 : Int32) : Nat → Int64 → Int32 → Option (Int64)
  | 0, _, _ => none
  | n + 1, x3, x5 =>
    if x2 ≤ x5 then (
     some (x3))
    else (
    lX6_power_5 x0 x2 n (x3 * x0) (x5 + 1))
def fX6_power (x0 : Int64) (x2 : Int32) : Option (Int64) :=
  lX6_power_5 x0 x2 (100) 1 0
set_option maxHeartbeats 4000000 in
set_option maxRecDepth 100000 in
theorem kX6_power (l : Launch) (dC : Nat → ClassId) (dI : Nat → Nat → Nat) (cI : ClassId) (sz : Nat) (x0 : Int64) (x2 : Int32) (R : Int64) (hR : fX6_power x0 x2 = some R) : Met l yX6_power wsX6_power ({ frames := 0, cells := 0, slots := 0, locals := 0 } : Room) (va_Pc [.long x0, .int x2] (Wp (dC, dI) [(cI, .int)] [] sz)) (va_Ql (fun (r : Int64) (_ : Unit) => r = R) (Wq (dC, dI) [] sz (fun (_ : Unit) => ([] : va_W))) (va_A [] sz)) 0 0 (va_A [] sz) := by
  refine Met.ofW (cc := cX6_power) (maxL := 6) (ret := (some .long)) (by decide) rfl ?_
  intro p e s m args below meth c s₁ B hml hv
  obtain ⟨hargs, hsz, hP, hK, hD0, hN⟩ := hv
  have hx := B.exec
  have hb := B.bytes
  have hr := B.returns
  have hts := atoms_spec (ws := wsX6_power) B.pre
  have hown : s.vm.findClass RX6 = some m.cls := findClass_of_methodNamed B.named
  have hlocks := B.notSynchronized
  subst hsz
  have hD := hD0.self (sz := s.heap.size)
  obtain ⟨A, hAe⟩ : ∃ A, A = va_A [] s.heap.size := ⟨_, rfl⟩
  rw [← hAe] at hD
  have hA : ∀ q : Nat, s.heap.size ≤ q → A q := fun q h => by rw [hAe]; exact Or.inr h
  have hS : va_S A s.heap s.heap [] := va_S.rf
  have hl := lv_entry ([.long x0, .int x2]) (n := 6) (Nat.le_of_ble_eq_true rfl)
  rw [e_of hargs, lg_entry_eq]
  generalize (lg_sl ([.long x0, .int x2]) ++ List.replicate (6 - (lg_sl ([.long x0, .int x2])).length) Slot.unset).toArray = ls at hl ⊢
  have hl : lv_has ls 6 [(0, .long x0), (2, .int x2)] := hl
  refine w_q ({ frames := 0, cells := 0, slots := 0, locals := 0 } : Room) (fun Q0 hQ => ?_)
  have K5 : ∀ (n5 : Nat) (x3 : Int64) (x5 : Int32) (H : Heap) (locs : List Loc), va_P (dC, dI) vwCl [] H → va_D A [] → va_S A s.heap H locs → ∀ (ls : Array Slot), lv_has ls 6 [(0, .long x0), (2, .int x2), (3, .long x3), (5, .int x5)] → lX6_power_5 x0 x2 n5 x3 x5 = some R → W p l e ({ frames := 0, cells := 0, slots := 0, locals := 0 } : Room) s m args below meth c H locs 0 0 Q0 (F0 m 5 ls []) := by
    intro n5
    induction n5 with
    | zero =>
      intro x3 x5 H locs hP hD hS ls hl hR
      rw [lX6_power_5] at hR
      cases hR
    | succ n5 ih5 =>
      intro x3 x5 H locs hP hD hS ls hl hR
      rw [lX6_power_5] at hR
      refine lv_iload hx hb dX6_power_5 (lv_at hl 3 rfl) ?_
      refine lv_iload_n hx hb dX6_power_7 rfl (lv_at hl 1 rfl) ?_
      refine lv_icmp_ge (tgt := 21) hx hb dX6_power_8 (by decide) (fun c8 => ?_) (fun c8 => ?_)
      · have hR := (if_pos c8).symm.trans hR
        refine lv_lload_n hx hb dX6_power_21 rfl (lv_at hl 2 rfl) ?_
        subst hQ
        subst hAe
        exact W.lret (v := x3) hx hb hr (fun t ht hW => ⟨⟨x3, (), rfl, Option.some.inj hR, by rw [ht]; exact hP, hD⟩, hS.F ht⟩) hS.2.2 dX6_power_22
      · have hR := (if_neg c8).symm.trans hR
        refine lv_lload_n hx hb dX6_power_11 rfl (lv_at hl 2 rfl) ?_
        refine lv_lload_n hx hb dX6_power_12 rfl (lv_at hl 0 rfl) ?_
        refine lv_lmul hx hb dX6_power_13 ?_
        refine lv_lstore_n (lv' := [(3, .long (x3 * x0)), (0, .long x0), (2, .int x2), (5, .int x5)]) hx hb dX6_power_14 rfl hl (by decide) rfl (fun ls hl => ?_)
        refine lv_iinc (v := (x5 + 1)) (lv' := [(5, .int (x5 + 1)), (3, .long (x3 * x0)), (0, .long x0), (2, .int x2)]) hx hb dX6_power_15 hl (k := 3) rfl rfl (by decide) rfl (fun ls hl => ?_)
        refine lv_goto (tgt := 5) hx hb dX6_power_18 (by decide) ?_
        exact ih5 (x3 * x0) (x5 + 1) _ _ hP hD hS _ (lv_sub hl [2, 3, 1, 0] rfl) hR
  rw [fX6_power] at hR
  refine lv_lconst (v := 1) hx hb dX6_power_0 (by decide) ?_
  refine lv_lstore_n (lv' := [(3, .long 1), (0, .long x0), (2, .int x2)]) hx hb dX6_power_1 rfl hl (by decide) rfl (fun ls hl => ?_)
  refine lv_iconst (v := 0) hx hb dX6_power_2 (by decide) ?_
  refine lv_istore (lv' := [(5, .int 0), (3, .long 1), (0, .long x0), (2, .int x2)]) hx hb dX6_power_3 hl (by decide) rfl (fun ls hl => ?_)
  exact K5 (100) 1 0 _ _ hP hD hS _ (lv_sub hl [2, 3, 1, 0] rfl) hR
def lX6_part_6 (x0 : Int64) (x2 : Int64) (x4 : Int32) : Nat → Int64 → Int64 → Option (Int64)
  | 0, _, _ => none
  | n + 1, x5, x7 =>
    if (lg_cmp x7 0) = 0 then (
     if x4 = 0 then (
      g_nzl x5 (
      some ((x0 / x5))))
     else (
     g_nzl x5 (
     some ((x2 / x5)))))
    else (
    g_nzl x7 (
    lX6_part_6 x0 x2 x4 n x7 (x5 - x5 / x7 * x7)))
def fX6_part (x0 : Int64) (x2 : Int64) (x4 : Int32) : Option (Int64) :=
  lX6_part_6 x0 x2 x4 (1001) x0 x2
set_option maxHeartbeats 4000000 in
set_option maxRecDepth 100000 in
theorem kX6_part (l : Launch) (dC : Nat → ClassId) (dI : Nat → Nat → Nat) (cI : ClassId) (sz : Nat) (x0 : Int64) (x2 : Int64) (x4 : Int32) (R : Int64) (hR : fX6_part x0 x2 x4 = some R) : Met l yX6_part wsX6_part ({ frames := 0, cells := 0, slots := 0, locals := 0 } : Room) (va_Pc [.long x0, .long x2, .int x4] (Wp (dC, dI) [(cI, .int)] [] sz)) (va_Ql (fun (r : Int64) (_ : Unit) => r = R) (Wq (dC, dI) [] sz (fun (_ : Unit) => ([] : va_W))) (va_A [] sz)) 0 0 (va_A [] sz) := by
  refine Met.ofW (cc := cX6_part) (maxL := 11) (ret := (some .long)) (by decide) rfl ?_
  intro p e s m args below meth c s₁ B hml hv
  obtain ⟨hargs, hsz, hP, hK, hD0, hN⟩ := hv
  have hx := B.exec
  have hb := B.bytes
  have hr := B.returns
  have hts := atoms_spec (ws := wsX6_part) B.pre
  have hown : s.vm.findClass RX6 = some m.cls := findClass_of_methodNamed B.named
  have hlocks := B.notSynchronized
  subst hsz
  have hD := hD0.self (sz := s.heap.size)
  obtain ⟨A, hAe⟩ : ∃ A, A = va_A [] s.heap.size := ⟨_, rfl⟩
  rw [← hAe] at hD
  have hA : ∀ q : Nat, s.heap.size ≤ q → A q := fun q h => by rw [hAe]; exact Or.inr h
  have hS : va_S A s.heap s.heap [] := va_S.rf
  have hl := lv_entry ([.long x0, .long x2, .int x4]) (n := 11) (Nat.le_of_ble_eq_true rfl)
  rw [e_of hargs, lg_entry_eq]
  generalize (lg_sl ([.long x0, .long x2, .int x4]) ++ List.replicate (11 - (lg_sl ([.long x0, .long x2, .int x4])).length) Slot.unset).toArray = ls at hl ⊢
  have hl : lv_has ls 11 [(0, .long x0), (2, .long x2), (4, .int x4)] := hl
  refine w_q ({ frames := 0, cells := 0, slots := 0, locals := 0 } : Room) (fun Q0 hQ => ?_)
  have K6 : ∀ (n6 : Nat) (x5 : Int64) (x7 : Int64) (H : Heap) (locs : List Loc), va_P (dC, dI) vwCl [] H → va_D A [] → va_S A s.heap H locs → ∀ (ls : Array Slot), lv_has ls 11 [(0, .long x0), (2, .long x2), (4, .int x4), (5, .long x5), (7, .long x7)] → lX6_part_6 x0 x2 x4 n6 x5 x7 = some R → W p l e ({ frames := 0, cells := 0, slots := 0, locals := 0 } : Room) s m args below meth c H locs 0 0 Q0 (F0 m 6 ls []) := by
    intro n6
    induction n6 with
    | zero =>
      intro x5 x7 H locs hP hD hS ls hl hR
      rw [lX6_part_6] at hR
      cases hR
    | succ n6 ih6 =>
      intro x5 x7 H locs hP hD hS ls hl hR
      rw [lX6_part_6] at hR
      refine lv_lload hx hb dX6_part_6 (lv_at hl 4 rfl) ?_
      refine lv_lconst (v := 0) hx hb dX6_part_8 (by decide) ?_
      refine W.lcmp hx hb dX6_part_9 ?_
      refine lv_if_eq (tgt := 31) hx hb dX6_part_10 (by decide) (fun c10 => ?_) (fun c10 => ?_)
      · have hR := (if_pos c10).symm.trans hR
        refine lv_iload hx hb dX6_part_31 (lv_at hl 2 rfl) ?_
        refine lv_if_ne (tgt := 43) hx hb dX6_part_33 (by decide) (fun c33 => ?_) (fun c33 => ?_)
        · have hR := (if_neg c33).symm.trans hR
          refine lv_lload_n hx hb dX6_part_43 rfl (lv_at hl 1 rfl) ?_
          refine lv_lload hx hb dX6_part_44 (lv_at hl 3 rfl) ?_
          obtain ⟨g1, hR⟩ := g_nzl_s hR
          refine lv_ldiv hx hb dX6_part_46 g1 ?_
          subst hQ
          subst hAe
          exact W.lret (v := (x2 / x5)) hx hb hr (fun t ht hW => ⟨⟨(x2 / x5), (), rfl, Option.some.inj hR, by rw [ht]; exact hP, hD⟩, hS.F ht⟩) hS.2.2 dX6_part_47
        · have hR := (if_pos c33).symm.trans hR
          refine lv_lload_n hx hb dX6_part_36 rfl (lv_at hl 0 rfl) ?_
          refine lv_lload hx hb dX6_part_37 (lv_at hl 3 rfl) ?_
          obtain ⟨g2, hR⟩ := g_nzl_s hR
          refine lv_ldiv hx hb dX6_part_39 g2 ?_
          refine lv_goto (tgt := 47) hx hb dX6_part_40 (by decide) ?_
          subst hQ
          subst hAe
          exact W.lret (v := (x0 / x5)) hx hb hr (fun t ht hW => ⟨⟨(x0 / x5), (), rfl, Option.some.inj hR, by rw [ht]; exact hP, hD⟩, hS.F ht⟩) hS.2.2 dX6_part_47
      · have hR := (if_neg c10).symm.trans hR
        refine lv_lload hx hb dX6_part_13 (lv_at hl 3 rfl) ?_
        refine lv_lload hx hb dX6_part_15 (lv_at hl 4 rfl) ?_
        obtain ⟨g3, hR⟩ := g_nzl_s hR
        refine lv_lrem hx hb dX6_part_17 g3 ?_
        refine lv_lstore (lv' := [(9, .long (x5 - x5 / x7 * x7)), (0, .long x0), (2, .long x2), (4, .int x4), (5, .long x5), (7, .long x7)]) hx hb dX6_part_18 hl (by decide) rfl (fun ls hl => ?_)
        refine lv_lload hx hb dX6_part_20 (lv_at hl 5 rfl) ?_
        refine lv_lstore (lv' := [(5, .long x7), (9, .long (x5 - x5 / x7 * x7)), (0, .long x0), (2, .long x2), (4, .int x4), (7, .long x7)]) hx hb dX6_part_22 hl (by decide) rfl (fun ls hl => ?_)
        refine lv_lload hx hb dX6_part_24 (lv_at hl 1 rfl) ?_
        refine lv_lstore (lv' := [(7, .long (x5 - x5 / x7 * x7)), (5, .long x7), (9, .long (x5 - x5 / x7 * x7)), (0, .long x0), (2, .long x2), (4, .int x4)]) hx hb dX6_part_26 hl (by decide) rfl (fun ls hl => ?_)
        refine lv_goto (tgt := 6) hx hb dX6_part_28 (by decide) ?_
        exact ih6 x7 (x5 - x5 / x7 * x7) _ _ hP hD hS _ (lv_sub hl [3, 4, 5, 1, 0] rfl) hR
  rw [fX6_part] at hR
  refine lv_lload_n hx hb dX6_part_0 rfl (lv_at hl 0 rfl) ?_
  refine lv_lstore (lv' := [(5, .long x0), (0, .long x0), (2, .long x2), (4, .int x4)]) hx hb dX6_part_1 hl (by decide) rfl (fun ls hl => ?_)
  refine lv_lload_n hx hb dX6_part_3 rfl (lv_at hl 2 rfl) ?_
  refine lv_lstore (lv' := [(7, .long x2), (5, .long x0), (0, .long x0), (2, .long x2), (4, .int x4)]) hx hb dX6_part_4 hl (by decide) rfl (fun ls hl => ?_)
  exact K6 (1001) x0 x2 _ _ hP hD hS _ (lv_sub hl [2, 3, 4, 1, 0] rfl) hR
def fX6_inRow (x1 : Int32) (x2 : Int32) (x3 : Int32) (refusalsA : Nat → Int32) : Option (Int64 × (Nat → Int32)) :=
  if x1 < 0 then (
   b2 (fX6_noLong (-4) refusalsA) (fun r1 w2 =>
   some (r1, w2)))
  else (
  if 0 ≤ x2 then (
   if 15 < x1 then (
    b2 (fX6_noLong (-6) refusalsA) (fun r4 w5 =>
    some (r4, w5)))
   else (
   if x2 ≤ 9 then (
    b1 (fX6_within x3 0 1) (fun r7 =>
    if r7 = 0 then (
     b2 (fX6_noLong (-2) refusalsA) (fun r9 w10 =>
     some (r9, w10)))
    else (
    b1 (fX6_power ((x2).toInt64) x1) (fun r12 =>
    b1 (fX6_power 9 x1) (fun r14 =>
    b1 (fX6_part r12 r14 x3) (fun r16 =>
    some (r16, refusalsA)))))))
   else (
   b2 (fX6_noLong (-6) refusalsA) (fun r18 w19 =>
   some (r18, w19)))))
  else (
  b2 (fX6_noLong (-4) refusalsA) (fun r21 w22 =>
  some (r21, w22))))
set_option maxHeartbeats 4000000 in
set_option maxRecDepth 100000 in
theorem kX6_inRow (l : Launch) (dC : Nat → ClassId) (dI : Nat → Nat → Nat) (cI : ClassId) (a_t a_kind a_size a_tight a_letter a_row a_refusals a_image a_ahead : Nat) (sz : Nat) (x1 : Int32) (x2 : Int32) (x3 : Int32) (t_hand : Int32) (t_first : Int32) (t_wide : Int32) (t_rim : Int32) (t_fill : Int32) (t_wall : Int32) (t_ceiling : Int32) (t_puff : Int32) (t_period : Int32) (t_second : Int32) (t_score : Int32) (t_thrown : Int32) (t_balls : Int32) (t_letters : Int32) (t_at : Int32) (t_value : Int32) (t_inRow : Int32) (t_imaged : Int32) (t_end : Int32) (t_cell : Int32) (t_steps : Int32) (t_highest : Int32) (t_struck : Int32) (refusalsA : Nat → Int32) (R : Int64 × (Nat → Int32)) (hR : fX6_inRow x1 x2 x3 refusalsA = some R) : Met l yX6_inRow wsX6_inRow ({ frames := 2, cells := 0, slots := 0, locals := 42 } : Room) (va_Pc [.ref a_t, .int x1, .int x2, .int x3] (Wp (dC, dI) [(cI, .int)] [(a_t, .inr (6, [.int t_hand, .int t_first, .int t_wide, .int t_rim, .int t_fill, .int t_wall, .int t_ceiling, .int t_puff, .int t_period, .int t_second, .int t_score, .int t_thrown, .int t_balls, .ref a_kind, .ref a_size, .ref a_tight, .int t_letters, .ref a_letter, .int t_at, .int t_value, .int t_inRow, .ref a_row, .ref a_refusals, .int t_imaged, .ref a_image, .ref a_ahead, .int t_end, .int t_cell, .int t_steps, .int t_highest, .int t_struck])), (a_refusals, .inl (cI, 7, .inl refusalsA))] sz)) (va_Ql (fun (r : Int64) (u : (Nat → Int32)) => (r, u) = R) (Wq (dC, dI) [(a_t, .inr (6, [.int t_hand, .int t_first, .int t_wide, .int t_rim, .int t_fill, .int t_wall, .int t_ceiling, .int t_puff, .int t_period, .int t_second, .int t_score, .int t_thrown, .int t_balls, .ref a_kind, .ref a_size, .ref a_tight, .int t_letters, .ref a_letter, .int t_at, .int t_value, .int t_inRow, .ref a_row, .ref a_refusals, .int t_imaged, .ref a_image, .ref a_ahead, .int t_end, .int t_cell, .int t_steps, .int t_highest, .int t_struck])), (a_refusals, .inl (cI, 7, .inl refusalsA))] sz (fun (u : (Nat → Int32)) => ([(a_t, .inr (6, [.int t_hand, .int t_first, .int t_wide, .int t_rim, .int t_fill, .int t_wall, .int t_ceiling, .int t_puff, .int t_period, .int t_second, .int t_score, .int t_thrown, .int t_balls, .ref a_kind, .ref a_size, .ref a_tight, .int t_letters, .ref a_letter, .int t_at, .int t_value, .int t_inRow, .ref a_row, .ref a_refusals, .int t_imaged, .ref a_image, .ref a_ahead, .int t_end, .int t_cell, .int t_steps, .int t_highest, .int t_struck])), (a_refusals, .inl (cI, 7, .inl u))] : va_W))) (va_A [(a_t, .inr (6, [.int t_hand, .int t_first, .int t_wide, .int t_rim, .int t_fill, .int t_wall, .int t_ceiling, .int t_puff, .int t_period, .int t_second, .int t_score, .int t_thrown, .int t_balls, .ref a_kind, .ref a_size, .ref a_tight, .int t_letters, .ref a_letter, .int t_at, .int t_value, .int t_inRow, .ref a_row, .ref a_refusals, .int t_imaged, .ref a_image, .ref a_ahead, .int t_end, .int t_cell, .int t_steps, .int t_highest, .int t_struck])), (a_refusals, .inl (cI, 7, .inl refusalsA))] sz)) 0 0 (va_A [(a_t, .inr (6, [.int t_hand, .int t_first, .int t_wide, .int t_rim, .int t_fill, .int t_wall, .int t_ceiling, .int t_puff, .int t_period, .int t_second, .int t_score, .int t_thrown, .int t_balls, .ref a_kind, .ref a_size, .ref a_tight, .int t_letters, .ref a_letter, .int t_at, .int t_value, .int t_inRow, .ref a_row, .ref a_refusals, .int t_imaged, .ref a_image, .ref a_ahead, .int t_end, .int t_cell, .int t_steps, .int t_highest, .int t_struck])), (a_refusals, .inl (cI, 7, .inl refusalsA))] sz) := by
  refine Met.ofW (cc := cX6_inRow) (maxL := 4) (ret := (some .long)) (by decide) rfl ?_
  intro p e s m args below meth c s₁ B hml hv
  obtain ⟨hargs, hsz, hP, hK, hD0, hN⟩ := hv
  have hx := B.exec
  have hb := B.bytes
  have hr := B.returns
  have hts := atoms_spec (ws := wsX6_inRow) B.pre
  have hown : s.vm.findClass RX6 = some m.cls := findClass_of_methodNamed B.named
  have hlocks := B.notSynchronized
  subst hsz
  have hD := hD0.self (sz := s.heap.size)
  obtain ⟨A, hAe⟩ : ∃ A, A = va_A [(a_t, .inr (6, [.int t_hand, .int t_first, .int t_wide, .int t_rim, .int t_fill, .int t_wall, .int t_ceiling, .int t_puff, .int t_period, .int t_second, .int t_score, .int t_thrown, .int t_balls, .ref a_kind, .ref a_size, .ref a_tight, .int t_letters, .ref a_letter, .int t_at, .int t_value, .int t_inRow, .ref a_row, .ref a_refusals, .int t_imaged, .ref a_image, .ref a_ahead, .int t_end, .int t_cell, .int t_steps, .int t_highest, .int t_struck])), (a_refusals, .inl (cI, 7, .inl refusalsA))] s.heap.size := ⟨_, rfl⟩
  rw [← hAe] at hD
  have hA : ∀ q : Nat, s.heap.size ≤ q → A q := fun q h => by rw [hAe]; exact Or.inr h
  have hS : va_S A s.heap s.heap [] := va_S.rf
  have hl := lv_entry ([.ref a_t, .int x1, .int x2, .int x3]) (n := 4) (Nat.le_of_ble_eq_true rfl)
  rw [e_of hargs, lg_entry_eq]
  generalize (lg_sl ([.ref a_t, .int x1, .int x2, .int x3]) ++ List.replicate (4 - (lg_sl ([.ref a_t, .int x1, .int x2, .int x3])).length) Slot.unset).toArray = ls at hl ⊢
  have hl : lv_has ls 4 [(0, .ref a_t), (1, .int x1), (2, .int x2), (3, .int x3)] := hl
  refine w_q ({ frames := 2, cells := 0, slots := 0, locals := 42 } : Room) (fun Q0 hQ => ?_)
  rw [fX6_inRow] at hR
  refine lv_iload_n hx hb dX6_inRow_0 rfl (lv_at hl 1 rfl) ?_
  refine lv_if_lt (tgt := 8) hx hb dX6_inRow_1 (by decide) (fun c1 => ?_) (fun c1 => ?_)
  · have hR := (if_pos c1).symm.trans hR
    refine lv_aload_n hx hb dX6_inRow_8 rfl (lv_at hl 0 rfl) ?_
    refine lv_bipush (v := (-4)) hx hb dX6_inRow_9 (by decide) ?_
    obtain ⟨r1, w2, hu3, hR⟩ := b2_s hR
    refine cl_VlT (As := [.int (-4)]) (rest := []) (wc := [(a_t, .inr (6, [.int t_hand, .int t_first, .int t_wide, .int t_rim, .int t_fill, .int t_wall, .int t_ceiling, .int t_puff, .int t_period, .int t_second, .int t_score, .int t_thrown, .int t_balls, .ref a_kind, .ref a_size, .ref a_tight, .int t_letters, .ref a_letter, .int t_at, .int t_value, .int t_inRow, .ref a_row, .ref a_refusals, .int t_imaged, .ref a_image, .ref a_ahead, .int t_end, .int t_cell, .int t_steps, .int t_highest, .int t_struck])), (a_refusals, .inl (cI, 7, .inl refusalsA))]) (wr := []) ⟨hx, hb, hml, hown, hts⟩ (kX6_noLong l dC dI cI a_t a_kind a_size a_tight a_letter a_row a_refusals a_image a_ahead s.heap.size (-4) t_hand t_first t_wide t_rim t_fill t_wall t_ceiling t_puff t_period t_second t_score t_thrown t_balls t_letters t_at t_value t_inRow t_imaged t_end t_cell t_steps t_highest t_struck refusalsA (r1, w2) hu3) (cwV 1 hts gX6_inRow_X6_noLong rfl rfl rfl (by decide +kernel) ⟨Nat.le_of_ble_eq_true rfl, Nat.le_of_ble_eq_true rfl⟩) hK hN hP hD hS hA (va_recv hK hP (ci := 6) (q0 := 0) rfl rfl) [0, 1] [] rfl rfl rfl rfl rfl (by decide) rfl hl.1 rfl (Nat.le_of_ble_eq_true rfl) dX6_inRow_11 (fun H locs hP hD hS => ?_)
    have hP : va_P (dC, dI) vwCl [(a_t, .inr (6, [.int t_hand, .int t_first, .int t_wide, .int t_rim, .int t_fill, .int t_wall, .int t_ceiling, .int t_puff, .int t_period, .int t_second, .int t_score, .int t_thrown, .int t_balls, .ref a_kind, .ref a_size, .ref a_tight, .int t_letters, .ref a_letter, .int t_at, .int t_value, .int t_inRow, .ref a_row, .ref a_refusals, .int t_imaged, .ref a_image, .ref a_ahead, .int t_end, .int t_cell, .int t_steps, .int t_highest, .int t_struck])), (a_refusals, .inl (cI, 7, .inl w2))] H := hP
    have hD : va_D A [(a_t, .inr (6, [.int t_hand, .int t_first, .int t_wide, .int t_rim, .int t_fill, .int t_wall, .int t_ceiling, .int t_puff, .int t_period, .int t_second, .int t_score, .int t_thrown, .int t_balls, .ref a_kind, .ref a_size, .ref a_tight, .int t_letters, .ref a_letter, .int t_at, .int t_value, .int t_inRow, .ref a_row, .ref a_refusals, .int t_imaged, .ref a_image, .ref a_ahead, .int t_end, .int t_cell, .int t_steps, .int t_highest, .int t_struck])), (a_refusals, .inl (cI, 7, .inl w2))] := hD
    subst hQ
    subst hAe
    exact W.lret (v := r1) hx hb hr (fun t ht hW => ⟨⟨r1, (w2), rfl, Option.some.inj hR, by rw [ht]; exact hP, hD⟩, hS.F ht⟩) hS.2.2 dX6_inRow_14
  · have hR := (if_neg c1).symm.trans hR
    refine lv_iload_n hx hb dX6_inRow_4 rfl (lv_at hl 2 rfl) ?_
    refine lv_if_ge (tgt := 15) hx hb dX6_inRow_5 (by decide) (fun c5 => ?_) (fun c5 => ?_)
    · have hR := (if_pos c5).symm.trans hR
      refine lv_iload_n hx hb dX6_inRow_15 rfl (lv_at hl 1 rfl) ?_
      refine lv_bipush (v := 15) hx hb dX6_inRow_16 (by decide) ?_
      refine lv_icmp_gt (tgt := 27) hx hb dX6_inRow_18 (by decide) (fun c18 => ?_) (fun c18 => ?_)
      · have hR := (if_pos c18).symm.trans hR
        refine lv_aload_n hx hb dX6_inRow_27 rfl (lv_at hl 0 rfl) ?_
        refine lv_bipush (v := (-6)) hx hb dX6_inRow_28 (by decide) ?_
        obtain ⟨r4, w5, hu6, hR⟩ := b2_s hR
        refine cl_VlT (As := [.int (-6)]) (rest := []) (wc := [(a_t, .inr (6, [.int t_hand, .int t_first, .int t_wide, .int t_rim, .int t_fill, .int t_wall, .int t_ceiling, .int t_puff, .int t_period, .int t_second, .int t_score, .int t_thrown, .int t_balls, .ref a_kind, .ref a_size, .ref a_tight, .int t_letters, .ref a_letter, .int t_at, .int t_value, .int t_inRow, .ref a_row, .ref a_refusals, .int t_imaged, .ref a_image, .ref a_ahead, .int t_end, .int t_cell, .int t_steps, .int t_highest, .int t_struck])), (a_refusals, .inl (cI, 7, .inl refusalsA))]) (wr := []) ⟨hx, hb, hml, hown, hts⟩ (kX6_noLong l dC dI cI a_t a_kind a_size a_tight a_letter a_row a_refusals a_image a_ahead s.heap.size (-6) t_hand t_first t_wide t_rim t_fill t_wall t_ceiling t_puff t_period t_second t_score t_thrown t_balls t_letters t_at t_value t_inRow t_imaged t_end t_cell t_steps t_highest t_struck refusalsA (r4, w5) hu6) (cwV 1 hts gX6_inRow_X6_noLong rfl rfl rfl (by decide +kernel) ⟨Nat.le_of_ble_eq_true rfl, Nat.le_of_ble_eq_true rfl⟩) hK hN hP hD hS hA (va_recv hK hP (ci := 6) (q0 := 0) rfl rfl) [0, 1] [] rfl rfl rfl rfl rfl (by decide) rfl hl.1 rfl (Nat.le_of_ble_eq_true rfl) dX6_inRow_30 (fun H locs hP hD hS => ?_)
        have hP : va_P (dC, dI) vwCl [(a_t, .inr (6, [.int t_hand, .int t_first, .int t_wide, .int t_rim, .int t_fill, .int t_wall, .int t_ceiling, .int t_puff, .int t_period, .int t_second, .int t_score, .int t_thrown, .int t_balls, .ref a_kind, .ref a_size, .ref a_tight, .int t_letters, .ref a_letter, .int t_at, .int t_value, .int t_inRow, .ref a_row, .ref a_refusals, .int t_imaged, .ref a_image, .ref a_ahead, .int t_end, .int t_cell, .int t_steps, .int t_highest, .int t_struck])), (a_refusals, .inl (cI, 7, .inl w5))] H := hP
        have hD : va_D A [(a_t, .inr (6, [.int t_hand, .int t_first, .int t_wide, .int t_rim, .int t_fill, .int t_wall, .int t_ceiling, .int t_puff, .int t_period, .int t_second, .int t_score, .int t_thrown, .int t_balls, .ref a_kind, .ref a_size, .ref a_tight, .int t_letters, .ref a_letter, .int t_at, .int t_value, .int t_inRow, .ref a_row, .ref a_refusals, .int t_imaged, .ref a_image, .ref a_ahead, .int t_end, .int t_cell, .int t_steps, .int t_highest, .int t_struck])), (a_refusals, .inl (cI, 7, .inl w5))] := hD
        subst hQ
        subst hAe
        exact W.lret (v := r4) hx hb hr (fun t ht hW => ⟨⟨r4, (w5), rfl, Option.some.inj hR, by rw [ht]; exact hP, hD⟩, hS.F ht⟩) hS.2.2 dX6_inRow_33
      · have hR := (if_neg c18).symm.trans hR
        refine lv_iload_n hx hb dX6_inRow_21 rfl (lv_at hl 2 rfl) ?_
        refine lv_bipush (v := 9) hx hb dX6_inRow_22 (by decide) ?_
        refine lv_icmp_le (tgt := 34) hx hb dX6_inRow_24 (by decide) (fun c24 => ?_) (fun c24 => ?_)
        · have hR := (if_pos c24).symm.trans hR
          refine lv_iload_n hx hb dX6_inRow_34 rfl (lv_at hl 3 rfl) ?_
          refine lv_iconst (v := 0) hx hb dX6_inRow_35 (by decide) ?_
          refine lv_iconst (v := 1) hx hb dX6_inRow_36 (by decide) ?_
          obtain ⟨r7, hu8, hR⟩ := b1_s hR
          refine cl_SiN (As := [.int x3, .int 0, .int 1]) (rest := []) (wc := []) (wr := [(a_t, .inr (6, [.int t_hand, .int t_first, .int t_wide, .int t_rim, .int t_fill, .int t_wall, .int t_ceiling, .int t_puff, .int t_period, .int t_second, .int t_score, .int t_thrown, .int t_balls, .ref a_kind, .ref a_size, .ref a_tight, .int t_letters, .ref a_letter, .int t_at, .int t_value, .int t_inRow, .ref a_row, .ref a_refusals, .int t_imaged, .ref a_image, .ref a_ahead, .int t_end, .int t_cell, .int t_steps, .int t_highest, .int t_struck])), (a_refusals, .inl (cI, 7, .inl refusalsA))]) ⟨hx, hb, hml, hown, hts⟩ (kX6_within l dC dI cI s.heap.size x3 0 1 r7 hu8) (cwS 3 hts gX6_inRow_X6_within rfl rfl rfl (by decide +kernel) ⟨Nat.le_of_ble_eq_true rfl, Nat.le_of_ble_eq_true rfl⟩) hK hN hP hD hS hA [] [0, 1] rfl rfl rfl rfl rfl (by decide) rfl hl.1 rfl (Nat.le_of_ble_eq_true rfl) dX6_inRow_37 (fun H locs hP hD hS => ?_)
          have hP : va_P (dC, dI) vwCl [(a_t, .inr (6, [.int t_hand, .int t_first, .int t_wide, .int t_rim, .int t_fill, .int t_wall, .int t_ceiling, .int t_puff, .int t_period, .int t_second, .int t_score, .int t_thrown, .int t_balls, .ref a_kind, .ref a_size, .ref a_tight, .int t_letters, .ref a_letter, .int t_at, .int t_value, .int t_inRow, .ref a_row, .ref a_refusals, .int t_imaged, .ref a_image, .ref a_ahead, .int t_end, .int t_cell, .int t_steps, .int t_highest, .int t_struck])), (a_refusals, .inl (cI, 7, .inl refusalsA))] H := hP
          have hD : va_D A [(a_t, .inr (6, [.int t_hand, .int t_first, .int t_wide, .int t_rim, .int t_fill, .int t_wall, .int t_ceiling, .int t_puff, .int t_period, .int t_second, .int t_score, .int t_thrown, .int t_balls, .ref a_kind, .ref a_size, .ref a_tight, .int t_letters, .ref a_letter, .int t_at, .int t_value, .int t_inRow, .ref a_row, .ref a_refusals, .int t_imaged, .ref a_image, .ref a_ahead, .int t_end, .int t_cell, .int t_steps, .int t_highest, .int t_struck])), (a_refusals, .inl (cI, 7, .inl refusalsA))] := hD
          refine lv_if_eq (tgt := 63) hx hb dX6_inRow_40 (by decide) (fun c40 => ?_) (fun c40 => ?_)
          · have hR := (if_pos c40).symm.trans hR
            refine lv_aload_n hx hb dX6_inRow_63 rfl (lv_at hl 0 rfl) ?_
            refine lv_bipush (v := (-2)) hx hb dX6_inRow_64 (by decide) ?_
            obtain ⟨r9, w10, hu11, hR⟩ := b2_s hR
            refine cl_VlT (As := [.int (-2)]) (rest := []) (wc := [(a_t, .inr (6, [.int t_hand, .int t_first, .int t_wide, .int t_rim, .int t_fill, .int t_wall, .int t_ceiling, .int t_puff, .int t_period, .int t_second, .int t_score, .int t_thrown, .int t_balls, .ref a_kind, .ref a_size, .ref a_tight, .int t_letters, .ref a_letter, .int t_at, .int t_value, .int t_inRow, .ref a_row, .ref a_refusals, .int t_imaged, .ref a_image, .ref a_ahead, .int t_end, .int t_cell, .int t_steps, .int t_highest, .int t_struck])), (a_refusals, .inl (cI, 7, .inl refusalsA))]) (wr := []) ⟨hx, hb, hml, hown, hts⟩ (kX6_noLong l dC dI cI a_t a_kind a_size a_tight a_letter a_row a_refusals a_image a_ahead H.size (-2) t_hand t_first t_wide t_rim t_fill t_wall t_ceiling t_puff t_period t_second t_score t_thrown t_balls t_letters t_at t_value t_inRow t_imaged t_end t_cell t_steps t_highest t_struck refusalsA (r9, w10) hu11) (cwV 1 hts gX6_inRow_X6_noLong rfl rfl rfl (by decide +kernel) ⟨Nat.le_of_ble_eq_true rfl, Nat.le_of_ble_eq_true rfl⟩) hK hN hP hD hS hA (va_recv hK hP (ci := 6) (q0 := 0) rfl rfl) [0, 1] [] rfl rfl rfl rfl rfl (by decide) rfl hl.1 rfl (Nat.le_of_ble_eq_true rfl) dX6_inRow_66 (fun H locs hP hD hS => ?_)
            have hP : va_P (dC, dI) vwCl [(a_t, .inr (6, [.int t_hand, .int t_first, .int t_wide, .int t_rim, .int t_fill, .int t_wall, .int t_ceiling, .int t_puff, .int t_period, .int t_second, .int t_score, .int t_thrown, .int t_balls, .ref a_kind, .ref a_size, .ref a_tight, .int t_letters, .ref a_letter, .int t_at, .int t_value, .int t_inRow, .ref a_row, .ref a_refusals, .int t_imaged, .ref a_image, .ref a_ahead, .int t_end, .int t_cell, .int t_steps, .int t_highest, .int t_struck])), (a_refusals, .inl (cI, 7, .inl w10))] H := hP
            have hD : va_D A [(a_t, .inr (6, [.int t_hand, .int t_first, .int t_wide, .int t_rim, .int t_fill, .int t_wall, .int t_ceiling, .int t_puff, .int t_period, .int t_second, .int t_score, .int t_thrown, .int t_balls, .ref a_kind, .ref a_size, .ref a_tight, .int t_letters, .ref a_letter, .int t_at, .int t_value, .int t_inRow, .ref a_row, .ref a_refusals, .int t_imaged, .ref a_image, .ref a_ahead, .int t_end, .int t_cell, .int t_steps, .int t_highest, .int t_struck])), (a_refusals, .inl (cI, 7, .inl w10))] := hD
            subst hQ
            subst hAe
            exact W.lret (v := r9) hx hb hr (fun t ht hW => ⟨⟨r9, (w10), rfl, Option.some.inj hR, by rw [ht]; exact hP, hD⟩, hS.F ht⟩) hS.2.2 dX6_inRow_69
          · have hR := (if_neg c40).symm.trans hR
            refine lv_iload_n hx hb dX6_inRow_43 rfl (lv_at hl 2 rfl) ?_
            refine lv_i2l hx hb dX6_inRow_44 rfl ?_
            refine lv_iload_n hx hb dX6_inRow_45 rfl (lv_at hl 1 rfl) ?_
            obtain ⟨r12, hu13, hR⟩ := b1_s hR
            refine cl_SlN (As := [.long ((x2).toInt64), .int x1]) (rest := []) (wc := []) (wr := [(a_t, .inr (6, [.int t_hand, .int t_first, .int t_wide, .int t_rim, .int t_fill, .int t_wall, .int t_ceiling, .int t_puff, .int t_period, .int t_second, .int t_score, .int t_thrown, .int t_balls, .ref a_kind, .ref a_size, .ref a_tight, .int t_letters, .ref a_letter, .int t_at, .int t_value, .int t_inRow, .ref a_row, .ref a_refusals, .int t_imaged, .ref a_image, .ref a_ahead, .int t_end, .int t_cell, .int t_steps, .int t_highest, .int t_struck])), (a_refusals, .inl (cI, 7, .inl refusalsA))]) ⟨hx, hb, hml, hown, hts⟩ (kX6_power l dC dI cI H.size ((x2).toInt64) x1 r12 hu13) (cwS 2 hts gX6_inRow_X6_power rfl rfl rfl (by decide +kernel) ⟨Nat.le_of_ble_eq_true rfl, Nat.le_of_ble_eq_true rfl⟩) hK hN hP hD hS hA [] [0, 1] rfl rfl rfl rfl rfl (by decide) rfl hl.1 rfl (Nat.le_of_ble_eq_true rfl) dX6_inRow_46 (fun H locs hP hD hS => ?_)
            have hP : va_P (dC, dI) vwCl [(a_t, .inr (6, [.int t_hand, .int t_first, .int t_wide, .int t_rim, .int t_fill, .int t_wall, .int t_ceiling, .int t_puff, .int t_period, .int t_second, .int t_score, .int t_thrown, .int t_balls, .ref a_kind, .ref a_size, .ref a_tight, .int t_letters, .ref a_letter, .int t_at, .int t_value, .int t_inRow, .ref a_row, .ref a_refusals, .int t_imaged, .ref a_image, .ref a_ahead, .int t_end, .int t_cell, .int t_steps, .int t_highest, .int t_struck])), (a_refusals, .inl (cI, 7, .inl refusalsA))] H := hP
            have hD : va_D A [(a_t, .inr (6, [.int t_hand, .int t_first, .int t_wide, .int t_rim, .int t_fill, .int t_wall, .int t_ceiling, .int t_puff, .int t_period, .int t_second, .int t_score, .int t_thrown, .int t_balls, .ref a_kind, .ref a_size, .ref a_tight, .int t_letters, .ref a_letter, .int t_at, .int t_value, .int t_inRow, .ref a_row, .ref a_refusals, .int t_imaged, .ref a_image, .ref a_ahead, .int t_end, .int t_cell, .int t_steps, .int t_highest, .int t_struck])), (a_refusals, .inl (cI, 7, .inl refusalsA))] := hD
            refine lv_ldc2 (v := 9) hx hb hown (hts (.constantLong RX6 183 (9)) (by decide +kernel)) dX6_inRow_49 ?_
            refine lv_iload_n hx hb dX6_inRow_52 rfl (lv_at hl 1 rfl) ?_
            obtain ⟨r14, hu15, hR⟩ := b1_s hR
            refine cl_SlN (As := [.long 9, .int x1]) (rest := [.long r12]) (wc := []) (wr := [(a_t, .inr (6, [.int t_hand, .int t_first, .int t_wide, .int t_rim, .int t_fill, .int t_wall, .int t_ceiling, .int t_puff, .int t_period, .int t_second, .int t_score, .int t_thrown, .int t_balls, .ref a_kind, .ref a_size, .ref a_tight, .int t_letters, .ref a_letter, .int t_at, .int t_value, .int t_inRow, .ref a_row, .ref a_refusals, .int t_imaged, .ref a_image, .ref a_ahead, .int t_end, .int t_cell, .int t_steps, .int t_highest, .int t_struck])), (a_refusals, .inl (cI, 7, .inl refusalsA))]) ⟨hx, hb, hml, hown, hts⟩ (kX6_power l dC dI cI H.size 9 x1 r14 hu15) (cwS 2 hts gX6_inRow_X6_power rfl rfl rfl (by decide +kernel) ⟨Nat.le_of_ble_eq_true rfl, Nat.le_of_ble_eq_true rfl⟩) hK hN hP hD hS hA [] [0, 1] rfl rfl rfl rfl rfl (by decide) rfl hl.1 rfl (Nat.le_of_ble_eq_true rfl) dX6_inRow_53 (fun H locs hP hD hS => ?_)
            have hP : va_P (dC, dI) vwCl [(a_t, .inr (6, [.int t_hand, .int t_first, .int t_wide, .int t_rim, .int t_fill, .int t_wall, .int t_ceiling, .int t_puff, .int t_period, .int t_second, .int t_score, .int t_thrown, .int t_balls, .ref a_kind, .ref a_size, .ref a_tight, .int t_letters, .ref a_letter, .int t_at, .int t_value, .int t_inRow, .ref a_row, .ref a_refusals, .int t_imaged, .ref a_image, .ref a_ahead, .int t_end, .int t_cell, .int t_steps, .int t_highest, .int t_struck])), (a_refusals, .inl (cI, 7, .inl refusalsA))] H := hP
            have hD : va_D A [(a_t, .inr (6, [.int t_hand, .int t_first, .int t_wide, .int t_rim, .int t_fill, .int t_wall, .int t_ceiling, .int t_puff, .int t_period, .int t_second, .int t_score, .int t_thrown, .int t_balls, .ref a_kind, .ref a_size, .ref a_tight, .int t_letters, .ref a_letter, .int t_at, .int t_value, .int t_inRow, .ref a_row, .ref a_refusals, .int t_imaged, .ref a_image, .ref a_ahead, .int t_end, .int t_cell, .int t_steps, .int t_highest, .int t_struck])), (a_refusals, .inl (cI, 7, .inl refusalsA))] := hD
            refine lv_iload_n hx hb dX6_inRow_56 rfl (lv_at hl 3 rfl) ?_
            obtain ⟨r16, hu17, hR⟩ := b1_s hR
            refine cl_SlN (As := [.long r12, .long r14, .int x3]) (rest := []) (wc := []) (wr := [(a_t, .inr (6, [.int t_hand, .int t_first, .int t_wide, .int t_rim, .int t_fill, .int t_wall, .int t_ceiling, .int t_puff, .int t_period, .int t_second, .int t_score, .int t_thrown, .int t_balls, .ref a_kind, .ref a_size, .ref a_tight, .int t_letters, .ref a_letter, .int t_at, .int t_value, .int t_inRow, .ref a_row, .ref a_refusals, .int t_imaged, .ref a_image, .ref a_ahead, .int t_end, .int t_cell, .int t_steps, .int t_highest, .int t_struck])), (a_refusals, .inl (cI, 7, .inl refusalsA))]) ⟨hx, hb, hml, hown, hts⟩ (kX6_part l dC dI cI H.size r12 r14 x3 r16 hu17) (cwS 3 hts gX6_inRow_X6_part rfl rfl rfl (by decide +kernel) ⟨Nat.le_of_ble_eq_true rfl, Nat.le_of_ble_eq_true rfl⟩) hK hN hP hD hS hA [] [0, 1] rfl rfl rfl rfl rfl (by decide) rfl hl.1 rfl (Nat.le_of_ble_eq_true rfl) dX6_inRow_57 (fun H locs hP hD hS => ?_)
            have hP : va_P (dC, dI) vwCl [(a_t, .inr (6, [.int t_hand, .int t_first, .int t_wide, .int t_rim, .int t_fill, .int t_wall, .int t_ceiling, .int t_puff, .int t_period, .int t_second, .int t_score, .int t_thrown, .int t_balls, .ref a_kind, .ref a_size, .ref a_tight, .int t_letters, .ref a_letter, .int t_at, .int t_value, .int t_inRow, .ref a_row, .ref a_refusals, .int t_imaged, .ref a_image, .ref a_ahead, .int t_end, .int t_cell, .int t_steps, .int t_highest, .int t_struck])), (a_refusals, .inl (cI, 7, .inl refusalsA))] H := hP
            have hD : va_D A [(a_t, .inr (6, [.int t_hand, .int t_first, .int t_wide, .int t_rim, .int t_fill, .int t_wall, .int t_ceiling, .int t_puff, .int t_period, .int t_second, .int t_score, .int t_thrown, .int t_balls, .ref a_kind, .ref a_size, .ref a_tight, .int t_letters, .ref a_letter, .int t_at, .int t_value, .int t_inRow, .ref a_row, .ref a_refusals, .int t_imaged, .ref a_image, .ref a_ahead, .int t_end, .int t_cell, .int t_steps, .int t_highest, .int t_struck])), (a_refusals, .inl (cI, 7, .inl refusalsA))] := hD
            refine lv_goto (tgt := 69) hx hb dX6_inRow_60 (by decide) ?_
            subst hQ
            subst hAe
            exact W.lret (v := r16) hx hb hr (fun t ht hW => ⟨⟨r16, (refusalsA), rfl, Option.some.inj hR, by rw [ht]; exact hP, hD⟩, hS.F ht⟩) hS.2.2 dX6_inRow_69
        · have hR := (if_neg c24).symm.trans hR
          refine lv_aload_n hx hb dX6_inRow_27 rfl (lv_at hl 0 rfl) ?_
          refine lv_bipush (v := (-6)) hx hb dX6_inRow_28 (by decide) ?_
          obtain ⟨r18, w19, hu20, hR⟩ := b2_s hR
          refine cl_VlT (As := [.int (-6)]) (rest := []) (wc := [(a_t, .inr (6, [.int t_hand, .int t_first, .int t_wide, .int t_rim, .int t_fill, .int t_wall, .int t_ceiling, .int t_puff, .int t_period, .int t_second, .int t_score, .int t_thrown, .int t_balls, .ref a_kind, .ref a_size, .ref a_tight, .int t_letters, .ref a_letter, .int t_at, .int t_value, .int t_inRow, .ref a_row, .ref a_refusals, .int t_imaged, .ref a_image, .ref a_ahead, .int t_end, .int t_cell, .int t_steps, .int t_highest, .int t_struck])), (a_refusals, .inl (cI, 7, .inl refusalsA))]) (wr := []) ⟨hx, hb, hml, hown, hts⟩ (kX6_noLong l dC dI cI a_t a_kind a_size a_tight a_letter a_row a_refusals a_image a_ahead s.heap.size (-6) t_hand t_first t_wide t_rim t_fill t_wall t_ceiling t_puff t_period t_second t_score t_thrown t_balls t_letters t_at t_value t_inRow t_imaged t_end t_cell t_steps t_highest t_struck refusalsA (r18, w19) hu20) (cwV 1 hts gX6_inRow_X6_noLong rfl rfl rfl (by decide +kernel) ⟨Nat.le_of_ble_eq_true rfl, Nat.le_of_ble_eq_true rfl⟩) hK hN hP hD hS hA (va_recv hK hP (ci := 6) (q0 := 0) rfl rfl) [0, 1] [] rfl rfl rfl rfl rfl (by decide) rfl hl.1 rfl (Nat.le_of_ble_eq_true rfl) dX6_inRow_30 (fun H locs hP hD hS => ?_)
          have hP : va_P (dC, dI) vwCl [(a_t, .inr (6, [.int t_hand, .int t_first, .int t_wide, .int t_rim, .int t_fill, .int t_wall, .int t_ceiling, .int t_puff, .int t_period, .int t_second, .int t_score, .int t_thrown, .int t_balls, .ref a_kind, .ref a_size, .ref a_tight, .int t_letters, .ref a_letter, .int t_at, .int t_value, .int t_inRow, .ref a_row, .ref a_refusals, .int t_imaged, .ref a_image, .ref a_ahead, .int t_end, .int t_cell, .int t_steps, .int t_highest, .int t_struck])), (a_refusals, .inl (cI, 7, .inl w19))] H := hP
          have hD : va_D A [(a_t, .inr (6, [.int t_hand, .int t_first, .int t_wide, .int t_rim, .int t_fill, .int t_wall, .int t_ceiling, .int t_puff, .int t_period, .int t_second, .int t_score, .int t_thrown, .int t_balls, .ref a_kind, .ref a_size, .ref a_tight, .int t_letters, .ref a_letter, .int t_at, .int t_value, .int t_inRow, .ref a_row, .ref a_refusals, .int t_imaged, .ref a_image, .ref a_ahead, .int t_end, .int t_cell, .int t_steps, .int t_highest, .int t_struck])), (a_refusals, .inl (cI, 7, .inl w19))] := hD
          subst hQ
          subst hAe
          exact W.lret (v := r18) hx hb hr (fun t ht hW => ⟨⟨r18, (w19), rfl, Option.some.inj hR, by rw [ht]; exact hP, hD⟩, hS.F ht⟩) hS.2.2 dX6_inRow_33
    · have hR := (if_neg c5).symm.trans hR
      refine lv_aload_n hx hb dX6_inRow_8 rfl (lv_at hl 0 rfl) ?_
      refine lv_bipush (v := (-4)) hx hb dX6_inRow_9 (by decide) ?_
      obtain ⟨r21, w22, hu23, hR⟩ := b2_s hR
      refine cl_VlT (As := [.int (-4)]) (rest := []) (wc := [(a_t, .inr (6, [.int t_hand, .int t_first, .int t_wide, .int t_rim, .int t_fill, .int t_wall, .int t_ceiling, .int t_puff, .int t_period, .int t_second, .int t_score, .int t_thrown, .int t_balls, .ref a_kind, .ref a_size, .ref a_tight, .int t_letters, .ref a_letter, .int t_at, .int t_value, .int t_inRow, .ref a_row, .ref a_refusals, .int t_imaged, .ref a_image, .ref a_ahead, .int t_end, .int t_cell, .int t_steps, .int t_highest, .int t_struck])), (a_refusals, .inl (cI, 7, .inl refusalsA))]) (wr := []) ⟨hx, hb, hml, hown, hts⟩ (kX6_noLong l dC dI cI a_t a_kind a_size a_tight a_letter a_row a_refusals a_image a_ahead s.heap.size (-4) t_hand t_first t_wide t_rim t_fill t_wall t_ceiling t_puff t_period t_second t_score t_thrown t_balls t_letters t_at t_value t_inRow t_imaged t_end t_cell t_steps t_highest t_struck refusalsA (r21, w22) hu23) (cwV 1 hts gX6_inRow_X6_noLong rfl rfl rfl (by decide +kernel) ⟨Nat.le_of_ble_eq_true rfl, Nat.le_of_ble_eq_true rfl⟩) hK hN hP hD hS hA (va_recv hK hP (ci := 6) (q0 := 0) rfl rfl) [0, 1] [] rfl rfl rfl rfl rfl (by decide) rfl hl.1 rfl (Nat.le_of_ble_eq_true rfl) dX6_inRow_11 (fun H locs hP hD hS => ?_)
      have hP : va_P (dC, dI) vwCl [(a_t, .inr (6, [.int t_hand, .int t_first, .int t_wide, .int t_rim, .int t_fill, .int t_wall, .int t_ceiling, .int t_puff, .int t_period, .int t_second, .int t_score, .int t_thrown, .int t_balls, .ref a_kind, .ref a_size, .ref a_tight, .int t_letters, .ref a_letter, .int t_at, .int t_value, .int t_inRow, .ref a_row, .ref a_refusals, .int t_imaged, .ref a_image, .ref a_ahead, .int t_end, .int t_cell, .int t_steps, .int t_highest, .int t_struck])), (a_refusals, .inl (cI, 7, .inl w22))] H := hP
      have hD : va_D A [(a_t, .inr (6, [.int t_hand, .int t_first, .int t_wide, .int t_rim, .int t_fill, .int t_wall, .int t_ceiling, .int t_puff, .int t_period, .int t_second, .int t_score, .int t_thrown, .int t_balls, .ref a_kind, .ref a_size, .ref a_tight, .int t_letters, .ref a_letter, .int t_at, .int t_value, .int t_inRow, .ref a_row, .ref a_refusals, .int t_imaged, .ref a_image, .ref a_ahead, .int t_end, .int t_cell, .int t_steps, .int t_highest, .int t_struck])), (a_refusals, .inl (cI, 7, .inl w22))] := hD
      subst hQ
      subst hAe
      exact W.lret (v := r21) hx hb hr (fun t ht hW => ⟨⟨r21, (w22), rfl, Option.some.inj hR, by rw [ht]; exact hP, hD⟩, hS.F ht⟩) hS.2.2 dX6_inRow_14
def fX6_row (x1 : Int32) (t_inRow : Int32) (refusalsA : Nat → Int32) (rowA : Nat → Int32) : Option (Int32 × Int32 × (Nat → Int32) × (Nat → Int32)) :=
  if 0 ≤ x1 then (
   if 9999 < x1 then (
    b2 (fX6_no (-6) refusalsA) (fun r1 w2 =>
    some (r1, t_inRow, w2, rowA)))
   else (
   if t_inRow = 12 then (
    b2 (fX6_no (-6) refusalsA) (fun r5 w6 =>
    some (r5, t_inRow, w6, rowA)))
   else (
   g_in t_inRow 12 (
   some ((t_inRow + 1), (t_inRow + 1), refusalsA, (upd rowA (t_inRow).toNatClampNeg x1))))))
  else (
  b2 (fX6_no (-4) refusalsA) (fun r8 w9 =>
  some (r8, t_inRow, w9, rowA)))
set_option maxHeartbeats 4000000 in
set_option maxRecDepth 100000 in
theorem kX6_row (l : Launch) (dC : Nat → ClassId) (dI : Nat → Nat → Nat) (cI : ClassId) (a_t a_kind a_size a_tight a_letter a_row a_refusals a_image a_ahead : Nat) (sz : Nat) (x1 : Int32) (t_hand : Int32) (t_first : Int32) (t_wide : Int32) (t_rim : Int32) (t_fill : Int32) (t_wall : Int32) (t_ceiling : Int32) (t_puff : Int32) (t_period : Int32) (t_second : Int32) (t_score : Int32) (t_thrown : Int32) (t_balls : Int32) (t_letters : Int32) (t_at : Int32) (t_value : Int32) (t_inRow : Int32) (t_imaged : Int32) (t_end : Int32) (t_cell : Int32) (t_steps : Int32) (t_highest : Int32) (t_struck : Int32) (refusalsA : Nat → Int32) (rowA : Nat → Int32) (R : Int32 × Int32 × (Nat → Int32) × (Nat → Int32)) (hR : fX6_row x1 t_inRow refusalsA rowA = some R) : Met l yX6_row wsX6_row ({ frames := 1, cells := 0, slots := 0, locals := 21 } : Room) (va_Pc [.ref a_t, .int x1] (Wp (dC, dI) [(cI, .int)] [(a_t, .inr (6, [.int t_hand, .int t_first, .int t_wide, .int t_rim, .int t_fill, .int t_wall, .int t_ceiling, .int t_puff, .int t_period, .int t_second, .int t_score, .int t_thrown, .int t_balls, .ref a_kind, .ref a_size, .ref a_tight, .int t_letters, .ref a_letter, .int t_at, .int t_value, .int t_inRow, .ref a_row, .ref a_refusals, .int t_imaged, .ref a_image, .ref a_ahead, .int t_end, .int t_cell, .int t_steps, .int t_highest, .int t_struck])), (a_refusals, .inl (cI, 7, .inl refusalsA)), (a_row, .inl (cI, 12, .inl rowA))] sz)) (va_Qi (fun (r : Int32) (u : Int32 × (Nat → Int32) × (Nat → Int32)) => (r, u) = R) (Wq (dC, dI) [(a_t, .inr (6, [.int t_hand, .int t_first, .int t_wide, .int t_rim, .int t_fill, .int t_wall, .int t_ceiling, .int t_puff, .int t_period, .int t_second, .int t_score, .int t_thrown, .int t_balls, .ref a_kind, .ref a_size, .ref a_tight, .int t_letters, .ref a_letter, .int t_at, .int t_value, .int t_inRow, .ref a_row, .ref a_refusals, .int t_imaged, .ref a_image, .ref a_ahead, .int t_end, .int t_cell, .int t_steps, .int t_highest, .int t_struck])), (a_refusals, .inl (cI, 7, .inl refusalsA)), (a_row, .inl (cI, 12, .inl rowA))] sz (fun (u : Int32 × (Nat → Int32) × (Nat → Int32)) => ([(a_t, .inr (6, [.int t_hand, .int t_first, .int t_wide, .int t_rim, .int t_fill, .int t_wall, .int t_ceiling, .int t_puff, .int t_period, .int t_second, .int t_score, .int t_thrown, .int t_balls, .ref a_kind, .ref a_size, .ref a_tight, .int t_letters, .ref a_letter, .int t_at, .int t_value, .int u.1, .ref a_row, .ref a_refusals, .int t_imaged, .ref a_image, .ref a_ahead, .int t_end, .int t_cell, .int t_steps, .int t_highest, .int t_struck])), (a_refusals, .inl (cI, 7, .inl u.2.1)), (a_row, .inl (cI, 12, .inl u.2.2))] : va_W))) (va_A [(a_t, .inr (6, [.int t_hand, .int t_first, .int t_wide, .int t_rim, .int t_fill, .int t_wall, .int t_ceiling, .int t_puff, .int t_period, .int t_second, .int t_score, .int t_thrown, .int t_balls, .ref a_kind, .ref a_size, .ref a_tight, .int t_letters, .ref a_letter, .int t_at, .int t_value, .int t_inRow, .ref a_row, .ref a_refusals, .int t_imaged, .ref a_image, .ref a_ahead, .int t_end, .int t_cell, .int t_steps, .int t_highest, .int t_struck])), (a_refusals, .inl (cI, 7, .inl refusalsA)), (a_row, .inl (cI, 12, .inl rowA))] sz)) 0 0 (va_A [(a_t, .inr (6, [.int t_hand, .int t_first, .int t_wide, .int t_rim, .int t_fill, .int t_wall, .int t_ceiling, .int t_puff, .int t_period, .int t_second, .int t_score, .int t_thrown, .int t_balls, .ref a_kind, .ref a_size, .ref a_tight, .int t_letters, .ref a_letter, .int t_at, .int t_value, .int t_inRow, .ref a_row, .ref a_refusals, .int t_imaged, .ref a_image, .ref a_ahead, .int t_end, .int t_cell, .int t_steps, .int t_highest, .int t_struck])), (a_refusals, .inl (cI, 7, .inl refusalsA)), (a_row, .inl (cI, 12, .inl rowA))] sz) := by
  refine Met.ofW (cc := cX6_row) (maxL := 2) (ret := (some .int)) (by decide) rfl ?_
  intro p e s m args below meth c s₁ B hml hv
  obtain ⟨hargs, hsz, hP, hK, hD0, hN⟩ := hv
  have hx := B.exec
  have hb := B.bytes
  have hr := B.returns
  have hts := atoms_spec (ws := wsX6_row) B.pre
  have hown : s.vm.findClass RX6 = some m.cls := findClass_of_methodNamed B.named
  have hlocks := B.notSynchronized
  subst hsz
  have hD := hD0.self (sz := s.heap.size)
  obtain ⟨A, hAe⟩ : ∃ A, A = va_A [(a_t, .inr (6, [.int t_hand, .int t_first, .int t_wide, .int t_rim, .int t_fill, .int t_wall, .int t_ceiling, .int t_puff, .int t_period, .int t_second, .int t_score, .int t_thrown, .int t_balls, .ref a_kind, .ref a_size, .ref a_tight, .int t_letters, .ref a_letter, .int t_at, .int t_value, .int t_inRow, .ref a_row, .ref a_refusals, .int t_imaged, .ref a_image, .ref a_ahead, .int t_end, .int t_cell, .int t_steps, .int t_highest, .int t_struck])), (a_refusals, .inl (cI, 7, .inl refusalsA)), (a_row, .inl (cI, 12, .inl rowA))] s.heap.size := ⟨_, rfl⟩
  rw [← hAe] at hD
  have hA : ∀ q : Nat, s.heap.size ≤ q → A q := fun q h => by rw [hAe]; exact Or.inr h
  have hS : va_S A s.heap s.heap [] := va_S.rf
  have hl := lv_entry ([.ref a_t, .int x1]) (n := 2) (Nat.le_of_ble_eq_true rfl)
  rw [e_of hargs, lg_entry_eq]
  generalize (lg_sl ([.ref a_t, .int x1]) ++ List.replicate (2 - (lg_sl ([.ref a_t, .int x1])).length) Slot.unset).toArray = ls at hl ⊢
  have hl : lv_has ls 2 [(0, .ref a_t), (1, .int x1)] := hl
  have hinX6 : ∀ w ∈ wsX60, w ∈ wsX6_row := by decide +kernel
  refine w_q ({ frames := 1, cells := 0, slots := 0, locals := 21 } : Room) (fun Q0 hQ => ?_)
  rw [fX6_row] at hR
  refine lv_iload_n hx hb dX6_row_0 rfl (lv_at hl 1 rfl) ?_
  refine lv_if_ge (tgt := 11) hx hb dX6_row_1 (by decide) (fun c1 => ?_) (fun c1 => ?_)
  · have hR := (if_pos c1).symm.trans hR
    refine lv_iload_n hx hb dX6_row_11 rfl (lv_at hl 1 rfl) ?_
    refine lv_sipush (v := 9999) hx hb dX6_row_12 (by decide) ?_
    refine lv_icmp_gt (tgt := 27) hx hb dX6_row_15 (by decide) (fun c15 => ?_) (fun c15 => ?_)
    · have hR := (if_pos c15).symm.trans hR
      refine lv_aload_n hx hb dX6_row_27 rfl (lv_at hl 0 rfl) ?_
      refine lv_bipush (v := (-6)) hx hb dX6_row_28 (by decide) ?_
      obtain ⟨r1, w2, hu3, hR⟩ := b2_s hR
      refine cl_ViT (As := [.int (-6)]) (rest := []) (wc := [(a_t, .inr (6, [.int t_hand, .int t_first, .int t_wide, .int t_rim, .int t_fill, .int t_wall, .int t_ceiling, .int t_puff, .int t_period, .int t_second, .int t_score, .int t_thrown, .int t_balls, .ref a_kind, .ref a_size, .ref a_tight, .int t_letters, .ref a_letter, .int t_at, .int t_value, .int t_inRow, .ref a_row, .ref a_refusals, .int t_imaged, .ref a_image, .ref a_ahead, .int t_end, .int t_cell, .int t_steps, .int t_highest, .int t_struck])), (a_refusals, .inl (cI, 7, .inl refusalsA))]) (wr := [(a_row, .inl (cI, 12, .inl rowA))]) ⟨hx, hb, hml, hown, hts⟩ (kX6_no l dC dI cI a_t a_kind a_size a_tight a_letter a_row a_refusals a_image a_ahead s.heap.size (-6) t_hand t_first t_wide t_rim t_fill t_wall t_ceiling t_puff t_period t_second t_score t_thrown t_balls t_letters t_at t_value t_inRow t_imaged t_end t_cell t_steps t_highest t_struck refusalsA (r1, w2) hu3) (cwV 1 hts gX6_row_X6_no rfl rfl rfl (by decide +kernel) ⟨Nat.le_of_ble_eq_true rfl, Nat.le_of_ble_eq_true rfl⟩) hK hN hP hD hS hA (va_recv hK hP (ci := 6) (q0 := 0) rfl rfl) [0, 1] [2] rfl rfl rfl rfl rfl (by decide) rfl hl.1 rfl (Nat.le_of_ble_eq_true rfl) dX6_row_30 (fun H locs hP hD hS => ?_)
      have hP : va_P (dC, dI) vwCl [(a_row, .inl (cI, 12, .inl rowA)), (a_t, .inr (6, [.int t_hand, .int t_first, .int t_wide, .int t_rim, .int t_fill, .int t_wall, .int t_ceiling, .int t_puff, .int t_period, .int t_second, .int t_score, .int t_thrown, .int t_balls, .ref a_kind, .ref a_size, .ref a_tight, .int t_letters, .ref a_letter, .int t_at, .int t_value, .int t_inRow, .ref a_row, .ref a_refusals, .int t_imaged, .ref a_image, .ref a_ahead, .int t_end, .int t_cell, .int t_steps, .int t_highest, .int t_struck])), (a_refusals, .inl (cI, 7, .inl w2))] H := hP
      have hD : va_D A [(a_row, .inl (cI, 12, .inl rowA)), (a_t, .inr (6, [.int t_hand, .int t_first, .int t_wide, .int t_rim, .int t_fill, .int t_wall, .int t_ceiling, .int t_puff, .int t_period, .int t_second, .int t_score, .int t_thrown, .int t_balls, .ref a_kind, .ref a_size, .ref a_tight, .int t_letters, .ref a_letter, .int t_at, .int t_value, .int t_inRow, .ref a_row, .ref a_refusals, .int t_imaged, .ref a_image, .ref a_ahead, .int t_end, .int t_cell, .int t_steps, .int t_highest, .int t_struck])), (a_refusals, .inl (cI, 7, .inl w2))] := hD
      have hP := hP.sub (ws' := [(a_t, .inr (6, [.int t_hand, .int t_first, .int t_wide, .int t_rim, .int t_fill, .int t_wall, .int t_ceiling, .int t_puff, .int t_period, .int t_second, .int t_score, .int t_thrown, .int t_balls, .ref a_kind, .ref a_size, .ref a_tight, .int t_letters, .ref a_letter, .int t_at, .int t_value, .int t_inRow, .ref a_row, .ref a_refusals, .int t_imaged, .ref a_image, .ref a_ahead, .int t_end, .int t_cell, .int t_steps, .int t_highest, .int t_struck])), (a_refusals, .inl (cI, 7, .inl w2)), (a_row, .inl (cI, 12, .inl rowA))]) [1, 2, 0] rfl
      have hD := hD.sub (ws' := [(a_t, .inr (6, [.int t_hand, .int t_first, .int t_wide, .int t_rim, .int t_fill, .int t_wall, .int t_ceiling, .int t_puff, .int t_period, .int t_second, .int t_score, .int t_thrown, .int t_balls, .ref a_kind, .ref a_size, .ref a_tight, .int t_letters, .ref a_letter, .int t_at, .int t_value, .int t_inRow, .ref a_row, .ref a_refusals, .int t_imaged, .ref a_image, .ref a_ahead, .int t_end, .int t_cell, .int t_steps, .int t_highest, .int t_struck])), (a_refusals, .inl (cI, 7, .inl w2)), (a_row, .inl (cI, 12, .inl rowA))]) [1, 2, 0] (by decide) rfl
      subst hQ
      subst hAe
      exact W.iret (v := r1) hx hb hr (fun t ht hW => ⟨⟨r1, (t_inRow, w2, rowA), rfl, Option.some.inj hR, by rw [ht]; exact hP, hD⟩, hS.F ht⟩) hS.2.2 dX6_row_33
    · have hR := (if_neg c15).symm.trans hR
      refine lv_aload_n hx hb dX6_row_18 rfl (lv_at hl 0 rfl) ?_
      refine va_get (D := (dC, dI)) (ci := 6) (v := .int t_inRow) (C := RX6) (T := TX6) (N := 31) hx hb hts hinX6 hown hK hP 0 rfl rfl 20 (by decide) (hts (.fieldLink RX6 189 "PaperInBinModel" "inRow" "I") (by decide +kernel)) (fun _ h9 => h9) rfl dX6_row_19 ?_
      refine lv_bipush (v := 12) hx hb dX6_row_22 (by decide) ?_
      refine lv_icmp_ne (tgt := 34) hx hb dX6_row_24 (by decide) (fun c24 => ?_) (fun c24 => ?_)
      · have hR := (if_neg c24).symm.trans hR
        refine lv_aload_n hx hb dX6_row_34 rfl (lv_at hl 0 rfl) ?_
        refine va_get (D := (dC, dI)) (ci := 6) (v := .ref a_row) (C := RX6) (T := TX6) (N := 31) hx hb hts hinX6 hown hK hP 0 rfl rfl 21 (by decide) (hts (.fieldLink RX6 22 "PaperInBinModel" "row" "[I") (by decide +kernel)) (fun _ h9 => h9) rfl dX6_row_35 ?_
        refine lv_aload_n hx hb dX6_row_38 rfl (lv_at hl 0 rfl) ?_
        refine lv_dup hx hb dX6_row_39 rfl ?_
        refine va_get (D := (dC, dI)) (ci := 6) (v := .int t_inRow) (C := RX6) (T := TX6) (N := 31) hx hb hts hinX6 hown hK hP 0 rfl rfl 20 (by decide) (hts (.fieldLink RX6 189 "PaperInBinModel" "inRow" "I") (by decide +kernel)) (fun _ h9 => h9) rfl dX6_row_40 ?_
        refine lv_dup_x1 hx hb dX6_row_43 rfl rfl ?_
        refine lv_iconst (v := 1) hx hb dX6_row_44 (by decide) ?_
        refine lv_iadd hx hb dX6_row_45 ?_
        refine va_put (D := (dC, dI)) (ci := 6) (v := .int (t_inRow + 1)) (ty := .int) (C := RX6) (T := TX6) (N := 31) hx hb hts hinX6 tyX6 tyX6_ok nmX6 hown hK hP hD hS 0 rfl rfl 20 (by decide) (hts (.fieldLink RX6 189 "PaperInBinModel" "inRow" "I") (by decide +kernel)) (fun _ h9 => h9) rfl (tyX6_ok 20 (by decide)) rfl rfl (Nat.le_of_ble_eq_true rfl) dX6_row_46 (fun H locs hP hD hS => ?_)
        have hP : va_P (dC, dI) vwCl [(a_t, .inr (6, [.int t_hand, .int t_first, .int t_wide, .int t_rim, .int t_fill, .int t_wall, .int t_ceiling, .int t_puff, .int t_period, .int t_second, .int t_score, .int t_thrown, .int t_balls, .ref a_kind, .ref a_size, .ref a_tight, .int t_letters, .ref a_letter, .int t_at, .int t_value, .int (t_inRow + 1), .ref a_row, .ref a_refusals, .int t_imaged, .ref a_image, .ref a_ahead, .int t_end, .int t_cell, .int t_steps, .int t_highest, .int t_struck])), (a_refusals, .inl (cI, 7, .inl refusalsA)), (a_row, .inl (cI, 12, .inl rowA))] H := hP
        have hD : va_D A [(a_t, .inr (6, [.int t_hand, .int t_first, .int t_wide, .int t_rim, .int t_fill, .int t_wall, .int t_ceiling, .int t_puff, .int t_period, .int t_second, .int t_score, .int t_thrown, .int t_balls, .ref a_kind, .ref a_size, .ref a_tight, .int t_letters, .ref a_letter, .int t_at, .int t_value, .int (t_inRow + 1), .ref a_row, .ref a_refusals, .int t_imaged, .ref a_image, .ref a_ahead, .int t_end, .int t_cell, .int t_steps, .int t_highest, .int t_struck])), (a_refusals, .inl (cI, 7, .inl refusalsA)), (a_row, .inl (cI, 12, .inl rowA))] := hD
        refine lv_iload_n hx hb dX6_row_49 rfl (lv_at hl 1 rfl) ?_
        obtain ⟨g4, hR⟩ := g_in_s hR
        refine va_iast hx hb hK hP hD hS 2 0 rfl rfl g4 dX6_row_50 (fun H locs hP hD hS => ?_)
        have hP : va_P (dC, dI) vwCl [(a_t, .inr (6, [.int t_hand, .int t_first, .int t_wide, .int t_rim, .int t_fill, .int t_wall, .int t_ceiling, .int t_puff, .int t_period, .int t_second, .int t_score, .int t_thrown, .int t_balls, .ref a_kind, .ref a_size, .ref a_tight, .int t_letters, .ref a_letter, .int t_at, .int t_value, .int (t_inRow + 1), .ref a_row, .ref a_refusals, .int t_imaged, .ref a_image, .ref a_ahead, .int t_end, .int t_cell, .int t_steps, .int t_highest, .int t_struck])), (a_refusals, .inl (cI, 7, .inl refusalsA)), (a_row, .inl (cI, 12, .inl (upd rowA (t_inRow).toNatClampNeg x1)))] H := hP
        have hD : va_D A [(a_t, .inr (6, [.int t_hand, .int t_first, .int t_wide, .int t_rim, .int t_fill, .int t_wall, .int t_ceiling, .int t_puff, .int t_period, .int t_second, .int t_score, .int t_thrown, .int t_balls, .ref a_kind, .ref a_size, .ref a_tight, .int t_letters, .ref a_letter, .int t_at, .int t_value, .int (t_inRow + 1), .ref a_row, .ref a_refusals, .int t_imaged, .ref a_image, .ref a_ahead, .int t_end, .int t_cell, .int t_steps, .int t_highest, .int t_struck])), (a_refusals, .inl (cI, 7, .inl refusalsA)), (a_row, .inl (cI, 12, .inl (upd rowA (t_inRow).toNatClampNeg x1)))] := hD
        refine lv_aload_n hx hb dX6_row_51 rfl (lv_at hl 0 rfl) ?_
        refine va_get (D := (dC, dI)) (ci := 6) (v := .int (t_inRow + 1)) (C := RX6) (T := TX6) (N := 31) hx hb hts hinX6 hown hK hP 0 rfl rfl 20 (by decide) (hts (.fieldLink RX6 189 "PaperInBinModel" "inRow" "I") (by decide +kernel)) (fun _ h9 => h9) rfl dX6_row_52 ?_
        subst hQ
        subst hAe
        exact W.iret (v := (t_inRow + 1)) hx hb hr (fun t ht hW => ⟨⟨(t_inRow + 1), ((t_inRow + 1), refusalsA, (upd rowA (t_inRow).toNatClampNeg x1)), rfl, Option.some.inj hR, by rw [ht]; exact hP, hD⟩, hS.F ht⟩) hS.2.2 dX6_row_55
      · have hR := (if_pos c24).symm.trans hR
        refine lv_aload_n hx hb dX6_row_27 rfl (lv_at hl 0 rfl) ?_
        refine lv_bipush (v := (-6)) hx hb dX6_row_28 (by decide) ?_
        obtain ⟨r5, w6, hu7, hR⟩ := b2_s hR
        refine cl_ViT (As := [.int (-6)]) (rest := []) (wc := [(a_t, .inr (6, [.int t_hand, .int t_first, .int t_wide, .int t_rim, .int t_fill, .int t_wall, .int t_ceiling, .int t_puff, .int t_period, .int t_second, .int t_score, .int t_thrown, .int t_balls, .ref a_kind, .ref a_size, .ref a_tight, .int t_letters, .ref a_letter, .int t_at, .int t_value, .int t_inRow, .ref a_row, .ref a_refusals, .int t_imaged, .ref a_image, .ref a_ahead, .int t_end, .int t_cell, .int t_steps, .int t_highest, .int t_struck])), (a_refusals, .inl (cI, 7, .inl refusalsA))]) (wr := [(a_row, .inl (cI, 12, .inl rowA))]) ⟨hx, hb, hml, hown, hts⟩ (kX6_no l dC dI cI a_t a_kind a_size a_tight a_letter a_row a_refusals a_image a_ahead s.heap.size (-6) t_hand t_first t_wide t_rim t_fill t_wall t_ceiling t_puff t_period t_second t_score t_thrown t_balls t_letters t_at t_value t_inRow t_imaged t_end t_cell t_steps t_highest t_struck refusalsA (r5, w6) hu7) (cwV 1 hts gX6_row_X6_no rfl rfl rfl (by decide +kernel) ⟨Nat.le_of_ble_eq_true rfl, Nat.le_of_ble_eq_true rfl⟩) hK hN hP hD hS hA (va_recv hK hP (ci := 6) (q0 := 0) rfl rfl) [0, 1] [2] rfl rfl rfl rfl rfl (by decide) rfl hl.1 rfl (Nat.le_of_ble_eq_true rfl) dX6_row_30 (fun H locs hP hD hS => ?_)
        have hP : va_P (dC, dI) vwCl [(a_row, .inl (cI, 12, .inl rowA)), (a_t, .inr (6, [.int t_hand, .int t_first, .int t_wide, .int t_rim, .int t_fill, .int t_wall, .int t_ceiling, .int t_puff, .int t_period, .int t_second, .int t_score, .int t_thrown, .int t_balls, .ref a_kind, .ref a_size, .ref a_tight, .int t_letters, .ref a_letter, .int t_at, .int t_value, .int t_inRow, .ref a_row, .ref a_refusals, .int t_imaged, .ref a_image, .ref a_ahead, .int t_end, .int t_cell, .int t_steps, .int t_highest, .int t_struck])), (a_refusals, .inl (cI, 7, .inl w6))] H := hP
        have hD : va_D A [(a_row, .inl (cI, 12, .inl rowA)), (a_t, .inr (6, [.int t_hand, .int t_first, .int t_wide, .int t_rim, .int t_fill, .int t_wall, .int t_ceiling, .int t_puff, .int t_period, .int t_second, .int t_score, .int t_thrown, .int t_balls, .ref a_kind, .ref a_size, .ref a_tight, .int t_letters, .ref a_letter, .int t_at, .int t_value, .int t_inRow, .ref a_row, .ref a_refusals, .int t_imaged, .ref a_image, .ref a_ahead, .int t_end, .int t_cell, .int t_steps, .int t_highest, .int t_struck])), (a_refusals, .inl (cI, 7, .inl w6))] := hD
        have hP := hP.sub (ws' := [(a_t, .inr (6, [.int t_hand, .int t_first, .int t_wide, .int t_rim, .int t_fill, .int t_wall, .int t_ceiling, .int t_puff, .int t_period, .int t_second, .int t_score, .int t_thrown, .int t_balls, .ref a_kind, .ref a_size, .ref a_tight, .int t_letters, .ref a_letter, .int t_at, .int t_value, .int t_inRow, .ref a_row, .ref a_refusals, .int t_imaged, .ref a_image, .ref a_ahead, .int t_end, .int t_cell, .int t_steps, .int t_highest, .int t_struck])), (a_refusals, .inl (cI, 7, .inl w6)), (a_row, .inl (cI, 12, .inl rowA))]) [1, 2, 0] rfl
        have hD := hD.sub (ws' := [(a_t, .inr (6, [.int t_hand, .int t_first, .int t_wide, .int t_rim, .int t_fill, .int t_wall, .int t_ceiling, .int t_puff, .int t_period, .int t_second, .int t_score, .int t_thrown, .int t_balls, .ref a_kind, .ref a_size, .ref a_tight, .int t_letters, .ref a_letter, .int t_at, .int t_value, .int t_inRow, .ref a_row, .ref a_refusals, .int t_imaged, .ref a_image, .ref a_ahead, .int t_end, .int t_cell, .int t_steps, .int t_highest, .int t_struck])), (a_refusals, .inl (cI, 7, .inl w6)), (a_row, .inl (cI, 12, .inl rowA))]) [1, 2, 0] (by decide) rfl
        subst hQ
        subst hAe
        exact W.iret (v := r5) hx hb hr (fun t ht hW => ⟨⟨r5, (t_inRow, w6, rowA), rfl, Option.some.inj hR, by rw [ht]; exact hP, hD⟩, hS.F ht⟩) hS.2.2 dX6_row_33
  · have hR := (if_neg c1).symm.trans hR
    refine lv_aload_n hx hb dX6_row_4 rfl (lv_at hl 0 rfl) ?_
    refine lv_bipush (v := (-4)) hx hb dX6_row_5 (by decide) ?_
    obtain ⟨r8, w9, hu10, hR⟩ := b2_s hR
    refine cl_ViT (As := [.int (-4)]) (rest := []) (wc := [(a_t, .inr (6, [.int t_hand, .int t_first, .int t_wide, .int t_rim, .int t_fill, .int t_wall, .int t_ceiling, .int t_puff, .int t_period, .int t_second, .int t_score, .int t_thrown, .int t_balls, .ref a_kind, .ref a_size, .ref a_tight, .int t_letters, .ref a_letter, .int t_at, .int t_value, .int t_inRow, .ref a_row, .ref a_refusals, .int t_imaged, .ref a_image, .ref a_ahead, .int t_end, .int t_cell, .int t_steps, .int t_highest, .int t_struck])), (a_refusals, .inl (cI, 7, .inl refusalsA))]) (wr := [(a_row, .inl (cI, 12, .inl rowA))]) ⟨hx, hb, hml, hown, hts⟩ (kX6_no l dC dI cI a_t a_kind a_size a_tight a_letter a_row a_refusals a_image a_ahead s.heap.size (-4) t_hand t_first t_wide t_rim t_fill t_wall t_ceiling t_puff t_period t_second t_score t_thrown t_balls t_letters t_at t_value t_inRow t_imaged t_end t_cell t_steps t_highest t_struck refusalsA (r8, w9) hu10) (cwV 1 hts gX6_row_X6_no rfl rfl rfl (by decide +kernel) ⟨Nat.le_of_ble_eq_true rfl, Nat.le_of_ble_eq_true rfl⟩) hK hN hP hD hS hA (va_recv hK hP (ci := 6) (q0 := 0) rfl rfl) [0, 1] [2] rfl rfl rfl rfl rfl (by decide) rfl hl.1 rfl (Nat.le_of_ble_eq_true rfl) dX6_row_7 (fun H locs hP hD hS => ?_)
    have hP : va_P (dC, dI) vwCl [(a_row, .inl (cI, 12, .inl rowA)), (a_t, .inr (6, [.int t_hand, .int t_first, .int t_wide, .int t_rim, .int t_fill, .int t_wall, .int t_ceiling, .int t_puff, .int t_period, .int t_second, .int t_score, .int t_thrown, .int t_balls, .ref a_kind, .ref a_size, .ref a_tight, .int t_letters, .ref a_letter, .int t_at, .int t_value, .int t_inRow, .ref a_row, .ref a_refusals, .int t_imaged, .ref a_image, .ref a_ahead, .int t_end, .int t_cell, .int t_steps, .int t_highest, .int t_struck])), (a_refusals, .inl (cI, 7, .inl w9))] H := hP
    have hD : va_D A [(a_row, .inl (cI, 12, .inl rowA)), (a_t, .inr (6, [.int t_hand, .int t_first, .int t_wide, .int t_rim, .int t_fill, .int t_wall, .int t_ceiling, .int t_puff, .int t_period, .int t_second, .int t_score, .int t_thrown, .int t_balls, .ref a_kind, .ref a_size, .ref a_tight, .int t_letters, .ref a_letter, .int t_at, .int t_value, .int t_inRow, .ref a_row, .ref a_refusals, .int t_imaged, .ref a_image, .ref a_ahead, .int t_end, .int t_cell, .int t_steps, .int t_highest, .int t_struck])), (a_refusals, .inl (cI, 7, .inl w9))] := hD
    have hP := hP.sub (ws' := [(a_t, .inr (6, [.int t_hand, .int t_first, .int t_wide, .int t_rim, .int t_fill, .int t_wall, .int t_ceiling, .int t_puff, .int t_period, .int t_second, .int t_score, .int t_thrown, .int t_balls, .ref a_kind, .ref a_size, .ref a_tight, .int t_letters, .ref a_letter, .int t_at, .int t_value, .int t_inRow, .ref a_row, .ref a_refusals, .int t_imaged, .ref a_image, .ref a_ahead, .int t_end, .int t_cell, .int t_steps, .int t_highest, .int t_struck])), (a_refusals, .inl (cI, 7, .inl w9)), (a_row, .inl (cI, 12, .inl rowA))]) [1, 2, 0] rfl
    have hD := hD.sub (ws' := [(a_t, .inr (6, [.int t_hand, .int t_first, .int t_wide, .int t_rim, .int t_fill, .int t_wall, .int t_ceiling, .int t_puff, .int t_period, .int t_second, .int t_score, .int t_thrown, .int t_balls, .ref a_kind, .ref a_size, .ref a_tight, .int t_letters, .ref a_letter, .int t_at, .int t_value, .int t_inRow, .ref a_row, .ref a_refusals, .int t_imaged, .ref a_image, .ref a_ahead, .int t_end, .int t_cell, .int t_steps, .int t_highest, .int t_struck])), (a_refusals, .inl (cI, 7, .inl w9)), (a_row, .inl (cI, 12, .inl rowA))]) [1, 2, 0] (by decide) rfl
    subst hQ
    subst hAe
    exact W.iret (v := r8) hx hb hr (fun t ht hW => ⟨⟨r8, (t_inRow, w9, rowA), rfl, Option.some.inj hR, by rw [ht]; exact hP, hD⟩, hS.F ht⟩) hS.2.2 dX6_row_10
def lX6_keep_2 (t_hand : Int32) (t_first : Int32) (t_wide : Int32) (t_rim : Int32) (t_fill : Int32) (t_wall : Int32) (t_ceiling : Int32) (t_puff : Int32) (t_period : Int32) (t_second : Int32) (t_score : Int32) (t_thrown : Int32) (t_balls : Int32) (kindA : Nat → Int32) (sizeA : Nat → Int32) (tightA : Nat → Int32) : Nat → Int32 → (Nat → Int32) → Option ((Nat → Int32))
  | 0, _, _ => none
  | n + 1, x2, p1A =>
    if 5 ≤ x2 then (
     g_in 15 28 (
     g_in 16 28 (
     g_in 17 28 (
     g_in 18 28 (
     g_in 19 28 (
     g_in 20 28 (
     g_in 21 28 (
     g_in 22 28 (
     g_in 23 28 (
     g_in 24 28 (
     g_in 25 28 (
     g_in 26 28 (
     g_in 27 28 (
     some ((upd (upd (upd (upd (upd (upd (upd (upd (upd (upd (upd (upd (upd p1A (15 : Int32).toNatClampNeg t_hand) (16 : Int32).toNatClampNeg t_first) (17 : Int32).toNatClampNeg t_wide) (18 : Int32).toNatClampNeg t_rim) (19 : Int32).toNatClampNeg t_fill) (20 : Int32).toNatClampNeg t_wall) (21 : Int32).toNatClampNeg t_ceiling) (22 : Int32).toNatClampNeg t_puff) (23 : Int32).toNatClampNeg t_period) (24 : Int32).toNatClampNeg t_second) (25 : Int32).toNatClampNeg t_score) (26 : Int32).toNatClampNeg t_thrown) (27 : Int32).toNatClampNeg t_balls))))))))))))))))
    else (
    g_in x2 5 (
    g_in x2 28 (
    g_in x2 5 (
    g_in (5 + x2) 28 (
    g_in x2 5 (
    g_in (10 + x2) 28 (
    lX6_keep_2 t_hand t_first t_wide t_rim t_fill t_wall t_ceiling t_puff t_period t_second t_score t_thrown t_balls kindA sizeA tightA n (x2 + 1) (upd (upd (upd p1A (x2).toNatClampNeg (kindA (x2).toNatClampNeg)) ((5 + x2)).toNatClampNeg (sizeA (x2).toNatClampNeg)) ((10 + x2)).toNatClampNeg (tightA (x2).toNatClampNeg)))))))))
def fX6_keep (t_hand : Int32) (t_first : Int32) (t_wide : Int32) (t_rim : Int32) (t_fill : Int32) (t_wall : Int32) (t_ceiling : Int32) (t_puff : Int32) (t_period : Int32) (t_second : Int32) (t_score : Int32) (t_thrown : Int32) (t_balls : Int32) (kindA : Nat → Int32) (p1A : Nat → Int32) (sizeA : Nat → Int32) (tightA : Nat → Int32) : Option ((Nat → Int32)) :=
  lX6_keep_2 t_hand t_first t_wide t_rim t_fill t_wall t_ceiling t_puff t_period t_second t_score t_thrown t_balls kindA sizeA tightA (100) 0 p1A
set_option maxHeartbeats 4000000 in
set_option maxRecDepth 100000 in
theorem kX6_keep (l : Launch) (dC : Nat → ClassId) (dI : Nat → Nat → Nat) (cI : ClassId) (a_t a_kind a_size a_tight a_letter a_row a_refusals a_image a_ahead a_p1 : Nat) (sz : Nat) (t_hand : Int32) (t_first : Int32) (t_wide : Int32) (t_rim : Int32) (t_fill : Int32) (t_wall : Int32) (t_ceiling : Int32) (t_puff : Int32) (t_period : Int32) (t_second : Int32) (t_score : Int32) (t_thrown : Int32) (t_balls : Int32) (t_letters : Int32) (t_at : Int32) (t_value : Int32) (t_inRow : Int32) (t_imaged : Int32) (t_end : Int32) (t_cell : Int32) (t_steps : Int32) (t_highest : Int32) (t_struck : Int32) (kindA : Nat → Int32) (p1A : Nat → Int32) (sizeA : Nat → Int32) (tightA : Nat → Int32) (R : (Nat → Int32)) (hR : fX6_keep t_hand t_first t_wide t_rim t_fill t_wall t_ceiling t_puff t_period t_second t_score t_thrown t_balls kindA p1A sizeA tightA = some R) : Met l yX6_keep wsX6_keep ({ frames := 0, cells := 0, slots := 0, locals := 0 } : Room) (va_Pc [.ref a_t, .ref a_p1] (Wp (dC, dI) [(cI, .int)] [(a_t, .inr (6, [.int t_hand, .int t_first, .int t_wide, .int t_rim, .int t_fill, .int t_wall, .int t_ceiling, .int t_puff, .int t_period, .int t_second, .int t_score, .int t_thrown, .int t_balls, .ref a_kind, .ref a_size, .ref a_tight, .int t_letters, .ref a_letter, .int t_at, .int t_value, .int t_inRow, .ref a_row, .ref a_refusals, .int t_imaged, .ref a_image, .ref a_ahead, .int t_end, .int t_cell, .int t_steps, .int t_highest, .int t_struck])), (a_kind, .inl (cI, 5, .inl kindA)), (a_p1, .inl (cI, 28, .inl p1A)), (a_size, .inl (cI, 5, .inl sizeA)), (a_tight, .inl (cI, 5, .inl tightA))] sz)) (va_Qv (fun (u : (Nat → Int32)) => u = R) (Wq (dC, dI) [(a_t, .inr (6, [.int t_hand, .int t_first, .int t_wide, .int t_rim, .int t_fill, .int t_wall, .int t_ceiling, .int t_puff, .int t_period, .int t_second, .int t_score, .int t_thrown, .int t_balls, .ref a_kind, .ref a_size, .ref a_tight, .int t_letters, .ref a_letter, .int t_at, .int t_value, .int t_inRow, .ref a_row, .ref a_refusals, .int t_imaged, .ref a_image, .ref a_ahead, .int t_end, .int t_cell, .int t_steps, .int t_highest, .int t_struck])), (a_kind, .inl (cI, 5, .inl kindA)), (a_p1, .inl (cI, 28, .inl p1A)), (a_size, .inl (cI, 5, .inl sizeA)), (a_tight, .inl (cI, 5, .inl tightA))] sz (fun (u : (Nat → Int32)) => ([(a_t, .inr (6, [.int t_hand, .int t_first, .int t_wide, .int t_rim, .int t_fill, .int t_wall, .int t_ceiling, .int t_puff, .int t_period, .int t_second, .int t_score, .int t_thrown, .int t_balls, .ref a_kind, .ref a_size, .ref a_tight, .int t_letters, .ref a_letter, .int t_at, .int t_value, .int t_inRow, .ref a_row, .ref a_refusals, .int t_imaged, .ref a_image, .ref a_ahead, .int t_end, .int t_cell, .int t_steps, .int t_highest, .int t_struck])), (a_kind, .inl (cI, 5, .inl kindA)), (a_p1, .inl (cI, 28, .inl u)), (a_size, .inl (cI, 5, .inl sizeA)), (a_tight, .inl (cI, 5, .inl tightA))] : va_W))) (va_A [(a_t, .inr (6, [.int t_hand, .int t_first, .int t_wide, .int t_rim, .int t_fill, .int t_wall, .int t_ceiling, .int t_puff, .int t_period, .int t_second, .int t_score, .int t_thrown, .int t_balls, .ref a_kind, .ref a_size, .ref a_tight, .int t_letters, .ref a_letter, .int t_at, .int t_value, .int t_inRow, .ref a_row, .ref a_refusals, .int t_imaged, .ref a_image, .ref a_ahead, .int t_end, .int t_cell, .int t_steps, .int t_highest, .int t_struck])), (a_kind, .inl (cI, 5, .inl kindA)), (a_p1, .inl (cI, 28, .inl p1A)), (a_size, .inl (cI, 5, .inl sizeA)), (a_tight, .inl (cI, 5, .inl tightA))] sz)) 0 0 (va_A [(a_t, .inr (6, [.int t_hand, .int t_first, .int t_wide, .int t_rim, .int t_fill, .int t_wall, .int t_ceiling, .int t_puff, .int t_period, .int t_second, .int t_score, .int t_thrown, .int t_balls, .ref a_kind, .ref a_size, .ref a_tight, .int t_letters, .ref a_letter, .int t_at, .int t_value, .int t_inRow, .ref a_row, .ref a_refusals, .int t_imaged, .ref a_image, .ref a_ahead, .int t_end, .int t_cell, .int t_steps, .int t_highest, .int t_struck])), (a_kind, .inl (cI, 5, .inl kindA)), (a_p1, .inl (cI, 28, .inl p1A)), (a_size, .inl (cI, 5, .inl sizeA)), (a_tight, .inl (cI, 5, .inl tightA))] sz) := by
  refine Met.ofW (cc := cX6_keep) (maxL := 3) (ret := none) (by decide) rfl ?_
  intro p e s m args below meth c s₁ B hml hv
  obtain ⟨hargs, hsz, hP, hK, hD0, hN⟩ := hv
  have hx := B.exec
  have hb := B.bytes
  have hr := B.returns
  have hts := atoms_spec (ws := wsX6_keep) B.pre
  have hown : s.vm.findClass RX6 = some m.cls := findClass_of_methodNamed B.named
  have hlocks := B.notSynchronized
  subst hsz
  have hD := hD0.self (sz := s.heap.size)
  obtain ⟨A, hAe⟩ : ∃ A, A = va_A [(a_t, .inr (6, [.int t_hand, .int t_first, .int t_wide, .int t_rim, .int t_fill, .int t_wall, .int t_ceiling, .int t_puff, .int t_period, .int t_second, .int t_score, .int t_thrown, .int t_balls, .ref a_kind, .ref a_size, .ref a_tight, .int t_letters, .ref a_letter, .int t_at, .int t_value, .int t_inRow, .ref a_row, .ref a_refusals, .int t_imaged, .ref a_image, .ref a_ahead, .int t_end, .int t_cell, .int t_steps, .int t_highest, .int t_struck])), (a_kind, .inl (cI, 5, .inl kindA)), (a_p1, .inl (cI, 28, .inl p1A)), (a_size, .inl (cI, 5, .inl sizeA)), (a_tight, .inl (cI, 5, .inl tightA))] s.heap.size := ⟨_, rfl⟩
  rw [← hAe] at hD
  have hA : ∀ q : Nat, s.heap.size ≤ q → A q := fun q h => by rw [hAe]; exact Or.inr h
  have hS : va_S A s.heap s.heap [] := va_S.rf
  have hl := lv_entry ([.ref a_t, .ref a_p1]) (n := 3) (Nat.le_of_ble_eq_true rfl)
  rw [e_of hargs, lg_entry_eq]
  generalize (lg_sl ([.ref a_t, .ref a_p1]) ++ List.replicate (3 - (lg_sl ([.ref a_t, .ref a_p1])).length) Slot.unset).toArray = ls at hl ⊢
  have hl : lv_has ls 3 [(0, .ref a_t), (1, .ref a_p1)] := hl
  have hinX6 : ∀ w ∈ wsX60, w ∈ wsX6_keep := by decide +kernel
  refine w_q ({ frames := 0, cells := 0, slots := 0, locals := 0 } : Room) (fun Q0 hQ => ?_)
  have K2 : ∀ (n2 : Nat) (x2 : Int32) (p1A : Nat → Int32) (H : Heap) (locs : List Loc), va_P (dC, dI) vwCl [(a_t, .inr (6, [.int t_hand, .int t_first, .int t_wide, .int t_rim, .int t_fill, .int t_wall, .int t_ceiling, .int t_puff, .int t_period, .int t_second, .int t_score, .int t_thrown, .int t_balls, .ref a_kind, .ref a_size, .ref a_tight, .int t_letters, .ref a_letter, .int t_at, .int t_value, .int t_inRow, .ref a_row, .ref a_refusals, .int t_imaged, .ref a_image, .ref a_ahead, .int t_end, .int t_cell, .int t_steps, .int t_highest, .int t_struck])), (a_kind, .inl (cI, 5, .inl kindA)), (a_p1, .inl (cI, 28, .inl p1A)), (a_size, .inl (cI, 5, .inl sizeA)), (a_tight, .inl (cI, 5, .inl tightA))] H → va_D A [(a_t, .inr (6, [.int t_hand, .int t_first, .int t_wide, .int t_rim, .int t_fill, .int t_wall, .int t_ceiling, .int t_puff, .int t_period, .int t_second, .int t_score, .int t_thrown, .int t_balls, .ref a_kind, .ref a_size, .ref a_tight, .int t_letters, .ref a_letter, .int t_at, .int t_value, .int t_inRow, .ref a_row, .ref a_refusals, .int t_imaged, .ref a_image, .ref a_ahead, .int t_end, .int t_cell, .int t_steps, .int t_highest, .int t_struck])), (a_kind, .inl (cI, 5, .inl kindA)), (a_p1, .inl (cI, 28, .inl p1A)), (a_size, .inl (cI, 5, .inl sizeA)), (a_tight, .inl (cI, 5, .inl tightA))] → va_S A s.heap H locs → ∀ (ls : Array Slot), lv_has ls 3 [(0, .ref a_t), (1, .ref a_p1), (2, .int x2)] → lX6_keep_2 t_hand t_first t_wide t_rim t_fill t_wall t_ceiling t_puff t_period t_second t_score t_thrown t_balls kindA sizeA tightA n2 x2 p1A = some R → W p l e ({ frames := 0, cells := 0, slots := 0, locals := 0 } : Room) s m args below meth c H locs 0 0 Q0 (F0 m 2 ls []) := by
    intro n2
    induction n2 with
    | zero =>
      intro x2 p1A H locs hP hD hS ls hl hR
      rw [lX6_keep_2] at hR
      cases hR
    | succ n2 ih2 =>
      intro x2 p1A H locs hP hD hS ls hl hR
      rw [lX6_keep_2] at hR
      refine lv_iload_n hx hb dX6_keep_2 rfl (lv_at hl 2 rfl) ?_
      refine lv_iconst (v := 5) hx hb dX6_keep_3 (by decide) ?_
      refine lv_icmp_ge (tgt := 45) hx hb dX6_keep_4 (by decide) (fun c4 => ?_) (fun c4 => ?_)
      · have hR := (if_pos c4).symm.trans hR
        refine lv_aload_n hx hb dX6_keep_45 rfl (lv_at hl 1 rfl) ?_
        refine lv_bipush (v := 15) hx hb dX6_keep_46 (by decide) ?_
        refine lv_aload_n hx hb dX6_keep_48 rfl (lv_at hl 0 rfl) ?_
        refine va_get (D := (dC, dI)) (ci := 6) (v := .int t_hand) (C := RX6) (T := TX6) (N := 31) hx hb hts hinX6 hown hK hP 0 rfl rfl 0 (by decide) (hts (.fieldLink RX6 34 "PaperInBinModel" "hand" "I") (by decide +kernel)) (fun _ h9 => h9) rfl dX6_keep_49 ?_
        obtain ⟨g1, hR⟩ := g_in_s hR
        refine va_iast hx hb hK hP hD hS 2 0 rfl rfl g1 dX6_keep_52 (fun H locs hP hD hS => ?_)
        have hP : va_P (dC, dI) vwCl [(a_t, .inr (6, [.int t_hand, .int t_first, .int t_wide, .int t_rim, .int t_fill, .int t_wall, .int t_ceiling, .int t_puff, .int t_period, .int t_second, .int t_score, .int t_thrown, .int t_balls, .ref a_kind, .ref a_size, .ref a_tight, .int t_letters, .ref a_letter, .int t_at, .int t_value, .int t_inRow, .ref a_row, .ref a_refusals, .int t_imaged, .ref a_image, .ref a_ahead, .int t_end, .int t_cell, .int t_steps, .int t_highest, .int t_struck])), (a_kind, .inl (cI, 5, .inl kindA)), (a_p1, .inl (cI, 28, .inl (upd p1A (15 : Int32).toNatClampNeg t_hand))), (a_size, .inl (cI, 5, .inl sizeA)), (a_tight, .inl (cI, 5, .inl tightA))] H := hP
        have hD : va_D A [(a_t, .inr (6, [.int t_hand, .int t_first, .int t_wide, .int t_rim, .int t_fill, .int t_wall, .int t_ceiling, .int t_puff, .int t_period, .int t_second, .int t_score, .int t_thrown, .int t_balls, .ref a_kind, .ref a_size, .ref a_tight, .int t_letters, .ref a_letter, .int t_at, .int t_value, .int t_inRow, .ref a_row, .ref a_refusals, .int t_imaged, .ref a_image, .ref a_ahead, .int t_end, .int t_cell, .int t_steps, .int t_highest, .int t_struck])), (a_kind, .inl (cI, 5, .inl kindA)), (a_p1, .inl (cI, 28, .inl (upd p1A (15 : Int32).toNatClampNeg t_hand))), (a_size, .inl (cI, 5, .inl sizeA)), (a_tight, .inl (cI, 5, .inl tightA))] := hD
        refine lv_aload_n hx hb dX6_keep_53 rfl (lv_at hl 1 rfl) ?_
        refine lv_bipush (v := 16) hx hb dX6_keep_54 (by decide) ?_
        refine lv_aload_n hx hb dX6_keep_56 rfl (lv_at hl 0 rfl) ?_
        refine va_get (D := (dC, dI)) (ci := 6) (v := .int t_first) (C := RX6) (T := TX6) (N := 31) hx hb hts hinX6 hown hK hP 0 rfl rfl 1 (by decide) (hts (.fieldLink RX6 38 "PaperInBinModel" "first" "I") (by decide +kernel)) (fun _ h9 => h9) rfl dX6_keep_57 ?_
        obtain ⟨g2, hR⟩ := g_in_s hR
        refine va_iast hx hb hK hP hD hS 2 0 rfl rfl g2 dX6_keep_60 (fun H locs hP hD hS => ?_)
        have hP : va_P (dC, dI) vwCl [(a_t, .inr (6, [.int t_hand, .int t_first, .int t_wide, .int t_rim, .int t_fill, .int t_wall, .int t_ceiling, .int t_puff, .int t_period, .int t_second, .int t_score, .int t_thrown, .int t_balls, .ref a_kind, .ref a_size, .ref a_tight, .int t_letters, .ref a_letter, .int t_at, .int t_value, .int t_inRow, .ref a_row, .ref a_refusals, .int t_imaged, .ref a_image, .ref a_ahead, .int t_end, .int t_cell, .int t_steps, .int t_highest, .int t_struck])), (a_kind, .inl (cI, 5, .inl kindA)), (a_p1, .inl (cI, 28, .inl (upd (upd p1A (15 : Int32).toNatClampNeg t_hand) (16 : Int32).toNatClampNeg t_first))), (a_size, .inl (cI, 5, .inl sizeA)), (a_tight, .inl (cI, 5, .inl tightA))] H := hP
        have hD : va_D A [(a_t, .inr (6, [.int t_hand, .int t_first, .int t_wide, .int t_rim, .int t_fill, .int t_wall, .int t_ceiling, .int t_puff, .int t_period, .int t_second, .int t_score, .int t_thrown, .int t_balls, .ref a_kind, .ref a_size, .ref a_tight, .int t_letters, .ref a_letter, .int t_at, .int t_value, .int t_inRow, .ref a_row, .ref a_refusals, .int t_imaged, .ref a_image, .ref a_ahead, .int t_end, .int t_cell, .int t_steps, .int t_highest, .int t_struck])), (a_kind, .inl (cI, 5, .inl kindA)), (a_p1, .inl (cI, 28, .inl (upd (upd p1A (15 : Int32).toNatClampNeg t_hand) (16 : Int32).toNatClampNeg t_first))), (a_size, .inl (cI, 5, .inl sizeA)), (a_tight, .inl (cI, 5, .inl tightA))] := hD
        refine lv_aload_n hx hb dX6_keep_61 rfl (lv_at hl 1 rfl) ?_
        refine lv_bipush (v := 17) hx hb dX6_keep_62 (by decide) ?_
        refine lv_aload_n hx hb dX6_keep_64 rfl (lv_at hl 0 rfl) ?_
        refine va_get (D := (dC, dI)) (ci := 6) (v := .int t_wide) (C := RX6) (T := TX6) (N := 31) hx hb hts hinX6 hown hK hP 0 rfl rfl 2 (by decide) (hts (.fieldLink RX6 41 "PaperInBinModel" "wide" "I") (by decide +kernel)) (fun _ h9 => h9) rfl dX6_keep_65 ?_
        obtain ⟨g3, hR⟩ := g_in_s hR
        refine va_iast hx hb hK hP hD hS 2 0 rfl rfl g3 dX6_keep_68 (fun H locs hP hD hS => ?_)
        have hP : va_P (dC, dI) vwCl [(a_t, .inr (6, [.int t_hand, .int t_first, .int t_wide, .int t_rim, .int t_fill, .int t_wall, .int t_ceiling, .int t_puff, .int t_period, .int t_second, .int t_score, .int t_thrown, .int t_balls, .ref a_kind, .ref a_size, .ref a_tight, .int t_letters, .ref a_letter, .int t_at, .int t_value, .int t_inRow, .ref a_row, .ref a_refusals, .int t_imaged, .ref a_image, .ref a_ahead, .int t_end, .int t_cell, .int t_steps, .int t_highest, .int t_struck])), (a_kind, .inl (cI, 5, .inl kindA)), (a_p1, .inl (cI, 28, .inl (upd (upd (upd p1A (15 : Int32).toNatClampNeg t_hand) (16 : Int32).toNatClampNeg t_first) (17 : Int32).toNatClampNeg t_wide))), (a_size, .inl (cI, 5, .inl sizeA)), (a_tight, .inl (cI, 5, .inl tightA))] H := hP
        have hD : va_D A [(a_t, .inr (6, [.int t_hand, .int t_first, .int t_wide, .int t_rim, .int t_fill, .int t_wall, .int t_ceiling, .int t_puff, .int t_period, .int t_second, .int t_score, .int t_thrown, .int t_balls, .ref a_kind, .ref a_size, .ref a_tight, .int t_letters, .ref a_letter, .int t_at, .int t_value, .int t_inRow, .ref a_row, .ref a_refusals, .int t_imaged, .ref a_image, .ref a_ahead, .int t_end, .int t_cell, .int t_steps, .int t_highest, .int t_struck])), (a_kind, .inl (cI, 5, .inl kindA)), (a_p1, .inl (cI, 28, .inl (upd (upd (upd p1A (15 : Int32).toNatClampNeg t_hand) (16 : Int32).toNatClampNeg t_first) (17 : Int32).toNatClampNeg t_wide))), (a_size, .inl (cI, 5, .inl sizeA)), (a_tight, .inl (cI, 5, .inl tightA))] := hD
        refine lv_aload_n hx hb dX6_keep_69 rfl (lv_at hl 1 rfl) ?_
        refine lv_bipush (v := 18) hx hb dX6_keep_70 (by decide) ?_
        refine lv_aload_n hx hb dX6_keep_72 rfl (lv_at hl 0 rfl) ?_
        refine va_get (D := (dC, dI)) (ci := 6) (v := .int t_rim) (C := RX6) (T := TX6) (N := 31) hx hb hts hinX6 hown hK hP 0 rfl rfl 3 (by decide) (hts (.fieldLink RX6 44 "PaperInBinModel" "rim" "I") (by decide +kernel)) (fun _ h9 => h9) rfl dX6_keep_73 ?_
        obtain ⟨g4, hR⟩ := g_in_s hR
        refine va_iast hx hb hK hP hD hS 2 0 rfl rfl g4 dX6_keep_76 (fun H locs hP hD hS => ?_)
        have hP : va_P (dC, dI) vwCl [(a_t, .inr (6, [.int t_hand, .int t_first, .int t_wide, .int t_rim, .int t_fill, .int t_wall, .int t_ceiling, .int t_puff, .int t_period, .int t_second, .int t_score, .int t_thrown, .int t_balls, .ref a_kind, .ref a_size, .ref a_tight, .int t_letters, .ref a_letter, .int t_at, .int t_value, .int t_inRow, .ref a_row, .ref a_refusals, .int t_imaged, .ref a_image, .ref a_ahead, .int t_end, .int t_cell, .int t_steps, .int t_highest, .int t_struck])), (a_kind, .inl (cI, 5, .inl kindA)), (a_p1, .inl (cI, 28, .inl (upd (upd (upd (upd p1A (15 : Int32).toNatClampNeg t_hand) (16 : Int32).toNatClampNeg t_first) (17 : Int32).toNatClampNeg t_wide) (18 : Int32).toNatClampNeg t_rim))), (a_size, .inl (cI, 5, .inl sizeA)), (a_tight, .inl (cI, 5, .inl tightA))] H := hP
        have hD : va_D A [(a_t, .inr (6, [.int t_hand, .int t_first, .int t_wide, .int t_rim, .int t_fill, .int t_wall, .int t_ceiling, .int t_puff, .int t_period, .int t_second, .int t_score, .int t_thrown, .int t_balls, .ref a_kind, .ref a_size, .ref a_tight, .int t_letters, .ref a_letter, .int t_at, .int t_value, .int t_inRow, .ref a_row, .ref a_refusals, .int t_imaged, .ref a_image, .ref a_ahead, .int t_end, .int t_cell, .int t_steps, .int t_highest, .int t_struck])), (a_kind, .inl (cI, 5, .inl kindA)), (a_p1, .inl (cI, 28, .inl (upd (upd (upd (upd p1A (15 : Int32).toNatClampNeg t_hand) (16 : Int32).toNatClampNeg t_first) (17 : Int32).toNatClampNeg t_wide) (18 : Int32).toNatClampNeg t_rim))), (a_size, .inl (cI, 5, .inl sizeA)), (a_tight, .inl (cI, 5, .inl tightA))] := hD
        refine lv_aload_n hx hb dX6_keep_77 rfl (lv_at hl 1 rfl) ?_
        refine lv_bipush (v := 19) hx hb dX6_keep_78 (by decide) ?_
        refine lv_aload_n hx hb dX6_keep_80 rfl (lv_at hl 0 rfl) ?_
        refine va_get (D := (dC, dI)) (ci := 6) (v := .int t_fill) (C := RX6) (T := TX6) (N := 31) hx hb hts hinX6 hown hK hP 0 rfl rfl 4 (by decide) (hts (.fieldLink RX6 89 "PaperInBinModel" "fill" "I") (by decide +kernel)) (fun _ h9 => h9) rfl dX6_keep_81 ?_
        obtain ⟨g5, hR⟩ := g_in_s hR
        refine va_iast hx hb hK hP hD hS 2 0 rfl rfl g5 dX6_keep_84 (fun H locs hP hD hS => ?_)
        have hP : va_P (dC, dI) vwCl [(a_t, .inr (6, [.int t_hand, .int t_first, .int t_wide, .int t_rim, .int t_fill, .int t_wall, .int t_ceiling, .int t_puff, .int t_period, .int t_second, .int t_score, .int t_thrown, .int t_balls, .ref a_kind, .ref a_size, .ref a_tight, .int t_letters, .ref a_letter, .int t_at, .int t_value, .int t_inRow, .ref a_row, .ref a_refusals, .int t_imaged, .ref a_image, .ref a_ahead, .int t_end, .int t_cell, .int t_steps, .int t_highest, .int t_struck])), (a_kind, .inl (cI, 5, .inl kindA)), (a_p1, .inl (cI, 28, .inl (upd (upd (upd (upd (upd p1A (15 : Int32).toNatClampNeg t_hand) (16 : Int32).toNatClampNeg t_first) (17 : Int32).toNatClampNeg t_wide) (18 : Int32).toNatClampNeg t_rim) (19 : Int32).toNatClampNeg t_fill))), (a_size, .inl (cI, 5, .inl sizeA)), (a_tight, .inl (cI, 5, .inl tightA))] H := hP
        have hD : va_D A [(a_t, .inr (6, [.int t_hand, .int t_first, .int t_wide, .int t_rim, .int t_fill, .int t_wall, .int t_ceiling, .int t_puff, .int t_period, .int t_second, .int t_score, .int t_thrown, .int t_balls, .ref a_kind, .ref a_size, .ref a_tight, .int t_letters, .ref a_letter, .int t_at, .int t_value, .int t_inRow, .ref a_row, .ref a_refusals, .int t_imaged, .ref a_image, .ref a_ahead, .int t_end, .int t_cell, .int t_steps, .int t_highest, .int t_struck])), (a_kind, .inl (cI, 5, .inl kindA)), (a_p1, .inl (cI, 28, .inl (upd (upd (upd (upd (upd p1A (15 : Int32).toNatClampNeg t_hand) (16 : Int32).toNatClampNeg t_first) (17 : Int32).toNatClampNeg t_wide) (18 : Int32).toNatClampNeg t_rim) (19 : Int32).toNatClampNeg t_fill))), (a_size, .inl (cI, 5, .inl sizeA)), (a_tight, .inl (cI, 5, .inl tightA))] := hD
        refine lv_aload_n hx hb dX6_keep_85 rfl (lv_at hl 1 rfl) ?_
        refine lv_bipush (v := 20) hx hb dX6_keep_86 (by decide) ?_
        refine lv_aload_n hx hb dX6_keep_88 rfl (lv_at hl 0 rfl) ?_
        refine va_get (D := (dC, dI)) (ci := 6) (v := .int t_wall) (C := RX6) (T := TX6) (N := 31) hx hb hts hinX6 hown hK hP 0 rfl rfl 5 (by decide) (hts (.fieldLink RX6 47 "PaperInBinModel" "wall" "I") (by decide +kernel)) (fun _ h9 => h9) rfl dX6_keep_89 ?_
        obtain ⟨g6, hR⟩ := g_in_s hR
        refine va_iast hx hb hK hP hD hS 2 0 rfl rfl g6 dX6_keep_92 (fun H locs hP hD hS => ?_)
        have hP : va_P (dC, dI) vwCl [(a_t, .inr (6, [.int t_hand, .int t_first, .int t_wide, .int t_rim, .int t_fill, .int t_wall, .int t_ceiling, .int t_puff, .int t_period, .int t_second, .int t_score, .int t_thrown, .int t_balls, .ref a_kind, .ref a_size, .ref a_tight, .int t_letters, .ref a_letter, .int t_at, .int t_value, .int t_inRow, .ref a_row, .ref a_refusals, .int t_imaged, .ref a_image, .ref a_ahead, .int t_end, .int t_cell, .int t_steps, .int t_highest, .int t_struck])), (a_kind, .inl (cI, 5, .inl kindA)), (a_p1, .inl (cI, 28, .inl (upd (upd (upd (upd (upd (upd p1A (15 : Int32).toNatClampNeg t_hand) (16 : Int32).toNatClampNeg t_first) (17 : Int32).toNatClampNeg t_wide) (18 : Int32).toNatClampNeg t_rim) (19 : Int32).toNatClampNeg t_fill) (20 : Int32).toNatClampNeg t_wall))), (a_size, .inl (cI, 5, .inl sizeA)), (a_tight, .inl (cI, 5, .inl tightA))] H := hP
        have hD : va_D A [(a_t, .inr (6, [.int t_hand, .int t_first, .int t_wide, .int t_rim, .int t_fill, .int t_wall, .int t_ceiling, .int t_puff, .int t_period, .int t_second, .int t_score, .int t_thrown, .int t_balls, .ref a_kind, .ref a_size, .ref a_tight, .int t_letters, .ref a_letter, .int t_at, .int t_value, .int t_inRow, .ref a_row, .ref a_refusals, .int t_imaged, .ref a_image, .ref a_ahead, .int t_end, .int t_cell, .int t_steps, .int t_highest, .int t_struck])), (a_kind, .inl (cI, 5, .inl kindA)), (a_p1, .inl (cI, 28, .inl (upd (upd (upd (upd (upd (upd p1A (15 : Int32).toNatClampNeg t_hand) (16 : Int32).toNatClampNeg t_first) (17 : Int32).toNatClampNeg t_wide) (18 : Int32).toNatClampNeg t_rim) (19 : Int32).toNatClampNeg t_fill) (20 : Int32).toNatClampNeg t_wall))), (a_size, .inl (cI, 5, .inl sizeA)), (a_tight, .inl (cI, 5, .inl tightA))] := hD
        refine lv_aload_n hx hb dX6_keep_93 rfl (lv_at hl 1 rfl) ?_
        refine lv_bipush (v := 21) hx hb dX6_keep_94 (by decide) ?_
        refine lv_aload_n hx hb dX6_keep_96 rfl (lv_at hl 0 rfl) ?_
        refine va_get (D := (dC, dI)) (ci := 6) (v := .int t_ceiling) (C := RX6) (T := TX6) (N := 31) hx hb hts hinX6 hown hK hP 0 rfl rfl 6 (by decide) (hts (.fieldLink RX6 50 "PaperInBinModel" "ceiling" "I") (by decide +kernel)) (fun _ h9 => h9) rfl dX6_keep_97 ?_
        obtain ⟨g7, hR⟩ := g_in_s hR
        refine va_iast hx hb hK hP hD hS 2 0 rfl rfl g7 dX6_keep_100 (fun H locs hP hD hS => ?_)
        have hP : va_P (dC, dI) vwCl [(a_t, .inr (6, [.int t_hand, .int t_first, .int t_wide, .int t_rim, .int t_fill, .int t_wall, .int t_ceiling, .int t_puff, .int t_period, .int t_second, .int t_score, .int t_thrown, .int t_balls, .ref a_kind, .ref a_size, .ref a_tight, .int t_letters, .ref a_letter, .int t_at, .int t_value, .int t_inRow, .ref a_row, .ref a_refusals, .int t_imaged, .ref a_image, .ref a_ahead, .int t_end, .int t_cell, .int t_steps, .int t_highest, .int t_struck])), (a_kind, .inl (cI, 5, .inl kindA)), (a_p1, .inl (cI, 28, .inl (upd (upd (upd (upd (upd (upd (upd p1A (15 : Int32).toNatClampNeg t_hand) (16 : Int32).toNatClampNeg t_first) (17 : Int32).toNatClampNeg t_wide) (18 : Int32).toNatClampNeg t_rim) (19 : Int32).toNatClampNeg t_fill) (20 : Int32).toNatClampNeg t_wall) (21 : Int32).toNatClampNeg t_ceiling))), (a_size, .inl (cI, 5, .inl sizeA)), (a_tight, .inl (cI, 5, .inl tightA))] H := hP
        have hD : va_D A [(a_t, .inr (6, [.int t_hand, .int t_first, .int t_wide, .int t_rim, .int t_fill, .int t_wall, .int t_ceiling, .int t_puff, .int t_period, .int t_second, .int t_score, .int t_thrown, .int t_balls, .ref a_kind, .ref a_size, .ref a_tight, .int t_letters, .ref a_letter, .int t_at, .int t_value, .int t_inRow, .ref a_row, .ref a_refusals, .int t_imaged, .ref a_image, .ref a_ahead, .int t_end, .int t_cell, .int t_steps, .int t_highest, .int t_struck])), (a_kind, .inl (cI, 5, .inl kindA)), (a_p1, .inl (cI, 28, .inl (upd (upd (upd (upd (upd (upd (upd p1A (15 : Int32).toNatClampNeg t_hand) (16 : Int32).toNatClampNeg t_first) (17 : Int32).toNatClampNeg t_wide) (18 : Int32).toNatClampNeg t_rim) (19 : Int32).toNatClampNeg t_fill) (20 : Int32).toNatClampNeg t_wall) (21 : Int32).toNatClampNeg t_ceiling))), (a_size, .inl (cI, 5, .inl sizeA)), (a_tight, .inl (cI, 5, .inl tightA))] := hD
        refine lv_aload_n hx hb dX6_keep_101 rfl (lv_at hl 1 rfl) ?_
        refine lv_bipush (v := 22) hx hb dX6_keep_102 (by decide) ?_
        refine lv_aload_n hx hb dX6_keep_104 rfl (lv_at hl 0 rfl) ?_
        refine va_get (D := (dC, dI)) (ci := 6) (v := .int t_puff) (C := RX6) (T := TX6) (N := 31) hx hb hts hinX6 hown hK hP 0 rfl rfl 7 (by decide) (hts (.fieldLink RX6 92 "PaperInBinModel" "puff" "I") (by decide +kernel)) (fun _ h9 => h9) rfl dX6_keep_105 ?_
        obtain ⟨g8, hR⟩ := g_in_s hR
        refine va_iast hx hb hK hP hD hS 2 0 rfl rfl g8 dX6_keep_108 (fun H locs hP hD hS => ?_)
        have hP : va_P (dC, dI) vwCl [(a_t, .inr (6, [.int t_hand, .int t_first, .int t_wide, .int t_rim, .int t_fill, .int t_wall, .int t_ceiling, .int t_puff, .int t_period, .int t_second, .int t_score, .int t_thrown, .int t_balls, .ref a_kind, .ref a_size, .ref a_tight, .int t_letters, .ref a_letter, .int t_at, .int t_value, .int t_inRow, .ref a_row, .ref a_refusals, .int t_imaged, .ref a_image, .ref a_ahead, .int t_end, .int t_cell, .int t_steps, .int t_highest, .int t_struck])), (a_kind, .inl (cI, 5, .inl kindA)), (a_p1, .inl (cI, 28, .inl (upd (upd (upd (upd (upd (upd (upd (upd p1A (15 : Int32).toNatClampNeg t_hand) (16 : Int32).toNatClampNeg t_first) (17 : Int32).toNatClampNeg t_wide) (18 : Int32).toNatClampNeg t_rim) (19 : Int32).toNatClampNeg t_fill) (20 : Int32).toNatClampNeg t_wall) (21 : Int32).toNatClampNeg t_ceiling) (22 : Int32).toNatClampNeg t_puff))), (a_size, .inl (cI, 5, .inl sizeA)), (a_tight, .inl (cI, 5, .inl tightA))] H := hP
        have hD : va_D A [(a_t, .inr (6, [.int t_hand, .int t_first, .int t_wide, .int t_rim, .int t_fill, .int t_wall, .int t_ceiling, .int t_puff, .int t_period, .int t_second, .int t_score, .int t_thrown, .int t_balls, .ref a_kind, .ref a_size, .ref a_tight, .int t_letters, .ref a_letter, .int t_at, .int t_value, .int t_inRow, .ref a_row, .ref a_refusals, .int t_imaged, .ref a_image, .ref a_ahead, .int t_end, .int t_cell, .int t_steps, .int t_highest, .int t_struck])), (a_kind, .inl (cI, 5, .inl kindA)), (a_p1, .inl (cI, 28, .inl (upd (upd (upd (upd (upd (upd (upd (upd p1A (15 : Int32).toNatClampNeg t_hand) (16 : Int32).toNatClampNeg t_first) (17 : Int32).toNatClampNeg t_wide) (18 : Int32).toNatClampNeg t_rim) (19 : Int32).toNatClampNeg t_fill) (20 : Int32).toNatClampNeg t_wall) (21 : Int32).toNatClampNeg t_ceiling) (22 : Int32).toNatClampNeg t_puff))), (a_size, .inl (cI, 5, .inl sizeA)), (a_tight, .inl (cI, 5, .inl tightA))] := hD
        refine lv_aload_n hx hb dX6_keep_109 rfl (lv_at hl 1 rfl) ?_
        refine lv_bipush (v := 23) hx hb dX6_keep_110 (by decide) ?_
        refine lv_aload_n hx hb dX6_keep_112 rfl (lv_at hl 0 rfl) ?_
        refine va_get (D := (dC, dI)) (ci := 6) (v := .int t_period) (C := RX6) (T := TX6) (N := 31) hx hb hts hinX6 hown hK hP 0 rfl rfl 8 (by decide) (hts (.fieldLink RX6 53 "PaperInBinModel" "period" "I") (by decide +kernel)) (fun _ h9 => h9) rfl dX6_keep_113 ?_
        obtain ⟨g9, hR⟩ := g_in_s hR
        refine va_iast hx hb hK hP hD hS 2 0 rfl rfl g9 dX6_keep_116 (fun H locs hP hD hS => ?_)
        have hP : va_P (dC, dI) vwCl [(a_t, .inr (6, [.int t_hand, .int t_first, .int t_wide, .int t_rim, .int t_fill, .int t_wall, .int t_ceiling, .int t_puff, .int t_period, .int t_second, .int t_score, .int t_thrown, .int t_balls, .ref a_kind, .ref a_size, .ref a_tight, .int t_letters, .ref a_letter, .int t_at, .int t_value, .int t_inRow, .ref a_row, .ref a_refusals, .int t_imaged, .ref a_image, .ref a_ahead, .int t_end, .int t_cell, .int t_steps, .int t_highest, .int t_struck])), (a_kind, .inl (cI, 5, .inl kindA)), (a_p1, .inl (cI, 28, .inl (upd (upd (upd (upd (upd (upd (upd (upd (upd p1A (15 : Int32).toNatClampNeg t_hand) (16 : Int32).toNatClampNeg t_first) (17 : Int32).toNatClampNeg t_wide) (18 : Int32).toNatClampNeg t_rim) (19 : Int32).toNatClampNeg t_fill) (20 : Int32).toNatClampNeg t_wall) (21 : Int32).toNatClampNeg t_ceiling) (22 : Int32).toNatClampNeg t_puff) (23 : Int32).toNatClampNeg t_period))), (a_size, .inl (cI, 5, .inl sizeA)), (a_tight, .inl (cI, 5, .inl tightA))] H := hP
        have hD : va_D A [(a_t, .inr (6, [.int t_hand, .int t_first, .int t_wide, .int t_rim, .int t_fill, .int t_wall, .int t_ceiling, .int t_puff, .int t_period, .int t_second, .int t_score, .int t_thrown, .int t_balls, .ref a_kind, .ref a_size, .ref a_tight, .int t_letters, .ref a_letter, .int t_at, .int t_value, .int t_inRow, .ref a_row, .ref a_refusals, .int t_imaged, .ref a_image, .ref a_ahead, .int t_end, .int t_cell, .int t_steps, .int t_highest, .int t_struck])), (a_kind, .inl (cI, 5, .inl kindA)), (a_p1, .inl (cI, 28, .inl (upd (upd (upd (upd (upd (upd (upd (upd (upd p1A (15 : Int32).toNatClampNeg t_hand) (16 : Int32).toNatClampNeg t_first) (17 : Int32).toNatClampNeg t_wide) (18 : Int32).toNatClampNeg t_rim) (19 : Int32).toNatClampNeg t_fill) (20 : Int32).toNatClampNeg t_wall) (21 : Int32).toNatClampNeg t_ceiling) (22 : Int32).toNatClampNeg t_puff) (23 : Int32).toNatClampNeg t_period))), (a_size, .inl (cI, 5, .inl sizeA)), (a_tight, .inl (cI, 5, .inl tightA))] := hD
        refine lv_aload_n hx hb dX6_keep_117 rfl (lv_at hl 1 rfl) ?_
        refine lv_bipush (v := 24) hx hb dX6_keep_118 (by decide) ?_
        refine lv_aload_n hx hb dX6_keep_120 rfl (lv_at hl 0 rfl) ?_
        refine va_get (D := (dC, dI)) (ci := 6) (v := .int t_second) (C := RX6) (T := TX6) (N := 31) hx hb hts hinX6 hown hK hP 0 rfl rfl 9 (by decide) (hts (.fieldLink RX6 149 "PaperInBinModel" "second" "I") (by decide +kernel)) (fun _ h9 => h9) rfl dX6_keep_121 ?_
        obtain ⟨g10, hR⟩ := g_in_s hR
        refine va_iast hx hb hK hP hD hS 2 0 rfl rfl g10 dX6_keep_124 (fun H locs hP hD hS => ?_)
        have hP : va_P (dC, dI) vwCl [(a_t, .inr (6, [.int t_hand, .int t_first, .int t_wide, .int t_rim, .int t_fill, .int t_wall, .int t_ceiling, .int t_puff, .int t_period, .int t_second, .int t_score, .int t_thrown, .int t_balls, .ref a_kind, .ref a_size, .ref a_tight, .int t_letters, .ref a_letter, .int t_at, .int t_value, .int t_inRow, .ref a_row, .ref a_refusals, .int t_imaged, .ref a_image, .ref a_ahead, .int t_end, .int t_cell, .int t_steps, .int t_highest, .int t_struck])), (a_kind, .inl (cI, 5, .inl kindA)), (a_p1, .inl (cI, 28, .inl (upd (upd (upd (upd (upd (upd (upd (upd (upd (upd p1A (15 : Int32).toNatClampNeg t_hand) (16 : Int32).toNatClampNeg t_first) (17 : Int32).toNatClampNeg t_wide) (18 : Int32).toNatClampNeg t_rim) (19 : Int32).toNatClampNeg t_fill) (20 : Int32).toNatClampNeg t_wall) (21 : Int32).toNatClampNeg t_ceiling) (22 : Int32).toNatClampNeg t_puff) (23 : Int32).toNatClampNeg t_period) (24 : Int32).toNatClampNeg t_second))), (a_size, .inl (cI, 5, .inl sizeA)), (a_tight, .inl (cI, 5, .inl tightA))] H := hP
        have hD : va_D A [(a_t, .inr (6, [.int t_hand, .int t_first, .int t_wide, .int t_rim, .int t_fill, .int t_wall, .int t_ceiling, .int t_puff, .int t_period, .int t_second, .int t_score, .int t_thrown, .int t_balls, .ref a_kind, .ref a_size, .ref a_tight, .int t_letters, .ref a_letter, .int t_at, .int t_value, .int t_inRow, .ref a_row, .ref a_refusals, .int t_imaged, .ref a_image, .ref a_ahead, .int t_end, .int t_cell, .int t_steps, .int t_highest, .int t_struck])), (a_kind, .inl (cI, 5, .inl kindA)), (a_p1, .inl (cI, 28, .inl (upd (upd (upd (upd (upd (upd (upd (upd (upd (upd p1A (15 : Int32).toNatClampNeg t_hand) (16 : Int32).toNatClampNeg t_first) (17 : Int32).toNatClampNeg t_wide) (18 : Int32).toNatClampNeg t_rim) (19 : Int32).toNatClampNeg t_fill) (20 : Int32).toNatClampNeg t_wall) (21 : Int32).toNatClampNeg t_ceiling) (22 : Int32).toNatClampNeg t_puff) (23 : Int32).toNatClampNeg t_period) (24 : Int32).toNatClampNeg t_second))), (a_size, .inl (cI, 5, .inl sizeA)), (a_tight, .inl (cI, 5, .inl tightA))] := hD
        refine lv_aload_n hx hb dX6_keep_125 rfl (lv_at hl 1 rfl) ?_
        refine lv_bipush (v := 25) hx hb dX6_keep_126 (by decide) ?_
        refine lv_aload_n hx hb dX6_keep_128 rfl (lv_at hl 0 rfl) ?_
        refine va_get (D := (dC, dI)) (ci := 6) (v := .int t_score) (C := RX6) (T := TX6) (N := 31) hx hb hts hinX6 hown hK hP 0 rfl rfl 10 (by decide) (hts (.fieldLink RX6 162 "PaperInBinModel" "score" "I") (by decide +kernel)) (fun _ h9 => h9) rfl dX6_keep_129 ?_
        obtain ⟨g11, hR⟩ := g_in_s hR
        refine va_iast hx hb hK hP hD hS 2 0 rfl rfl g11 dX6_keep_132 (fun H locs hP hD hS => ?_)
        have hP : va_P (dC, dI) vwCl [(a_t, .inr (6, [.int t_hand, .int t_first, .int t_wide, .int t_rim, .int t_fill, .int t_wall, .int t_ceiling, .int t_puff, .int t_period, .int t_second, .int t_score, .int t_thrown, .int t_balls, .ref a_kind, .ref a_size, .ref a_tight, .int t_letters, .ref a_letter, .int t_at, .int t_value, .int t_inRow, .ref a_row, .ref a_refusals, .int t_imaged, .ref a_image, .ref a_ahead, .int t_end, .int t_cell, .int t_steps, .int t_highest, .int t_struck])), (a_kind, .inl (cI, 5, .inl kindA)), (a_p1, .inl (cI, 28, .inl (upd (upd (upd (upd (upd (upd (upd (upd (upd (upd (upd p1A (15 : Int32).toNatClampNeg t_hand) (16 : Int32).toNatClampNeg t_first) (17 : Int32).toNatClampNeg t_wide) (18 : Int32).toNatClampNeg t_rim) (19 : Int32).toNatClampNeg t_fill) (20 : Int32).toNatClampNeg t_wall) (21 : Int32).toNatClampNeg t_ceiling) (22 : Int32).toNatClampNeg t_puff) (23 : Int32).toNatClampNeg t_period) (24 : Int32).toNatClampNeg t_second) (25 : Int32).toNatClampNeg t_score))), (a_size, .inl (cI, 5, .inl sizeA)), (a_tight, .inl (cI, 5, .inl tightA))] H := hP
        have hD : va_D A [(a_t, .inr (6, [.int t_hand, .int t_first, .int t_wide, .int t_rim, .int t_fill, .int t_wall, .int t_ceiling, .int t_puff, .int t_period, .int t_second, .int t_score, .int t_thrown, .int t_balls, .ref a_kind, .ref a_size, .ref a_tight, .int t_letters, .ref a_letter, .int t_at, .int t_value, .int t_inRow, .ref a_row, .ref a_refusals, .int t_imaged, .ref a_image, .ref a_ahead, .int t_end, .int t_cell, .int t_steps, .int t_highest, .int t_struck])), (a_kind, .inl (cI, 5, .inl kindA)), (a_p1, .inl (cI, 28, .inl (upd (upd (upd (upd (upd (upd (upd (upd (upd (upd (upd p1A (15 : Int32).toNatClampNeg t_hand) (16 : Int32).toNatClampNeg t_first) (17 : Int32).toNatClampNeg t_wide) (18 : Int32).toNatClampNeg t_rim) (19 : Int32).toNatClampNeg t_fill) (20 : Int32).toNatClampNeg t_wall) (21 : Int32).toNatClampNeg t_ceiling) (22 : Int32).toNatClampNeg t_puff) (23 : Int32).toNatClampNeg t_period) (24 : Int32).toNatClampNeg t_second) (25 : Int32).toNatClampNeg t_score))), (a_size, .inl (cI, 5, .inl sizeA)), (a_tight, .inl (cI, 5, .inl tightA))] := hD
        refine lv_aload_n hx hb dX6_keep_133 rfl (lv_at hl 1 rfl) ?_
        refine lv_bipush (v := 26) hx hb dX6_keep_134 (by decide) ?_
        refine lv_aload_n hx hb dX6_keep_136 rfl (lv_at hl 0 rfl) ?_
        refine va_get (D := (dC, dI)) (ci := 6) (v := .int t_thrown) (C := RX6) (T := TX6) (N := 31) hx hb hts hinX6 hown hK hP 0 rfl rfl 11 (by decide) (hts (.fieldLink RX6 159 "PaperInBinModel" "thrown" "I") (by decide +kernel)) (fun _ h9 => h9) rfl dX6_keep_137 ?_
        obtain ⟨g12, hR⟩ := g_in_s hR
        refine va_iast hx hb hK hP hD hS 2 0 rfl rfl g12 dX6_keep_140 (fun H locs hP hD hS => ?_)
        have hP : va_P (dC, dI) vwCl [(a_t, .inr (6, [.int t_hand, .int t_first, .int t_wide, .int t_rim, .int t_fill, .int t_wall, .int t_ceiling, .int t_puff, .int t_period, .int t_second, .int t_score, .int t_thrown, .int t_balls, .ref a_kind, .ref a_size, .ref a_tight, .int t_letters, .ref a_letter, .int t_at, .int t_value, .int t_inRow, .ref a_row, .ref a_refusals, .int t_imaged, .ref a_image, .ref a_ahead, .int t_end, .int t_cell, .int t_steps, .int t_highest, .int t_struck])), (a_kind, .inl (cI, 5, .inl kindA)), (a_p1, .inl (cI, 28, .inl (upd (upd (upd (upd (upd (upd (upd (upd (upd (upd (upd (upd p1A (15 : Int32).toNatClampNeg t_hand) (16 : Int32).toNatClampNeg t_first) (17 : Int32).toNatClampNeg t_wide) (18 : Int32).toNatClampNeg t_rim) (19 : Int32).toNatClampNeg t_fill) (20 : Int32).toNatClampNeg t_wall) (21 : Int32).toNatClampNeg t_ceiling) (22 : Int32).toNatClampNeg t_puff) (23 : Int32).toNatClampNeg t_period) (24 : Int32).toNatClampNeg t_second) (25 : Int32).toNatClampNeg t_score) (26 : Int32).toNatClampNeg t_thrown))), (a_size, .inl (cI, 5, .inl sizeA)), (a_tight, .inl (cI, 5, .inl tightA))] H := hP
        have hD : va_D A [(a_t, .inr (6, [.int t_hand, .int t_first, .int t_wide, .int t_rim, .int t_fill, .int t_wall, .int t_ceiling, .int t_puff, .int t_period, .int t_second, .int t_score, .int t_thrown, .int t_balls, .ref a_kind, .ref a_size, .ref a_tight, .int t_letters, .ref a_letter, .int t_at, .int t_value, .int t_inRow, .ref a_row, .ref a_refusals, .int t_imaged, .ref a_image, .ref a_ahead, .int t_end, .int t_cell, .int t_steps, .int t_highest, .int t_struck])), (a_kind, .inl (cI, 5, .inl kindA)), (a_p1, .inl (cI, 28, .inl (upd (upd (upd (upd (upd (upd (upd (upd (upd (upd (upd (upd p1A (15 : Int32).toNatClampNeg t_hand) (16 : Int32).toNatClampNeg t_first) (17 : Int32).toNatClampNeg t_wide) (18 : Int32).toNatClampNeg t_rim) (19 : Int32).toNatClampNeg t_fill) (20 : Int32).toNatClampNeg t_wall) (21 : Int32).toNatClampNeg t_ceiling) (22 : Int32).toNatClampNeg t_puff) (23 : Int32).toNatClampNeg t_period) (24 : Int32).toNatClampNeg t_second) (25 : Int32).toNatClampNeg t_score) (26 : Int32).toNatClampNeg t_thrown))), (a_size, .inl (cI, 5, .inl sizeA)), (a_tight, .inl (cI, 5, .inl tightA))] := hD
        refine lv_aload_n hx hb dX6_keep_141 rfl (lv_at hl 1 rfl) ?_
        refine lv_bipush (v := 27) hx hb dX6_keep_142 (by decide) ?_
        refine lv_aload_n hx hb dX6_keep_144 rfl (lv_at hl 0 rfl) ?_
        refine va_get (D := (dC, dI)) (ci := 6) (v := .int t_balls) (C := RX6) (T := TX6) (N := 31) hx hb hts hinX6 hown hK hP 0 rfl rfl 12 (by decide) (hts (.fieldLink RX6 62 "PaperInBinModel" "balls" "I") (by decide +kernel)) (fun _ h9 => h9) rfl dX6_keep_145 ?_
        obtain ⟨g13, hR⟩ := g_in_s hR
        refine va_iast hx hb hK hP hD hS 2 0 rfl rfl g13 dX6_keep_148 (fun H locs hP hD hS => ?_)
        have hP : va_P (dC, dI) vwCl [(a_t, .inr (6, [.int t_hand, .int t_first, .int t_wide, .int t_rim, .int t_fill, .int t_wall, .int t_ceiling, .int t_puff, .int t_period, .int t_second, .int t_score, .int t_thrown, .int t_balls, .ref a_kind, .ref a_size, .ref a_tight, .int t_letters, .ref a_letter, .int t_at, .int t_value, .int t_inRow, .ref a_row, .ref a_refusals, .int t_imaged, .ref a_image, .ref a_ahead, .int t_end, .int t_cell, .int t_steps, .int t_highest, .int t_struck])), (a_kind, .inl (cI, 5, .inl kindA)), (a_p1, .inl (cI, 28, .inl (upd (upd (upd (upd (upd (upd (upd (upd (upd (upd (upd (upd (upd p1A (15 : Int32).toNatClampNeg t_hand) (16 : Int32).toNatClampNeg t_first) (17 : Int32).toNatClampNeg t_wide) (18 : Int32).toNatClampNeg t_rim) (19 : Int32).toNatClampNeg t_fill) (20 : Int32).toNatClampNeg t_wall) (21 : Int32).toNatClampNeg t_ceiling) (22 : Int32).toNatClampNeg t_puff) (23 : Int32).toNatClampNeg t_period) (24 : Int32).toNatClampNeg t_second) (25 : Int32).toNatClampNeg t_score) (26 : Int32).toNatClampNeg t_thrown) (27 : Int32).toNatClampNeg t_balls))), (a_size, .inl (cI, 5, .inl sizeA)), (a_tight, .inl (cI, 5, .inl tightA))] H := hP
        have hD : va_D A [(a_t, .inr (6, [.int t_hand, .int t_first, .int t_wide, .int t_rim, .int t_fill, .int t_wall, .int t_ceiling, .int t_puff, .int t_period, .int t_second, .int t_score, .int t_thrown, .int t_balls, .ref a_kind, .ref a_size, .ref a_tight, .int t_letters, .ref a_letter, .int t_at, .int t_value, .int t_inRow, .ref a_row, .ref a_refusals, .int t_imaged, .ref a_image, .ref a_ahead, .int t_end, .int t_cell, .int t_steps, .int t_highest, .int t_struck])), (a_kind, .inl (cI, 5, .inl kindA)), (a_p1, .inl (cI, 28, .inl (upd (upd (upd (upd (upd (upd (upd (upd (upd (upd (upd (upd (upd p1A (15 : Int32).toNatClampNeg t_hand) (16 : Int32).toNatClampNeg t_first) (17 : Int32).toNatClampNeg t_wide) (18 : Int32).toNatClampNeg t_rim) (19 : Int32).toNatClampNeg t_fill) (20 : Int32).toNatClampNeg t_wall) (21 : Int32).toNatClampNeg t_ceiling) (22 : Int32).toNatClampNeg t_puff) (23 : Int32).toNatClampNeg t_period) (24 : Int32).toNatClampNeg t_second) (25 : Int32).toNatClampNeg t_score) (26 : Int32).toNatClampNeg t_thrown) (27 : Int32).toNatClampNeg t_balls))), (a_size, .inl (cI, 5, .inl sizeA)), (a_tight, .inl (cI, 5, .inl tightA))] := hD
        subst hQ
        subst hAe
        exact W.vret hx hb hr (fun t ht hW => ⟨⟨((upd (upd (upd (upd (upd (upd (upd (upd (upd (upd (upd (upd (upd p1A (15 : Int32).toNatClampNeg t_hand) (16 : Int32).toNatClampNeg t_first) (17 : Int32).toNatClampNeg t_wide) (18 : Int32).toNatClampNeg t_rim) (19 : Int32).toNatClampNeg t_fill) (20 : Int32).toNatClampNeg t_wall) (21 : Int32).toNatClampNeg t_ceiling) (22 : Int32).toNatClampNeg t_puff) (23 : Int32).toNatClampNeg t_period) (24 : Int32).toNatClampNeg t_second) (25 : Int32).toNatClampNeg t_score) (26 : Int32).toNatClampNeg t_thrown) (27 : Int32).toNatClampNeg t_balls)), rfl, Option.some.inj hR, by rw [ht]; exact hP, hD⟩, hS.F ht⟩) hS.2.2 dX6_keep_149
      · have hR := (if_neg c4).symm.trans hR
        refine lv_aload_n hx hb dX6_keep_7 rfl (lv_at hl 1 rfl) ?_
        refine lv_iload_n hx hb dX6_keep_8 rfl (lv_at hl 2 rfl) ?_
        refine lv_aload_n hx hb dX6_keep_9 rfl (lv_at hl 0 rfl) ?_
        refine va_get (D := (dC, dI)) (ci := 6) (v := .ref a_kind) (C := RX6) (T := TX6) (N := 31) hx hb hts hinX6 hown hK hP 0 rfl rfl 13 (by decide) (hts (.fieldLink RX6 7 "PaperInBinModel" "kind" "[I") (by decide +kernel)) (fun _ h9 => h9) rfl dX6_keep_10 ?_
        refine lv_iload_n hx hb dX6_keep_13 rfl (lv_at hl 2 rfl) ?_
        obtain ⟨g14, hR⟩ := g_in_s hR
        refine va_iald hx hb hK hP 1 0 rfl rfl g14 dX6_keep_14 ?_
        obtain ⟨g15, hR⟩ := g_in_s hR
        refine va_iast hx hb hK hP hD hS 2 0 rfl rfl g15 dX6_keep_15 (fun H locs hP hD hS => ?_)
        have hP : va_P (dC, dI) vwCl [(a_t, .inr (6, [.int t_hand, .int t_first, .int t_wide, .int t_rim, .int t_fill, .int t_wall, .int t_ceiling, .int t_puff, .int t_period, .int t_second, .int t_score, .int t_thrown, .int t_balls, .ref a_kind, .ref a_size, .ref a_tight, .int t_letters, .ref a_letter, .int t_at, .int t_value, .int t_inRow, .ref a_row, .ref a_refusals, .int t_imaged, .ref a_image, .ref a_ahead, .int t_end, .int t_cell, .int t_steps, .int t_highest, .int t_struck])), (a_kind, .inl (cI, 5, .inl kindA)), (a_p1, .inl (cI, 28, .inl (upd p1A (x2).toNatClampNeg (kindA (x2).toNatClampNeg)))), (a_size, .inl (cI, 5, .inl sizeA)), (a_tight, .inl (cI, 5, .inl tightA))] H := hP
        have hD : va_D A [(a_t, .inr (6, [.int t_hand, .int t_first, .int t_wide, .int t_rim, .int t_fill, .int t_wall, .int t_ceiling, .int t_puff, .int t_period, .int t_second, .int t_score, .int t_thrown, .int t_balls, .ref a_kind, .ref a_size, .ref a_tight, .int t_letters, .ref a_letter, .int t_at, .int t_value, .int t_inRow, .ref a_row, .ref a_refusals, .int t_imaged, .ref a_image, .ref a_ahead, .int t_end, .int t_cell, .int t_steps, .int t_highest, .int t_struck])), (a_kind, .inl (cI, 5, .inl kindA)), (a_p1, .inl (cI, 28, .inl (upd p1A (x2).toNatClampNeg (kindA (x2).toNatClampNeg)))), (a_size, .inl (cI, 5, .inl sizeA)), (a_tight, .inl (cI, 5, .inl tightA))] := hD
        refine lv_aload_n hx hb dX6_keep_16 rfl (lv_at hl 1 rfl) ?_
        refine lv_iconst (v := 5) hx hb dX6_keep_17 (by decide) ?_
        refine lv_iload_n hx hb dX6_keep_18 rfl (lv_at hl 2 rfl) ?_
        refine lv_iadd hx hb dX6_keep_19 ?_
        refine lv_aload_n hx hb dX6_keep_20 rfl (lv_at hl 0 rfl) ?_
        refine va_get (D := (dC, dI)) (ci := 6) (v := .ref a_size) (C := RX6) (T := TX6) (N := 31) hx hb hts hinX6 hown hK hP 0 rfl rfl 14 (by decide) (hts (.fieldLink RX6 13 "PaperInBinModel" "size" "[I") (by decide +kernel)) (fun _ h9 => h9) rfl dX6_keep_21 ?_
        refine lv_iload_n hx hb dX6_keep_24 rfl (lv_at hl 2 rfl) ?_
        obtain ⟨g16, hR⟩ := g_in_s hR
        refine va_iald hx hb hK hP 3 0 rfl rfl g16 dX6_keep_25 ?_
        obtain ⟨g17, hR⟩ := g_in_s hR
        refine va_iast hx hb hK hP hD hS 2 0 rfl rfl g17 dX6_keep_26 (fun H locs hP hD hS => ?_)
        have hP : va_P (dC, dI) vwCl [(a_t, .inr (6, [.int t_hand, .int t_first, .int t_wide, .int t_rim, .int t_fill, .int t_wall, .int t_ceiling, .int t_puff, .int t_period, .int t_second, .int t_score, .int t_thrown, .int t_balls, .ref a_kind, .ref a_size, .ref a_tight, .int t_letters, .ref a_letter, .int t_at, .int t_value, .int t_inRow, .ref a_row, .ref a_refusals, .int t_imaged, .ref a_image, .ref a_ahead, .int t_end, .int t_cell, .int t_steps, .int t_highest, .int t_struck])), (a_kind, .inl (cI, 5, .inl kindA)), (a_p1, .inl (cI, 28, .inl (upd (upd p1A (x2).toNatClampNeg (kindA (x2).toNatClampNeg)) ((5 + x2)).toNatClampNeg (sizeA (x2).toNatClampNeg)))), (a_size, .inl (cI, 5, .inl sizeA)), (a_tight, .inl (cI, 5, .inl tightA))] H := hP
        have hD : va_D A [(a_t, .inr (6, [.int t_hand, .int t_first, .int t_wide, .int t_rim, .int t_fill, .int t_wall, .int t_ceiling, .int t_puff, .int t_period, .int t_second, .int t_score, .int t_thrown, .int t_balls, .ref a_kind, .ref a_size, .ref a_tight, .int t_letters, .ref a_letter, .int t_at, .int t_value, .int t_inRow, .ref a_row, .ref a_refusals, .int t_imaged, .ref a_image, .ref a_ahead, .int t_end, .int t_cell, .int t_steps, .int t_highest, .int t_struck])), (a_kind, .inl (cI, 5, .inl kindA)), (a_p1, .inl (cI, 28, .inl (upd (upd p1A (x2).toNatClampNeg (kindA (x2).toNatClampNeg)) ((5 + x2)).toNatClampNeg (sizeA (x2).toNatClampNeg)))), (a_size, .inl (cI, 5, .inl sizeA)), (a_tight, .inl (cI, 5, .inl tightA))] := hD
        refine lv_aload_n hx hb dX6_keep_27 rfl (lv_at hl 1 rfl) ?_
        refine lv_bipush (v := 10) hx hb dX6_keep_28 (by decide) ?_
        refine lv_iload_n hx hb dX6_keep_30 rfl (lv_at hl 2 rfl) ?_
        refine lv_iadd hx hb dX6_keep_31 ?_
        refine lv_aload_n hx hb dX6_keep_32 rfl (lv_at hl 0 rfl) ?_
        refine va_get (D := (dC, dI)) (ci := 6) (v := .ref a_tight) (C := RX6) (T := TX6) (N := 31) hx hb hts hinX6 hown hK hP 0 rfl rfl 15 (by decide) (hts (.fieldLink RX6 16 "PaperInBinModel" "tight" "[I") (by decide +kernel)) (fun _ h9 => h9) rfl dX6_keep_33 ?_
        refine lv_iload_n hx hb dX6_keep_36 rfl (lv_at hl 2 rfl) ?_
        obtain ⟨g18, hR⟩ := g_in_s hR
        refine va_iald hx hb hK hP 4 0 rfl rfl g18 dX6_keep_37 ?_
        obtain ⟨g19, hR⟩ := g_in_s hR
        refine va_iast hx hb hK hP hD hS 2 0 rfl rfl g19 dX6_keep_38 (fun H locs hP hD hS => ?_)
        have hP : va_P (dC, dI) vwCl [(a_t, .inr (6, [.int t_hand, .int t_first, .int t_wide, .int t_rim, .int t_fill, .int t_wall, .int t_ceiling, .int t_puff, .int t_period, .int t_second, .int t_score, .int t_thrown, .int t_balls, .ref a_kind, .ref a_size, .ref a_tight, .int t_letters, .ref a_letter, .int t_at, .int t_value, .int t_inRow, .ref a_row, .ref a_refusals, .int t_imaged, .ref a_image, .ref a_ahead, .int t_end, .int t_cell, .int t_steps, .int t_highest, .int t_struck])), (a_kind, .inl (cI, 5, .inl kindA)), (a_p1, .inl (cI, 28, .inl (upd (upd (upd p1A (x2).toNatClampNeg (kindA (x2).toNatClampNeg)) ((5 + x2)).toNatClampNeg (sizeA (x2).toNatClampNeg)) ((10 + x2)).toNatClampNeg (tightA (x2).toNatClampNeg)))), (a_size, .inl (cI, 5, .inl sizeA)), (a_tight, .inl (cI, 5, .inl tightA))] H := hP
        have hD : va_D A [(a_t, .inr (6, [.int t_hand, .int t_first, .int t_wide, .int t_rim, .int t_fill, .int t_wall, .int t_ceiling, .int t_puff, .int t_period, .int t_second, .int t_score, .int t_thrown, .int t_balls, .ref a_kind, .ref a_size, .ref a_tight, .int t_letters, .ref a_letter, .int t_at, .int t_value, .int t_inRow, .ref a_row, .ref a_refusals, .int t_imaged, .ref a_image, .ref a_ahead, .int t_end, .int t_cell, .int t_steps, .int t_highest, .int t_struck])), (a_kind, .inl (cI, 5, .inl kindA)), (a_p1, .inl (cI, 28, .inl (upd (upd (upd p1A (x2).toNatClampNeg (kindA (x2).toNatClampNeg)) ((5 + x2)).toNatClampNeg (sizeA (x2).toNatClampNeg)) ((10 + x2)).toNatClampNeg (tightA (x2).toNatClampNeg)))), (a_size, .inl (cI, 5, .inl sizeA)), (a_tight, .inl (cI, 5, .inl tightA))] := hD
        refine lv_iinc (v := (x2 + 1)) (lv' := [(2, .int (x2 + 1)), (0, .ref a_t), (1, .ref a_p1)]) hx hb dX6_keep_39 hl (k := 2) rfl rfl (by decide) rfl (fun ls hl => ?_)
        refine lv_goto (tgt := 2) hx hb dX6_keep_42 (by decide) ?_
        exact ih2 (x2 + 1) (upd (upd (upd p1A (x2).toNatClampNeg (kindA (x2).toNatClampNeg)) ((5 + x2)).toNatClampNeg (sizeA (x2).toNatClampNeg)) ((10 + x2)).toNatClampNeg (tightA (x2).toNatClampNeg)) _ _ hP hD hS _ (lv_sub hl [1, 2, 0] rfl) hR
  rw [fX6_keep] at hR
  refine lv_iconst (v := 0) hx hb dX6_keep_0 (by decide) ?_
  refine lv_istore_n (lv' := [(2, .int 0), (0, .ref a_t), (1, .ref a_p1)]) hx hb dX6_keep_1 rfl hl (by decide) rfl (fun ls hl => ?_)
  exact K2 (100) 0 p1A _ _ hP hD hS _ (lv_sub hl [1, 2, 0] rfl) hR
def lX6_again_2 (p1A : Nat → Int32) : Nat → Int32 → (Nat → Int32) → (Nat → Int32) → (Nat → Int32) → Option (Int32 × Int32 × Int32 × Int32 × Int32 × Int32 × Int32 × Int32 × Int32 × Int32 × Int32 × Int32 × Int32 × (Nat → Int32) × (Nat → Int32) × (Nat → Int32))
  | 0, _, _, _, _ => none
  | n + 1, x2, kindA, sizeA, tightA =>
    if 5 ≤ x2 then (
     g_in 15 28 (
     g_in 16 28 (
     g_in 17 28 (
     g_in 18 28 (
     g_in 19 28 (
     g_in 20 28 (
     g_in 21 28 (
     g_in 22 28 (
     g_in 23 28 (
     g_in 24 28 (
     g_in 25 28 (
     g_in 26 28 (
     g_in 27 28 (
     some ((p1A (15 : Int32).toNatClampNeg), (p1A (16 : Int32).toNatClampNeg), (p1A (17 : Int32).toNatClampNeg), (p1A (18 : Int32).toNatClampNeg), (p1A (19 : Int32).toNatClampNeg), (p1A (20 : Int32).toNatClampNeg), (p1A (21 : Int32).toNatClampNeg), (p1A (22 : Int32).toNatClampNeg), (p1A (23 : Int32).toNatClampNeg), (p1A (24 : Int32).toNatClampNeg), (p1A (25 : Int32).toNatClampNeg), (p1A (26 : Int32).toNatClampNeg), (p1A (27 : Int32).toNatClampNeg), kindA, sizeA, tightA)))))))))))))))
    else (
    g_in x2 28 (
    g_in x2 5 (
    g_in (5 + x2) 28 (
    g_in x2 5 (
    g_in (10 + x2) 28 (
    g_in x2 5 (
    lX6_again_2 p1A n (x2 + 1) (upd kindA (x2).toNatClampNeg (p1A (x2).toNatClampNeg)) (upd sizeA (x2).toNatClampNeg (p1A ((5 + x2)).toNatClampNeg)) (upd tightA (x2).toNatClampNeg (p1A ((10 + x2)).toNatClampNeg)))))))))
def fX6_again (p1A : Nat → Int32) (kindA : Nat → Int32) (sizeA : Nat → Int32) (tightA : Nat → Int32) : Option (Int32 × Int32 × Int32 × Int32 × Int32 × Int32 × Int32 × Int32 × Int32 × Int32 × Int32 × Int32 × Int32 × (Nat → Int32) × (Nat → Int32) × (Nat → Int32)) :=
  lX6_again_2 p1A (100) 0 kindA sizeA tightA
set_option maxHeartbeats 4000000 in
set_option maxRecDepth 100000 in
theorem kX6_again (l : Launch) (dC : Nat → ClassId) (dI : Nat → Nat → Nat) (cI : ClassId) (a_t a_kind a_size a_tight a_letter a_row a_refusals a_image a_ahead a_p1 : Nat) (sz : Nat) (t_hand : Int32) (t_first : Int32) (t_wide : Int32) (t_rim : Int32) (t_fill : Int32) (t_wall : Int32) (t_ceiling : Int32) (t_puff : Int32) (t_period : Int32) (t_second : Int32) (t_score : Int32) (t_thrown : Int32) (t_balls : Int32) (t_letters : Int32) (t_at : Int32) (t_value : Int32) (t_inRow : Int32) (t_imaged : Int32) (t_end : Int32) (t_cell : Int32) (t_steps : Int32) (t_highest : Int32) (t_struck : Int32) (p1A : Nat → Int32) (kindA : Nat → Int32) (sizeA : Nat → Int32) (tightA : Nat → Int32) (R : Int32 × Int32 × Int32 × Int32 × Int32 × Int32 × Int32 × Int32 × Int32 × Int32 × Int32 × Int32 × Int32 × (Nat → Int32) × (Nat → Int32) × (Nat → Int32)) (hR : fX6_again p1A kindA sizeA tightA = some R) : Met l yX6_again wsX6_again ({ frames := 0, cells := 0, slots := 0, locals := 0 } : Room) (va_Pc [.ref a_t, .ref a_p1] (Wp (dC, dI) [(cI, .int)] [(a_t, .inr (6, [.int t_hand, .int t_first, .int t_wide, .int t_rim, .int t_fill, .int t_wall, .int t_ceiling, .int t_puff, .int t_period, .int t_second, .int t_score, .int t_thrown, .int t_balls, .ref a_kind, .ref a_size, .ref a_tight, .int t_letters, .ref a_letter, .int t_at, .int t_value, .int t_inRow, .ref a_row, .ref a_refusals, .int t_imaged, .ref a_image, .ref a_ahead, .int t_end, .int t_cell, .int t_steps, .int t_highest, .int t_struck])), (a_p1, .inl (cI, 28, .inl p1A)), (a_kind, .inl (cI, 5, .inl kindA)), (a_size, .inl (cI, 5, .inl sizeA)), (a_tight, .inl (cI, 5, .inl tightA))] sz)) (va_Qv (fun (u : Int32 × Int32 × Int32 × Int32 × Int32 × Int32 × Int32 × Int32 × Int32 × Int32 × Int32 × Int32 × Int32 × (Nat → Int32) × (Nat → Int32) × (Nat → Int32)) => u = R) (Wq (dC, dI) [(a_t, .inr (6, [.int t_hand, .int t_first, .int t_wide, .int t_rim, .int t_fill, .int t_wall, .int t_ceiling, .int t_puff, .int t_period, .int t_second, .int t_score, .int t_thrown, .int t_balls, .ref a_kind, .ref a_size, .ref a_tight, .int t_letters, .ref a_letter, .int t_at, .int t_value, .int t_inRow, .ref a_row, .ref a_refusals, .int t_imaged, .ref a_image, .ref a_ahead, .int t_end, .int t_cell, .int t_steps, .int t_highest, .int t_struck])), (a_p1, .inl (cI, 28, .inl p1A)), (a_kind, .inl (cI, 5, .inl kindA)), (a_size, .inl (cI, 5, .inl sizeA)), (a_tight, .inl (cI, 5, .inl tightA))] sz (fun (u : Int32 × Int32 × Int32 × Int32 × Int32 × Int32 × Int32 × Int32 × Int32 × Int32 × Int32 × Int32 × Int32 × (Nat → Int32) × (Nat → Int32) × (Nat → Int32)) => ([(a_t, .inr (6, [.int u.1, .int u.2.1, .int u.2.2.1, .int u.2.2.2.1, .int u.2.2.2.2.1, .int u.2.2.2.2.2.1, .int u.2.2.2.2.2.2.1, .int u.2.2.2.2.2.2.2.1, .int u.2.2.2.2.2.2.2.2.1, .int u.2.2.2.2.2.2.2.2.2.1, .int u.2.2.2.2.2.2.2.2.2.2.1, .int u.2.2.2.2.2.2.2.2.2.2.2.1, .int u.2.2.2.2.2.2.2.2.2.2.2.2.1, .ref a_kind, .ref a_size, .ref a_tight, .int t_letters, .ref a_letter, .int t_at, .int t_value, .int t_inRow, .ref a_row, .ref a_refusals, .int t_imaged, .ref a_image, .ref a_ahead, .int t_end, .int t_cell, .int t_steps, .int t_highest, .int t_struck])), (a_p1, .inl (cI, 28, .inl p1A)), (a_kind, .inl (cI, 5, .inl u.2.2.2.2.2.2.2.2.2.2.2.2.2.1)), (a_size, .inl (cI, 5, .inl u.2.2.2.2.2.2.2.2.2.2.2.2.2.2.1)), (a_tight, .inl (cI, 5, .inl u.2.2.2.2.2.2.2.2.2.2.2.2.2.2.2))] : va_W))) (va_A [(a_t, .inr (6, [.int t_hand, .int t_first, .int t_wide, .int t_rim, .int t_fill, .int t_wall, .int t_ceiling, .int t_puff, .int t_period, .int t_second, .int t_score, .int t_thrown, .int t_balls, .ref a_kind, .ref a_size, .ref a_tight, .int t_letters, .ref a_letter, .int t_at, .int t_value, .int t_inRow, .ref a_row, .ref a_refusals, .int t_imaged, .ref a_image, .ref a_ahead, .int t_end, .int t_cell, .int t_steps, .int t_highest, .int t_struck])), (a_p1, .inl (cI, 28, .inl p1A)), (a_kind, .inl (cI, 5, .inl kindA)), (a_size, .inl (cI, 5, .inl sizeA)), (a_tight, .inl (cI, 5, .inl tightA))] sz)) 0 0 (va_A [(a_t, .inr (6, [.int t_hand, .int t_first, .int t_wide, .int t_rim, .int t_fill, .int t_wall, .int t_ceiling, .int t_puff, .int t_period, .int t_second, .int t_score, .int t_thrown, .int t_balls, .ref a_kind, .ref a_size, .ref a_tight, .int t_letters, .ref a_letter, .int t_at, .int t_value, .int t_inRow, .ref a_row, .ref a_refusals, .int t_imaged, .ref a_image, .ref a_ahead, .int t_end, .int t_cell, .int t_steps, .int t_highest, .int t_struck])), (a_p1, .inl (cI, 28, .inl p1A)), (a_kind, .inl (cI, 5, .inl kindA)), (a_size, .inl (cI, 5, .inl sizeA)), (a_tight, .inl (cI, 5, .inl tightA))] sz) := by
  refine Met.ofW (cc := cX6_again) (maxL := 3) (ret := none) (by decide) rfl ?_
  intro p e s m args below meth c s₁ B hml hv
  obtain ⟨hargs, hsz, hP, hK, hD0, hN⟩ := hv
  have hx := B.exec
  have hb := B.bytes
  have hr := B.returns
  have hts := atoms_spec (ws := wsX6_again) B.pre
  have hown : s.vm.findClass RX6 = some m.cls := findClass_of_methodNamed B.named
  have hlocks := B.notSynchronized
  subst hsz
  have hD := hD0.self (sz := s.heap.size)
  obtain ⟨A, hAe⟩ : ∃ A, A = va_A [(a_t, .inr (6, [.int t_hand, .int t_first, .int t_wide, .int t_rim, .int t_fill, .int t_wall, .int t_ceiling, .int t_puff, .int t_period, .int t_second, .int t_score, .int t_thrown, .int t_balls, .ref a_kind, .ref a_size, .ref a_tight, .int t_letters, .ref a_letter, .int t_at, .int t_value, .int t_inRow, .ref a_row, .ref a_refusals, .int t_imaged, .ref a_image, .ref a_ahead, .int t_end, .int t_cell, .int t_steps, .int t_highest, .int t_struck])), (a_p1, .inl (cI, 28, .inl p1A)), (a_kind, .inl (cI, 5, .inl kindA)), (a_size, .inl (cI, 5, .inl sizeA)), (a_tight, .inl (cI, 5, .inl tightA))] s.heap.size := ⟨_, rfl⟩
  rw [← hAe] at hD
  have hA : ∀ q : Nat, s.heap.size ≤ q → A q := fun q h => by rw [hAe]; exact Or.inr h
  have hS : va_S A s.heap s.heap [] := va_S.rf
  have hl := lv_entry ([.ref a_t, .ref a_p1]) (n := 3) (Nat.le_of_ble_eq_true rfl)
  rw [e_of hargs, lg_entry_eq]
  generalize (lg_sl ([.ref a_t, .ref a_p1]) ++ List.replicate (3 - (lg_sl ([.ref a_t, .ref a_p1])).length) Slot.unset).toArray = ls at hl ⊢
  have hl : lv_has ls 3 [(0, .ref a_t), (1, .ref a_p1)] := hl
  have hinX6 : ∀ w ∈ wsX60, w ∈ wsX6_again := by decide +kernel
  refine w_q ({ frames := 0, cells := 0, slots := 0, locals := 0 } : Room) (fun Q0 hQ => ?_)
  have K2 : ∀ (n2 : Nat) (x2 : Int32) (t_hand : Int32) (t_first : Int32) (t_wide : Int32) (t_rim : Int32) (t_fill : Int32) (t_wall : Int32) (t_ceiling : Int32) (t_puff : Int32) (t_period : Int32) (t_second : Int32) (t_score : Int32) (t_thrown : Int32) (t_balls : Int32) (kindA : Nat → Int32) (sizeA : Nat → Int32) (tightA : Nat → Int32) (H : Heap) (locs : List Loc), va_P (dC, dI) vwCl [(a_t, .inr (6, [.int t_hand, .int t_first, .int t_wide, .int t_rim, .int t_fill, .int t_wall, .int t_ceiling, .int t_puff, .int t_period, .int t_second, .int t_score, .int t_thrown, .int t_balls, .ref a_kind, .ref a_size, .ref a_tight, .int t_letters, .ref a_letter, .int t_at, .int t_value, .int t_inRow, .ref a_row, .ref a_refusals, .int t_imaged, .ref a_image, .ref a_ahead, .int t_end, .int t_cell, .int t_steps, .int t_highest, .int t_struck])), (a_p1, .inl (cI, 28, .inl p1A)), (a_kind, .inl (cI, 5, .inl kindA)), (a_size, .inl (cI, 5, .inl sizeA)), (a_tight, .inl (cI, 5, .inl tightA))] H → va_D A [(a_t, .inr (6, [.int t_hand, .int t_first, .int t_wide, .int t_rim, .int t_fill, .int t_wall, .int t_ceiling, .int t_puff, .int t_period, .int t_second, .int t_score, .int t_thrown, .int t_balls, .ref a_kind, .ref a_size, .ref a_tight, .int t_letters, .ref a_letter, .int t_at, .int t_value, .int t_inRow, .ref a_row, .ref a_refusals, .int t_imaged, .ref a_image, .ref a_ahead, .int t_end, .int t_cell, .int t_steps, .int t_highest, .int t_struck])), (a_p1, .inl (cI, 28, .inl p1A)), (a_kind, .inl (cI, 5, .inl kindA)), (a_size, .inl (cI, 5, .inl sizeA)), (a_tight, .inl (cI, 5, .inl tightA))] → va_S A s.heap H locs → ∀ (ls : Array Slot), lv_has ls 3 [(0, .ref a_t), (1, .ref a_p1), (2, .int x2)] → lX6_again_2 p1A n2 x2 kindA sizeA tightA = some R → W p l e ({ frames := 0, cells := 0, slots := 0, locals := 0 } : Room) s m args below meth c H locs 0 0 Q0 (F0 m 2 ls []) := by
    intro n2
    induction n2 with
    | zero =>
      intro x2 t_hand t_first t_wide t_rim t_fill t_wall t_ceiling t_puff t_period t_second t_score t_thrown t_balls kindA sizeA tightA H locs hP hD hS ls hl hR
      rw [lX6_again_2] at hR
      cases hR
    | succ n2 ih2 =>
      intro x2 t_hand t_first t_wide t_rim t_fill t_wall t_ceiling t_puff t_period t_second t_score t_thrown t_balls kindA sizeA tightA H locs hP hD hS ls hl hR
      rw [lX6_again_2] at hR
      refine lv_iload_n hx hb dX6_again_2 rfl (lv_at hl 2 rfl) ?_
      refine lv_iconst (v := 5) hx hb dX6_again_3 (by decide) ?_
      refine lv_icmp_ge (tgt := 45) hx hb dX6_again_4 (by decide) (fun c4 => ?_) (fun c4 => ?_)
      · have hR := (if_pos c4).symm.trans hR
        refine lv_aload_n hx hb dX6_again_45 rfl (lv_at hl 0 rfl) ?_
        refine lv_aload_n hx hb dX6_again_46 rfl (lv_at hl 1 rfl) ?_
        refine lv_bipush (v := 15) hx hb dX6_again_47 (by decide) ?_
        obtain ⟨g1, hR⟩ := g_in_s hR
        refine va_iald hx hb hK hP 1 0 rfl rfl g1 dX6_again_49 ?_
        refine va_put (D := (dC, dI)) (ci := 6) (v := .int (p1A (15 : Int32).toNatClampNeg)) (ty := .int) (C := RX6) (T := TX6) (N := 31) hx hb hts hinX6 tyX6 tyX6_ok nmX6 hown hK hP hD hS 0 rfl rfl 0 (by decide) (hts (.fieldLink RX6 34 "PaperInBinModel" "hand" "I") (by decide +kernel)) (fun _ h9 => h9) rfl (tyX6_ok 0 (by decide)) rfl rfl (Nat.le_of_ble_eq_true rfl) dX6_again_50 (fun H locs hP hD hS => ?_)
        have hP : va_P (dC, dI) vwCl [(a_t, .inr (6, [.int (p1A (15 : Int32).toNatClampNeg), .int t_first, .int t_wide, .int t_rim, .int t_fill, .int t_wall, .int t_ceiling, .int t_puff, .int t_period, .int t_second, .int t_score, .int t_thrown, .int t_balls, .ref a_kind, .ref a_size, .ref a_tight, .int t_letters, .ref a_letter, .int t_at, .int t_value, .int t_inRow, .ref a_row, .ref a_refusals, .int t_imaged, .ref a_image, .ref a_ahead, .int t_end, .int t_cell, .int t_steps, .int t_highest, .int t_struck])), (a_p1, .inl (cI, 28, .inl p1A)), (a_kind, .inl (cI, 5, .inl kindA)), (a_size, .inl (cI, 5, .inl sizeA)), (a_tight, .inl (cI, 5, .inl tightA))] H := hP
        have hD : va_D A [(a_t, .inr (6, [.int (p1A (15 : Int32).toNatClampNeg), .int t_first, .int t_wide, .int t_rim, .int t_fill, .int t_wall, .int t_ceiling, .int t_puff, .int t_period, .int t_second, .int t_score, .int t_thrown, .int t_balls, .ref a_kind, .ref a_size, .ref a_tight, .int t_letters, .ref a_letter, .int t_at, .int t_value, .int t_inRow, .ref a_row, .ref a_refusals, .int t_imaged, .ref a_image, .ref a_ahead, .int t_end, .int t_cell, .int t_steps, .int t_highest, .int t_struck])), (a_p1, .inl (cI, 28, .inl p1A)), (a_kind, .inl (cI, 5, .inl kindA)), (a_size, .inl (cI, 5, .inl sizeA)), (a_tight, .inl (cI, 5, .inl tightA))] := hD
        refine lv_aload_n hx hb dX6_again_53 rfl (lv_at hl 0 rfl) ?_
        refine lv_aload_n hx hb dX6_again_54 rfl (lv_at hl 1 rfl) ?_
        refine lv_bipush (v := 16) hx hb dX6_again_55 (by decide) ?_
        obtain ⟨g2, hR⟩ := g_in_s hR
        refine va_iald hx hb hK hP 1 0 rfl rfl g2 dX6_again_57 ?_
        refine va_put (D := (dC, dI)) (ci := 6) (v := .int (p1A (16 : Int32).toNatClampNeg)) (ty := .int) (C := RX6) (T := TX6) (N := 31) hx hb hts hinX6 tyX6 tyX6_ok nmX6 hown hK hP hD hS 0 rfl rfl 1 (by decide) (hts (.fieldLink RX6 38 "PaperInBinModel" "first" "I") (by decide +kernel)) (fun _ h9 => h9) rfl (tyX6_ok 1 (by decide)) rfl rfl (Nat.le_of_ble_eq_true rfl) dX6_again_58 (fun H locs hP hD hS => ?_)
        have hP : va_P (dC, dI) vwCl [(a_t, .inr (6, [.int (p1A (15 : Int32).toNatClampNeg), .int (p1A (16 : Int32).toNatClampNeg), .int t_wide, .int t_rim, .int t_fill, .int t_wall, .int t_ceiling, .int t_puff, .int t_period, .int t_second, .int t_score, .int t_thrown, .int t_balls, .ref a_kind, .ref a_size, .ref a_tight, .int t_letters, .ref a_letter, .int t_at, .int t_value, .int t_inRow, .ref a_row, .ref a_refusals, .int t_imaged, .ref a_image, .ref a_ahead, .int t_end, .int t_cell, .int t_steps, .int t_highest, .int t_struck])), (a_p1, .inl (cI, 28, .inl p1A)), (a_kind, .inl (cI, 5, .inl kindA)), (a_size, .inl (cI, 5, .inl sizeA)), (a_tight, .inl (cI, 5, .inl tightA))] H := hP
        have hD : va_D A [(a_t, .inr (6, [.int (p1A (15 : Int32).toNatClampNeg), .int (p1A (16 : Int32).toNatClampNeg), .int t_wide, .int t_rim, .int t_fill, .int t_wall, .int t_ceiling, .int t_puff, .int t_period, .int t_second, .int t_score, .int t_thrown, .int t_balls, .ref a_kind, .ref a_size, .ref a_tight, .int t_letters, .ref a_letter, .int t_at, .int t_value, .int t_inRow, .ref a_row, .ref a_refusals, .int t_imaged, .ref a_image, .ref a_ahead, .int t_end, .int t_cell, .int t_steps, .int t_highest, .int t_struck])), (a_p1, .inl (cI, 28, .inl p1A)), (a_kind, .inl (cI, 5, .inl kindA)), (a_size, .inl (cI, 5, .inl sizeA)), (a_tight, .inl (cI, 5, .inl tightA))] := hD
        refine lv_aload_n hx hb dX6_again_61 rfl (lv_at hl 0 rfl) ?_
        refine lv_aload_n hx hb dX6_again_62 rfl (lv_at hl 1 rfl) ?_
        refine lv_bipush (v := 17) hx hb dX6_again_63 (by decide) ?_
        obtain ⟨g3, hR⟩ := g_in_s hR
        refine va_iald hx hb hK hP 1 0 rfl rfl g3 dX6_again_65 ?_
        refine va_put (D := (dC, dI)) (ci := 6) (v := .int (p1A (17 : Int32).toNatClampNeg)) (ty := .int) (C := RX6) (T := TX6) (N := 31) hx hb hts hinX6 tyX6 tyX6_ok nmX6 hown hK hP hD hS 0 rfl rfl 2 (by decide) (hts (.fieldLink RX6 41 "PaperInBinModel" "wide" "I") (by decide +kernel)) (fun _ h9 => h9) rfl (tyX6_ok 2 (by decide)) rfl rfl (Nat.le_of_ble_eq_true rfl) dX6_again_66 (fun H locs hP hD hS => ?_)
        have hP : va_P (dC, dI) vwCl [(a_t, .inr (6, [.int (p1A (15 : Int32).toNatClampNeg), .int (p1A (16 : Int32).toNatClampNeg), .int (p1A (17 : Int32).toNatClampNeg), .int t_rim, .int t_fill, .int t_wall, .int t_ceiling, .int t_puff, .int t_period, .int t_second, .int t_score, .int t_thrown, .int t_balls, .ref a_kind, .ref a_size, .ref a_tight, .int t_letters, .ref a_letter, .int t_at, .int t_value, .int t_inRow, .ref a_row, .ref a_refusals, .int t_imaged, .ref a_image, .ref a_ahead, .int t_end, .int t_cell, .int t_steps, .int t_highest, .int t_struck])), (a_p1, .inl (cI, 28, .inl p1A)), (a_kind, .inl (cI, 5, .inl kindA)), (a_size, .inl (cI, 5, .inl sizeA)), (a_tight, .inl (cI, 5, .inl tightA))] H := hP
        have hD : va_D A [(a_t, .inr (6, [.int (p1A (15 : Int32).toNatClampNeg), .int (p1A (16 : Int32).toNatClampNeg), .int (p1A (17 : Int32).toNatClampNeg), .int t_rim, .int t_fill, .int t_wall, .int t_ceiling, .int t_puff, .int t_period, .int t_second, .int t_score, .int t_thrown, .int t_balls, .ref a_kind, .ref a_size, .ref a_tight, .int t_letters, .ref a_letter, .int t_at, .int t_value, .int t_inRow, .ref a_row, .ref a_refusals, .int t_imaged, .ref a_image, .ref a_ahead, .int t_end, .int t_cell, .int t_steps, .int t_highest, .int t_struck])), (a_p1, .inl (cI, 28, .inl p1A)), (a_kind, .inl (cI, 5, .inl kindA)), (a_size, .inl (cI, 5, .inl sizeA)), (a_tight, .inl (cI, 5, .inl tightA))] := hD
        refine lv_aload_n hx hb dX6_again_69 rfl (lv_at hl 0 rfl) ?_
        refine lv_aload_n hx hb dX6_again_70 rfl (lv_at hl 1 rfl) ?_
        refine lv_bipush (v := 18) hx hb dX6_again_71 (by decide) ?_
        obtain ⟨g4, hR⟩ := g_in_s hR
        refine va_iald hx hb hK hP 1 0 rfl rfl g4 dX6_again_73 ?_
        refine va_put (D := (dC, dI)) (ci := 6) (v := .int (p1A (18 : Int32).toNatClampNeg)) (ty := .int) (C := RX6) (T := TX6) (N := 31) hx hb hts hinX6 tyX6 tyX6_ok nmX6 hown hK hP hD hS 0 rfl rfl 3 (by decide) (hts (.fieldLink RX6 44 "PaperInBinModel" "rim" "I") (by decide +kernel)) (fun _ h9 => h9) rfl (tyX6_ok 3 (by decide)) rfl rfl (Nat.le_of_ble_eq_true rfl) dX6_again_74 (fun H locs hP hD hS => ?_)
        have hP : va_P (dC, dI) vwCl [(a_t, .inr (6, [.int (p1A (15 : Int32).toNatClampNeg), .int (p1A (16 : Int32).toNatClampNeg), .int (p1A (17 : Int32).toNatClampNeg), .int (p1A (18 : Int32).toNatClampNeg), .int t_fill, .int t_wall, .int t_ceiling, .int t_puff, .int t_period, .int t_second, .int t_score, .int t_thrown, .int t_balls, .ref a_kind, .ref a_size, .ref a_tight, .int t_letters, .ref a_letter, .int t_at, .int t_value, .int t_inRow, .ref a_row, .ref a_refusals, .int t_imaged, .ref a_image, .ref a_ahead, .int t_end, .int t_cell, .int t_steps, .int t_highest, .int t_struck])), (a_p1, .inl (cI, 28, .inl p1A)), (a_kind, .inl (cI, 5, .inl kindA)), (a_size, .inl (cI, 5, .inl sizeA)), (a_tight, .inl (cI, 5, .inl tightA))] H := hP
        have hD : va_D A [(a_t, .inr (6, [.int (p1A (15 : Int32).toNatClampNeg), .int (p1A (16 : Int32).toNatClampNeg), .int (p1A (17 : Int32).toNatClampNeg), .int (p1A (18 : Int32).toNatClampNeg), .int t_fill, .int t_wall, .int t_ceiling, .int t_puff, .int t_period, .int t_second, .int t_score, .int t_thrown, .int t_balls, .ref a_kind, .ref a_size, .ref a_tight, .int t_letters, .ref a_letter, .int t_at, .int t_value, .int t_inRow, .ref a_row, .ref a_refusals, .int t_imaged, .ref a_image, .ref a_ahead, .int t_end, .int t_cell, .int t_steps, .int t_highest, .int t_struck])), (a_p1, .inl (cI, 28, .inl p1A)), (a_kind, .inl (cI, 5, .inl kindA)), (a_size, .inl (cI, 5, .inl sizeA)), (a_tight, .inl (cI, 5, .inl tightA))] := hD
        refine lv_aload_n hx hb dX6_again_77 rfl (lv_at hl 0 rfl) ?_
        refine lv_aload_n hx hb dX6_again_78 rfl (lv_at hl 1 rfl) ?_
        refine lv_bipush (v := 19) hx hb dX6_again_79 (by decide) ?_
        obtain ⟨g5, hR⟩ := g_in_s hR
        refine va_iald hx hb hK hP 1 0 rfl rfl g5 dX6_again_81 ?_
        refine va_put (D := (dC, dI)) (ci := 6) (v := .int (p1A (19 : Int32).toNatClampNeg)) (ty := .int) (C := RX6) (T := TX6) (N := 31) hx hb hts hinX6 tyX6 tyX6_ok nmX6 hown hK hP hD hS 0 rfl rfl 4 (by decide) (hts (.fieldLink RX6 89 "PaperInBinModel" "fill" "I") (by decide +kernel)) (fun _ h9 => h9) rfl (tyX6_ok 4 (by decide)) rfl rfl (Nat.le_of_ble_eq_true rfl) dX6_again_82 (fun H locs hP hD hS => ?_)
        have hP : va_P (dC, dI) vwCl [(a_t, .inr (6, [.int (p1A (15 : Int32).toNatClampNeg), .int (p1A (16 : Int32).toNatClampNeg), .int (p1A (17 : Int32).toNatClampNeg), .int (p1A (18 : Int32).toNatClampNeg), .int (p1A (19 : Int32).toNatClampNeg), .int t_wall, .int t_ceiling, .int t_puff, .int t_period, .int t_second, .int t_score, .int t_thrown, .int t_balls, .ref a_kind, .ref a_size, .ref a_tight, .int t_letters, .ref a_letter, .int t_at, .int t_value, .int t_inRow, .ref a_row, .ref a_refusals, .int t_imaged, .ref a_image, .ref a_ahead, .int t_end, .int t_cell, .int t_steps, .int t_highest, .int t_struck])), (a_p1, .inl (cI, 28, .inl p1A)), (a_kind, .inl (cI, 5, .inl kindA)), (a_size, .inl (cI, 5, .inl sizeA)), (a_tight, .inl (cI, 5, .inl tightA))] H := hP
        have hD : va_D A [(a_t, .inr (6, [.int (p1A (15 : Int32).toNatClampNeg), .int (p1A (16 : Int32).toNatClampNeg), .int (p1A (17 : Int32).toNatClampNeg), .int (p1A (18 : Int32).toNatClampNeg), .int (p1A (19 : Int32).toNatClampNeg), .int t_wall, .int t_ceiling, .int t_puff, .int t_period, .int t_second, .int t_score, .int t_thrown, .int t_balls, .ref a_kind, .ref a_size, .ref a_tight, .int t_letters, .ref a_letter, .int t_at, .int t_value, .int t_inRow, .ref a_row, .ref a_refusals, .int t_imaged, .ref a_image, .ref a_ahead, .int t_end, .int t_cell, .int t_steps, .int t_highest, .int t_struck])), (a_p1, .inl (cI, 28, .inl p1A)), (a_kind, .inl (cI, 5, .inl kindA)), (a_size, .inl (cI, 5, .inl sizeA)), (a_tight, .inl (cI, 5, .inl tightA))] := hD
        refine lv_aload_n hx hb dX6_again_85 rfl (lv_at hl 0 rfl) ?_
        refine lv_aload_n hx hb dX6_again_86 rfl (lv_at hl 1 rfl) ?_
        refine lv_bipush (v := 20) hx hb dX6_again_87 (by decide) ?_
        obtain ⟨g6, hR⟩ := g_in_s hR
        refine va_iald hx hb hK hP 1 0 rfl rfl g6 dX6_again_89 ?_
        refine va_put (D := (dC, dI)) (ci := 6) (v := .int (p1A (20 : Int32).toNatClampNeg)) (ty := .int) (C := RX6) (T := TX6) (N := 31) hx hb hts hinX6 tyX6 tyX6_ok nmX6 hown hK hP hD hS 0 rfl rfl 5 (by decide) (hts (.fieldLink RX6 47 "PaperInBinModel" "wall" "I") (by decide +kernel)) (fun _ h9 => h9) rfl (tyX6_ok 5 (by decide)) rfl rfl (Nat.le_of_ble_eq_true rfl) dX6_again_90 (fun H locs hP hD hS => ?_)
        have hP : va_P (dC, dI) vwCl [(a_t, .inr (6, [.int (p1A (15 : Int32).toNatClampNeg), .int (p1A (16 : Int32).toNatClampNeg), .int (p1A (17 : Int32).toNatClampNeg), .int (p1A (18 : Int32).toNatClampNeg), .int (p1A (19 : Int32).toNatClampNeg), .int (p1A (20 : Int32).toNatClampNeg), .int t_ceiling, .int t_puff, .int t_period, .int t_second, .int t_score, .int t_thrown, .int t_balls, .ref a_kind, .ref a_size, .ref a_tight, .int t_letters, .ref a_letter, .int t_at, .int t_value, .int t_inRow, .ref a_row, .ref a_refusals, .int t_imaged, .ref a_image, .ref a_ahead, .int t_end, .int t_cell, .int t_steps, .int t_highest, .int t_struck])), (a_p1, .inl (cI, 28, .inl p1A)), (a_kind, .inl (cI, 5, .inl kindA)), (a_size, .inl (cI, 5, .inl sizeA)), (a_tight, .inl (cI, 5, .inl tightA))] H := hP
        have hD : va_D A [(a_t, .inr (6, [.int (p1A (15 : Int32).toNatClampNeg), .int (p1A (16 : Int32).toNatClampNeg), .int (p1A (17 : Int32).toNatClampNeg), .int (p1A (18 : Int32).toNatClampNeg), .int (p1A (19 : Int32).toNatClampNeg), .int (p1A (20 : Int32).toNatClampNeg), .int t_ceiling, .int t_puff, .int t_period, .int t_second, .int t_score, .int t_thrown, .int t_balls, .ref a_kind, .ref a_size, .ref a_tight, .int t_letters, .ref a_letter, .int t_at, .int t_value, .int t_inRow, .ref a_row, .ref a_refusals, .int t_imaged, .ref a_image, .ref a_ahead, .int t_end, .int t_cell, .int t_steps, .int t_highest, .int t_struck])), (a_p1, .inl (cI, 28, .inl p1A)), (a_kind, .inl (cI, 5, .inl kindA)), (a_size, .inl (cI, 5, .inl sizeA)), (a_tight, .inl (cI, 5, .inl tightA))] := hD
        refine lv_aload_n hx hb dX6_again_93 rfl (lv_at hl 0 rfl) ?_
        refine lv_aload_n hx hb dX6_again_94 rfl (lv_at hl 1 rfl) ?_
        refine lv_bipush (v := 21) hx hb dX6_again_95 (by decide) ?_
        obtain ⟨g7, hR⟩ := g_in_s hR
        refine va_iald hx hb hK hP 1 0 rfl rfl g7 dX6_again_97 ?_
        refine va_put (D := (dC, dI)) (ci := 6) (v := .int (p1A (21 : Int32).toNatClampNeg)) (ty := .int) (C := RX6) (T := TX6) (N := 31) hx hb hts hinX6 tyX6 tyX6_ok nmX6 hown hK hP hD hS 0 rfl rfl 6 (by decide) (hts (.fieldLink RX6 50 "PaperInBinModel" "ceiling" "I") (by decide +kernel)) (fun _ h9 => h9) rfl (tyX6_ok 6 (by decide)) rfl rfl (Nat.le_of_ble_eq_true rfl) dX6_again_98 (fun H locs hP hD hS => ?_)
        have hP : va_P (dC, dI) vwCl [(a_t, .inr (6, [.int (p1A (15 : Int32).toNatClampNeg), .int (p1A (16 : Int32).toNatClampNeg), .int (p1A (17 : Int32).toNatClampNeg), .int (p1A (18 : Int32).toNatClampNeg), .int (p1A (19 : Int32).toNatClampNeg), .int (p1A (20 : Int32).toNatClampNeg), .int (p1A (21 : Int32).toNatClampNeg), .int t_puff, .int t_period, .int t_second, .int t_score, .int t_thrown, .int t_balls, .ref a_kind, .ref a_size, .ref a_tight, .int t_letters, .ref a_letter, .int t_at, .int t_value, .int t_inRow, .ref a_row, .ref a_refusals, .int t_imaged, .ref a_image, .ref a_ahead, .int t_end, .int t_cell, .int t_steps, .int t_highest, .int t_struck])), (a_p1, .inl (cI, 28, .inl p1A)), (a_kind, .inl (cI, 5, .inl kindA)), (a_size, .inl (cI, 5, .inl sizeA)), (a_tight, .inl (cI, 5, .inl tightA))] H := hP
        have hD : va_D A [(a_t, .inr (6, [.int (p1A (15 : Int32).toNatClampNeg), .int (p1A (16 : Int32).toNatClampNeg), .int (p1A (17 : Int32).toNatClampNeg), .int (p1A (18 : Int32).toNatClampNeg), .int (p1A (19 : Int32).toNatClampNeg), .int (p1A (20 : Int32).toNatClampNeg), .int (p1A (21 : Int32).toNatClampNeg), .int t_puff, .int t_period, .int t_second, .int t_score, .int t_thrown, .int t_balls, .ref a_kind, .ref a_size, .ref a_tight, .int t_letters, .ref a_letter, .int t_at, .int t_value, .int t_inRow, .ref a_row, .ref a_refusals, .int t_imaged, .ref a_image, .ref a_ahead, .int t_end, .int t_cell, .int t_steps, .int t_highest, .int t_struck])), (a_p1, .inl (cI, 28, .inl p1A)), (a_kind, .inl (cI, 5, .inl kindA)), (a_size, .inl (cI, 5, .inl sizeA)), (a_tight, .inl (cI, 5, .inl tightA))] := hD
        refine lv_aload_n hx hb dX6_again_101 rfl (lv_at hl 0 rfl) ?_
        refine lv_aload_n hx hb dX6_again_102 rfl (lv_at hl 1 rfl) ?_
        refine lv_bipush (v := 22) hx hb dX6_again_103 (by decide) ?_
        obtain ⟨g8, hR⟩ := g_in_s hR
        refine va_iald hx hb hK hP 1 0 rfl rfl g8 dX6_again_105 ?_
        refine va_put (D := (dC, dI)) (ci := 6) (v := .int (p1A (22 : Int32).toNatClampNeg)) (ty := .int) (C := RX6) (T := TX6) (N := 31) hx hb hts hinX6 tyX6 tyX6_ok nmX6 hown hK hP hD hS 0 rfl rfl 7 (by decide) (hts (.fieldLink RX6 92 "PaperInBinModel" "puff" "I") (by decide +kernel)) (fun _ h9 => h9) rfl (tyX6_ok 7 (by decide)) rfl rfl (Nat.le_of_ble_eq_true rfl) dX6_again_106 (fun H locs hP hD hS => ?_)
        have hP : va_P (dC, dI) vwCl [(a_t, .inr (6, [.int (p1A (15 : Int32).toNatClampNeg), .int (p1A (16 : Int32).toNatClampNeg), .int (p1A (17 : Int32).toNatClampNeg), .int (p1A (18 : Int32).toNatClampNeg), .int (p1A (19 : Int32).toNatClampNeg), .int (p1A (20 : Int32).toNatClampNeg), .int (p1A (21 : Int32).toNatClampNeg), .int (p1A (22 : Int32).toNatClampNeg), .int t_period, .int t_second, .int t_score, .int t_thrown, .int t_balls, .ref a_kind, .ref a_size, .ref a_tight, .int t_letters, .ref a_letter, .int t_at, .int t_value, .int t_inRow, .ref a_row, .ref a_refusals, .int t_imaged, .ref a_image, .ref a_ahead, .int t_end, .int t_cell, .int t_steps, .int t_highest, .int t_struck])), (a_p1, .inl (cI, 28, .inl p1A)), (a_kind, .inl (cI, 5, .inl kindA)), (a_size, .inl (cI, 5, .inl sizeA)), (a_tight, .inl (cI, 5, .inl tightA))] H := hP
        have hD : va_D A [(a_t, .inr (6, [.int (p1A (15 : Int32).toNatClampNeg), .int (p1A (16 : Int32).toNatClampNeg), .int (p1A (17 : Int32).toNatClampNeg), .int (p1A (18 : Int32).toNatClampNeg), .int (p1A (19 : Int32).toNatClampNeg), .int (p1A (20 : Int32).toNatClampNeg), .int (p1A (21 : Int32).toNatClampNeg), .int (p1A (22 : Int32).toNatClampNeg), .int t_period, .int t_second, .int t_score, .int t_thrown, .int t_balls, .ref a_kind, .ref a_size, .ref a_tight, .int t_letters, .ref a_letter, .int t_at, .int t_value, .int t_inRow, .ref a_row, .ref a_refusals, .int t_imaged, .ref a_image, .ref a_ahead, .int t_end, .int t_cell, .int t_steps, .int t_highest, .int t_struck])), (a_p1, .inl (cI, 28, .inl p1A)), (a_kind, .inl (cI, 5, .inl kindA)), (a_size, .inl (cI, 5, .inl sizeA)), (a_tight, .inl (cI, 5, .inl tightA))] := hD
        refine lv_aload_n hx hb dX6_again_109 rfl (lv_at hl 0 rfl) ?_
        refine lv_aload_n hx hb dX6_again_110 rfl (lv_at hl 1 rfl) ?_
        refine lv_bipush (v := 23) hx hb dX6_again_111 (by decide) ?_
        obtain ⟨g9, hR⟩ := g_in_s hR
        refine va_iald hx hb hK hP 1 0 rfl rfl g9 dX6_again_113 ?_
        refine va_put (D := (dC, dI)) (ci := 6) (v := .int (p1A (23 : Int32).toNatClampNeg)) (ty := .int) (C := RX6) (T := TX6) (N := 31) hx hb hts hinX6 tyX6 tyX6_ok nmX6 hown hK hP hD hS 0 rfl rfl 8 (by decide) (hts (.fieldLink RX6 53 "PaperInBinModel" "period" "I") (by decide +kernel)) (fun _ h9 => h9) rfl (tyX6_ok 8 (by decide)) rfl rfl (Nat.le_of_ble_eq_true rfl) dX6_again_114 (fun H locs hP hD hS => ?_)
        have hP : va_P (dC, dI) vwCl [(a_t, .inr (6, [.int (p1A (15 : Int32).toNatClampNeg), .int (p1A (16 : Int32).toNatClampNeg), .int (p1A (17 : Int32).toNatClampNeg), .int (p1A (18 : Int32).toNatClampNeg), .int (p1A (19 : Int32).toNatClampNeg), .int (p1A (20 : Int32).toNatClampNeg), .int (p1A (21 : Int32).toNatClampNeg), .int (p1A (22 : Int32).toNatClampNeg), .int (p1A (23 : Int32).toNatClampNeg), .int t_second, .int t_score, .int t_thrown, .int t_balls, .ref a_kind, .ref a_size, .ref a_tight, .int t_letters, .ref a_letter, .int t_at, .int t_value, .int t_inRow, .ref a_row, .ref a_refusals, .int t_imaged, .ref a_image, .ref a_ahead, .int t_end, .int t_cell, .int t_steps, .int t_highest, .int t_struck])), (a_p1, .inl (cI, 28, .inl p1A)), (a_kind, .inl (cI, 5, .inl kindA)), (a_size, .inl (cI, 5, .inl sizeA)), (a_tight, .inl (cI, 5, .inl tightA))] H := hP
        have hD : va_D A [(a_t, .inr (6, [.int (p1A (15 : Int32).toNatClampNeg), .int (p1A (16 : Int32).toNatClampNeg), .int (p1A (17 : Int32).toNatClampNeg), .int (p1A (18 : Int32).toNatClampNeg), .int (p1A (19 : Int32).toNatClampNeg), .int (p1A (20 : Int32).toNatClampNeg), .int (p1A (21 : Int32).toNatClampNeg), .int (p1A (22 : Int32).toNatClampNeg), .int (p1A (23 : Int32).toNatClampNeg), .int t_second, .int t_score, .int t_thrown, .int t_balls, .ref a_kind, .ref a_size, .ref a_tight, .int t_letters, .ref a_letter, .int t_at, .int t_value, .int t_inRow, .ref a_row, .ref a_refusals, .int t_imaged, .ref a_image, .ref a_ahead, .int t_end, .int t_cell, .int t_steps, .int t_highest, .int t_struck])), (a_p1, .inl (cI, 28, .inl p1A)), (a_kind, .inl (cI, 5, .inl kindA)), (a_size, .inl (cI, 5, .inl sizeA)), (a_tight, .inl (cI, 5, .inl tightA))] := hD
        refine lv_aload_n hx hb dX6_again_117 rfl (lv_at hl 0 rfl) ?_
        refine lv_aload_n hx hb dX6_again_118 rfl (lv_at hl 1 rfl) ?_
        refine lv_bipush (v := 24) hx hb dX6_again_119 (by decide) ?_
        obtain ⟨g10, hR⟩ := g_in_s hR
        refine va_iald hx hb hK hP 1 0 rfl rfl g10 dX6_again_121 ?_
        refine va_put (D := (dC, dI)) (ci := 6) (v := .int (p1A (24 : Int32).toNatClampNeg)) (ty := .int) (C := RX6) (T := TX6) (N := 31) hx hb hts hinX6 tyX6 tyX6_ok nmX6 hown hK hP hD hS 0 rfl rfl 9 (by decide) (hts (.fieldLink RX6 149 "PaperInBinModel" "second" "I") (by decide +kernel)) (fun _ h9 => h9) rfl (tyX6_ok 9 (by decide)) rfl rfl (Nat.le_of_ble_eq_true rfl) dX6_again_122 (fun H locs hP hD hS => ?_)
        have hP : va_P (dC, dI) vwCl [(a_t, .inr (6, [.int (p1A (15 : Int32).toNatClampNeg), .int (p1A (16 : Int32).toNatClampNeg), .int (p1A (17 : Int32).toNatClampNeg), .int (p1A (18 : Int32).toNatClampNeg), .int (p1A (19 : Int32).toNatClampNeg), .int (p1A (20 : Int32).toNatClampNeg), .int (p1A (21 : Int32).toNatClampNeg), .int (p1A (22 : Int32).toNatClampNeg), .int (p1A (23 : Int32).toNatClampNeg), .int (p1A (24 : Int32).toNatClampNeg), .int t_score, .int t_thrown, .int t_balls, .ref a_kind, .ref a_size, .ref a_tight, .int t_letters, .ref a_letter, .int t_at, .int t_value, .int t_inRow, .ref a_row, .ref a_refusals, .int t_imaged, .ref a_image, .ref a_ahead, .int t_end, .int t_cell, .int t_steps, .int t_highest, .int t_struck])), (a_p1, .inl (cI, 28, .inl p1A)), (a_kind, .inl (cI, 5, .inl kindA)), (a_size, .inl (cI, 5, .inl sizeA)), (a_tight, .inl (cI, 5, .inl tightA))] H := hP
        have hD : va_D A [(a_t, .inr (6, [.int (p1A (15 : Int32).toNatClampNeg), .int (p1A (16 : Int32).toNatClampNeg), .int (p1A (17 : Int32).toNatClampNeg), .int (p1A (18 : Int32).toNatClampNeg), .int (p1A (19 : Int32).toNatClampNeg), .int (p1A (20 : Int32).toNatClampNeg), .int (p1A (21 : Int32).toNatClampNeg), .int (p1A (22 : Int32).toNatClampNeg), .int (p1A (23 : Int32).toNatClampNeg), .int (p1A (24 : Int32).toNatClampNeg), .int t_score, .int t_thrown, .int t_balls, .ref a_kind, .ref a_size, .ref a_tight, .int t_letters, .ref a_letter, .int t_at, .int t_value, .int t_inRow, .ref a_row, .ref a_refusals, .int t_imaged, .ref a_image, .ref a_ahead, .int t_end, .int t_cell, .int t_steps, .int t_highest, .int t_struck])), (a_p1, .inl (cI, 28, .inl p1A)), (a_kind, .inl (cI, 5, .inl kindA)), (a_size, .inl (cI, 5, .inl sizeA)), (a_tight, .inl (cI, 5, .inl tightA))] := hD
        refine lv_aload_n hx hb dX6_again_125 rfl (lv_at hl 0 rfl) ?_
        refine lv_aload_n hx hb dX6_again_126 rfl (lv_at hl 1 rfl) ?_
        refine lv_bipush (v := 25) hx hb dX6_again_127 (by decide) ?_
        obtain ⟨g11, hR⟩ := g_in_s hR
        refine va_iald hx hb hK hP 1 0 rfl rfl g11 dX6_again_129 ?_
        refine va_put (D := (dC, dI)) (ci := 6) (v := .int (p1A (25 : Int32).toNatClampNeg)) (ty := .int) (C := RX6) (T := TX6) (N := 31) hx hb hts hinX6 tyX6 tyX6_ok nmX6 hown hK hP hD hS 0 rfl rfl 10 (by decide) (hts (.fieldLink RX6 162 "PaperInBinModel" "score" "I") (by decide +kernel)) (fun _ h9 => h9) rfl (tyX6_ok 10 (by decide)) rfl rfl (Nat.le_of_ble_eq_true rfl) dX6_again_130 (fun H locs hP hD hS => ?_)
        have hP : va_P (dC, dI) vwCl [(a_t, .inr (6, [.int (p1A (15 : Int32).toNatClampNeg), .int (p1A (16 : Int32).toNatClampNeg), .int (p1A (17 : Int32).toNatClampNeg), .int (p1A (18 : Int32).toNatClampNeg), .int (p1A (19 : Int32).toNatClampNeg), .int (p1A (20 : Int32).toNatClampNeg), .int (p1A (21 : Int32).toNatClampNeg), .int (p1A (22 : Int32).toNatClampNeg), .int (p1A (23 : Int32).toNatClampNeg), .int (p1A (24 : Int32).toNatClampNeg), .int (p1A (25 : Int32).toNatClampNeg), .int t_thrown, .int t_balls, .ref a_kind, .ref a_size, .ref a_tight, .int t_letters, .ref a_letter, .int t_at, .int t_value, .int t_inRow, .ref a_row, .ref a_refusals, .int t_imaged, .ref a_image, .ref a_ahead, .int t_end, .int t_cell, .int t_steps, .int t_highest, .int t_struck])), (a_p1, .inl (cI, 28, .inl p1A)), (a_kind, .inl (cI, 5, .inl kindA)), (a_size, .inl (cI, 5, .inl sizeA)), (a_tight, .inl (cI, 5, .inl tightA))] H := hP
        have hD : va_D A [(a_t, .inr (6, [.int (p1A (15 : Int32).toNatClampNeg), .int (p1A (16 : Int32).toNatClampNeg), .int (p1A (17 : Int32).toNatClampNeg), .int (p1A (18 : Int32).toNatClampNeg), .int (p1A (19 : Int32).toNatClampNeg), .int (p1A (20 : Int32).toNatClampNeg), .int (p1A (21 : Int32).toNatClampNeg), .int (p1A (22 : Int32).toNatClampNeg), .int (p1A (23 : Int32).toNatClampNeg), .int (p1A (24 : Int32).toNatClampNeg), .int (p1A (25 : Int32).toNatClampNeg), .int t_thrown, .int t_balls, .ref a_kind, .ref a_size, .ref a_tight, .int t_letters, .ref a_letter, .int t_at, .int t_value, .int t_inRow, .ref a_row, .ref a_refusals, .int t_imaged, .ref a_image, .ref a_ahead, .int t_end, .int t_cell, .int t_steps, .int t_highest, .int t_struck])), (a_p1, .inl (cI, 28, .inl p1A)), (a_kind, .inl (cI, 5, .inl kindA)), (a_size, .inl (cI, 5, .inl sizeA)), (a_tight, .inl (cI, 5, .inl tightA))] := hD
        refine lv_aload_n hx hb dX6_again_133 rfl (lv_at hl 0 rfl) ?_
        refine lv_aload_n hx hb dX6_again_134 rfl (lv_at hl 1 rfl) ?_
        refine lv_bipush (v := 26) hx hb dX6_again_135 (by decide) ?_
        obtain ⟨g12, hR⟩ := g_in_s hR
        refine va_iald hx hb hK hP 1 0 rfl rfl g12 dX6_again_137 ?_
        refine va_put (D := (dC, dI)) (ci := 6) (v := .int (p1A (26 : Int32).toNatClampNeg)) (ty := .int) (C := RX6) (T := TX6) (N := 31) hx hb hts hinX6 tyX6 tyX6_ok nmX6 hown hK hP hD hS 0 rfl rfl 11 (by decide) (hts (.fieldLink RX6 159 "PaperInBinModel" "thrown" "I") (by decide +kernel)) (fun _ h9 => h9) rfl (tyX6_ok 11 (by decide)) rfl rfl (Nat.le_of_ble_eq_true rfl) dX6_again_138 (fun H locs hP hD hS => ?_)
        have hP : va_P (dC, dI) vwCl [(a_t, .inr (6, [.int (p1A (15 : Int32).toNatClampNeg), .int (p1A (16 : Int32).toNatClampNeg), .int (p1A (17 : Int32).toNatClampNeg), .int (p1A (18 : Int32).toNatClampNeg), .int (p1A (19 : Int32).toNatClampNeg), .int (p1A (20 : Int32).toNatClampNeg), .int (p1A (21 : Int32).toNatClampNeg), .int (p1A (22 : Int32).toNatClampNeg), .int (p1A (23 : Int32).toNatClampNeg), .int (p1A (24 : Int32).toNatClampNeg), .int (p1A (25 : Int32).toNatClampNeg), .int (p1A (26 : Int32).toNatClampNeg), .int t_balls, .ref a_kind, .ref a_size, .ref a_tight, .int t_letters, .ref a_letter, .int t_at, .int t_value, .int t_inRow, .ref a_row, .ref a_refusals, .int t_imaged, .ref a_image, .ref a_ahead, .int t_end, .int t_cell, .int t_steps, .int t_highest, .int t_struck])), (a_p1, .inl (cI, 28, .inl p1A)), (a_kind, .inl (cI, 5, .inl kindA)), (a_size, .inl (cI, 5, .inl sizeA)), (a_tight, .inl (cI, 5, .inl tightA))] H := hP
        have hD : va_D A [(a_t, .inr (6, [.int (p1A (15 : Int32).toNatClampNeg), .int (p1A (16 : Int32).toNatClampNeg), .int (p1A (17 : Int32).toNatClampNeg), .int (p1A (18 : Int32).toNatClampNeg), .int (p1A (19 : Int32).toNatClampNeg), .int (p1A (20 : Int32).toNatClampNeg), .int (p1A (21 : Int32).toNatClampNeg), .int (p1A (22 : Int32).toNatClampNeg), .int (p1A (23 : Int32).toNatClampNeg), .int (p1A (24 : Int32).toNatClampNeg), .int (p1A (25 : Int32).toNatClampNeg), .int (p1A (26 : Int32).toNatClampNeg), .int t_balls, .ref a_kind, .ref a_size, .ref a_tight, .int t_letters, .ref a_letter, .int t_at, .int t_value, .int t_inRow, .ref a_row, .ref a_refusals, .int t_imaged, .ref a_image, .ref a_ahead, .int t_end, .int t_cell, .int t_steps, .int t_highest, .int t_struck])), (a_p1, .inl (cI, 28, .inl p1A)), (a_kind, .inl (cI, 5, .inl kindA)), (a_size, .inl (cI, 5, .inl sizeA)), (a_tight, .inl (cI, 5, .inl tightA))] := hD
        refine lv_aload_n hx hb dX6_again_141 rfl (lv_at hl 0 rfl) ?_
        refine lv_aload_n hx hb dX6_again_142 rfl (lv_at hl 1 rfl) ?_
        refine lv_bipush (v := 27) hx hb dX6_again_143 (by decide) ?_
        obtain ⟨g13, hR⟩ := g_in_s hR
        refine va_iald hx hb hK hP 1 0 rfl rfl g13 dX6_again_145 ?_
        refine va_put (D := (dC, dI)) (ci := 6) (v := .int (p1A (27 : Int32).toNatClampNeg)) (ty := .int) (C := RX6) (T := TX6) (N := 31) hx hb hts hinX6 tyX6 tyX6_ok nmX6 hown hK hP hD hS 0 rfl rfl 12 (by decide) (hts (.fieldLink RX6 62 "PaperInBinModel" "balls" "I") (by decide +kernel)) (fun _ h9 => h9) rfl (tyX6_ok 12 (by decide)) rfl rfl (Nat.le_of_ble_eq_true rfl) dX6_again_146 (fun H locs hP hD hS => ?_)
        have hP : va_P (dC, dI) vwCl [(a_t, .inr (6, [.int (p1A (15 : Int32).toNatClampNeg), .int (p1A (16 : Int32).toNatClampNeg), .int (p1A (17 : Int32).toNatClampNeg), .int (p1A (18 : Int32).toNatClampNeg), .int (p1A (19 : Int32).toNatClampNeg), .int (p1A (20 : Int32).toNatClampNeg), .int (p1A (21 : Int32).toNatClampNeg), .int (p1A (22 : Int32).toNatClampNeg), .int (p1A (23 : Int32).toNatClampNeg), .int (p1A (24 : Int32).toNatClampNeg), .int (p1A (25 : Int32).toNatClampNeg), .int (p1A (26 : Int32).toNatClampNeg), .int (p1A (27 : Int32).toNatClampNeg), .ref a_kind, .ref a_size, .ref a_tight, .int t_letters, .ref a_letter, .int t_at, .int t_value, .int t_inRow, .ref a_row, .ref a_refusals, .int t_imaged, .ref a_image, .ref a_ahead, .int t_end, .int t_cell, .int t_steps, .int t_highest, .int t_struck])), (a_p1, .inl (cI, 28, .inl p1A)), (a_kind, .inl (cI, 5, .inl kindA)), (a_size, .inl (cI, 5, .inl sizeA)), (a_tight, .inl (cI, 5, .inl tightA))] H := hP
        have hD : va_D A [(a_t, .inr (6, [.int (p1A (15 : Int32).toNatClampNeg), .int (p1A (16 : Int32).toNatClampNeg), .int (p1A (17 : Int32).toNatClampNeg), .int (p1A (18 : Int32).toNatClampNeg), .int (p1A (19 : Int32).toNatClampNeg), .int (p1A (20 : Int32).toNatClampNeg), .int (p1A (21 : Int32).toNatClampNeg), .int (p1A (22 : Int32).toNatClampNeg), .int (p1A (23 : Int32).toNatClampNeg), .int (p1A (24 : Int32).toNatClampNeg), .int (p1A (25 : Int32).toNatClampNeg), .int (p1A (26 : Int32).toNatClampNeg), .int (p1A (27 : Int32).toNatClampNeg), .ref a_kind, .ref a_size, .ref a_tight, .int t_letters, .ref a_letter, .int t_at, .int t_value, .int t_inRow, .ref a_row, .ref a_refusals, .int t_imaged, .ref a_image, .ref a_ahead, .int t_end, .int t_cell, .int t_steps, .int t_highest, .int t_struck])), (a_p1, .inl (cI, 28, .inl p1A)), (a_kind, .inl (cI, 5, .inl kindA)), (a_size, .inl (cI, 5, .inl sizeA)), (a_tight, .inl (cI, 5, .inl tightA))] := hD
        subst hQ
        subst hAe
        exact W.vret hx hb hr (fun t ht hW => ⟨⟨((p1A (15 : Int32).toNatClampNeg), (p1A (16 : Int32).toNatClampNeg), (p1A (17 : Int32).toNatClampNeg), (p1A (18 : Int32).toNatClampNeg), (p1A (19 : Int32).toNatClampNeg), (p1A (20 : Int32).toNatClampNeg), (p1A (21 : Int32).toNatClampNeg), (p1A (22 : Int32).toNatClampNeg), (p1A (23 : Int32).toNatClampNeg), (p1A (24 : Int32).toNatClampNeg), (p1A (25 : Int32).toNatClampNeg), (p1A (26 : Int32).toNatClampNeg), (p1A (27 : Int32).toNatClampNeg), kindA, sizeA, tightA), rfl, Option.some.inj hR, by rw [ht]; exact hP, hD⟩, hS.F ht⟩) hS.2.2 dX6_again_149
      · have hR := (if_neg c4).symm.trans hR
        refine lv_aload_n hx hb dX6_again_7 rfl (lv_at hl 0 rfl) ?_
        refine va_get (D := (dC, dI)) (ci := 6) (v := .ref a_kind) (C := RX6) (T := TX6) (N := 31) hx hb hts hinX6 hown hK hP 0 rfl rfl 13 (by decide) (hts (.fieldLink RX6 7 "PaperInBinModel" "kind" "[I") (by decide +kernel)) (fun _ h9 => h9) rfl dX6_again_8 ?_
        refine lv_iload_n hx hb dX6_again_11 rfl (lv_at hl 2 rfl) ?_
        refine lv_aload_n hx hb dX6_again_12 rfl (lv_at hl 1 rfl) ?_
        refine lv_iload_n hx hb dX6_again_13 rfl (lv_at hl 2 rfl) ?_
        obtain ⟨g14, hR⟩ := g_in_s hR
        refine va_iald hx hb hK hP 1 0 rfl rfl g14 dX6_again_14 ?_
        obtain ⟨g15, hR⟩ := g_in_s hR
        refine va_iast hx hb hK hP hD hS 2 0 rfl rfl g15 dX6_again_15 (fun H locs hP hD hS => ?_)
        have hP : va_P (dC, dI) vwCl [(a_t, .inr (6, [.int t_hand, .int t_first, .int t_wide, .int t_rim, .int t_fill, .int t_wall, .int t_ceiling, .int t_puff, .int t_period, .int t_second, .int t_score, .int t_thrown, .int t_balls, .ref a_kind, .ref a_size, .ref a_tight, .int t_letters, .ref a_letter, .int t_at, .int t_value, .int t_inRow, .ref a_row, .ref a_refusals, .int t_imaged, .ref a_image, .ref a_ahead, .int t_end, .int t_cell, .int t_steps, .int t_highest, .int t_struck])), (a_p1, .inl (cI, 28, .inl p1A)), (a_kind, .inl (cI, 5, .inl (upd kindA (x2).toNatClampNeg (p1A (x2).toNatClampNeg)))), (a_size, .inl (cI, 5, .inl sizeA)), (a_tight, .inl (cI, 5, .inl tightA))] H := hP
        have hD : va_D A [(a_t, .inr (6, [.int t_hand, .int t_first, .int t_wide, .int t_rim, .int t_fill, .int t_wall, .int t_ceiling, .int t_puff, .int t_period, .int t_second, .int t_score, .int t_thrown, .int t_balls, .ref a_kind, .ref a_size, .ref a_tight, .int t_letters, .ref a_letter, .int t_at, .int t_value, .int t_inRow, .ref a_row, .ref a_refusals, .int t_imaged, .ref a_image, .ref a_ahead, .int t_end, .int t_cell, .int t_steps, .int t_highest, .int t_struck])), (a_p1, .inl (cI, 28, .inl p1A)), (a_kind, .inl (cI, 5, .inl (upd kindA (x2).toNatClampNeg (p1A (x2).toNatClampNeg)))), (a_size, .inl (cI, 5, .inl sizeA)), (a_tight, .inl (cI, 5, .inl tightA))] := hD
        refine lv_aload_n hx hb dX6_again_16 rfl (lv_at hl 0 rfl) ?_
        refine va_get (D := (dC, dI)) (ci := 6) (v := .ref a_size) (C := RX6) (T := TX6) (N := 31) hx hb hts hinX6 hown hK hP 0 rfl rfl 14 (by decide) (hts (.fieldLink RX6 13 "PaperInBinModel" "size" "[I") (by decide +kernel)) (fun _ h9 => h9) rfl dX6_again_17 ?_
        refine lv_iload_n hx hb dX6_again_20 rfl (lv_at hl 2 rfl) ?_
        refine lv_aload_n hx hb dX6_again_21 rfl (lv_at hl 1 rfl) ?_
        refine lv_iconst (v := 5) hx hb dX6_again_22 (by decide) ?_
        refine lv_iload_n hx hb dX6_again_23 rfl (lv_at hl 2 rfl) ?_
        refine lv_iadd hx hb dX6_again_24 ?_
        obtain ⟨g16, hR⟩ := g_in_s hR
        refine va_iald hx hb hK hP 1 0 rfl rfl g16 dX6_again_25 ?_
        obtain ⟨g17, hR⟩ := g_in_s hR
        refine va_iast hx hb hK hP hD hS 3 0 rfl rfl g17 dX6_again_26 (fun H locs hP hD hS => ?_)
        have hP : va_P (dC, dI) vwCl [(a_t, .inr (6, [.int t_hand, .int t_first, .int t_wide, .int t_rim, .int t_fill, .int t_wall, .int t_ceiling, .int t_puff, .int t_period, .int t_second, .int t_score, .int t_thrown, .int t_balls, .ref a_kind, .ref a_size, .ref a_tight, .int t_letters, .ref a_letter, .int t_at, .int t_value, .int t_inRow, .ref a_row, .ref a_refusals, .int t_imaged, .ref a_image, .ref a_ahead, .int t_end, .int t_cell, .int t_steps, .int t_highest, .int t_struck])), (a_p1, .inl (cI, 28, .inl p1A)), (a_kind, .inl (cI, 5, .inl (upd kindA (x2).toNatClampNeg (p1A (x2).toNatClampNeg)))), (a_size, .inl (cI, 5, .inl (upd sizeA (x2).toNatClampNeg (p1A ((5 + x2)).toNatClampNeg)))), (a_tight, .inl (cI, 5, .inl tightA))] H := hP
        have hD : va_D A [(a_t, .inr (6, [.int t_hand, .int t_first, .int t_wide, .int t_rim, .int t_fill, .int t_wall, .int t_ceiling, .int t_puff, .int t_period, .int t_second, .int t_score, .int t_thrown, .int t_balls, .ref a_kind, .ref a_size, .ref a_tight, .int t_letters, .ref a_letter, .int t_at, .int t_value, .int t_inRow, .ref a_row, .ref a_refusals, .int t_imaged, .ref a_image, .ref a_ahead, .int t_end, .int t_cell, .int t_steps, .int t_highest, .int t_struck])), (a_p1, .inl (cI, 28, .inl p1A)), (a_kind, .inl (cI, 5, .inl (upd kindA (x2).toNatClampNeg (p1A (x2).toNatClampNeg)))), (a_size, .inl (cI, 5, .inl (upd sizeA (x2).toNatClampNeg (p1A ((5 + x2)).toNatClampNeg)))), (a_tight, .inl (cI, 5, .inl tightA))] := hD
        refine lv_aload_n hx hb dX6_again_27 rfl (lv_at hl 0 rfl) ?_
        refine va_get (D := (dC, dI)) (ci := 6) (v := .ref a_tight) (C := RX6) (T := TX6) (N := 31) hx hb hts hinX6 hown hK hP 0 rfl rfl 15 (by decide) (hts (.fieldLink RX6 16 "PaperInBinModel" "tight" "[I") (by decide +kernel)) (fun _ h9 => h9) rfl dX6_again_28 ?_
        refine lv_iload_n hx hb dX6_again_31 rfl (lv_at hl 2 rfl) ?_
        refine lv_aload_n hx hb dX6_again_32 rfl (lv_at hl 1 rfl) ?_
        refine lv_bipush (v := 10) hx hb dX6_again_33 (by decide) ?_
        refine lv_iload_n hx hb dX6_again_35 rfl (lv_at hl 2 rfl) ?_
        refine lv_iadd hx hb dX6_again_36 ?_
        obtain ⟨g18, hR⟩ := g_in_s hR
        refine va_iald hx hb hK hP 1 0 rfl rfl g18 dX6_again_37 ?_
        obtain ⟨g19, hR⟩ := g_in_s hR
        refine va_iast hx hb hK hP hD hS 4 0 rfl rfl g19 dX6_again_38 (fun H locs hP hD hS => ?_)
        have hP : va_P (dC, dI) vwCl [(a_t, .inr (6, [.int t_hand, .int t_first, .int t_wide, .int t_rim, .int t_fill, .int t_wall, .int t_ceiling, .int t_puff, .int t_period, .int t_second, .int t_score, .int t_thrown, .int t_balls, .ref a_kind, .ref a_size, .ref a_tight, .int t_letters, .ref a_letter, .int t_at, .int t_value, .int t_inRow, .ref a_row, .ref a_refusals, .int t_imaged, .ref a_image, .ref a_ahead, .int t_end, .int t_cell, .int t_steps, .int t_highest, .int t_struck])), (a_p1, .inl (cI, 28, .inl p1A)), (a_kind, .inl (cI, 5, .inl (upd kindA (x2).toNatClampNeg (p1A (x2).toNatClampNeg)))), (a_size, .inl (cI, 5, .inl (upd sizeA (x2).toNatClampNeg (p1A ((5 + x2)).toNatClampNeg)))), (a_tight, .inl (cI, 5, .inl (upd tightA (x2).toNatClampNeg (p1A ((10 + x2)).toNatClampNeg))))] H := hP
        have hD : va_D A [(a_t, .inr (6, [.int t_hand, .int t_first, .int t_wide, .int t_rim, .int t_fill, .int t_wall, .int t_ceiling, .int t_puff, .int t_period, .int t_second, .int t_score, .int t_thrown, .int t_balls, .ref a_kind, .ref a_size, .ref a_tight, .int t_letters, .ref a_letter, .int t_at, .int t_value, .int t_inRow, .ref a_row, .ref a_refusals, .int t_imaged, .ref a_image, .ref a_ahead, .int t_end, .int t_cell, .int t_steps, .int t_highest, .int t_struck])), (a_p1, .inl (cI, 28, .inl p1A)), (a_kind, .inl (cI, 5, .inl (upd kindA (x2).toNatClampNeg (p1A (x2).toNatClampNeg)))), (a_size, .inl (cI, 5, .inl (upd sizeA (x2).toNatClampNeg (p1A ((5 + x2)).toNatClampNeg)))), (a_tight, .inl (cI, 5, .inl (upd tightA (x2).toNatClampNeg (p1A ((10 + x2)).toNatClampNeg))))] := hD
        refine lv_iinc (v := (x2 + 1)) (lv' := [(2, .int (x2 + 1)), (0, .ref a_t), (1, .ref a_p1)]) hx hb dX6_again_39 hl (k := 2) rfl rfl (by decide) rfl (fun ls hl => ?_)
        refine lv_goto (tgt := 2) hx hb dX6_again_42 (by decide) ?_
        exact ih2 (x2 + 1) t_hand t_first t_wide t_rim t_fill t_wall t_ceiling t_puff t_period t_second t_score t_thrown t_balls (upd kindA (x2).toNatClampNeg (p1A (x2).toNatClampNeg)) (upd sizeA (x2).toNatClampNeg (p1A ((5 + x2)).toNatClampNeg)) (upd tightA (x2).toNatClampNeg (p1A ((10 + x2)).toNatClampNeg)) _ _ hP hD hS _ (lv_sub hl [1, 2, 0] rfl) hR
  rw [fX6_again] at hR
  refine lv_iconst (v := 0) hx hb dX6_again_0 (by decide) ?_
  refine lv_istore_n (lv' := [(2, .int 0), (0, .ref a_t), (1, .ref a_p1)]) hx hb dX6_again_1 rfl hl (by decide) rfl (fun ls hl => ?_)
  exact K2 (100) 0 t_hand t_first t_wide t_rim t_fill t_wall t_ceiling t_puff t_period t_second t_score t_thrown t_balls kindA sizeA tightA _ _ hP hD hS _ (lv_sub hl [1, 2, 0] rfl) hR
def fX6_image (t_hand : Int32) (t_first : Int32) (t_wide : Int32) (t_rim : Int32) (t_fill : Int32) (t_wall : Int32) (t_ceiling : Int32) (t_puff : Int32) (t_period : Int32) (t_second : Int32) (t_score : Int32) (t_thrown : Int32) (t_balls : Int32) (kindA : Nat → Int32) (imageA : Nat → Int32) (sizeA : Nat → Int32) (tightA : Nat → Int32) : Option (Int32 × Int32 × (Nat → Int32)) :=
  b1 (fX6_keep t_hand t_first t_wide t_rim t_fill t_wall t_ceiling t_puff t_period t_second t_score t_thrown t_balls kindA imageA sizeA tightA) (fun w2 =>
  some (t_second, 1, w2))
set_option maxHeartbeats 4000000 in
set_option maxRecDepth 100000 in
theorem kX6_image (l : Launch) (dC : Nat → ClassId) (dI : Nat → Nat → Nat) (cI : ClassId) (a_t a_kind a_size a_tight a_letter a_row a_refusals a_image a_ahead : Nat) (sz : Nat) (t_hand : Int32) (t_first : Int32) (t_wide : Int32) (t_rim : Int32) (t_fill : Int32) (t_wall : Int32) (t_ceiling : Int32) (t_puff : Int32) (t_period : Int32) (t_second : Int32) (t_score : Int32) (t_thrown : Int32) (t_balls : Int32) (t_letters : Int32) (t_at : Int32) (t_value : Int32) (t_inRow : Int32) (t_imaged : Int32) (t_end : Int32) (t_cell : Int32) (t_steps : Int32) (t_highest : Int32) (t_struck : Int32) (kindA : Nat → Int32) (imageA : Nat → Int32) (sizeA : Nat → Int32) (tightA : Nat → Int32) (R : Int32 × Int32 × (Nat → Int32)) (hR : fX6_image t_hand t_first t_wide t_rim t_fill t_wall t_ceiling t_puff t_period t_second t_score t_thrown t_balls kindA imageA sizeA tightA = some R) : Met l yX6_image wsX6_image ({ frames := 1, cells := 0, slots := 0, locals := 22 } : Room) (va_Pc [.ref a_t] (Wp (dC, dI) [(cI, .int)] [(a_t, .inr (6, [.int t_hand, .int t_first, .int t_wide, .int t_rim, .int t_fill, .int t_wall, .int t_ceiling, .int t_puff, .int t_period, .int t_second, .int t_score, .int t_thrown, .int t_balls, .ref a_kind, .ref a_size, .ref a_tight, .int t_letters, .ref a_letter, .int t_at, .int t_value, .int t_inRow, .ref a_row, .ref a_refusals, .int t_imaged, .ref a_image, .ref a_ahead, .int t_end, .int t_cell, .int t_steps, .int t_highest, .int t_struck])), (a_kind, .inl (cI, 5, .inl kindA)), (a_image, .inl (cI, 28, .inl imageA)), (a_size, .inl (cI, 5, .inl sizeA)), (a_tight, .inl (cI, 5, .inl tightA))] sz)) (va_Qi (fun (r : Int32) (u : Int32 × (Nat → Int32)) => (r, u) = R) (Wq (dC, dI) [(a_t, .inr (6, [.int t_hand, .int t_first, .int t_wide, .int t_rim, .int t_fill, .int t_wall, .int t_ceiling, .int t_puff, .int t_period, .int t_second, .int t_score, .int t_thrown, .int t_balls, .ref a_kind, .ref a_size, .ref a_tight, .int t_letters, .ref a_letter, .int t_at, .int t_value, .int t_inRow, .ref a_row, .ref a_refusals, .int t_imaged, .ref a_image, .ref a_ahead, .int t_end, .int t_cell, .int t_steps, .int t_highest, .int t_struck])), (a_kind, .inl (cI, 5, .inl kindA)), (a_image, .inl (cI, 28, .inl imageA)), (a_size, .inl (cI, 5, .inl sizeA)), (a_tight, .inl (cI, 5, .inl tightA))] sz (fun (u : Int32 × (Nat → Int32)) => ([(a_t, .inr (6, [.int t_hand, .int t_first, .int t_wide, .int t_rim, .int t_fill, .int t_wall, .int t_ceiling, .int t_puff, .int t_period, .int t_second, .int t_score, .int t_thrown, .int t_balls, .ref a_kind, .ref a_size, .ref a_tight, .int t_letters, .ref a_letter, .int t_at, .int t_value, .int t_inRow, .ref a_row, .ref a_refusals, .int u.1, .ref a_image, .ref a_ahead, .int t_end, .int t_cell, .int t_steps, .int t_highest, .int t_struck])), (a_kind, .inl (cI, 5, .inl kindA)), (a_image, .inl (cI, 28, .inl u.2)), (a_size, .inl (cI, 5, .inl sizeA)), (a_tight, .inl (cI, 5, .inl tightA))] : va_W))) (va_A [(a_t, .inr (6, [.int t_hand, .int t_first, .int t_wide, .int t_rim, .int t_fill, .int t_wall, .int t_ceiling, .int t_puff, .int t_period, .int t_second, .int t_score, .int t_thrown, .int t_balls, .ref a_kind, .ref a_size, .ref a_tight, .int t_letters, .ref a_letter, .int t_at, .int t_value, .int t_inRow, .ref a_row, .ref a_refusals, .int t_imaged, .ref a_image, .ref a_ahead, .int t_end, .int t_cell, .int t_steps, .int t_highest, .int t_struck])), (a_kind, .inl (cI, 5, .inl kindA)), (a_image, .inl (cI, 28, .inl imageA)), (a_size, .inl (cI, 5, .inl sizeA)), (a_tight, .inl (cI, 5, .inl tightA))] sz)) 0 0 (va_A [(a_t, .inr (6, [.int t_hand, .int t_first, .int t_wide, .int t_rim, .int t_fill, .int t_wall, .int t_ceiling, .int t_puff, .int t_period, .int t_second, .int t_score, .int t_thrown, .int t_balls, .ref a_kind, .ref a_size, .ref a_tight, .int t_letters, .ref a_letter, .int t_at, .int t_value, .int t_inRow, .ref a_row, .ref a_refusals, .int t_imaged, .ref a_image, .ref a_ahead, .int t_end, .int t_cell, .int t_steps, .int t_highest, .int t_struck])), (a_kind, .inl (cI, 5, .inl kindA)), (a_image, .inl (cI, 28, .inl imageA)), (a_size, .inl (cI, 5, .inl sizeA)), (a_tight, .inl (cI, 5, .inl tightA))] sz) := by
  refine Met.ofW (cc := cX6_image) (maxL := 1) (ret := (some .int)) (by decide) rfl ?_
  intro p e s m args below meth c s₁ B hml hv
  obtain ⟨hargs, hsz, hP, hK, hD0, hN⟩ := hv
  have hx := B.exec
  have hb := B.bytes
  have hr := B.returns
  have hts := atoms_spec (ws := wsX6_image) B.pre
  have hown : s.vm.findClass RX6 = some m.cls := findClass_of_methodNamed B.named
  have hlocks := B.notSynchronized
  subst hsz
  have hD := hD0.self (sz := s.heap.size)
  obtain ⟨A, hAe⟩ : ∃ A, A = va_A [(a_t, .inr (6, [.int t_hand, .int t_first, .int t_wide, .int t_rim, .int t_fill, .int t_wall, .int t_ceiling, .int t_puff, .int t_period, .int t_second, .int t_score, .int t_thrown, .int t_balls, .ref a_kind, .ref a_size, .ref a_tight, .int t_letters, .ref a_letter, .int t_at, .int t_value, .int t_inRow, .ref a_row, .ref a_refusals, .int t_imaged, .ref a_image, .ref a_ahead, .int t_end, .int t_cell, .int t_steps, .int t_highest, .int t_struck])), (a_kind, .inl (cI, 5, .inl kindA)), (a_image, .inl (cI, 28, .inl imageA)), (a_size, .inl (cI, 5, .inl sizeA)), (a_tight, .inl (cI, 5, .inl tightA))] s.heap.size := ⟨_, rfl⟩
  rw [← hAe] at hD
  have hA : ∀ q : Nat, s.heap.size ≤ q → A q := fun q h => by rw [hAe]; exact Or.inr h
  have hS : va_S A s.heap s.heap [] := va_S.rf
  have hl := lv_entry ([.ref a_t]) (n := 1) (Nat.le_of_ble_eq_true rfl)
  rw [e_of hargs, lg_entry_eq]
  generalize (lg_sl ([.ref a_t]) ++ List.replicate (1 - (lg_sl ([.ref a_t])).length) Slot.unset).toArray = ls at hl ⊢
  have hl : lv_has ls 1 [(0, .ref a_t)] := hl
  have hinX6 : ∀ w ∈ wsX60, w ∈ wsX6_image := by decide +kernel
  refine w_q ({ frames := 1, cells := 0, slots := 0, locals := 22 } : Room) (fun Q0 hQ => ?_)
  rw [fX6_image] at hR
  refine lv_aload_n hx hb dX6_image_0 rfl (lv_at hl 0 rfl) ?_
  refine lv_iconst (v := 1) hx hb dX6_image_1 (by decide) ?_
  refine va_put (D := (dC, dI)) (ci := 6) (v := .int 1) (ty := .boolean) (C := RX6) (T := TX6) (N := 31) hx hb hts hinX6 tyX6 tyX6_ok nmX6 hown hK hP hD hS 0 rfl rfl 23 (by decide) (hts (.fieldLink RX6 195 "PaperInBinModel" "imaged" "Z") (by decide +kernel)) (fun _ h9 => h9) rfl (tyX6_ok 23 (by decide)) rfl rfl (Nat.le_of_ble_eq_true rfl) dX6_image_2 (fun H locs hP hD hS => ?_)
  have hP : va_P (dC, dI) vwCl [(a_t, .inr (6, [.int t_hand, .int t_first, .int t_wide, .int t_rim, .int t_fill, .int t_wall, .int t_ceiling, .int t_puff, .int t_period, .int t_second, .int t_score, .int t_thrown, .int t_balls, .ref a_kind, .ref a_size, .ref a_tight, .int t_letters, .ref a_letter, .int t_at, .int t_value, .int t_inRow, .ref a_row, .ref a_refusals, .int 1, .ref a_image, .ref a_ahead, .int t_end, .int t_cell, .int t_steps, .int t_highest, .int t_struck])), (a_kind, .inl (cI, 5, .inl kindA)), (a_image, .inl (cI, 28, .inl imageA)), (a_size, .inl (cI, 5, .inl sizeA)), (a_tight, .inl (cI, 5, .inl tightA))] H := hP
  have hD : va_D A [(a_t, .inr (6, [.int t_hand, .int t_first, .int t_wide, .int t_rim, .int t_fill, .int t_wall, .int t_ceiling, .int t_puff, .int t_period, .int t_second, .int t_score, .int t_thrown, .int t_balls, .ref a_kind, .ref a_size, .ref a_tight, .int t_letters, .ref a_letter, .int t_at, .int t_value, .int t_inRow, .ref a_row, .ref a_refusals, .int 1, .ref a_image, .ref a_ahead, .int t_end, .int t_cell, .int t_steps, .int t_highest, .int t_struck])), (a_kind, .inl (cI, 5, .inl kindA)), (a_image, .inl (cI, 28, .inl imageA)), (a_size, .inl (cI, 5, .inl sizeA)), (a_tight, .inl (cI, 5, .inl tightA))] := hD
  refine lv_aload_n hx hb dX6_image_5 rfl (lv_at hl 0 rfl) ?_
  refine lv_aload_n hx hb dX6_image_6 rfl (lv_at hl 0 rfl) ?_
  refine va_get (D := (dC, dI)) (ci := 6) (v := .ref a_image) (C := RX6) (T := TX6) (N := 31) hx hb hts hinX6 hown hK hP 0 rfl rfl 24 (by decide) (hts (.fieldLink RX6 28 "PaperInBinModel" "image" "[I") (by decide +kernel)) (fun _ h9 => h9) rfl dX6_image_7 ?_
  obtain ⟨w2, hu3, hR⟩ := b1_s hR
  refine cl_Vv (As := [.ref a_image]) (rest := []) (wc := [(a_t, .inr (6, [.int t_hand, .int t_first, .int t_wide, .int t_rim, .int t_fill, .int t_wall, .int t_ceiling, .int t_puff, .int t_period, .int t_second, .int t_score, .int t_thrown, .int t_balls, .ref a_kind, .ref a_size, .ref a_tight, .int t_letters, .ref a_letter, .int t_at, .int t_value, .int t_inRow, .ref a_row, .ref a_refusals, .int 1, .ref a_image, .ref a_ahead, .int t_end, .int t_cell, .int t_steps, .int t_highest, .int t_struck])), (a_kind, .inl (cI, 5, .inl kindA)), (a_image, .inl (cI, 28, .inl imageA)), (a_size, .inl (cI, 5, .inl sizeA)), (a_tight, .inl (cI, 5, .inl tightA))]) (wr := []) ⟨hx, hb, hml, hown, hts⟩ (kX6_keep l dC dI cI a_t a_kind a_size a_tight a_letter a_row a_refusals a_image a_ahead a_image H.size t_hand t_first t_wide t_rim t_fill t_wall t_ceiling t_puff t_period t_second t_score t_thrown t_balls t_letters t_at t_value t_inRow 1 t_end t_cell t_steps t_highest t_struck kindA imageA sizeA tightA w2 hu3) (cwV 1 hts gX6_image_X6_keep rfl rfl rfl (by decide +kernel) ⟨Nat.le_of_ble_eq_true rfl, Nat.le_of_ble_eq_true rfl⟩) hK hN hP hD hS hA (va_recv hK hP (ci := 6) (q0 := 0) rfl rfl) [0, 1, 2, 3, 4] [] rfl rfl rfl rfl rfl (by decide) rfl hl.1 rfl (Nat.le_of_ble_eq_true rfl) dX6_image_10 (fun H locs hP hD hS => ?_)
  have hP : va_P (dC, dI) vwCl [(a_t, .inr (6, [.int t_hand, .int t_first, .int t_wide, .int t_rim, .int t_fill, .int t_wall, .int t_ceiling, .int t_puff, .int t_period, .int t_second, .int t_score, .int t_thrown, .int t_balls, .ref a_kind, .ref a_size, .ref a_tight, .int t_letters, .ref a_letter, .int t_at, .int t_value, .int t_inRow, .ref a_row, .ref a_refusals, .int 1, .ref a_image, .ref a_ahead, .int t_end, .int t_cell, .int t_steps, .int t_highest, .int t_struck])), (a_kind, .inl (cI, 5, .inl kindA)), (a_image, .inl (cI, 28, .inl w2)), (a_size, .inl (cI, 5, .inl sizeA)), (a_tight, .inl (cI, 5, .inl tightA))] H := hP
  have hD : va_D A [(a_t, .inr (6, [.int t_hand, .int t_first, .int t_wide, .int t_rim, .int t_fill, .int t_wall, .int t_ceiling, .int t_puff, .int t_period, .int t_second, .int t_score, .int t_thrown, .int t_balls, .ref a_kind, .ref a_size, .ref a_tight, .int t_letters, .ref a_letter, .int t_at, .int t_value, .int t_inRow, .ref a_row, .ref a_refusals, .int 1, .ref a_image, .ref a_ahead, .int t_end, .int t_cell, .int t_steps, .int t_highest, .int t_struck])), (a_kind, .inl (cI, 5, .inl kindA)), (a_image, .inl (cI, 28, .inl w2)), (a_size, .inl (cI, 5, .inl sizeA)), (a_tight, .inl (cI, 5, .inl tightA))] := hD
  refine lv_aload_n hx hb dX6_image_13 rfl (lv_at hl 0 rfl) ?_
  refine va_get (D := (dC, dI)) (ci := 6) (v := .int t_second) (C := RX6) (T := TX6) (N := 31) hx hb hts hinX6 hown hK hP 0 rfl rfl 9 (by decide) (hts (.fieldLink RX6 149 "PaperInBinModel" "second" "I") (by decide +kernel)) (fun _ h9 => h9) rfl dX6_image_14 ?_
  subst hQ
  subst hAe
  exact W.iret (v := t_second) hx hb hr (fun t ht hW => ⟨⟨t_second, (1, w2), rfl, Option.some.inj hR, by rw [ht]; exact hP, hD⟩, hS.F ht⟩) hS.2.2 dX6_image_17
def fX6_on (t_hand : Int32) (t_first : Int32) (t_wide : Int32) (t_rim : Int32) (t_fill : Int32) (t_wall : Int32) (t_ceiling : Int32) (t_puff : Int32) (t_period : Int32) (t_second : Int32) (t_score : Int32) (t_thrown : Int32) (t_balls : Int32) (t_imaged : Int32) (refusalsA : Nat → Int32) (imageA : Nat → Int32) (kindA : Nat → Int32) (sizeA : Nat → Int32) (tightA : Nat → Int32) : Option (Int32 × Int32 × Int32 × Int32 × Int32 × Int32 × Int32 × Int32 × Int32 × Int32 × Int32 × Int32 × Int32 × Int32 × (Nat → Int32) × (Nat → Int32) × (Nat → Int32) × (Nat → Int32)) :=
  if t_imaged = 0 then (
   b2 (fX6_no (-3) refusalsA) (fun r19 w20 =>
   some (r19, t_hand, t_first, t_wide, t_rim, t_fill, t_wall, t_ceiling, t_puff, t_period, t_second, t_score, t_thrown, t_balls, w20, kindA, sizeA, tightA)))
  else (
  b16 (fX6_again imageA kindA sizeA tightA) (fun w2 w3 w4 w5 w6 w7 w8 w9 w10 w11 w12 w13 w14 w15 w16 w17 =>
  some (w11, w2, w3, w4, w5, w6, w7, w8, w9, w10, w11, w12, w13, w14, refusalsA, w15, w16, w17)))
set_option maxHeartbeats 4000000 in
set_option maxRecDepth 100000 in
theorem kX6_on (l : Launch) (dC : Nat → ClassId) (dI : Nat → Nat → Nat) (cI : ClassId) (a_t a_kind a_size a_tight a_letter a_row a_refusals a_image a_ahead : Nat) (sz : Nat) (t_hand : Int32) (t_first : Int32) (t_wide : Int32) (t_rim : Int32) (t_fill : Int32) (t_wall : Int32) (t_ceiling : Int32) (t_puff : Int32) (t_period : Int32) (t_second : Int32) (t_score : Int32) (t_thrown : Int32) (t_balls : Int32) (t_letters : Int32) (t_at : Int32) (t_value : Int32) (t_inRow : Int32) (t_imaged : Int32) (t_end : Int32) (t_cell : Int32) (t_steps : Int32) (t_highest : Int32) (t_struck : Int32) (refusalsA : Nat → Int32) (imageA : Nat → Int32) (kindA : Nat → Int32) (sizeA : Nat → Int32) (tightA : Nat → Int32) (R : Int32 × Int32 × Int32 × Int32 × Int32 × Int32 × Int32 × Int32 × Int32 × Int32 × Int32 × Int32 × Int32 × Int32 × (Nat → Int32) × (Nat → Int32) × (Nat → Int32) × (Nat → Int32)) (hR : fX6_on t_hand t_first t_wide t_rim t_fill t_wall t_ceiling t_puff t_period t_second t_score t_thrown t_balls t_imaged refusalsA imageA kindA sizeA tightA = some R) : Met l yX6_on wsX6_on ({ frames := 1, cells := 0, slots := 0, locals := 22 } : Room) (va_Pc [.ref a_t] (Wp (dC, dI) [(cI, .int)] [(a_t, .inr (6, [.int t_hand, .int t_first, .int t_wide, .int t_rim, .int t_fill, .int t_wall, .int t_ceiling, .int t_puff, .int t_period, .int t_second, .int t_score, .int t_thrown, .int t_balls, .ref a_kind, .ref a_size, .ref a_tight, .int t_letters, .ref a_letter, .int t_at, .int t_value, .int t_inRow, .ref a_row, .ref a_refusals, .int t_imaged, .ref a_image, .ref a_ahead, .int t_end, .int t_cell, .int t_steps, .int t_highest, .int t_struck])), (a_refusals, .inl (cI, 7, .inl refusalsA)), (a_image, .inl (cI, 28, .inl imageA)), (a_kind, .inl (cI, 5, .inl kindA)), (a_size, .inl (cI, 5, .inl sizeA)), (a_tight, .inl (cI, 5, .inl tightA))] sz)) (va_Qi (fun (r : Int32) (u : Int32 × Int32 × Int32 × Int32 × Int32 × Int32 × Int32 × Int32 × Int32 × Int32 × Int32 × Int32 × Int32 × (Nat → Int32) × (Nat → Int32) × (Nat → Int32) × (Nat → Int32)) => (r, u) = R) (Wq (dC, dI) [(a_t, .inr (6, [.int t_hand, .int t_first, .int t_wide, .int t_rim, .int t_fill, .int t_wall, .int t_ceiling, .int t_puff, .int t_period, .int t_second, .int t_score, .int t_thrown, .int t_balls, .ref a_kind, .ref a_size, .ref a_tight, .int t_letters, .ref a_letter, .int t_at, .int t_value, .int t_inRow, .ref a_row, .ref a_refusals, .int t_imaged, .ref a_image, .ref a_ahead, .int t_end, .int t_cell, .int t_steps, .int t_highest, .int t_struck])), (a_refusals, .inl (cI, 7, .inl refusalsA)), (a_image, .inl (cI, 28, .inl imageA)), (a_kind, .inl (cI, 5, .inl kindA)), (a_size, .inl (cI, 5, .inl sizeA)), (a_tight, .inl (cI, 5, .inl tightA))] sz (fun (u : Int32 × Int32 × Int32 × Int32 × Int32 × Int32 × Int32 × Int32 × Int32 × Int32 × Int32 × Int32 × Int32 × (Nat → Int32) × (Nat → Int32) × (Nat → Int32) × (Nat → Int32)) => ([(a_t, .inr (6, [.int u.1, .int u.2.1, .int u.2.2.1, .int u.2.2.2.1, .int u.2.2.2.2.1, .int u.2.2.2.2.2.1, .int u.2.2.2.2.2.2.1, .int u.2.2.2.2.2.2.2.1, .int u.2.2.2.2.2.2.2.2.1, .int u.2.2.2.2.2.2.2.2.2.1, .int u.2.2.2.2.2.2.2.2.2.2.1, .int u.2.2.2.2.2.2.2.2.2.2.2.1, .int u.2.2.2.2.2.2.2.2.2.2.2.2.1, .ref a_kind, .ref a_size, .ref a_tight, .int t_letters, .ref a_letter, .int t_at, .int t_value, .int t_inRow, .ref a_row, .ref a_refusals, .int t_imaged, .ref a_image, .ref a_ahead, .int t_end, .int t_cell, .int t_steps, .int t_highest, .int t_struck])), (a_refusals, .inl (cI, 7, .inl u.2.2.2.2.2.2.2.2.2.2.2.2.2.1)), (a_image, .inl (cI, 28, .inl imageA)), (a_kind, .inl (cI, 5, .inl u.2.2.2.2.2.2.2.2.2.2.2.2.2.2.1)), (a_size, .inl (cI, 5, .inl u.2.2.2.2.2.2.2.2.2.2.2.2.2.2.2.1)), (a_tight, .inl (cI, 5, .inl u.2.2.2.2.2.2.2.2.2.2.2.2.2.2.2.2))] : va_W))) (va_A [(a_t, .inr (6, [.int t_hand, .int t_first, .int t_wide, .int t_rim, .int t_fill, .int t_wall, .int t_ceiling, .int t_puff, .int t_period, .int t_second, .int t_score, .int t_thrown, .int t_balls, .ref a_kind, .ref a_size, .ref a_tight, .int t_letters, .ref a_letter, .int t_at, .int t_value, .int t_inRow, .ref a_row, .ref a_refusals, .int t_imaged, .ref a_image, .ref a_ahead, .int t_end, .int t_cell, .int t_steps, .int t_highest, .int t_struck])), (a_refusals, .inl (cI, 7, .inl refusalsA)), (a_image, .inl (cI, 28, .inl imageA)), (a_kind, .inl (cI, 5, .inl kindA)), (a_size, .inl (cI, 5, .inl sizeA)), (a_tight, .inl (cI, 5, .inl tightA))] sz)) 0 0 (va_A [(a_t, .inr (6, [.int t_hand, .int t_first, .int t_wide, .int t_rim, .int t_fill, .int t_wall, .int t_ceiling, .int t_puff, .int t_period, .int t_second, .int t_score, .int t_thrown, .int t_balls, .ref a_kind, .ref a_size, .ref a_tight, .int t_letters, .ref a_letter, .int t_at, .int t_value, .int t_inRow, .ref a_row, .ref a_refusals, .int t_imaged, .ref a_image, .ref a_ahead, .int t_end, .int t_cell, .int t_steps, .int t_highest, .int t_struck])), (a_refusals, .inl (cI, 7, .inl refusalsA)), (a_image, .inl (cI, 28, .inl imageA)), (a_kind, .inl (cI, 5, .inl kindA)), (a_size, .inl (cI, 5, .inl sizeA)), (a_tight, .inl (cI, 5, .inl tightA))] sz) := by
  refine Met.ofW (cc := cX6_on) (maxL := 1) (ret := (some .int)) (by decide) rfl ?_
  intro p e s m args below meth c s₁ B hml hv
  obtain ⟨hargs, hsz, hP, hK, hD0, hN⟩ := hv
  have hx := B.exec
  have hb := B.bytes
  have hr := B.returns
  have hts := atoms_spec (ws := wsX6_on) B.pre
  have hown : s.vm.findClass RX6 = some m.cls := findClass_of_methodNamed B.named
  have hlocks := B.notSynchronized
  subst hsz
  have hD := hD0.self (sz := s.heap.size)
  obtain ⟨A, hAe⟩ : ∃ A, A = va_A [(a_t, .inr (6, [.int t_hand, .int t_first, .int t_wide, .int t_rim, .int t_fill, .int t_wall, .int t_ceiling, .int t_puff, .int t_period, .int t_second, .int t_score, .int t_thrown, .int t_balls, .ref a_kind, .ref a_size, .ref a_tight, .int t_letters, .ref a_letter, .int t_at, .int t_value, .int t_inRow, .ref a_row, .ref a_refusals, .int t_imaged, .ref a_image, .ref a_ahead, .int t_end, .int t_cell, .int t_steps, .int t_highest, .int t_struck])), (a_refusals, .inl (cI, 7, .inl refusalsA)), (a_image, .inl (cI, 28, .inl imageA)), (a_kind, .inl (cI, 5, .inl kindA)), (a_size, .inl (cI, 5, .inl sizeA)), (a_tight, .inl (cI, 5, .inl tightA))] s.heap.size := ⟨_, rfl⟩
  rw [← hAe] at hD
  have hA : ∀ q : Nat, s.heap.size ≤ q → A q := fun q h => by rw [hAe]; exact Or.inr h
  have hS : va_S A s.heap s.heap [] := va_S.rf
  have hl := lv_entry ([.ref a_t]) (n := 1) (Nat.le_of_ble_eq_true rfl)
  rw [e_of hargs, lg_entry_eq]
  generalize (lg_sl ([.ref a_t]) ++ List.replicate (1 - (lg_sl ([.ref a_t])).length) Slot.unset).toArray = ls at hl ⊢
  have hl : lv_has ls 1 [(0, .ref a_t)] := hl
  have hinX6 : ∀ w ∈ wsX60, w ∈ wsX6_on := by decide +kernel
  refine w_q ({ frames := 1, cells := 0, slots := 0, locals := 22 } : Room) (fun Q0 hQ => ?_)
  rw [fX6_on] at hR
  refine lv_aload_n hx hb dX6_on_0 rfl (lv_at hl 0 rfl) ?_
  refine va_get (D := (dC, dI)) (ci := 6) (v := .int t_imaged) (C := RX6) (T := TX6) (N := 31) hx hb hts hinX6 hown hK hP 0 rfl rfl 23 (by decide) (hts (.fieldLink RX6 195 "PaperInBinModel" "imaged" "Z") (by decide +kernel)) (fun _ h9 => h9) rfl dX6_on_1 ?_
  refine lv_if_ne (tgt := 14) hx hb dX6_on_4 (by decide) (fun c4 => ?_) (fun c4 => ?_)
  · have hR := (if_neg c4).symm.trans hR
    refine lv_aload_n hx hb dX6_on_14 rfl (lv_at hl 0 rfl) ?_
    refine lv_aload_n hx hb dX6_on_15 rfl (lv_at hl 0 rfl) ?_
    refine va_get (D := (dC, dI)) (ci := 6) (v := .ref a_image) (C := RX6) (T := TX6) (N := 31) hx hb hts hinX6 hown hK hP 0 rfl rfl 24 (by decide) (hts (.fieldLink RX6 28 "PaperInBinModel" "image" "[I") (by decide +kernel)) (fun _ h9 => h9) rfl dX6_on_16 ?_
    obtain ⟨w2, w3, w4, w5, w6, w7, w8, w9, w10, w11, w12, w13, w14, w15, w16, w17, hu18, hR⟩ := b16_s hR
    refine cl_Vv (As := [.ref a_image]) (rest := []) (wc := [(a_t, .inr (6, [.int t_hand, .int t_first, .int t_wide, .int t_rim, .int t_fill, .int t_wall, .int t_ceiling, .int t_puff, .int t_period, .int t_second, .int t_score, .int t_thrown, .int t_balls, .ref a_kind, .ref a_size, .ref a_tight, .int t_letters, .ref a_letter, .int t_at, .int t_value, .int t_inRow, .ref a_row, .ref a_refusals, .int t_imaged, .ref a_image, .ref a_ahead, .int t_end, .int t_cell, .int t_steps, .int t_highest, .int t_struck])), (a_image, .inl (cI, 28, .inl imageA)), (a_kind, .inl (cI, 5, .inl kindA)), (a_size, .inl (cI, 5, .inl sizeA)), (a_tight, .inl (cI, 5, .inl tightA))]) (wr := [(a_refusals, .inl (cI, 7, .inl refusalsA))]) ⟨hx, hb, hml, hown, hts⟩ (kX6_again l dC dI cI a_t a_kind a_size a_tight a_letter a_row a_refusals a_image a_ahead a_image s.heap.size t_hand t_first t_wide t_rim t_fill t_wall t_ceiling t_puff t_period t_second t_score t_thrown t_balls t_letters t_at t_value t_inRow t_imaged t_end t_cell t_steps t_highest t_struck imageA kindA sizeA tightA (w2, w3, w4, w5, w6, w7, w8, w9, w10, w11, w12, w13, w14, w15, w16, w17) hu18) (cwV 1 hts gX6_on_X6_again rfl rfl rfl (by decide +kernel) ⟨Nat.le_of_ble_eq_true rfl, Nat.le_of_ble_eq_true rfl⟩) hK hN hP hD hS hA (va_recv hK hP (ci := 6) (q0 := 0) rfl rfl) [0, 2, 3, 4, 5] [1] rfl rfl rfl rfl rfl (by decide) rfl hl.1 rfl (Nat.le_of_ble_eq_true rfl) dX6_on_19 (fun H locs hP hD hS => ?_)
    have hP : va_P (dC, dI) vwCl [(a_refusals, .inl (cI, 7, .inl refusalsA)), (a_t, .inr (6, [.int w2, .int w3, .int w4, .int w5, .int w6, .int w7, .int w8, .int w9, .int w10, .int w11, .int w12, .int w13, .int w14, .ref a_kind, .ref a_size, .ref a_tight, .int t_letters, .ref a_letter, .int t_at, .int t_value, .int t_inRow, .ref a_row, .ref a_refusals, .int t_imaged, .ref a_image, .ref a_ahead, .int t_end, .int t_cell, .int t_steps, .int t_highest, .int t_struck])), (a_image, .inl (cI, 28, .inl imageA)), (a_kind, .inl (cI, 5, .inl w15)), (a_size, .inl (cI, 5, .inl w16)), (a_tight, .inl (cI, 5, .inl w17))] H := hP
    have hD : va_D A [(a_refusals, .inl (cI, 7, .inl refusalsA)), (a_t, .inr (6, [.int w2, .int w3, .int w4, .int w5, .int w6, .int w7, .int w8, .int w9, .int w10, .int w11, .int w12, .int w13, .int w14, .ref a_kind, .ref a_size, .ref a_tight, .int t_letters, .ref a_letter, .int t_at, .int t_value, .int t_inRow, .ref a_row, .ref a_refusals, .int t_imaged, .ref a_image, .ref a_ahead, .int t_end, .int t_cell, .int t_steps, .int t_highest, .int t_struck])), (a_image, .inl (cI, 28, .inl imageA)), (a_kind, .inl (cI, 5, .inl w15)), (a_size, .inl (cI, 5, .inl w16)), (a_tight, .inl (cI, 5, .inl w17))] := hD
    refine lv_aload_n hx hb dX6_on_22 rfl (lv_at hl 0 rfl) ?_
    refine va_get (D := (dC, dI)) (ci := 6) (v := .int w11) (C := RX6) (T := TX6) (N := 31) hx hb hts hinX6 hown hK hP 1 rfl rfl 9 (by decide) (hts (.fieldLink RX6 149 "PaperInBinModel" "second" "I") (by decide +kernel)) (fun _ h9 => h9) rfl dX6_on_23 ?_
    have hP := hP.sub (ws' := [(a_t, .inr (6, [.int w2, .int w3, .int w4, .int w5, .int w6, .int w7, .int w8, .int w9, .int w10, .int w11, .int w12, .int w13, .int w14, .ref a_kind, .ref a_size, .ref a_tight, .int t_letters, .ref a_letter, .int t_at, .int t_value, .int t_inRow, .ref a_row, .ref a_refusals, .int t_imaged, .ref a_image, .ref a_ahead, .int t_end, .int t_cell, .int t_steps, .int t_highest, .int t_struck])), (a_refusals, .inl (cI, 7, .inl refusalsA)), (a_image, .inl (cI, 28, .inl imageA)), (a_kind, .inl (cI, 5, .inl w15)), (a_size, .inl (cI, 5, .inl w16)), (a_tight, .inl (cI, 5, .inl w17))]) [1, 0, 2, 3, 4, 5] rfl
    have hD := hD.sub (ws' := [(a_t, .inr (6, [.int w2, .int w3, .int w4, .int w5, .int w6, .int w7, .int w8, .int w9, .int w10, .int w11, .int w12, .int w13, .int w14, .ref a_kind, .ref a_size, .ref a_tight, .int t_letters, .ref a_letter, .int t_at, .int t_value, .int t_inRow, .ref a_row, .ref a_refusals, .int t_imaged, .ref a_image, .ref a_ahead, .int t_end, .int t_cell, .int t_steps, .int t_highest, .int t_struck])), (a_refusals, .inl (cI, 7, .inl refusalsA)), (a_image, .inl (cI, 28, .inl imageA)), (a_kind, .inl (cI, 5, .inl w15)), (a_size, .inl (cI, 5, .inl w16)), (a_tight, .inl (cI, 5, .inl w17))]) [1, 0, 2, 3, 4, 5] (by decide) rfl
    subst hQ
    subst hAe
    exact W.iret (v := w11) hx hb hr (fun t ht hW => ⟨⟨w11, (w2, w3, w4, w5, w6, w7, w8, w9, w10, w11, w12, w13, w14, refusalsA, w15, w16, w17), rfl, Option.some.inj hR, by rw [ht]; exact hP, hD⟩, hS.F ht⟩) hS.2.2 dX6_on_26
  · have hR := (if_pos c4).symm.trans hR
    refine lv_aload_n hx hb dX6_on_7 rfl (lv_at hl 0 rfl) ?_
    refine lv_bipush (v := (-3)) hx hb dX6_on_8 (by decide) ?_
    obtain ⟨r19, w20, hu21, hR⟩ := b2_s hR
    refine cl_ViT (As := [.int (-3)]) (rest := []) (wc := [(a_t, .inr (6, [.int t_hand, .int t_first, .int t_wide, .int t_rim, .int t_fill, .int t_wall, .int t_ceiling, .int t_puff, .int t_period, .int t_second, .int t_score, .int t_thrown, .int t_balls, .ref a_kind, .ref a_size, .ref a_tight, .int t_letters, .ref a_letter, .int t_at, .int t_value, .int t_inRow, .ref a_row, .ref a_refusals, .int t_imaged, .ref a_image, .ref a_ahead, .int t_end, .int t_cell, .int t_steps, .int t_highest, .int t_struck])), (a_refusals, .inl (cI, 7, .inl refusalsA))]) (wr := [(a_image, .inl (cI, 28, .inl imageA)), (a_kind, .inl (cI, 5, .inl kindA)), (a_size, .inl (cI, 5, .inl sizeA)), (a_tight, .inl (cI, 5, .inl tightA))]) ⟨hx, hb, hml, hown, hts⟩ (kX6_no l dC dI cI a_t a_kind a_size a_tight a_letter a_row a_refusals a_image a_ahead s.heap.size (-3) t_hand t_first t_wide t_rim t_fill t_wall t_ceiling t_puff t_period t_second t_score t_thrown t_balls t_letters t_at t_value t_inRow t_imaged t_end t_cell t_steps t_highest t_struck refusalsA (r19, w20) hu21) (cwV 1 hts gX6_on_X6_no rfl rfl rfl (by decide +kernel) ⟨Nat.le_of_ble_eq_true rfl, Nat.le_of_ble_eq_true rfl⟩) hK hN hP hD hS hA (va_recv hK hP (ci := 6) (q0 := 0) rfl rfl) [0, 1] [2, 3, 4, 5] rfl rfl rfl rfl rfl (by decide) rfl hl.1 rfl (Nat.le_of_ble_eq_true rfl) dX6_on_10 (fun H locs hP hD hS => ?_)
    have hP : va_P (dC, dI) vwCl [(a_image, .inl (cI, 28, .inl imageA)), (a_kind, .inl (cI, 5, .inl kindA)), (a_size, .inl (cI, 5, .inl sizeA)), (a_tight, .inl (cI, 5, .inl tightA)), (a_t, .inr (6, [.int t_hand, .int t_first, .int t_wide, .int t_rim, .int t_fill, .int t_wall, .int t_ceiling, .int t_puff, .int t_period, .int t_second, .int t_score, .int t_thrown, .int t_balls, .ref a_kind, .ref a_size, .ref a_tight, .int t_letters, .ref a_letter, .int t_at, .int t_value, .int t_inRow, .ref a_row, .ref a_refusals, .int t_imaged, .ref a_image, .ref a_ahead, .int t_end, .int t_cell, .int t_steps, .int t_highest, .int t_struck])), (a_refusals, .inl (cI, 7, .inl w20))] H := hP
    have hD : va_D A [(a_image, .inl (cI, 28, .inl imageA)), (a_kind, .inl (cI, 5, .inl kindA)), (a_size, .inl (cI, 5, .inl sizeA)), (a_tight, .inl (cI, 5, .inl tightA)), (a_t, .inr (6, [.int t_hand, .int t_first, .int t_wide, .int t_rim, .int t_fill, .int t_wall, .int t_ceiling, .int t_puff, .int t_period, .int t_second, .int t_score, .int t_thrown, .int t_balls, .ref a_kind, .ref a_size, .ref a_tight, .int t_letters, .ref a_letter, .int t_at, .int t_value, .int t_inRow, .ref a_row, .ref a_refusals, .int t_imaged, .ref a_image, .ref a_ahead, .int t_end, .int t_cell, .int t_steps, .int t_highest, .int t_struck])), (a_refusals, .inl (cI, 7, .inl w20))] := hD
    have hP := hP.sub (ws' := [(a_t, .inr (6, [.int t_hand, .int t_first, .int t_wide, .int t_rim, .int t_fill, .int t_wall, .int t_ceiling, .int t_puff, .int t_period, .int t_second, .int t_score, .int t_thrown, .int t_balls, .ref a_kind, .ref a_size, .ref a_tight, .int t_letters, .ref a_letter, .int t_at, .int t_value, .int t_inRow, .ref a_row, .ref a_refusals, .int t_imaged, .ref a_image, .ref a_ahead, .int t_end, .int t_cell, .int t_steps, .int t_highest, .int t_struck])), (a_refusals, .inl (cI, 7, .inl w20)), (a_image, .inl (cI, 28, .inl imageA)), (a_kind, .inl (cI, 5, .inl kindA)), (a_size, .inl (cI, 5, .inl sizeA)), (a_tight, .inl (cI, 5, .inl tightA))]) [4, 5, 0, 1, 2, 3] rfl
    have hD := hD.sub (ws' := [(a_t, .inr (6, [.int t_hand, .int t_first, .int t_wide, .int t_rim, .int t_fill, .int t_wall, .int t_ceiling, .int t_puff, .int t_period, .int t_second, .int t_score, .int t_thrown, .int t_balls, .ref a_kind, .ref a_size, .ref a_tight, .int t_letters, .ref a_letter, .int t_at, .int t_value, .int t_inRow, .ref a_row, .ref a_refusals, .int t_imaged, .ref a_image, .ref a_ahead, .int t_end, .int t_cell, .int t_steps, .int t_highest, .int t_struck])), (a_refusals, .inl (cI, 7, .inl w20)), (a_image, .inl (cI, 28, .inl imageA)), (a_kind, .inl (cI, 5, .inl kindA)), (a_size, .inl (cI, 5, .inl sizeA)), (a_tight, .inl (cI, 5, .inl tightA))]) [4, 5, 0, 1, 2, 3] (by decide) rfl
    subst hQ
    subst hAe
    exact W.iret (v := r19) hx hb hr (fun t ht hW => ⟨⟨r19, (t_hand, t_first, t_wide, t_rim, t_fill, t_wall, t_ceiling, t_puff, t_period, t_second, t_score, t_thrown, t_balls, w20, kindA, sizeA, tightA), rfl, Option.some.inj hR, by rw [ht]; exact hP, hD⟩, hS.F ht⟩) hS.2.2 dX6_on_13
def fX6_count (x1 : Int32) (t_first : Int32) (t_fill : Int32) (t_wall : Int32) (t_ceiling : Int32) (t_second : Int32) (t_score : Int32) (t_thrown : Int32) (t_balls : Int32) (t_letters : Int32) (t_inRow : Int32) (refusalsA : Nat → Int32) : Option (Int32) :=
  if x1 = 0 then (
   some (t_balls)) else
  if x1 = 1 then (
   some (t_first)) else
  if x1 = 2 then (
   some (t_fill)) else
  if x1 = 3 then (
   some (t_second)) else
  if x1 = 4 then (
   some (t_score)) else
  if x1 = 5 then (
   some (t_thrown)) else
  if x1 = 6 then (
   some (t_wall)) else
  if x1 = 7 then (
   some (t_ceiling)) else
  if x1 = 8 then (
   some (t_inRow)) else
  if x1 = 9 then (
   some (t_letters)) else
  b1 (fX6_within x1 11 16) (fun r1 =>
  if r1 = 0 then (
   some ((-9)))
  else (
  g_in (x1 - 10) 7 (
  some ((refusalsA ((x1 - 10)).toNatClampNeg)))))
set_option maxHeartbeats 4000000 in
set_option maxRecDepth 100000 in
theorem kX6_count (l : Launch) (dC : Nat → ClassId) (dI : Nat → Nat → Nat) (cI : ClassId) (a_t a_kind a_size a_tight a_letter a_row a_refusals a_image a_ahead : Nat) (sz : Nat) (x1 : Int32) (t_hand : Int32) (t_first : Int32) (t_wide : Int32) (t_rim : Int32) (t_fill : Int32) (t_wall : Int32) (t_ceiling : Int32) (t_puff : Int32) (t_period : Int32) (t_second : Int32) (t_score : Int32) (t_thrown : Int32) (t_balls : Int32) (t_letters : Int32) (t_at : Int32) (t_value : Int32) (t_inRow : Int32) (t_imaged : Int32) (t_end : Int32) (t_cell : Int32) (t_steps : Int32) (t_highest : Int32) (t_struck : Int32) (refusalsA : Nat → Int32) (R : Int32) (hR : fX6_count x1 t_first t_fill t_wall t_ceiling t_second t_score t_thrown t_balls t_letters t_inRow refusalsA = some R) : Met l yX6_count wsX6_count ({ frames := 1, cells := 0, slots := 0, locals := 22 } : Room) (va_Pc [.ref a_t, .int x1] (Wp (dC, dI) [(cI, .int)] [(a_t, .inr (6, [.int t_hand, .int t_first, .int t_wide, .int t_rim, .int t_fill, .int t_wall, .int t_ceiling, .int t_puff, .int t_period, .int t_second, .int t_score, .int t_thrown, .int t_balls, .ref a_kind, .ref a_size, .ref a_tight, .int t_letters, .ref a_letter, .int t_at, .int t_value, .int t_inRow, .ref a_row, .ref a_refusals, .int t_imaged, .ref a_image, .ref a_ahead, .int t_end, .int t_cell, .int t_steps, .int t_highest, .int t_struck])), (a_refusals, .inl (cI, 7, .inl refusalsA))] sz)) (va_Qi (fun (r : Int32) (_ : Unit) => r = R) (Wq (dC, dI) [(a_t, .inr (6, [.int t_hand, .int t_first, .int t_wide, .int t_rim, .int t_fill, .int t_wall, .int t_ceiling, .int t_puff, .int t_period, .int t_second, .int t_score, .int t_thrown, .int t_balls, .ref a_kind, .ref a_size, .ref a_tight, .int t_letters, .ref a_letter, .int t_at, .int t_value, .int t_inRow, .ref a_row, .ref a_refusals, .int t_imaged, .ref a_image, .ref a_ahead, .int t_end, .int t_cell, .int t_steps, .int t_highest, .int t_struck])), (a_refusals, .inl (cI, 7, .inl refusalsA))] sz (fun (_ : Unit) => ([(a_t, .inr (6, [.int t_hand, .int t_first, .int t_wide, .int t_rim, .int t_fill, .int t_wall, .int t_ceiling, .int t_puff, .int t_period, .int t_second, .int t_score, .int t_thrown, .int t_balls, .ref a_kind, .ref a_size, .ref a_tight, .int t_letters, .ref a_letter, .int t_at, .int t_value, .int t_inRow, .ref a_row, .ref a_refusals, .int t_imaged, .ref a_image, .ref a_ahead, .int t_end, .int t_cell, .int t_steps, .int t_highest, .int t_struck])), (a_refusals, .inl (cI, 7, .inl refusalsA))] : va_W))) (va_A [(a_t, .inr (6, [.int t_hand, .int t_first, .int t_wide, .int t_rim, .int t_fill, .int t_wall, .int t_ceiling, .int t_puff, .int t_period, .int t_second, .int t_score, .int t_thrown, .int t_balls, .ref a_kind, .ref a_size, .ref a_tight, .int t_letters, .ref a_letter, .int t_at, .int t_value, .int t_inRow, .ref a_row, .ref a_refusals, .int t_imaged, .ref a_image, .ref a_ahead, .int t_end, .int t_cell, .int t_steps, .int t_highest, .int t_struck])), (a_refusals, .inl (cI, 7, .inl refusalsA))] sz)) 0 0 (va_A [(a_t, .inr (6, [.int t_hand, .int t_first, .int t_wide, .int t_rim, .int t_fill, .int t_wall, .int t_ceiling, .int t_puff, .int t_period, .int t_second, .int t_score, .int t_thrown, .int t_balls, .ref a_kind, .ref a_size, .ref a_tight, .int t_letters, .ref a_letter, .int t_at, .int t_value, .int t_inRow, .ref a_row, .ref a_refusals, .int t_imaged, .ref a_image, .ref a_ahead, .int t_end, .int t_cell, .int t_steps, .int t_highest, .int t_struck])), (a_refusals, .inl (cI, 7, .inl refusalsA))] sz) := by
  refine Met.ofW (cc := cX6_count) (maxL := 2) (ret := (some .int)) (by decide) rfl ?_
  intro p e s m args below meth c s₁ B hml hv
  obtain ⟨hargs, hsz, hP, hK, hD0, hN⟩ := hv
  have hx := B.exec
  have hb := B.bytes
  have hr := B.returns
  have hts := atoms_spec (ws := wsX6_count) B.pre
  have hown : s.vm.findClass RX6 = some m.cls := findClass_of_methodNamed B.named
  have hlocks := B.notSynchronized
  subst hsz
  have hD := hD0.self (sz := s.heap.size)
  obtain ⟨A, hAe⟩ : ∃ A, A = va_A [(a_t, .inr (6, [.int t_hand, .int t_first, .int t_wide, .int t_rim, .int t_fill, .int t_wall, .int t_ceiling, .int t_puff, .int t_period, .int t_second, .int t_score, .int t_thrown, .int t_balls, .ref a_kind, .ref a_size, .ref a_tight, .int t_letters, .ref a_letter, .int t_at, .int t_value, .int t_inRow, .ref a_row, .ref a_refusals, .int t_imaged, .ref a_image, .ref a_ahead, .int t_end, .int t_cell, .int t_steps, .int t_highest, .int t_struck])), (a_refusals, .inl (cI, 7, .inl refusalsA))] s.heap.size := ⟨_, rfl⟩
  rw [← hAe] at hD
  have hA : ∀ q : Nat, s.heap.size ≤ q → A q := fun q h => by rw [hAe]; exact Or.inr h
  have hS : va_S A s.heap s.heap [] := va_S.rf
  have hl := lv_entry ([.ref a_t, .int x1]) (n := 2) (Nat.le_of_ble_eq_true rfl)
  rw [e_of hargs, lg_entry_eq]
  generalize (lg_sl ([.ref a_t, .int x1]) ++ List.replicate (2 - (lg_sl ([.ref a_t, .int x1])).length) Slot.unset).toArray = ls at hl ⊢
  have hl : lv_has ls 2 [(0, .ref a_t), (1, .int x1)] := hl
  have hinX6 : ∀ w ∈ wsX60, w ∈ wsX6_count := by decide +kernel
  refine w_q ({ frames := 1, cells := 0, slots := 0, locals := 22 } : Room) (fun Q0 hQ => ?_)
  rw [fX6_count] at hR
  refine lv_iload_n hx hb dX6_count_0 rfl (lv_at hl 1 rfl) ?_
  by_cases c1_0 : x1 = 0
  · have hR := (if_pos c1_0).symm.trans hR
    refine lv_tableIn (off := 55) (tgt := 56) hx hb dX6_count_1 (by rw [c1_0]; decide) (by rw [c1_0]; decide) (by rw [c1_0]; rfl) (by decide) ?_
    refine lv_aload_n hx hb dX6_count_56 rfl (lv_at hl 0 rfl) ?_
    refine va_get (D := (dC, dI)) (ci := 6) (v := .int t_balls) (C := RX6) (T := TX6) (N := 31) hx hb hts hinX6 hown hK hP 0 rfl rfl 12 (by decide) (hts (.fieldLink RX6 62 "PaperInBinModel" "balls" "I") (by decide +kernel)) (fun _ h9 => h9) rfl dX6_count_57 ?_
    subst hQ
    subst hAe
    exact W.iret (v := t_balls) hx hb hr (fun t ht hW => ⟨⟨t_balls, (), rfl, Option.some.inj hR, by rw [ht]; exact hP, hD⟩, hS.F ht⟩) hS.2.2 dX6_count_60
  have hR := (if_neg c1_0).symm.trans hR
  by_cases c1_1 : x1 = 1
  · have hR := (if_pos c1_1).symm.trans hR
    refine lv_tableIn (off := 60) (tgt := 61) hx hb dX6_count_1 (by rw [c1_1]; decide) (by rw [c1_1]; decide) (by rw [c1_1]; rfl) (by decide) ?_
    refine lv_aload_n hx hb dX6_count_61 rfl (lv_at hl 0 rfl) ?_
    refine va_get (D := (dC, dI)) (ci := 6) (v := .int t_first) (C := RX6) (T := TX6) (N := 31) hx hb hts hinX6 hown hK hP 0 rfl rfl 1 (by decide) (hts (.fieldLink RX6 38 "PaperInBinModel" "first" "I") (by decide +kernel)) (fun _ h9 => h9) rfl dX6_count_62 ?_
    subst hQ
    subst hAe
    exact W.iret (v := t_first) hx hb hr (fun t ht hW => ⟨⟨t_first, (), rfl, Option.some.inj hR, by rw [ht]; exact hP, hD⟩, hS.F ht⟩) hS.2.2 dX6_count_65
  have hR := (if_neg c1_1).symm.trans hR
  by_cases c1_2 : x1 = 2
  · have hR := (if_pos c1_2).symm.trans hR
    refine lv_tableIn (off := 65) (tgt := 66) hx hb dX6_count_1 (by rw [c1_2]; decide) (by rw [c1_2]; decide) (by rw [c1_2]; rfl) (by decide) ?_
    refine lv_aload_n hx hb dX6_count_66 rfl (lv_at hl 0 rfl) ?_
    refine va_get (D := (dC, dI)) (ci := 6) (v := .int t_fill) (C := RX6) (T := TX6) (N := 31) hx hb hts hinX6 hown hK hP 0 rfl rfl 4 (by decide) (hts (.fieldLink RX6 89 "PaperInBinModel" "fill" "I") (by decide +kernel)) (fun _ h9 => h9) rfl dX6_count_67 ?_
    subst hQ
    subst hAe
    exact W.iret (v := t_fill) hx hb hr (fun t ht hW => ⟨⟨t_fill, (), rfl, Option.some.inj hR, by rw [ht]; exact hP, hD⟩, hS.F ht⟩) hS.2.2 dX6_count_70
  have hR := (if_neg c1_2).symm.trans hR
  by_cases c1_3 : x1 = 3
  · have hR := (if_pos c1_3).symm.trans hR
    refine lv_tableIn (off := 70) (tgt := 71) hx hb dX6_count_1 (by rw [c1_3]; decide) (by rw [c1_3]; decide) (by rw [c1_3]; rfl) (by decide) ?_
    refine lv_aload_n hx hb dX6_count_71 rfl (lv_at hl 0 rfl) ?_
    refine va_get (D := (dC, dI)) (ci := 6) (v := .int t_second) (C := RX6) (T := TX6) (N := 31) hx hb hts hinX6 hown hK hP 0 rfl rfl 9 (by decide) (hts (.fieldLink RX6 149 "PaperInBinModel" "second" "I") (by decide +kernel)) (fun _ h9 => h9) rfl dX6_count_72 ?_
    subst hQ
    subst hAe
    exact W.iret (v := t_second) hx hb hr (fun t ht hW => ⟨⟨t_second, (), rfl, Option.some.inj hR, by rw [ht]; exact hP, hD⟩, hS.F ht⟩) hS.2.2 dX6_count_75
  have hR := (if_neg c1_3).symm.trans hR
  by_cases c1_4 : x1 = 4
  · have hR := (if_pos c1_4).symm.trans hR
    refine lv_tableIn (off := 75) (tgt := 76) hx hb dX6_count_1 (by rw [c1_4]; decide) (by rw [c1_4]; decide) (by rw [c1_4]; rfl) (by decide) ?_
    refine lv_aload_n hx hb dX6_count_76 rfl (lv_at hl 0 rfl) ?_
    refine va_get (D := (dC, dI)) (ci := 6) (v := .int t_score) (C := RX6) (T := TX6) (N := 31) hx hb hts hinX6 hown hK hP 0 rfl rfl 10 (by decide) (hts (.fieldLink RX6 162 "PaperInBinModel" "score" "I") (by decide +kernel)) (fun _ h9 => h9) rfl dX6_count_77 ?_
    subst hQ
    subst hAe
    exact W.iret (v := t_score) hx hb hr (fun t ht hW => ⟨⟨t_score, (), rfl, Option.some.inj hR, by rw [ht]; exact hP, hD⟩, hS.F ht⟩) hS.2.2 dX6_count_80
  have hR := (if_neg c1_4).symm.trans hR
  by_cases c1_5 : x1 = 5
  · have hR := (if_pos c1_5).symm.trans hR
    refine lv_tableIn (off := 80) (tgt := 81) hx hb dX6_count_1 (by rw [c1_5]; decide) (by rw [c1_5]; decide) (by rw [c1_5]; rfl) (by decide) ?_
    refine lv_aload_n hx hb dX6_count_81 rfl (lv_at hl 0 rfl) ?_
    refine va_get (D := (dC, dI)) (ci := 6) (v := .int t_thrown) (C := RX6) (T := TX6) (N := 31) hx hb hts hinX6 hown hK hP 0 rfl rfl 11 (by decide) (hts (.fieldLink RX6 159 "PaperInBinModel" "thrown" "I") (by decide +kernel)) (fun _ h9 => h9) rfl dX6_count_82 ?_
    subst hQ
    subst hAe
    exact W.iret (v := t_thrown) hx hb hr (fun t ht hW => ⟨⟨t_thrown, (), rfl, Option.some.inj hR, by rw [ht]; exact hP, hD⟩, hS.F ht⟩) hS.2.2 dX6_count_85
  have hR := (if_neg c1_5).symm.trans hR
  by_cases c1_6 : x1 = 6
  · have hR := (if_pos c1_6).symm.trans hR
    refine lv_tableIn (off := 85) (tgt := 86) hx hb dX6_count_1 (by rw [c1_6]; decide) (by rw [c1_6]; decide) (by rw [c1_6]; rfl) (by decide) ?_
    refine lv_aload_n hx hb dX6_count_86 rfl (lv_at hl 0 rfl) ?_
    refine va_get (D := (dC, dI)) (ci := 6) (v := .int t_wall) (C := RX6) (T := TX6) (N := 31) hx hb hts hinX6 hown hK hP 0 rfl rfl 5 (by decide) (hts (.fieldLink RX6 47 "PaperInBinModel" "wall" "I") (by decide +kernel)) (fun _ h9 => h9) rfl dX6_count_87 ?_
    subst hQ
    subst hAe
    exact W.iret (v := t_wall) hx hb hr (fun t ht hW => ⟨⟨t_wall, (), rfl, Option.some.inj hR, by rw [ht]; exact hP, hD⟩, hS.F ht⟩) hS.2.2 dX6_count_90
  have hR := (if_neg c1_6).symm.trans hR
  by_cases c1_7 : x1 = 7
  · have hR := (if_pos c1_7).symm.trans hR
    refine lv_tableIn (off := 90) (tgt := 91) hx hb dX6_count_1 (by rw [c1_7]; decide) (by rw [c1_7]; decide) (by rw [c1_7]; rfl) (by decide) ?_
    refine lv_aload_n hx hb dX6_count_91 rfl (lv_at hl 0 rfl) ?_
    refine va_get (D := (dC, dI)) (ci := 6) (v := .int t_ceiling) (C := RX6) (T := TX6) (N := 31) hx hb hts hinX6 hown hK hP 0 rfl rfl 6 (by decide) (hts (.fieldLink RX6 50 "PaperInBinModel" "ceiling" "I") (by decide +kernel)) (fun _ h9 => h9) rfl dX6_count_92 ?_
    subst hQ
    subst hAe
    exact W.iret (v := t_ceiling) hx hb hr (fun t ht hW => ⟨⟨t_ceiling, (), rfl, Option.some.inj hR, by rw [ht]; exact hP, hD⟩, hS.F ht⟩) hS.2.2 dX6_count_95
  have hR := (if_neg c1_7).symm.trans hR
  by_cases c1_8 : x1 = 8
  · have hR := (if_pos c1_8).symm.trans hR
    refine lv_tableIn (off := 95) (tgt := 96) hx hb dX6_count_1 (by rw [c1_8]; decide) (by rw [c1_8]; decide) (by rw [c1_8]; rfl) (by decide) ?_
    refine lv_aload_n hx hb dX6_count_96 rfl (lv_at hl 0 rfl) ?_
    refine va_get (D := (dC, dI)) (ci := 6) (v := .int t_inRow) (C := RX6) (T := TX6) (N := 31) hx hb hts hinX6 hown hK hP 0 rfl rfl 20 (by decide) (hts (.fieldLink RX6 189 "PaperInBinModel" "inRow" "I") (by decide +kernel)) (fun _ h9 => h9) rfl dX6_count_97 ?_
    subst hQ
    subst hAe
    exact W.iret (v := t_inRow) hx hb hr (fun t ht hW => ⟨⟨t_inRow, (), rfl, Option.some.inj hR, by rw [ht]; exact hP, hD⟩, hS.F ht⟩) hS.2.2 dX6_count_100
  have hR := (if_neg c1_8).symm.trans hR
  by_cases c1_9 : x1 = 9
  · have hR := (if_pos c1_9).symm.trans hR
    refine lv_tableIn (off := 100) (tgt := 101) hx hb dX6_count_1 (by rw [c1_9]; decide) (by rw [c1_9]; decide) (by rw [c1_9]; rfl) (by decide) ?_
    refine lv_aload_n hx hb dX6_count_101 rfl (lv_at hl 0 rfl) ?_
    refine va_get (D := (dC, dI)) (ci := 6) (v := .int t_letters) (C := RX6) (T := TX6) (N := 31) hx hb hts hinX6 hown hK hP 0 rfl rfl 16 (by decide) (hts (.fieldLink RX6 69 "PaperInBinModel" "letters" "I") (by decide +kernel)) (fun _ h9 => h9) rfl dX6_count_102 ?_
    subst hQ
    subst hAe
    exact W.iret (v := t_letters) hx hb hr (fun t ht hW => ⟨⟨t_letters, (), rfl, Option.some.inj hR, by rw [ht]; exact hP, hD⟩, hS.F ht⟩) hS.2.2 dX6_count_105
  have hR := (if_neg c1_9).symm.trans hR
  have tc1_0 := lv_neT (k := 0) (a := 0) c1_0 (by decide)
  have tc1_1 := lv_neT (k := 1) (a := 1) c1_1 (by decide)
  have tc1_2 := lv_neT (k := 2) (a := 2) c1_2 (by decide)
  have tc1_3 := lv_neT (k := 3) (a := 3) c1_3 (by decide)
  have tc1_4 := lv_neT (k := 4) (a := 4) c1_4 (by decide)
  have tc1_5 := lv_neT (k := 5) (a := 5) c1_5 (by decide)
  have tc1_6 := lv_neT (k := 6) (a := 6) c1_6 (by decide)
  have tc1_7 := lv_neT (k := 7) (a := 7) c1_7 (by decide)
  have tc1_8 := lv_neT (k := 8) (a := 8) c1_8 (by decide)
  have tc1_9 := lv_neT (k := 9) (a := 9) c1_9 (by decide)
  refine lv_tableOut (tgt := 106) hx hb dX6_count_1 (by omega) (by decide) ?_
  refine lv_iload_n hx hb dX6_count_106 rfl (lv_at hl 1 rfl) ?_
  refine lv_bipush (v := 11) hx hb dX6_count_107 (by decide) ?_
  refine lv_bipush (v := 16) hx hb dX6_count_109 (by decide) ?_
  obtain ⟨r1, hu2, hR⟩ := b1_s hR
  refine cl_SiN (As := [.int x1, .int 11, .int 16]) (rest := []) (wc := []) (wr := [(a_t, .inr (6, [.int t_hand, .int t_first, .int t_wide, .int t_rim, .int t_fill, .int t_wall, .int t_ceiling, .int t_puff, .int t_period, .int t_second, .int t_score, .int t_thrown, .int t_balls, .ref a_kind, .ref a_size, .ref a_tight, .int t_letters, .ref a_letter, .int t_at, .int t_value, .int t_inRow, .ref a_row, .ref a_refusals, .int t_imaged, .ref a_image, .ref a_ahead, .int t_end, .int t_cell, .int t_steps, .int t_highest, .int t_struck])), (a_refusals, .inl (cI, 7, .inl refusalsA))]) ⟨hx, hb, hml, hown, hts⟩ (kX6_within l dC dI cI s.heap.size x1 11 16 r1 hu2) (cwS 3 hts gX6_count_X6_within rfl rfl rfl (by decide +kernel) ⟨Nat.le_of_ble_eq_true rfl, Nat.le_of_ble_eq_true rfl⟩) hK hN hP hD hS hA [] [0, 1] rfl rfl rfl rfl rfl (by decide) rfl hl.1 rfl (Nat.le_of_ble_eq_true rfl) dX6_count_111 (fun H locs hP hD hS => ?_)
  have hP : va_P (dC, dI) vwCl [(a_t, .inr (6, [.int t_hand, .int t_first, .int t_wide, .int t_rim, .int t_fill, .int t_wall, .int t_ceiling, .int t_puff, .int t_period, .int t_second, .int t_score, .int t_thrown, .int t_balls, .ref a_kind, .ref a_size, .ref a_tight, .int t_letters, .ref a_letter, .int t_at, .int t_value, .int t_inRow, .ref a_row, .ref a_refusals, .int t_imaged, .ref a_image, .ref a_ahead, .int t_end, .int t_cell, .int t_steps, .int t_highest, .int t_struck])), (a_refusals, .inl (cI, 7, .inl refusalsA))] H := hP
  have hD : va_D A [(a_t, .inr (6, [.int t_hand, .int t_first, .int t_wide, .int t_rim, .int t_fill, .int t_wall, .int t_ceiling, .int t_puff, .int t_period, .int t_second, .int t_score, .int t_thrown, .int t_balls, .ref a_kind, .ref a_size, .ref a_tight, .int t_letters, .ref a_letter, .int t_at, .int t_value, .int t_inRow, .ref a_row, .ref a_refusals, .int t_imaged, .ref a_image, .ref a_ahead, .int t_end, .int t_cell, .int t_steps, .int t_highest, .int t_struck])), (a_refusals, .inl (cI, 7, .inl refusalsA))] := hD
  refine lv_if_eq (tgt := 129) hx hb dX6_count_114 (by decide) (fun c114 => ?_) (fun c114 => ?_)
  · have hR := (if_pos c114).symm.trans hR
    refine lv_bipush (v := (-9)) hx hb dX6_count_129 (by decide) ?_
    subst hQ
    subst hAe
    exact W.iret (v := (-9)) hx hb hr (fun t ht hW => ⟨⟨(-9), (), rfl, Option.some.inj hR, by rw [ht]; exact hP, hD⟩, hS.F ht⟩) hS.2.2 dX6_count_131
  · have hR := (if_neg c114).symm.trans hR
    refine lv_aload_n hx hb dX6_count_117 rfl (lv_at hl 0 rfl) ?_
    refine va_get (D := (dC, dI)) (ci := 6) (v := .ref a_refusals) (C := RX6) (T := TX6) (N := 31) hx hb hts hinX6 hown hK hP 0 rfl rfl 22 (by decide) (hts (.fieldLink RX6 25 "PaperInBinModel" "refusals" "[I") (by decide +kernel)) (fun _ h9 => h9) rfl dX6_count_118 ?_
    refine lv_iload_n hx hb dX6_count_121 rfl (lv_at hl 1 rfl) ?_
    refine lv_bipush (v := 10) hx hb dX6_count_122 (by decide) ?_
    refine lv_isub hx hb dX6_count_124 ?_
    obtain ⟨g3, hR⟩ := g_in_s hR
    refine va_iald hx hb hK hP 1 0 rfl rfl g3 dX6_count_125 ?_
    refine lv_goto (tgt := 131) hx hb dX6_count_126 (by decide) ?_
    subst hQ
    subst hAe
    exact W.iret (v := (refusalsA ((x1 - 10)).toNatClampNeg)) hx hb hr (fun t ht hW => ⟨⟨(refusalsA ((x1 - 10)).toNatClampNeg), (), rfl, Option.some.inj hR, by rw [ht]; exact hP, hD⟩, hS.F ht⟩) hS.2.2 dX6_count_131
def jX6_whose_65 (x5 : Int32) (x6 : Int32) (t_end : Int32) (t_cell : Int32) (t_steps : Int32) (t_highest : Int32) (t_struck : Int32) (refusalsA : Nat → Int32) (kk26 : Int32 → Int32 → Int32 → Int32 → Int32 → Int32 → Int32 → (Nat → Int32) → Option (Int32 × Int32 × Int32 × Int32 × Int32 × Int32 × (Nat → Int32))) : Option (Int32 × Int32 × Int32 × Int32 × Int32 × Int32 × (Nat → Int32)) :=
  kk26 x5 (x6 + 1) t_end t_cell t_steps t_highest t_struck refusalsA
def lX6_whose_26 (x1 : Int32) (x2 : Int32) (x3 : Int32) (t_hand : Int32) (t_first : Int32) (t_wide : Int32) (t_rim : Int32) (t_fill : Int32) (t_wall : Int32) (t_ceiling : Int32) (t_puff : Int32) (t_period : Int32) (t_second : Int32) (t_balls : Int32) (sizeA : Nat → Int32) (tightA : Nat → Int32) (kindA : Nat → Int32) : Nat → Int32 → Int32 → Int32 → Int32 → Int32 → Int32 → Int32 → (Nat → Int32) → Option (Int32 × Int32 × Int32 × Int32 × Int32 × Int32 × (Nat → Int32))
  | 0, _, _, _, _, _, _, _, _ => none
  | n + 1, x5, x6, t_end, t_cell, t_steps, t_highest, t_struck, refusalsA =>
    if t_balls ≤ x6 then (
     some (x5, t_end, t_cell, t_steps, t_highest, t_struck, refusalsA))
    else (
    b6 (fX6_flies x6 x1 x2 t_second t_hand t_first t_wide t_rim t_fill t_wall t_ceiling t_puff t_period sizeA tightA kindA) (fun r1 w2 w3 w4 w5 w6 =>
    if w3 = x3 then (
     jX6_whose_65 (x5 ||| ((1 : Int32) <<< (x6 &&& 31))) x6 w2 w3 w4 w5 w6 refusalsA (lX6_whose_26 x1 x2 x3 t_hand t_first t_wide t_rim t_fill t_wall t_ceiling t_puff t_period t_second t_balls sizeA tightA kindA n))
    else (
    jX6_whose_65 x5 x6 w2 w3 w4 w5 w6 refusalsA (lX6_whose_26 x1 x2 x3 t_hand t_first t_wide t_rim t_fill t_wall t_ceiling t_puff t_period t_second t_balls sizeA tightA kindA n))))
def fX6_whose (x1 : Int32) (x2 : Int32) (x3 : Int32) (t_hand : Int32) (t_first : Int32) (t_wide : Int32) (t_rim : Int32) (t_fill : Int32) (t_wall : Int32) (t_ceiling : Int32) (t_puff : Int32) (t_period : Int32) (t_second : Int32) (t_balls : Int32) (t_end : Int32) (t_cell : Int32) (t_steps : Int32) (t_highest : Int32) (t_struck : Int32) (refusalsA : Nat → Int32) (sizeA : Nat → Int32) (tightA : Nat → Int32) (kindA : Nat → Int32) : Option (Int32 × Int32 × Int32 × Int32 × Int32 × Int32 × (Nat → Int32)) :=
  b1 (fX6_noThrow x1 x2) (fun r8 =>
  if 0 ≤ r8 then (
   lX6_whose_26 x1 x2 x3 t_hand t_first t_wide t_rim t_fill t_wall t_ceiling t_puff t_period t_second t_balls sizeA tightA kindA (100) 0 0 t_end t_cell t_steps t_highest t_struck refusalsA)
  else (
  b2 (fX6_no r8 refusalsA) (fun r10 w11 =>
  some (r10, t_end, t_cell, t_steps, t_highest, t_struck, w11))))
set_option maxHeartbeats 4000000 in
set_option maxRecDepth 100000 in
theorem kX6_whose (l : Launch) (dC : Nat → ClassId) (dI : Nat → Nat → Nat) (cI : ClassId) (a_t a_kind a_size a_tight a_letter a_row a_refusals a_image a_ahead : Nat) (sz : Nat) (x1 : Int32) (x2 : Int32) (x3 : Int32) (t_hand : Int32) (t_first : Int32) (t_wide : Int32) (t_rim : Int32) (t_fill : Int32) (t_wall : Int32) (t_ceiling : Int32) (t_puff : Int32) (t_period : Int32) (t_second : Int32) (t_score : Int32) (t_thrown : Int32) (t_balls : Int32) (t_letters : Int32) (t_at : Int32) (t_value : Int32) (t_inRow : Int32) (t_imaged : Int32) (t_end : Int32) (t_cell : Int32) (t_steps : Int32) (t_highest : Int32) (t_struck : Int32) (refusalsA : Nat → Int32) (sizeA : Nat → Int32) (tightA : Nat → Int32) (kindA : Nat → Int32) (R : Int32 × Int32 × Int32 × Int32 × Int32 × Int32 × (Nat → Int32)) (hR : fX6_whose x1 x2 x3 t_hand t_first t_wide t_rim t_fill t_wall t_ceiling t_puff t_period t_second t_balls t_end t_cell t_steps t_highest t_struck refusalsA sizeA tightA kindA = some R) : Met l yX6_whose wsX6_whose ({ frames := 3, cells := 0, slots := 0, locals := 71 } : Room) (va_Pc [.ref a_t, .int x1, .int x2, .int x3] (Wp (dC, dI) [(cI, .int)] [(a_t, .inr (6, [.int t_hand, .int t_first, .int t_wide, .int t_rim, .int t_fill, .int t_wall, .int t_ceiling, .int t_puff, .int t_period, .int t_second, .int t_score, .int t_thrown, .int t_balls, .ref a_kind, .ref a_size, .ref a_tight, .int t_letters, .ref a_letter, .int t_at, .int t_value, .int t_inRow, .ref a_row, .ref a_refusals, .int t_imaged, .ref a_image, .ref a_ahead, .int t_end, .int t_cell, .int t_steps, .int t_highest, .int t_struck])), (a_refusals, .inl (cI, 7, .inl refusalsA)), (a_size, .inl (cI, 5, .inl sizeA)), (a_tight, .inl (cI, 5, .inl tightA)), (a_kind, .inl (cI, 5, .inl kindA))] sz)) (va_Qi (fun (r : Int32) (u : Int32 × Int32 × Int32 × Int32 × Int32 × (Nat → Int32)) => (r, u) = R) (Wq (dC, dI) [(a_t, .inr (6, [.int t_hand, .int t_first, .int t_wide, .int t_rim, .int t_fill, .int t_wall, .int t_ceiling, .int t_puff, .int t_period, .int t_second, .int t_score, .int t_thrown, .int t_balls, .ref a_kind, .ref a_size, .ref a_tight, .int t_letters, .ref a_letter, .int t_at, .int t_value, .int t_inRow, .ref a_row, .ref a_refusals, .int t_imaged, .ref a_image, .ref a_ahead, .int t_end, .int t_cell, .int t_steps, .int t_highest, .int t_struck])), (a_refusals, .inl (cI, 7, .inl refusalsA)), (a_size, .inl (cI, 5, .inl sizeA)), (a_tight, .inl (cI, 5, .inl tightA)), (a_kind, .inl (cI, 5, .inl kindA))] sz (fun (u : Int32 × Int32 × Int32 × Int32 × Int32 × (Nat → Int32)) => ([(a_t, .inr (6, [.int t_hand, .int t_first, .int t_wide, .int t_rim, .int t_fill, .int t_wall, .int t_ceiling, .int t_puff, .int t_period, .int t_second, .int t_score, .int t_thrown, .int t_balls, .ref a_kind, .ref a_size, .ref a_tight, .int t_letters, .ref a_letter, .int t_at, .int t_value, .int t_inRow, .ref a_row, .ref a_refusals, .int t_imaged, .ref a_image, .ref a_ahead, .int u.1, .int u.2.1, .int u.2.2.1, .int u.2.2.2.1, .int u.2.2.2.2.1])), (a_refusals, .inl (cI, 7, .inl u.2.2.2.2.2)), (a_size, .inl (cI, 5, .inl sizeA)), (a_tight, .inl (cI, 5, .inl tightA)), (a_kind, .inl (cI, 5, .inl kindA))] : va_W))) (va_A [(a_t, .inr (6, [.int t_hand, .int t_first, .int t_wide, .int t_rim, .int t_fill, .int t_wall, .int t_ceiling, .int t_puff, .int t_period, .int t_second, .int t_score, .int t_thrown, .int t_balls, .ref a_kind, .ref a_size, .ref a_tight, .int t_letters, .ref a_letter, .int t_at, .int t_value, .int t_inRow, .ref a_row, .ref a_refusals, .int t_imaged, .ref a_image, .ref a_ahead, .int t_end, .int t_cell, .int t_steps, .int t_highest, .int t_struck])), (a_refusals, .inl (cI, 7, .inl refusalsA)), (a_size, .inl (cI, 5, .inl sizeA)), (a_tight, .inl (cI, 5, .inl tightA)), (a_kind, .inl (cI, 5, .inl kindA))] sz)) 0 0 (va_A [(a_t, .inr (6, [.int t_hand, .int t_first, .int t_wide, .int t_rim, .int t_fill, .int t_wall, .int t_ceiling, .int t_puff, .int t_period, .int t_second, .int t_score, .int t_thrown, .int t_balls, .ref a_kind, .ref a_size, .ref a_tight, .int t_letters, .ref a_letter, .int t_at, .int t_value, .int t_inRow, .ref a_row, .ref a_refusals, .int t_imaged, .ref a_image, .ref a_ahead, .int t_end, .int t_cell, .int t_steps, .int t_highest, .int t_struck])), (a_refusals, .inl (cI, 7, .inl refusalsA)), (a_size, .inl (cI, 5, .inl sizeA)), (a_tight, .inl (cI, 5, .inl tightA)), (a_kind, .inl (cI, 5, .inl kindA))] sz) := by
  refine Met.ofW (cc := cX6_whose) (maxL := 7) (ret := (some .int)) (by decide) rfl ?_
  intro p e s m args below meth c s₁ B hml hv
  obtain ⟨hargs, hsz, hP, hK, hD0, hN⟩ := hv
  have hx := B.exec
  have hb := B.bytes
  have hr := B.returns
  have hts := atoms_spec (ws := wsX6_whose) B.pre
  have hown : s.vm.findClass RX6 = some m.cls := findClass_of_methodNamed B.named
  have hlocks := B.notSynchronized
  subst hsz
  have hD := hD0.self (sz := s.heap.size)
  obtain ⟨A, hAe⟩ : ∃ A, A = va_A [(a_t, .inr (6, [.int t_hand, .int t_first, .int t_wide, .int t_rim, .int t_fill, .int t_wall, .int t_ceiling, .int t_puff, .int t_period, .int t_second, .int t_score, .int t_thrown, .int t_balls, .ref a_kind, .ref a_size, .ref a_tight, .int t_letters, .ref a_letter, .int t_at, .int t_value, .int t_inRow, .ref a_row, .ref a_refusals, .int t_imaged, .ref a_image, .ref a_ahead, .int t_end, .int t_cell, .int t_steps, .int t_highest, .int t_struck])), (a_refusals, .inl (cI, 7, .inl refusalsA)), (a_size, .inl (cI, 5, .inl sizeA)), (a_tight, .inl (cI, 5, .inl tightA)), (a_kind, .inl (cI, 5, .inl kindA))] s.heap.size := ⟨_, rfl⟩
  rw [← hAe] at hD
  have hA : ∀ q : Nat, s.heap.size ≤ q → A q := fun q h => by rw [hAe]; exact Or.inr h
  have hS : va_S A s.heap s.heap [] := va_S.rf
  have hl := lv_entry ([.ref a_t, .int x1, .int x2, .int x3]) (n := 7) (Nat.le_of_ble_eq_true rfl)
  rw [e_of hargs, lg_entry_eq]
  generalize (lg_sl ([.ref a_t, .int x1, .int x2, .int x3]) ++ List.replicate (7 - (lg_sl ([.ref a_t, .int x1, .int x2, .int x3])).length) Slot.unset).toArray = ls at hl ⊢
  have hl : lv_has ls 7 [(0, .ref a_t), (1, .int x1), (2, .int x2), (3, .int x3)] := hl
  have hinX6 : ∀ w ∈ wsX60, w ∈ wsX6_whose := by decide +kernel
  refine w_q ({ frames := 3, cells := 0, slots := 0, locals := 71 } : Room) (fun Q0 hQ => ?_)
  have K26 : ∀ (n26 : Nat) (x5 : Int32) (x6 : Int32) (t_end : Int32) (t_cell : Int32) (t_steps : Int32) (t_highest : Int32) (t_struck : Int32) (refusalsA : Nat → Int32) (H : Heap) (locs : List Loc), va_P (dC, dI) vwCl [(a_t, .inr (6, [.int t_hand, .int t_first, .int t_wide, .int t_rim, .int t_fill, .int t_wall, .int t_ceiling, .int t_puff, .int t_period, .int t_second, .int t_score, .int t_thrown, .int t_balls, .ref a_kind, .ref a_size, .ref a_tight, .int t_letters, .ref a_letter, .int t_at, .int t_value, .int t_inRow, .ref a_row, .ref a_refusals, .int t_imaged, .ref a_image, .ref a_ahead, .int t_end, .int t_cell, .int t_steps, .int t_highest, .int t_struck])), (a_refusals, .inl (cI, 7, .inl refusalsA)), (a_size, .inl (cI, 5, .inl sizeA)), (a_tight, .inl (cI, 5, .inl tightA)), (a_kind, .inl (cI, 5, .inl kindA))] H → va_D A [(a_t, .inr (6, [.int t_hand, .int t_first, .int t_wide, .int t_rim, .int t_fill, .int t_wall, .int t_ceiling, .int t_puff, .int t_period, .int t_second, .int t_score, .int t_thrown, .int t_balls, .ref a_kind, .ref a_size, .ref a_tight, .int t_letters, .ref a_letter, .int t_at, .int t_value, .int t_inRow, .ref a_row, .ref a_refusals, .int t_imaged, .ref a_image, .ref a_ahead, .int t_end, .int t_cell, .int t_steps, .int t_highest, .int t_struck])), (a_refusals, .inl (cI, 7, .inl refusalsA)), (a_size, .inl (cI, 5, .inl sizeA)), (a_tight, .inl (cI, 5, .inl tightA)), (a_kind, .inl (cI, 5, .inl kindA))] → va_S A s.heap H locs → ∀ (ls : Array Slot), lv_has ls 7 [(0, .ref a_t), (1, .int x1), (2, .int x2), (3, .int x3), (5, .int x5), (6, .int x6)] → lX6_whose_26 x1 x2 x3 t_hand t_first t_wide t_rim t_fill t_wall t_ceiling t_puff t_period t_second t_balls sizeA tightA kindA n26 x5 x6 t_end t_cell t_steps t_highest t_struck refusalsA = some R → W p l e ({ frames := 3, cells := 0, slots := 0, locals := 71 } : Room) s m args below meth c H locs 0 0 Q0 (F0 m 26 ls []) := by
    intro n26
    induction n26 with
    | zero =>
      intro x5 x6 t_end t_cell t_steps t_highest t_struck refusalsA H locs hP hD hS ls hl hR
      rw [lX6_whose_26] at hR
      cases hR
    | succ n26 ih26 =>
      have K65 : ∀ (x5 : Int32) (x6 : Int32) (t_end : Int32) (t_cell : Int32) (t_steps : Int32) (t_highest : Int32) (t_struck : Int32) (refusalsA : Nat → Int32) (H : Heap) (locs : List Loc), va_P (dC, dI) vwCl [(a_t, .inr (6, [.int t_hand, .int t_first, .int t_wide, .int t_rim, .int t_fill, .int t_wall, .int t_ceiling, .int t_puff, .int t_period, .int t_second, .int t_score, .int t_thrown, .int t_balls, .ref a_kind, .ref a_size, .ref a_tight, .int t_letters, .ref a_letter, .int t_at, .int t_value, .int t_inRow, .ref a_row, .ref a_refusals, .int t_imaged, .ref a_image, .ref a_ahead, .int t_end, .int t_cell, .int t_steps, .int t_highest, .int t_struck])), (a_refusals, .inl (cI, 7, .inl refusalsA)), (a_size, .inl (cI, 5, .inl sizeA)), (a_tight, .inl (cI, 5, .inl tightA)), (a_kind, .inl (cI, 5, .inl kindA))] H → va_D A [(a_t, .inr (6, [.int t_hand, .int t_first, .int t_wide, .int t_rim, .int t_fill, .int t_wall, .int t_ceiling, .int t_puff, .int t_period, .int t_second, .int t_score, .int t_thrown, .int t_balls, .ref a_kind, .ref a_size, .ref a_tight, .int t_letters, .ref a_letter, .int t_at, .int t_value, .int t_inRow, .ref a_row, .ref a_refusals, .int t_imaged, .ref a_image, .ref a_ahead, .int t_end, .int t_cell, .int t_steps, .int t_highest, .int t_struck])), (a_refusals, .inl (cI, 7, .inl refusalsA)), (a_size, .inl (cI, 5, .inl sizeA)), (a_tight, .inl (cI, 5, .inl tightA)), (a_kind, .inl (cI, 5, .inl kindA))] → va_S A s.heap H locs → ∀ (ls : Array Slot), lv_has ls 7 [(0, .ref a_t), (1, .int x1), (2, .int x2), (3, .int x3), (5, .int x5), (6, .int x6)] → jX6_whose_65 x5 x6 t_end t_cell t_steps t_highest t_struck refusalsA (lX6_whose_26 x1 x2 x3 t_hand t_first t_wide t_rim t_fill t_wall t_ceiling t_puff t_period t_second t_balls sizeA tightA kindA n26) = some R → W p l e ({ frames := 3, cells := 0, slots := 0, locals := 71 } : Room) s m args below meth c H locs 0 0 Q0 (F0 m 65 ls []) := by
        intro x5 x6 t_end t_cell t_steps t_highest t_struck refusalsA H locs hP hD hS ls hl hR
        rw [jX6_whose_65] at hR
        refine lv_iinc (v := (x6 + 1)) (lv' := [(6, .int (x6 + 1)), (0, .ref a_t), (1, .int x1), (2, .int x2), (3, .int x3), (5, .int x5)]) hx hb dX6_whose_65 hl (k := 5) rfl rfl (by decide) rfl (fun ls hl => ?_)
        refine lv_goto (tgt := 26) hx hb dX6_whose_68 (by decide) ?_
        exact ih26 x5 (x6 + 1) t_end t_cell t_steps t_highest t_struck refusalsA _ _ hP hD hS _ (lv_sub hl [1, 2, 3, 4, 5, 0] rfl) hR
      intro x5 x6 t_end t_cell t_steps t_highest t_struck refusalsA H locs hP hD hS ls hl hR
      rw [lX6_whose_26] at hR
      refine lv_iload hx hb dX6_whose_26 (lv_at hl 5 rfl) ?_
      refine lv_aload_n hx hb dX6_whose_28 rfl (lv_at hl 0 rfl) ?_
      refine va_get (D := (dC, dI)) (ci := 6) (v := .int t_balls) (C := RX6) (T := TX6) (N := 31) hx hb hts hinX6 hown hK hP 0 rfl rfl 12 (by decide) (hts (.fieldLink RX6 62 "PaperInBinModel" "balls" "I") (by decide +kernel)) (fun _ h9 => h9) rfl dX6_whose_29 ?_
      refine lv_icmp_ge (tgt := 71) hx hb dX6_whose_32 (by decide) (fun c32 => ?_) (fun c32 => ?_)
      · have hR := (if_pos c32).symm.trans hR
        refine lv_iload hx hb dX6_whose_71 (lv_at hl 4 rfl) ?_
        subst hQ
        subst hAe
        exact W.iret (v := x5) hx hb hr (fun t ht hW => ⟨⟨x5, (t_end, t_cell, t_steps, t_highest, t_struck, refusalsA), rfl, Option.some.inj hR, by rw [ht]; exact hP, hD⟩, hS.F ht⟩) hS.2.2 dX6_whose_73
      · have hR := (if_neg c32).symm.trans hR
        refine lv_aload_n hx hb dX6_whose_35 rfl (lv_at hl 0 rfl) ?_
        refine lv_iload hx hb dX6_whose_36 (lv_at hl 5 rfl) ?_
        refine lv_iload_n hx hb dX6_whose_38 rfl (lv_at hl 1 rfl) ?_
        refine lv_iload_n hx hb dX6_whose_39 rfl (lv_at hl 2 rfl) ?_
        refine lv_aload_n hx hb dX6_whose_40 rfl (lv_at hl 0 rfl) ?_
        refine va_get (D := (dC, dI)) (ci := 6) (v := .int t_second) (C := RX6) (T := TX6) (N := 31) hx hb hts hinX6 hown hK hP 0 rfl rfl 9 (by decide) (hts (.fieldLink RX6 149 "PaperInBinModel" "second" "I") (by decide +kernel)) (fun _ h9 => h9) rfl dX6_whose_41 ?_
        obtain ⟨r1, w2, w3, w4, w5, w6, hu7, hR⟩ := b6_s hR
        refine cl_ViT (As := [.int x6, .int x1, .int x2, .int t_second]) (rest := []) (wc := [(a_t, .inr (6, [.int t_hand, .int t_first, .int t_wide, .int t_rim, .int t_fill, .int t_wall, .int t_ceiling, .int t_puff, .int t_period, .int t_second, .int t_score, .int t_thrown, .int t_balls, .ref a_kind, .ref a_size, .ref a_tight, .int t_letters, .ref a_letter, .int t_at, .int t_value, .int t_inRow, .ref a_row, .ref a_refusals, .int t_imaged, .ref a_image, .ref a_ahead, .int t_end, .int t_cell, .int t_steps, .int t_highest, .int t_struck])), (a_size, .inl (cI, 5, .inl sizeA)), (a_tight, .inl (cI, 5, .inl tightA)), (a_kind, .inl (cI, 5, .inl kindA))]) (wr := [(a_refusals, .inl (cI, 7, .inl refusalsA))]) ⟨hx, hb, hml, hown, hts⟩ (kX6_flies l dC dI cI a_t a_kind a_size a_tight a_letter a_row a_refusals a_image a_ahead H.size x6 x1 x2 t_second t_hand t_first t_wide t_rim t_fill t_wall t_ceiling t_puff t_period t_second t_score t_thrown t_balls t_letters t_at t_value t_inRow t_imaged t_end t_cell t_steps t_highest t_struck sizeA tightA kindA (r1, w2, w3, w4, w5, w6) hu7) (cwV 4 hts gX6_whose_X6_flies rfl rfl rfl (by decide +kernel) ⟨Nat.le_of_ble_eq_true rfl, Nat.le_of_ble_eq_true rfl⟩) hK hN hP hD hS hA (va_recv hK hP (ci := 6) (q0 := 0) rfl rfl) [0, 2, 3, 4] [1] rfl rfl rfl rfl rfl (by decide) rfl hl.1 rfl (Nat.le_of_ble_eq_true rfl) dX6_whose_44 (fun H locs hP hD hS => ?_)
        have hP : va_P (dC, dI) vwCl [(a_refusals, .inl (cI, 7, .inl refusalsA)), (a_t, .inr (6, [.int t_hand, .int t_first, .int t_wide, .int t_rim, .int t_fill, .int t_wall, .int t_ceiling, .int t_puff, .int t_period, .int t_second, .int t_score, .int t_thrown, .int t_balls, .ref a_kind, .ref a_size, .ref a_tight, .int t_letters, .ref a_letter, .int t_at, .int t_value, .int t_inRow, .ref a_row, .ref a_refusals, .int t_imaged, .ref a_image, .ref a_ahead, .int w2, .int w3, .int w4, .int w5, .int w6])), (a_size, .inl (cI, 5, .inl sizeA)), (a_tight, .inl (cI, 5, .inl tightA)), (a_kind, .inl (cI, 5, .inl kindA))] H := hP
        have hD : va_D A [(a_refusals, .inl (cI, 7, .inl refusalsA)), (a_t, .inr (6, [.int t_hand, .int t_first, .int t_wide, .int t_rim, .int t_fill, .int t_wall, .int t_ceiling, .int t_puff, .int t_period, .int t_second, .int t_score, .int t_thrown, .int t_balls, .ref a_kind, .ref a_size, .ref a_tight, .int t_letters, .ref a_letter, .int t_at, .int t_value, .int t_inRow, .ref a_row, .ref a_refusals, .int t_imaged, .ref a_image, .ref a_ahead, .int w2, .int w3, .int w4, .int w5, .int w6])), (a_size, .inl (cI, 5, .inl sizeA)), (a_tight, .inl (cI, 5, .inl tightA)), (a_kind, .inl (cI, 5, .inl kindA))] := hD
        refine lv_pop hx hb dX6_whose_47 rfl ?_
        refine lv_aload_n hx hb dX6_whose_48 rfl (lv_at hl 0 rfl) ?_
        refine va_get (D := (dC, dI)) (ci := 6) (v := .int w3) (C := RX6) (T := TX6) (N := 31) hx hb hts hinX6 hown hK hP 1 rfl rfl 27 (by decide) (hts (.fieldLink RX6 131 "PaperInBinModel" "cell" "I") (by decide +kernel)) (fun _ h9 => h9) rfl dX6_whose_49 ?_
        refine lv_iload_n hx hb dX6_whose_52 rfl (lv_at hl 3 rfl) ?_
        refine lv_icmp_ne (tgt := 65) hx hb dX6_whose_53 (by decide) (fun c53 => ?_) (fun c53 => ?_)
        · have hR := (if_neg c53).symm.trans hR
          have hP := hP.sub (ws' := [(a_t, .inr (6, [.int t_hand, .int t_first, .int t_wide, .int t_rim, .int t_fill, .int t_wall, .int t_ceiling, .int t_puff, .int t_period, .int t_second, .int t_score, .int t_thrown, .int t_balls, .ref a_kind, .ref a_size, .ref a_tight, .int t_letters, .ref a_letter, .int t_at, .int t_value, .int t_inRow, .ref a_row, .ref a_refusals, .int t_imaged, .ref a_image, .ref a_ahead, .int w2, .int w3, .int w4, .int w5, .int w6])), (a_refusals, .inl (cI, 7, .inl refusalsA)), (a_size, .inl (cI, 5, .inl sizeA)), (a_tight, .inl (cI, 5, .inl tightA)), (a_kind, .inl (cI, 5, .inl kindA))]) [1, 0, 2, 3, 4] rfl
          have hD := hD.sub (ws' := [(a_t, .inr (6, [.int t_hand, .int t_first, .int t_wide, .int t_rim, .int t_fill, .int t_wall, .int t_ceiling, .int t_puff, .int t_period, .int t_second, .int t_score, .int t_thrown, .int t_balls, .ref a_kind, .ref a_size, .ref a_tight, .int t_letters, .ref a_letter, .int t_at, .int t_value, .int t_inRow, .ref a_row, .ref a_refusals, .int t_imaged, .ref a_image, .ref a_ahead, .int w2, .int w3, .int w4, .int w5, .int w6])), (a_refusals, .inl (cI, 7, .inl refusalsA)), (a_size, .inl (cI, 5, .inl sizeA)), (a_tight, .inl (cI, 5, .inl tightA)), (a_kind, .inl (cI, 5, .inl kindA))]) [1, 0, 2, 3, 4] (by decide) rfl
          exact K65 x5 x6 w2 w3 w4 w5 w6 refusalsA _ _ hP hD hS _ (lv_sub hl [0, 1, 2, 3, 4, 5] rfl) hR
        · have hR := (if_pos c53).symm.trans hR
          refine lv_iload hx hb dX6_whose_56 (lv_at hl 4 rfl) ?_
          refine lv_iconst (v := 1) hx hb dX6_whose_58 (by decide) ?_
          refine lv_iload hx hb dX6_whose_59 (lv_at hl 5 rfl) ?_
          refine lv_ishl hx hb dX6_whose_61 ?_
          refine lv_ior hx hb dX6_whose_62 ?_
          refine lv_istore (lv' := [(5, .int (x5 ||| ((1 : Int32) <<< (x6 &&& 31)))), (0, .ref a_t), (1, .int x1), (2, .int x2), (3, .int x3), (6, .int x6)]) hx hb dX6_whose_63 hl (by decide) rfl (fun ls hl => ?_)
          have hP := hP.sub (ws' := [(a_t, .inr (6, [.int t_hand, .int t_first, .int t_wide, .int t_rim, .int t_fill, .int t_wall, .int t_ceiling, .int t_puff, .int t_period, .int t_second, .int t_score, .int t_thrown, .int t_balls, .ref a_kind, .ref a_size, .ref a_tight, .int t_letters, .ref a_letter, .int t_at, .int t_value, .int t_inRow, .ref a_row, .ref a_refusals, .int t_imaged, .ref a_image, .ref a_ahead, .int w2, .int w3, .int w4, .int w5, .int w6])), (a_refusals, .inl (cI, 7, .inl refusalsA)), (a_size, .inl (cI, 5, .inl sizeA)), (a_tight, .inl (cI, 5, .inl tightA)), (a_kind, .inl (cI, 5, .inl kindA))]) [1, 0, 2, 3, 4] rfl
          have hD := hD.sub (ws' := [(a_t, .inr (6, [.int t_hand, .int t_first, .int t_wide, .int t_rim, .int t_fill, .int t_wall, .int t_ceiling, .int t_puff, .int t_period, .int t_second, .int t_score, .int t_thrown, .int t_balls, .ref a_kind, .ref a_size, .ref a_tight, .int t_letters, .ref a_letter, .int t_at, .int t_value, .int t_inRow, .ref a_row, .ref a_refusals, .int t_imaged, .ref a_image, .ref a_ahead, .int w2, .int w3, .int w4, .int w5, .int w6])), (a_refusals, .inl (cI, 7, .inl refusalsA)), (a_size, .inl (cI, 5, .inl sizeA)), (a_tight, .inl (cI, 5, .inl tightA)), (a_kind, .inl (cI, 5, .inl kindA))]) [1, 0, 2, 3, 4] (by decide) rfl
          exact K65 (x5 ||| ((1 : Int32) <<< (x6 &&& 31))) x6 w2 w3 w4 w5 w6 refusalsA _ _ hP hD hS _ (lv_sub hl [1, 2, 3, 4, 0, 5] rfl) hR
  rw [fX6_whose] at hR
  refine lv_aload_n hx hb dX6_whose_0 rfl (lv_at hl 0 rfl) ?_
  refine lv_iload_n hx hb dX6_whose_1 rfl (lv_at hl 1 rfl) ?_
  refine lv_iload_n hx hb dX6_whose_2 rfl (lv_at hl 2 rfl) ?_
  obtain ⟨r8, hu9, hR⟩ := b1_s hR
  refine cl_ViN (As := [.int x1, .int x2]) (rest := []) (wc := []) (wr := [(a_t, .inr (6, [.int t_hand, .int t_first, .int t_wide, .int t_rim, .int t_fill, .int t_wall, .int t_ceiling, .int t_puff, .int t_period, .int t_second, .int t_score, .int t_thrown, .int t_balls, .ref a_kind, .ref a_size, .ref a_tight, .int t_letters, .ref a_letter, .int t_at, .int t_value, .int t_inRow, .ref a_row, .ref a_refusals, .int t_imaged, .ref a_image, .ref a_ahead, .int t_end, .int t_cell, .int t_steps, .int t_highest, .int t_struck])), (a_refusals, .inl (cI, 7, .inl refusalsA)), (a_size, .inl (cI, 5, .inl sizeA)), (a_tight, .inl (cI, 5, .inl tightA)), (a_kind, .inl (cI, 5, .inl kindA))]) ⟨hx, hb, hml, hown, hts⟩ (kX6_noThrow l dC dI cI a_t s.heap.size x1 x2 r8 hu9) (cwV 2 hts gX6_whose_X6_noThrow rfl rfl rfl (by decide +kernel) ⟨Nat.le_of_ble_eq_true rfl, Nat.le_of_ble_eq_true rfl⟩) hK hN hP hD hS hA (va_recv hK hP (ci := 6) (q0 := 0) rfl rfl) [] [0, 1, 2, 3, 4] rfl rfl rfl rfl rfl (by decide) rfl hl.1 rfl (Nat.le_of_ble_eq_true rfl) dX6_whose_3 (fun H locs hP hD hS => ?_)
  have hP : va_P (dC, dI) vwCl [(a_t, .inr (6, [.int t_hand, .int t_first, .int t_wide, .int t_rim, .int t_fill, .int t_wall, .int t_ceiling, .int t_puff, .int t_period, .int t_second, .int t_score, .int t_thrown, .int t_balls, .ref a_kind, .ref a_size, .ref a_tight, .int t_letters, .ref a_letter, .int t_at, .int t_value, .int t_inRow, .ref a_row, .ref a_refusals, .int t_imaged, .ref a_image, .ref a_ahead, .int t_end, .int t_cell, .int t_steps, .int t_highest, .int t_struck])), (a_refusals, .inl (cI, 7, .inl refusalsA)), (a_size, .inl (cI, 5, .inl sizeA)), (a_tight, .inl (cI, 5, .inl tightA)), (a_kind, .inl (cI, 5, .inl kindA))] H := hP
  have hD : va_D A [(a_t, .inr (6, [.int t_hand, .int t_first, .int t_wide, .int t_rim, .int t_fill, .int t_wall, .int t_ceiling, .int t_puff, .int t_period, .int t_second, .int t_score, .int t_thrown, .int t_balls, .ref a_kind, .ref a_size, .ref a_tight, .int t_letters, .ref a_letter, .int t_at, .int t_value, .int t_inRow, .ref a_row, .ref a_refusals, .int t_imaged, .ref a_image, .ref a_ahead, .int t_end, .int t_cell, .int t_steps, .int t_highest, .int t_struck])), (a_refusals, .inl (cI, 7, .inl refusalsA)), (a_size, .inl (cI, 5, .inl sizeA)), (a_tight, .inl (cI, 5, .inl tightA)), (a_kind, .inl (cI, 5, .inl kindA))] := hD
  refine lv_istore (lv' := [(4, .int r8), (0, .ref a_t), (1, .int x1), (2, .int x2), (3, .int x3)]) hx hb dX6_whose_6 hl (by decide) rfl (fun ls hl => ?_)
  refine lv_iload hx hb dX6_whose_8 (lv_at hl 0 rfl) ?_
  refine lv_if_ge (tgt := 20) hx hb dX6_whose_10 (by decide) (fun c10 => ?_) (fun c10 => ?_)
  · have hR := (if_pos c10).symm.trans hR
    refine lv_iconst (v := 0) hx hb dX6_whose_20 (by decide) ?_
    refine lv_istore (lv' := [(5, .int 0), (4, .int r8), (0, .ref a_t), (1, .int x1), (2, .int x2), (3, .int x3)]) hx hb dX6_whose_21 hl (by decide) rfl (fun ls hl => ?_)
    refine lv_iconst (v := 0) hx hb dX6_whose_23 (by decide) ?_
    refine lv_istore (lv' := [(6, .int 0), (5, .int 0), (4, .int r8), (0, .ref a_t), (1, .int x1), (2, .int x2), (3, .int x3)]) hx hb dX6_whose_24 hl (by decide) rfl (fun ls hl => ?_)
    exact K26 (100) 0 0 t_end t_cell t_steps t_highest t_struck refusalsA _ _ hP hD hS _ (lv_sub hl [3, 4, 5, 6, 1, 0] rfl) hR
  · have hR := (if_neg c10).symm.trans hR
    refine lv_aload_n hx hb dX6_whose_13 rfl (lv_at hl 1 rfl) ?_
    refine lv_iload hx hb dX6_whose_14 (lv_at hl 0 rfl) ?_
    obtain ⟨r10, w11, hu12, hR⟩ := b2_s hR
    refine cl_ViT (As := [.int r8]) (rest := []) (wc := [(a_t, .inr (6, [.int t_hand, .int t_first, .int t_wide, .int t_rim, .int t_fill, .int t_wall, .int t_ceiling, .int t_puff, .int t_period, .int t_second, .int t_score, .int t_thrown, .int t_balls, .ref a_kind, .ref a_size, .ref a_tight, .int t_letters, .ref a_letter, .int t_at, .int t_value, .int t_inRow, .ref a_row, .ref a_refusals, .int t_imaged, .ref a_image, .ref a_ahead, .int t_end, .int t_cell, .int t_steps, .int t_highest, .int t_struck])), (a_refusals, .inl (cI, 7, .inl refusalsA))]) (wr := [(a_size, .inl (cI, 5, .inl sizeA)), (a_tight, .inl (cI, 5, .inl tightA)), (a_kind, .inl (cI, 5, .inl kindA))]) ⟨hx, hb, hml, hown, hts⟩ (kX6_no l dC dI cI a_t a_kind a_size a_tight a_letter a_row a_refusals a_image a_ahead H.size r8 t_hand t_first t_wide t_rim t_fill t_wall t_ceiling t_puff t_period t_second t_score t_thrown t_balls t_letters t_at t_value t_inRow t_imaged t_end t_cell t_steps t_highest t_struck refusalsA (r10, w11) hu12) (cwV 1 hts gX6_whose_X6_no rfl rfl rfl (by decide +kernel) ⟨Nat.le_of_ble_eq_true rfl, Nat.le_of_ble_eq_true rfl⟩) hK hN hP hD hS hA (va_recv hK hP (ci := 6) (q0 := 0) rfl rfl) [0, 1] [2, 3, 4] rfl rfl rfl rfl rfl (by decide) rfl hl.1 rfl (Nat.le_of_ble_eq_true rfl) dX6_whose_16 (fun H locs hP hD hS => ?_)
    have hP : va_P (dC, dI) vwCl [(a_size, .inl (cI, 5, .inl sizeA)), (a_tight, .inl (cI, 5, .inl tightA)), (a_kind, .inl (cI, 5, .inl kindA)), (a_t, .inr (6, [.int t_hand, .int t_first, .int t_wide, .int t_rim, .int t_fill, .int t_wall, .int t_ceiling, .int t_puff, .int t_period, .int t_second, .int t_score, .int t_thrown, .int t_balls, .ref a_kind, .ref a_size, .ref a_tight, .int t_letters, .ref a_letter, .int t_at, .int t_value, .int t_inRow, .ref a_row, .ref a_refusals, .int t_imaged, .ref a_image, .ref a_ahead, .int t_end, .int t_cell, .int t_steps, .int t_highest, .int t_struck])), (a_refusals, .inl (cI, 7, .inl w11))] H := hP
    have hD : va_D A [(a_size, .inl (cI, 5, .inl sizeA)), (a_tight, .inl (cI, 5, .inl tightA)), (a_kind, .inl (cI, 5, .inl kindA)), (a_t, .inr (6, [.int t_hand, .int t_first, .int t_wide, .int t_rim, .int t_fill, .int t_wall, .int t_ceiling, .int t_puff, .int t_period, .int t_second, .int t_score, .int t_thrown, .int t_balls, .ref a_kind, .ref a_size, .ref a_tight, .int t_letters, .ref a_letter, .int t_at, .int t_value, .int t_inRow, .ref a_row, .ref a_refusals, .int t_imaged, .ref a_image, .ref a_ahead, .int t_end, .int t_cell, .int t_steps, .int t_highest, .int t_struck])), (a_refusals, .inl (cI, 7, .inl w11))] := hD
    have hP := hP.sub (ws' := [(a_t, .inr (6, [.int t_hand, .int t_first, .int t_wide, .int t_rim, .int t_fill, .int t_wall, .int t_ceiling, .int t_puff, .int t_period, .int t_second, .int t_score, .int t_thrown, .int t_balls, .ref a_kind, .ref a_size, .ref a_tight, .int t_letters, .ref a_letter, .int t_at, .int t_value, .int t_inRow, .ref a_row, .ref a_refusals, .int t_imaged, .ref a_image, .ref a_ahead, .int t_end, .int t_cell, .int t_steps, .int t_highest, .int t_struck])), (a_refusals, .inl (cI, 7, .inl w11)), (a_size, .inl (cI, 5, .inl sizeA)), (a_tight, .inl (cI, 5, .inl tightA)), (a_kind, .inl (cI, 5, .inl kindA))]) [3, 4, 0, 1, 2] rfl
    have hD := hD.sub (ws' := [(a_t, .inr (6, [.int t_hand, .int t_first, .int t_wide, .int t_rim, .int t_fill, .int t_wall, .int t_ceiling, .int t_puff, .int t_period, .int t_second, .int t_score, .int t_thrown, .int t_balls, .ref a_kind, .ref a_size, .ref a_tight, .int t_letters, .ref a_letter, .int t_at, .int t_value, .int t_inRow, .ref a_row, .ref a_refusals, .int t_imaged, .ref a_image, .ref a_ahead, .int t_end, .int t_cell, .int t_steps, .int t_highest, .int t_struck])), (a_refusals, .inl (cI, 7, .inl w11)), (a_size, .inl (cI, 5, .inl sizeA)), (a_tight, .inl (cI, 5, .inl tightA)), (a_kind, .inl (cI, 5, .inl kindA))]) [3, 4, 0, 1, 2] (by decide) rfl
    subst hQ
    subst hAe
    exact W.iret (v := r10) hx hb hr (fun t ht hW => ⟨⟨r10, (t_end, t_cell, t_steps, t_highest, t_struck, w11), rfl, Option.some.inj hR, by rw [ht]; exact hP, hD⟩, hS.F ht⟩) hS.2.2 dX6_whose_19
