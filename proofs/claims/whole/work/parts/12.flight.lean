def jX0_strikeCeilingAndWall_92 (t_cell : Int32) (t_struck : Int32) (t_height : Int32) (t_pace : Int32) (t_rise : Int32)  : Option (Int32 × Int32 × Int32 × Int32 × Int32) :=
  if 0 ≤ t_cell then (
   some (t_cell, t_struck, t_height, t_pace, t_rise))
  else (
  some (0, t_struck, t_height, 0, t_rise))
def jX0_strikeCeilingAndWall_45 (p1_wall : Int32) (t_cell : Int32) (t_struck : Int32) (t_height : Int32) (t_pace : Int32) (t_rise : Int32)  : Option (Int32 × Int32 × Int32 × Int32 × Int32) :=
  if t_cell ≤ p1_wall then (
   jX0_strikeCeilingAndWall_92 t_cell t_struck t_height t_pace t_rise)
  else (
  jX0_strikeCeilingAndWall_92 ((2 * p1_wall) - t_cell) (t_struck ||| 2) t_height ((-t_pace) / 2) t_rise)
def fX0_strikeCeilingAndWall (t_cell : Int32) (t_struck : Int32) (t_height : Int32) (t_pace : Int32) (t_rise : Int32) (p1_wall : Int32) (p1_ceiling : Int32) : Option (Int32 × Int32 × Int32 × Int32 × Int32) :=
  if t_height ≤ p1_ceiling then (
   jX0_strikeCeilingAndWall_45 p1_wall t_cell t_struck t_height t_pace t_rise)
  else (
  jX0_strikeCeilingAndWall_45 p1_wall t_cell (t_struck ||| 1) ((2 * p1_ceiling) - t_height) t_pace (-t_rise))
set_option maxHeartbeats 4000000 in
set_option maxRecDepth 100000 in
theorem kX0_strikeCeilingAndWall (l : Launch) (dC : Nat → ClassId) (dI : Nat → Nat → Nat) (cI : ClassId) (a_t a_p1 a_p1_kinds a_p1_sizes a_p1_tights : Nat) (sz : Nat) (t_end : Int32) (t_cell : Int32) (t_steps : Int32) (t_greatest : Int32) (t_struck : Int32) (t_height : Int32) (t_pace : Int32) (t_rise : Int32) (p1_hand : Int32) (p1_at : Int32) (p1_wide : Int32) (p1_rim : Int32) (p1_fill : Int32) (p1_wall : Int32) (p1_ceiling : Int32) (p1_puff : Int32) (p1_period : Int32) (p1_second : Int32) (p1_score : Int32) (p1_thrown : Int32) (p1_ballCount : Int32) (R : Int32 × Int32 × Int32 × Int32 × Int32) (hR : fX0_strikeCeilingAndWall t_cell t_struck t_height t_pace t_rise p1_wall p1_ceiling = some R) : Met l yX0_strikeCeilingAndWall wsX0_strikeCeilingAndWall ({ frames := 0, cells := 0, slots := 0, locals := 0 } : Room) (va_Pc [.ref a_t, .ref a_p1] (Wp (dC, dI) [(cI, .int)] [(a_t, .inr (0, [.int t_end, .int t_cell, .int t_steps, .int t_greatest, .int t_struck, .int t_height, .int t_pace, .int t_rise])), (a_p1, .inr (3, [.int p1_hand, .int p1_at, .int p1_wide, .int p1_rim, .int p1_fill, .int p1_wall, .int p1_ceiling, .int p1_puff, .int p1_period, .int p1_second, .int p1_score, .int p1_thrown, .int p1_ballCount, .ref a_p1_kinds, .ref a_p1_sizes, .ref a_p1_tights]))] sz)) (va_Qv (fun (u : Int32 × Int32 × Int32 × Int32 × Int32) => u = R) (Wq (dC, dI) [(a_t, .inr (0, [.int t_end, .int t_cell, .int t_steps, .int t_greatest, .int t_struck, .int t_height, .int t_pace, .int t_rise])), (a_p1, .inr (3, [.int p1_hand, .int p1_at, .int p1_wide, .int p1_rim, .int p1_fill, .int p1_wall, .int p1_ceiling, .int p1_puff, .int p1_period, .int p1_second, .int p1_score, .int p1_thrown, .int p1_ballCount, .ref a_p1_kinds, .ref a_p1_sizes, .ref a_p1_tights]))] sz (fun (u : Int32 × Int32 × Int32 × Int32 × Int32) => ([(a_t, .inr (0, [.int t_end, .int u.1, .int t_steps, .int t_greatest, .int u.2.1, .int u.2.2.1, .int u.2.2.2.1, .int u.2.2.2.2])), (a_p1, .inr (3, [.int p1_hand, .int p1_at, .int p1_wide, .int p1_rim, .int p1_fill, .int p1_wall, .int p1_ceiling, .int p1_puff, .int p1_period, .int p1_second, .int p1_score, .int p1_thrown, .int p1_ballCount, .ref a_p1_kinds, .ref a_p1_sizes, .ref a_p1_tights]))] : va_W))) (va_A [(a_t, .inr (0, [.int t_end, .int t_cell, .int t_steps, .int t_greatest, .int t_struck, .int t_height, .int t_pace, .int t_rise])), (a_p1, .inr (3, [.int p1_hand, .int p1_at, .int p1_wide, .int p1_rim, .int p1_fill, .int p1_wall, .int p1_ceiling, .int p1_puff, .int p1_period, .int p1_second, .int p1_score, .int p1_thrown, .int p1_ballCount, .ref a_p1_kinds, .ref a_p1_sizes, .ref a_p1_tights]))] sz)) 0 0 (va_A [(a_t, .inr (0, [.int t_end, .int t_cell, .int t_steps, .int t_greatest, .int t_struck, .int t_height, .int t_pace, .int t_rise])), (a_p1, .inr (3, [.int p1_hand, .int p1_at, .int p1_wide, .int p1_rim, .int p1_fill, .int p1_wall, .int p1_ceiling, .int p1_puff, .int p1_period, .int p1_second, .int p1_score, .int p1_thrown, .int p1_ballCount, .ref a_p1_kinds, .ref a_p1_sizes, .ref a_p1_tights]))] sz) := by
  refine Met.ofW (cc := cX0_strikeCeilingAndWall) (maxL := 2) (ret := none) (by decide) rfl ?_
  intro p e s m args below meth c s₁ B hml hv
  obtain ⟨hargs, hsz, hP, hK, hD0, hN⟩ := hv
  have hx := B.exec
  have hb := B.bytes
  have hr := B.returns
  have hts := atoms_spec (ws := wsX0_strikeCeilingAndWall) B.pre
  have hown : s.vm.findClass RX0 = some m.cls := findClass_of_methodNamed B.named
  have hlocks := B.notSynchronized
  subst hsz
  have hD := hD0.self (sz := s.heap.size)
  obtain ⟨A, hAe⟩ : ∃ A, A = va_A [(a_t, .inr (0, [.int t_end, .int t_cell, .int t_steps, .int t_greatest, .int t_struck, .int t_height, .int t_pace, .int t_rise])), (a_p1, .inr (3, [.int p1_hand, .int p1_at, .int p1_wide, .int p1_rim, .int p1_fill, .int p1_wall, .int p1_ceiling, .int p1_puff, .int p1_period, .int p1_second, .int p1_score, .int p1_thrown, .int p1_ballCount, .ref a_p1_kinds, .ref a_p1_sizes, .ref a_p1_tights]))] s.heap.size := ⟨_, rfl⟩
  rw [← hAe] at hD
  have hA : ∀ q : Nat, s.heap.size ≤ q → A q := fun q h => by rw [hAe]; exact Or.inr h
  have hS : va_S A s.heap s.heap [] := va_S.rf
  have hl := lv_entry ([.ref a_t, .ref a_p1]) (n := 2) (Nat.le_of_ble_eq_true rfl)
  rw [e_of hargs, lg_entry_eq]
  generalize (lg_sl ([.ref a_t, .ref a_p1]) ++ List.replicate (2 - (lg_sl ([.ref a_t, .ref a_p1])).length) Slot.unset).toArray = ls at hl ⊢
  have hl : lv_has ls 2 [(0, .ref a_t), (1, .ref a_p1)] := hl
  have hinX0 : ∀ w ∈ wsX00, w ∈ wsX0_strikeCeilingAndWall := by decide +kernel
  have hinX3 : ∀ w ∈ wsX30, w ∈ wsX0_strikeCeilingAndWall := by decide +kernel
  refine w_q ({ frames := 0, cells := 0, slots := 0, locals := 0 } : Room) (fun Q0 hQ => ?_)
  have K92 : ∀ (t_cell : Int32) (t_struck : Int32) (t_height : Int32) (t_pace : Int32) (t_rise : Int32) (H : Heap) (locs : List Loc), va_P (dC, dI) vwCl [(a_t, .inr (0, [.int t_end, .int t_cell, .int t_steps, .int t_greatest, .int t_struck, .int t_height, .int t_pace, .int t_rise])), (a_p1, .inr (3, [.int p1_hand, .int p1_at, .int p1_wide, .int p1_rim, .int p1_fill, .int p1_wall, .int p1_ceiling, .int p1_puff, .int p1_period, .int p1_second, .int p1_score, .int p1_thrown, .int p1_ballCount, .ref a_p1_kinds, .ref a_p1_sizes, .ref a_p1_tights]))] H → va_D A [(a_t, .inr (0, [.int t_end, .int t_cell, .int t_steps, .int t_greatest, .int t_struck, .int t_height, .int t_pace, .int t_rise])), (a_p1, .inr (3, [.int p1_hand, .int p1_at, .int p1_wide, .int p1_rim, .int p1_fill, .int p1_wall, .int p1_ceiling, .int p1_puff, .int p1_period, .int p1_second, .int p1_score, .int p1_thrown, .int p1_ballCount, .ref a_p1_kinds, .ref a_p1_sizes, .ref a_p1_tights]))] → va_S A s.heap H locs → ∀ (ls : Array Slot), lv_has ls 2 [(0, .ref a_t)] → jX0_strikeCeilingAndWall_92 t_cell t_struck t_height t_pace t_rise = some R → W p l e ({ frames := 0, cells := 0, slots := 0, locals := 0 } : Room) s m args below meth c H locs 0 0 Q0 (F0 m 92 ls []) := by
    intro t_cell t_struck t_height t_pace t_rise H locs hP hD hS ls hl hR
    rw [jX0_strikeCeilingAndWall_92] at hR
    refine lv_aload_n hx hb dX0_strikeCeilingAndWall_92 rfl (lv_at hl 0 rfl) ?_
    refine va_get (D := (dC, dI)) (ci := 0) (v := .int t_cell) (C := RX0) (T := TX0) (N := 8) hx hb hts hinX0 hown hK hP 0 rfl rfl 1 (by decide) (hts (.fieldLink RX0 15 "PaperInBin$Flight" "cell" "I") (by decide +kernel)) (fun _ h9 => h9) rfl dX0_strikeCeilingAndWall_93 ?_
    refine lv_if_ge (tgt := 109) hx hb dX0_strikeCeilingAndWall_96 (by decide) (fun c96 => ?_) (fun c96 => ?_)
    · have hR := (if_pos c96).symm.trans hR
      subst hQ
      subst hAe
      exact W.vret hx hb hr (fun t ht hW => ⟨⟨(t_cell, t_struck, t_height, t_pace, t_rise), rfl, Option.some.inj hR, by rw [ht]; exact hP, hD⟩, hS.F ht⟩) hS.2.2 dX0_strikeCeilingAndWall_109
    · have hR := (if_neg c96).symm.trans hR
      refine lv_aload_n hx hb dX0_strikeCeilingAndWall_99 rfl (lv_at hl 0 rfl) ?_
      refine lv_iconst (v := 0) hx hb dX0_strikeCeilingAndWall_100 (by decide) ?_
      refine va_put (D := (dC, dI)) (ci := 0) (v := .int 0) (ty := .int) (C := RX0) (T := TX0) (N := 8) hx hb hts hinX0 tyX0 tyX0_ok nmX0 hown hK hP hD hS 0 rfl rfl 1 (by decide) (hts (.fieldLink RX0 15 "PaperInBin$Flight" "cell" "I") (by decide +kernel)) (fun _ h9 => h9) rfl (tyX0_ok 1 (by decide)) rfl rfl (Nat.le_of_ble_eq_true rfl) dX0_strikeCeilingAndWall_101 (fun H locs hP hD hS => ?_)
      have hP : va_P (dC, dI) vwCl [(a_t, .inr (0, [.int t_end, .int 0, .int t_steps, .int t_greatest, .int t_struck, .int t_height, .int t_pace, .int t_rise])), (a_p1, .inr (3, [.int p1_hand, .int p1_at, .int p1_wide, .int p1_rim, .int p1_fill, .int p1_wall, .int p1_ceiling, .int p1_puff, .int p1_period, .int p1_second, .int p1_score, .int p1_thrown, .int p1_ballCount, .ref a_p1_kinds, .ref a_p1_sizes, .ref a_p1_tights]))] H := hP
      have hD : va_D A [(a_t, .inr (0, [.int t_end, .int 0, .int t_steps, .int t_greatest, .int t_struck, .int t_height, .int t_pace, .int t_rise])), (a_p1, .inr (3, [.int p1_hand, .int p1_at, .int p1_wide, .int p1_rim, .int p1_fill, .int p1_wall, .int p1_ceiling, .int p1_puff, .int p1_period, .int p1_second, .int p1_score, .int p1_thrown, .int p1_ballCount, .ref a_p1_kinds, .ref a_p1_sizes, .ref a_p1_tights]))] := hD
      refine lv_aload_n hx hb dX0_strikeCeilingAndWall_104 rfl (lv_at hl 0 rfl) ?_
      refine lv_iconst (v := 0) hx hb dX0_strikeCeilingAndWall_105 (by decide) ?_
      refine va_put (D := (dC, dI)) (ci := 0) (v := .int 0) (ty := .int) (C := RX0) (T := TX0) (N := 8) hx hb hts hinX0 tyX0 tyX0_ok nmX0 hown hK hP hD hS 0 rfl rfl 6 (by decide) (hts (.fieldLink RX0 35 "PaperInBin$Flight" "pace" "I") (by decide +kernel)) (fun _ h9 => h9) rfl (tyX0_ok 6 (by decide)) rfl rfl (Nat.le_of_ble_eq_true rfl) dX0_strikeCeilingAndWall_106 (fun H locs hP hD hS => ?_)
      have hP : va_P (dC, dI) vwCl [(a_t, .inr (0, [.int t_end, .int 0, .int t_steps, .int t_greatest, .int t_struck, .int t_height, .int 0, .int t_rise])), (a_p1, .inr (3, [.int p1_hand, .int p1_at, .int p1_wide, .int p1_rim, .int p1_fill, .int p1_wall, .int p1_ceiling, .int p1_puff, .int p1_period, .int p1_second, .int p1_score, .int p1_thrown, .int p1_ballCount, .ref a_p1_kinds, .ref a_p1_sizes, .ref a_p1_tights]))] H := hP
      have hD : va_D A [(a_t, .inr (0, [.int t_end, .int 0, .int t_steps, .int t_greatest, .int t_struck, .int t_height, .int 0, .int t_rise])), (a_p1, .inr (3, [.int p1_hand, .int p1_at, .int p1_wide, .int p1_rim, .int p1_fill, .int p1_wall, .int p1_ceiling, .int p1_puff, .int p1_period, .int p1_second, .int p1_score, .int p1_thrown, .int p1_ballCount, .ref a_p1_kinds, .ref a_p1_sizes, .ref a_p1_tights]))] := hD
      subst hQ
      subst hAe
      exact W.vret hx hb hr (fun t ht hW => ⟨⟨(0, t_struck, t_height, 0, t_rise), rfl, Option.some.inj hR, by rw [ht]; exact hP, hD⟩, hS.F ht⟩) hS.2.2 dX0_strikeCeilingAndWall_109
  have K45 : ∀ (t_cell : Int32) (t_struck : Int32) (t_height : Int32) (t_pace : Int32) (t_rise : Int32) (H : Heap) (locs : List Loc), va_P (dC, dI) vwCl [(a_t, .inr (0, [.int t_end, .int t_cell, .int t_steps, .int t_greatest, .int t_struck, .int t_height, .int t_pace, .int t_rise])), (a_p1, .inr (3, [.int p1_hand, .int p1_at, .int p1_wide, .int p1_rim, .int p1_fill, .int p1_wall, .int p1_ceiling, .int p1_puff, .int p1_period, .int p1_second, .int p1_score, .int p1_thrown, .int p1_ballCount, .ref a_p1_kinds, .ref a_p1_sizes, .ref a_p1_tights]))] H → va_D A [(a_t, .inr (0, [.int t_end, .int t_cell, .int t_steps, .int t_greatest, .int t_struck, .int t_height, .int t_pace, .int t_rise])), (a_p1, .inr (3, [.int p1_hand, .int p1_at, .int p1_wide, .int p1_rim, .int p1_fill, .int p1_wall, .int p1_ceiling, .int p1_puff, .int p1_period, .int p1_second, .int p1_score, .int p1_thrown, .int p1_ballCount, .ref a_p1_kinds, .ref a_p1_sizes, .ref a_p1_tights]))] → va_S A s.heap H locs → ∀ (ls : Array Slot), lv_has ls 2 [(0, .ref a_t), (1, .ref a_p1)] → jX0_strikeCeilingAndWall_45 p1_wall t_cell t_struck t_height t_pace t_rise = some R → W p l e ({ frames := 0, cells := 0, slots := 0, locals := 0 } : Room) s m args below meth c H locs 0 0 Q0 (F0 m 45 ls []) := by
    intro t_cell t_struck t_height t_pace t_rise H locs hP hD hS ls hl hR
    rw [jX0_strikeCeilingAndWall_45] at hR
    refine lv_aload_n hx hb dX0_strikeCeilingAndWall_45 rfl (lv_at hl 0 rfl) ?_
    refine va_get (D := (dC, dI)) (ci := 0) (v := .int t_cell) (C := RX0) (T := TX0) (N := 8) hx hb hts hinX0 hown hK hP 0 rfl rfl 1 (by decide) (hts (.fieldLink RX0 15 "PaperInBin$Flight" "cell" "I") (by decide +kernel)) (fun _ h9 => h9) rfl dX0_strikeCeilingAndWall_46 ?_
    refine lv_aload_n hx hb dX0_strikeCeilingAndWall_49 rfl (lv_at hl 1 rfl) ?_
    refine va_getN (D := (dC, dI)) (ci := 3) (v := .int p1_wall) (C := RX3) (T := TX3) (N := 16) hx hb hts hinX3 hown hK hP 1 rfl rfl 5 (by decide) ((nF_Flight_86 hN).use rfl) (fun _ h9 => h9) rfl dX0_strikeCeilingAndWall_50 ?_
    refine lv_icmp_le (tgt := 92) hx hb dX0_strikeCeilingAndWall_53 (by decide) (fun c53 => ?_) (fun c53 => ?_)
    · have hR := (if_pos c53).symm.trans hR
      exact K92 t_cell t_struck t_height t_pace t_rise _ _ hP hD hS _ (lv_sub hl [0] rfl) hR
    · have hR := (if_neg c53).symm.trans hR
      refine lv_aload_n hx hb dX0_strikeCeilingAndWall_56 rfl (lv_at hl 0 rfl) ?_
      refine lv_iconst (v := 2) hx hb dX0_strikeCeilingAndWall_57 (by decide) ?_
      refine lv_aload_n hx hb dX0_strikeCeilingAndWall_58 rfl (lv_at hl 1 rfl) ?_
      refine va_getN (D := (dC, dI)) (ci := 3) (v := .int p1_wall) (C := RX3) (T := TX3) (N := 16) hx hb hts hinX3 hown hK hP 1 rfl rfl 5 (by decide) ((nF_Flight_86 hN).use rfl) (fun _ h9 => h9) rfl dX0_strikeCeilingAndWall_59 ?_
      refine lv_imul hx hb dX0_strikeCeilingAndWall_62 ?_
      refine lv_aload_n hx hb dX0_strikeCeilingAndWall_63 rfl (lv_at hl 0 rfl) ?_
      refine va_get (D := (dC, dI)) (ci := 0) (v := .int t_cell) (C := RX0) (T := TX0) (N := 8) hx hb hts hinX0 hown hK hP 0 rfl rfl 1 (by decide) (hts (.fieldLink RX0 15 "PaperInBin$Flight" "cell" "I") (by decide +kernel)) (fun _ h9 => h9) rfl dX0_strikeCeilingAndWall_64 ?_
      refine lv_isub hx hb dX0_strikeCeilingAndWall_67 ?_
      refine va_put (D := (dC, dI)) (ci := 0) (v := .int ((2 * p1_wall) - t_cell)) (ty := .int) (C := RX0) (T := TX0) (N := 8) hx hb hts hinX0 tyX0 tyX0_ok nmX0 hown hK hP hD hS 0 rfl rfl 1 (by decide) (hts (.fieldLink RX0 15 "PaperInBin$Flight" "cell" "I") (by decide +kernel)) (fun _ h9 => h9) rfl (tyX0_ok 1 (by decide)) rfl rfl (Nat.le_of_ble_eq_true rfl) dX0_strikeCeilingAndWall_68 (fun H locs hP hD hS => ?_)
      have hP : va_P (dC, dI) vwCl [(a_t, .inr (0, [.int t_end, .int ((2 * p1_wall) - t_cell), .int t_steps, .int t_greatest, .int t_struck, .int t_height, .int t_pace, .int t_rise])), (a_p1, .inr (3, [.int p1_hand, .int p1_at, .int p1_wide, .int p1_rim, .int p1_fill, .int p1_wall, .int p1_ceiling, .int p1_puff, .int p1_period, .int p1_second, .int p1_score, .int p1_thrown, .int p1_ballCount, .ref a_p1_kinds, .ref a_p1_sizes, .ref a_p1_tights]))] H := hP
      have hD : va_D A [(a_t, .inr (0, [.int t_end, .int ((2 * p1_wall) - t_cell), .int t_steps, .int t_greatest, .int t_struck, .int t_height, .int t_pace, .int t_rise])), (a_p1, .inr (3, [.int p1_hand, .int p1_at, .int p1_wide, .int p1_rim, .int p1_fill, .int p1_wall, .int p1_ceiling, .int p1_puff, .int p1_period, .int p1_second, .int p1_score, .int p1_thrown, .int p1_ballCount, .ref a_p1_kinds, .ref a_p1_sizes, .ref a_p1_tights]))] := hD
      refine lv_aload_n hx hb dX0_strikeCeilingAndWall_71 rfl (lv_at hl 0 rfl) ?_
      refine lv_aload_n hx hb dX0_strikeCeilingAndWall_72 rfl (lv_at hl 0 rfl) ?_
      refine va_get (D := (dC, dI)) (ci := 0) (v := .int t_pace) (C := RX0) (T := TX0) (N := 8) hx hb hts hinX0 hown hK hP 0 rfl rfl 6 (by decide) (hts (.fieldLink RX0 35 "PaperInBin$Flight" "pace" "I") (by decide +kernel)) (fun _ h9 => h9) rfl dX0_strikeCeilingAndWall_73 ?_
      refine lv_ineg hx hb dX0_strikeCeilingAndWall_76 ?_
      refine lv_iconst (v := 2) hx hb dX0_strikeCeilingAndWall_77 (by decide) ?_
      refine lv_idiv hx hb dX0_strikeCeilingAndWall_78 (by decide) ?_
      refine va_put (D := (dC, dI)) (ci := 0) (v := .int ((-t_pace) / 2)) (ty := .int) (C := RX0) (T := TX0) (N := 8) hx hb hts hinX0 tyX0 tyX0_ok nmX0 hown hK hP hD hS 0 rfl rfl 6 (by decide) (hts (.fieldLink RX0 35 "PaperInBin$Flight" "pace" "I") (by decide +kernel)) (fun _ h9 => h9) rfl (tyX0_ok 6 (by decide)) rfl rfl (Nat.le_of_ble_eq_true rfl) dX0_strikeCeilingAndWall_79 (fun H locs hP hD hS => ?_)
      have hP : va_P (dC, dI) vwCl [(a_t, .inr (0, [.int t_end, .int ((2 * p1_wall) - t_cell), .int t_steps, .int t_greatest, .int t_struck, .int t_height, .int ((-t_pace) / 2), .int t_rise])), (a_p1, .inr (3, [.int p1_hand, .int p1_at, .int p1_wide, .int p1_rim, .int p1_fill, .int p1_wall, .int p1_ceiling, .int p1_puff, .int p1_period, .int p1_second, .int p1_score, .int p1_thrown, .int p1_ballCount, .ref a_p1_kinds, .ref a_p1_sizes, .ref a_p1_tights]))] H := hP
      have hD : va_D A [(a_t, .inr (0, [.int t_end, .int ((2 * p1_wall) - t_cell), .int t_steps, .int t_greatest, .int t_struck, .int t_height, .int ((-t_pace) / 2), .int t_rise])), (a_p1, .inr (3, [.int p1_hand, .int p1_at, .int p1_wide, .int p1_rim, .int p1_fill, .int p1_wall, .int p1_ceiling, .int p1_puff, .int p1_period, .int p1_second, .int p1_score, .int p1_thrown, .int p1_ballCount, .ref a_p1_kinds, .ref a_p1_sizes, .ref a_p1_tights]))] := hD
      refine lv_aload_n hx hb dX0_strikeCeilingAndWall_82 rfl (lv_at hl 0 rfl) ?_
      refine lv_dup hx hb dX0_strikeCeilingAndWall_83 rfl ?_
      refine va_get (D := (dC, dI)) (ci := 0) (v := .int t_struck) (C := RX0) (T := TX0) (N := 8) hx hb hts hinX0 hown hK hP 0 rfl rfl 4 (by decide) (hts (.fieldLink RX0 32 "PaperInBin$Flight" "struck" "I") (by decide +kernel)) (fun _ h9 => h9) rfl dX0_strikeCeilingAndWall_84 ?_
      refine lv_iconst (v := 2) hx hb dX0_strikeCeilingAndWall_87 (by decide) ?_
      refine lv_ior hx hb dX0_strikeCeilingAndWall_88 ?_
      refine va_put (D := (dC, dI)) (ci := 0) (v := .int (t_struck ||| 2)) (ty := .int) (C := RX0) (T := TX0) (N := 8) hx hb hts hinX0 tyX0 tyX0_ok nmX0 hown hK hP hD hS 0 rfl rfl 4 (by decide) (hts (.fieldLink RX0 32 "PaperInBin$Flight" "struck" "I") (by decide +kernel)) (fun _ h9 => h9) rfl (tyX0_ok 4 (by decide)) rfl rfl (Nat.le_of_ble_eq_true rfl) dX0_strikeCeilingAndWall_89 (fun H locs hP hD hS => ?_)
      have hP : va_P (dC, dI) vwCl [(a_t, .inr (0, [.int t_end, .int ((2 * p1_wall) - t_cell), .int t_steps, .int t_greatest, .int (t_struck ||| 2), .int t_height, .int ((-t_pace) / 2), .int t_rise])), (a_p1, .inr (3, [.int p1_hand, .int p1_at, .int p1_wide, .int p1_rim, .int p1_fill, .int p1_wall, .int p1_ceiling, .int p1_puff, .int p1_period, .int p1_second, .int p1_score, .int p1_thrown, .int p1_ballCount, .ref a_p1_kinds, .ref a_p1_sizes, .ref a_p1_tights]))] H := hP
      have hD : va_D A [(a_t, .inr (0, [.int t_end, .int ((2 * p1_wall) - t_cell), .int t_steps, .int t_greatest, .int (t_struck ||| 2), .int t_height, .int ((-t_pace) / 2), .int t_rise])), (a_p1, .inr (3, [.int p1_hand, .int p1_at, .int p1_wide, .int p1_rim, .int p1_fill, .int p1_wall, .int p1_ceiling, .int p1_puff, .int p1_period, .int p1_second, .int p1_score, .int p1_thrown, .int p1_ballCount, .ref a_p1_kinds, .ref a_p1_sizes, .ref a_p1_tights]))] := hD
      exact K92 ((2 * p1_wall) - t_cell) (t_struck ||| 2) t_height ((-t_pace) / 2) t_rise _ _ hP hD hS _ (lv_sub hl [0] rfl) hR
  rw [fX0_strikeCeilingAndWall] at hR
  refine lv_aload_n hx hb dX0_strikeCeilingAndWall_0 rfl (lv_at hl 0 rfl) ?_
  refine va_get (D := (dC, dI)) (ci := 0) (v := .int t_height) (C := RX0) (T := TX0) (N := 8) hx hb hts hinX0 hown hK hP 0 rfl rfl 5 (by decide) (hts (.fieldLink RX0 26 "PaperInBin$Flight" "height" "I") (by decide +kernel)) (fun _ h9 => h9) rfl dX0_strikeCeilingAndWall_1 ?_
  refine lv_aload_n hx hb dX0_strikeCeilingAndWall_4 rfl (lv_at hl 1 rfl) ?_
  refine va_getN (D := (dC, dI)) (ci := 3) (v := .int p1_ceiling) (C := RX3) (T := TX3) (N := 16) hx hb hts hinX3 hown hK hP 1 rfl rfl 6 (by decide) ((nF_Flight_83 hN).use rfl) (fun _ h9 => h9) rfl dX0_strikeCeilingAndWall_5 ?_
  refine lv_icmp_le (tgt := 45) hx hb dX0_strikeCeilingAndWall_8 (by decide) (fun c8 => ?_) (fun c8 => ?_)
  · have hR := (if_pos c8).symm.trans hR
    exact K45 t_cell t_struck t_height t_pace t_rise _ _ hP hD hS _ (lv_sub hl [0, 1] rfl) hR
  · have hR := (if_neg c8).symm.trans hR
    refine lv_aload_n hx hb dX0_strikeCeilingAndWall_11 rfl (lv_at hl 0 rfl) ?_
    refine lv_iconst (v := 2) hx hb dX0_strikeCeilingAndWall_12 (by decide) ?_
    refine lv_aload_n hx hb dX0_strikeCeilingAndWall_13 rfl (lv_at hl 1 rfl) ?_
    refine va_getN (D := (dC, dI)) (ci := 3) (v := .int p1_ceiling) (C := RX3) (T := TX3) (N := 16) hx hb hts hinX3 hown hK hP 1 rfl rfl 6 (by decide) ((nF_Flight_83 hN).use rfl) (fun _ h9 => h9) rfl dX0_strikeCeilingAndWall_14 ?_
    refine lv_imul hx hb dX0_strikeCeilingAndWall_17 ?_
    refine lv_aload_n hx hb dX0_strikeCeilingAndWall_18 rfl (lv_at hl 0 rfl) ?_
    refine va_get (D := (dC, dI)) (ci := 0) (v := .int t_height) (C := RX0) (T := TX0) (N := 8) hx hb hts hinX0 hown hK hP 0 rfl rfl 5 (by decide) (hts (.fieldLink RX0 26 "PaperInBin$Flight" "height" "I") (by decide +kernel)) (fun _ h9 => h9) rfl dX0_strikeCeilingAndWall_19 ?_
    refine lv_isub hx hb dX0_strikeCeilingAndWall_22 ?_
    refine va_put (D := (dC, dI)) (ci := 0) (v := .int ((2 * p1_ceiling) - t_height)) (ty := .int) (C := RX0) (T := TX0) (N := 8) hx hb hts hinX0 tyX0 tyX0_ok nmX0 hown hK hP hD hS 0 rfl rfl 5 (by decide) (hts (.fieldLink RX0 26 "PaperInBin$Flight" "height" "I") (by decide +kernel)) (fun _ h9 => h9) rfl (tyX0_ok 5 (by decide)) rfl rfl (Nat.le_of_ble_eq_true rfl) dX0_strikeCeilingAndWall_23 (fun H locs hP hD hS => ?_)
    have hP : va_P (dC, dI) vwCl [(a_t, .inr (0, [.int t_end, .int t_cell, .int t_steps, .int t_greatest, .int t_struck, .int ((2 * p1_ceiling) - t_height), .int t_pace, .int t_rise])), (a_p1, .inr (3, [.int p1_hand, .int p1_at, .int p1_wide, .int p1_rim, .int p1_fill, .int p1_wall, .int p1_ceiling, .int p1_puff, .int p1_period, .int p1_second, .int p1_score, .int p1_thrown, .int p1_ballCount, .ref a_p1_kinds, .ref a_p1_sizes, .ref a_p1_tights]))] H := hP
    have hD : va_D A [(a_t, .inr (0, [.int t_end, .int t_cell, .int t_steps, .int t_greatest, .int t_struck, .int ((2 * p1_ceiling) - t_height), .int t_pace, .int t_rise])), (a_p1, .inr (3, [.int p1_hand, .int p1_at, .int p1_wide, .int p1_rim, .int p1_fill, .int p1_wall, .int p1_ceiling, .int p1_puff, .int p1_period, .int p1_second, .int p1_score, .int p1_thrown, .int p1_ballCount, .ref a_p1_kinds, .ref a_p1_sizes, .ref a_p1_tights]))] := hD
    refine lv_aload_n hx hb dX0_strikeCeilingAndWall_26 rfl (lv_at hl 0 rfl) ?_
    refine lv_aload_n hx hb dX0_strikeCeilingAndWall_27 rfl (lv_at hl 0 rfl) ?_
    refine va_get (D := (dC, dI)) (ci := 0) (v := .int t_rise) (C := RX0) (T := TX0) (N := 8) hx hb hts hinX0 hown hK hP 0 rfl rfl 7 (by decide) (hts (.fieldLink RX0 38 "PaperInBin$Flight" "rise" "I") (by decide +kernel)) (fun _ h9 => h9) rfl dX0_strikeCeilingAndWall_28 ?_
    refine lv_ineg hx hb dX0_strikeCeilingAndWall_31 ?_
    refine va_put (D := (dC, dI)) (ci := 0) (v := .int (-t_rise)) (ty := .int) (C := RX0) (T := TX0) (N := 8) hx hb hts hinX0 tyX0 tyX0_ok nmX0 hown hK hP hD hS 0 rfl rfl 7 (by decide) (hts (.fieldLink RX0 38 "PaperInBin$Flight" "rise" "I") (by decide +kernel)) (fun _ h9 => h9) rfl (tyX0_ok 7 (by decide)) rfl rfl (Nat.le_of_ble_eq_true rfl) dX0_strikeCeilingAndWall_32 (fun H locs hP hD hS => ?_)
    have hP : va_P (dC, dI) vwCl [(a_t, .inr (0, [.int t_end, .int t_cell, .int t_steps, .int t_greatest, .int t_struck, .int ((2 * p1_ceiling) - t_height), .int t_pace, .int (-t_rise)])), (a_p1, .inr (3, [.int p1_hand, .int p1_at, .int p1_wide, .int p1_rim, .int p1_fill, .int p1_wall, .int p1_ceiling, .int p1_puff, .int p1_period, .int p1_second, .int p1_score, .int p1_thrown, .int p1_ballCount, .ref a_p1_kinds, .ref a_p1_sizes, .ref a_p1_tights]))] H := hP
    have hD : va_D A [(a_t, .inr (0, [.int t_end, .int t_cell, .int t_steps, .int t_greatest, .int t_struck, .int ((2 * p1_ceiling) - t_height), .int t_pace, .int (-t_rise)])), (a_p1, .inr (3, [.int p1_hand, .int p1_at, .int p1_wide, .int p1_rim, .int p1_fill, .int p1_wall, .int p1_ceiling, .int p1_puff, .int p1_period, .int p1_second, .int p1_score, .int p1_thrown, .int p1_ballCount, .ref a_p1_kinds, .ref a_p1_sizes, .ref a_p1_tights]))] := hD
    refine lv_aload_n hx hb dX0_strikeCeilingAndWall_35 rfl (lv_at hl 0 rfl) ?_
    refine lv_dup hx hb dX0_strikeCeilingAndWall_36 rfl ?_
    refine va_get (D := (dC, dI)) (ci := 0) (v := .int t_struck) (C := RX0) (T := TX0) (N := 8) hx hb hts hinX0 hown hK hP 0 rfl rfl 4 (by decide) (hts (.fieldLink RX0 32 "PaperInBin$Flight" "struck" "I") (by decide +kernel)) (fun _ h9 => h9) rfl dX0_strikeCeilingAndWall_37 ?_
    refine lv_iconst (v := 1) hx hb dX0_strikeCeilingAndWall_40 (by decide) ?_
    refine lv_ior hx hb dX0_strikeCeilingAndWall_41 ?_
    refine va_put (D := (dC, dI)) (ci := 0) (v := .int (t_struck ||| 1)) (ty := .int) (C := RX0) (T := TX0) (N := 8) hx hb hts hinX0 tyX0 tyX0_ok nmX0 hown hK hP hD hS 0 rfl rfl 4 (by decide) (hts (.fieldLink RX0 32 "PaperInBin$Flight" "struck" "I") (by decide +kernel)) (fun _ h9 => h9) rfl (tyX0_ok 4 (by decide)) rfl rfl (Nat.le_of_ble_eq_true rfl) dX0_strikeCeilingAndWall_42 (fun H locs hP hD hS => ?_)
    have hP : va_P (dC, dI) vwCl [(a_t, .inr (0, [.int t_end, .int t_cell, .int t_steps, .int t_greatest, .int (t_struck ||| 1), .int ((2 * p1_ceiling) - t_height), .int t_pace, .int (-t_rise)])), (a_p1, .inr (3, [.int p1_hand, .int p1_at, .int p1_wide, .int p1_rim, .int p1_fill, .int p1_wall, .int p1_ceiling, .int p1_puff, .int p1_period, .int p1_second, .int p1_score, .int p1_thrown, .int p1_ballCount, .ref a_p1_kinds, .ref a_p1_sizes, .ref a_p1_tights]))] H := hP
    have hD : va_D A [(a_t, .inr (0, [.int t_end, .int t_cell, .int t_steps, .int t_greatest, .int (t_struck ||| 1), .int ((2 * p1_ceiling) - t_height), .int t_pace, .int (-t_rise)])), (a_p1, .inr (3, [.int p1_hand, .int p1_at, .int p1_wide, .int p1_rim, .int p1_fill, .int p1_wall, .int p1_ceiling, .int p1_puff, .int p1_period, .int p1_second, .int p1_score, .int p1_thrown, .int p1_ballCount, .ref a_p1_kinds, .ref a_p1_sizes, .ref a_p1_tights]))] := hD
    exact K45 t_cell (t_struck ||| 1) ((2 * p1_ceiling) - t_height) t_pace (-t_rise) _ _ hP hD hS _ (lv_sub hl [0, 1] rfl) hR
def fX0_comeDownToRim (t_end : Int32) (t_cell : Int32) (t_struck : Int32) (t_height : Int32) (t_pace : Int32) (t_rise : Int32) (p1_at : Int32) (p1_wide : Int32) (p1_rim : Int32) (p1_fill : Int32) : Option (Int32 × Int32 × Int32 × Int32 × Int32) :=
  b1 (fX3_isOverBin t_cell p1_at p1_wide) (fun r1 =>
  if r1 = 0 then (
   b1 (fX3_isBesideBin t_cell p1_at p1_wide) (fun r3 =>
   if r3 = 0 then (
    some (t_end, t_struck, t_height, t_pace, t_rise))
   else (
   if (t_struck &&& 4) = 0 then (
    some (t_end, (t_struck ||| 4), (p1_rim + 1), (-t_pace), 1))
   else (
   some (t_end, t_struck, t_height, t_pace, t_rise)))))
  else (
  if p1_fill < 9 then (
   some (0, t_struck, t_height, t_pace, t_rise))
  else (
  some (3, t_struck, t_height, t_pace, t_rise))))
set_option maxHeartbeats 4000000 in
set_option maxRecDepth 100000 in
theorem kX0_comeDownToRim (l : Launch) (dC : Nat → ClassId) (dI : Nat → Nat → Nat) (cI : ClassId) (a_t a_p1 a_p1_kinds a_p1_sizes a_p1_tights : Nat) (sz : Nat) (t_end : Int32) (t_cell : Int32) (t_steps : Int32) (t_greatest : Int32) (t_struck : Int32) (t_height : Int32) (t_pace : Int32) (t_rise : Int32) (p1_hand : Int32) (p1_at : Int32) (p1_wide : Int32) (p1_rim : Int32) (p1_fill : Int32) (p1_wall : Int32) (p1_ceiling : Int32) (p1_puff : Int32) (p1_period : Int32) (p1_second : Int32) (p1_score : Int32) (p1_thrown : Int32) (p1_ballCount : Int32) (R : Int32 × Int32 × Int32 × Int32 × Int32) (hR : fX0_comeDownToRim t_end t_cell t_struck t_height t_pace t_rise p1_at p1_wide p1_rim p1_fill = some R) : Met l yX0_comeDownToRim wsX0_comeDownToRim ({ frames := 1, cells := 0, slots := 0, locals := 21 } : Room) (va_Pc [.ref a_t, .ref a_p1] (Wp (dC, dI) [(cI, .int)] [(a_t, .inr (0, [.int t_end, .int t_cell, .int t_steps, .int t_greatest, .int t_struck, .int t_height, .int t_pace, .int t_rise])), (a_p1, .inr (3, [.int p1_hand, .int p1_at, .int p1_wide, .int p1_rim, .int p1_fill, .int p1_wall, .int p1_ceiling, .int p1_puff, .int p1_period, .int p1_second, .int p1_score, .int p1_thrown, .int p1_ballCount, .ref a_p1_kinds, .ref a_p1_sizes, .ref a_p1_tights]))] sz)) (va_Qv (fun (u : Int32 × Int32 × Int32 × Int32 × Int32) => u = R) (Wq (dC, dI) [(a_t, .inr (0, [.int t_end, .int t_cell, .int t_steps, .int t_greatest, .int t_struck, .int t_height, .int t_pace, .int t_rise])), (a_p1, .inr (3, [.int p1_hand, .int p1_at, .int p1_wide, .int p1_rim, .int p1_fill, .int p1_wall, .int p1_ceiling, .int p1_puff, .int p1_period, .int p1_second, .int p1_score, .int p1_thrown, .int p1_ballCount, .ref a_p1_kinds, .ref a_p1_sizes, .ref a_p1_tights]))] sz (fun (u : Int32 × Int32 × Int32 × Int32 × Int32) => ([(a_t, .inr (0, [.int u.1, .int t_cell, .int t_steps, .int t_greatest, .int u.2.1, .int u.2.2.1, .int u.2.2.2.1, .int u.2.2.2.2])), (a_p1, .inr (3, [.int p1_hand, .int p1_at, .int p1_wide, .int p1_rim, .int p1_fill, .int p1_wall, .int p1_ceiling, .int p1_puff, .int p1_period, .int p1_second, .int p1_score, .int p1_thrown, .int p1_ballCount, .ref a_p1_kinds, .ref a_p1_sizes, .ref a_p1_tights]))] : va_W))) (va_A [(a_t, .inr (0, [.int t_end, .int t_cell, .int t_steps, .int t_greatest, .int t_struck, .int t_height, .int t_pace, .int t_rise])), (a_p1, .inr (3, [.int p1_hand, .int p1_at, .int p1_wide, .int p1_rim, .int p1_fill, .int p1_wall, .int p1_ceiling, .int p1_puff, .int p1_period, .int p1_second, .int p1_score, .int p1_thrown, .int p1_ballCount, .ref a_p1_kinds, .ref a_p1_sizes, .ref a_p1_tights]))] sz)) 0 0 (va_A [(a_t, .inr (0, [.int t_end, .int t_cell, .int t_steps, .int t_greatest, .int t_struck, .int t_height, .int t_pace, .int t_rise])), (a_p1, .inr (3, [.int p1_hand, .int p1_at, .int p1_wide, .int p1_rim, .int p1_fill, .int p1_wall, .int p1_ceiling, .int p1_puff, .int p1_period, .int p1_second, .int p1_score, .int p1_thrown, .int p1_ballCount, .ref a_p1_kinds, .ref a_p1_sizes, .ref a_p1_tights]))] sz) := by
  refine Met.ofW (cc := cX0_comeDownToRim) (maxL := 2) (ret := none) (by decide) rfl ?_
  intro p e s m args below meth c s₁ B hml hv
  obtain ⟨hargs, hsz, hP, hK, hD0, hN⟩ := hv
  have hx := B.exec
  have hb := B.bytes
  have hr := B.returns
  have hts := atoms_spec (ws := wsX0_comeDownToRim) B.pre
  have hown : s.vm.findClass RX0 = some m.cls := findClass_of_methodNamed B.named
  have hlocks := B.notSynchronized
  subst hsz
  have hD := hD0.self (sz := s.heap.size)
  obtain ⟨A, hAe⟩ : ∃ A, A = va_A [(a_t, .inr (0, [.int t_end, .int t_cell, .int t_steps, .int t_greatest, .int t_struck, .int t_height, .int t_pace, .int t_rise])), (a_p1, .inr (3, [.int p1_hand, .int p1_at, .int p1_wide, .int p1_rim, .int p1_fill, .int p1_wall, .int p1_ceiling, .int p1_puff, .int p1_period, .int p1_second, .int p1_score, .int p1_thrown, .int p1_ballCount, .ref a_p1_kinds, .ref a_p1_sizes, .ref a_p1_tights]))] s.heap.size := ⟨_, rfl⟩
  rw [← hAe] at hD
  have hA : ∀ q : Nat, s.heap.size ≤ q → A q := fun q h => by rw [hAe]; exact Or.inr h
  have hS : va_S A s.heap s.heap [] := va_S.rf
  have hl := lv_entry ([.ref a_t, .ref a_p1]) (n := 2) (Nat.le_of_ble_eq_true rfl)
  rw [e_of hargs, lg_entry_eq]
  generalize (lg_sl ([.ref a_t, .ref a_p1]) ++ List.replicate (2 - (lg_sl ([.ref a_t, .ref a_p1])).length) Slot.unset).toArray = ls at hl ⊢
  have hl : lv_has ls 2 [(0, .ref a_t), (1, .ref a_p1)] := hl
  have hinX0 : ∀ w ∈ wsX00, w ∈ wsX0_comeDownToRim := by decide +kernel
  have hinX3 : ∀ w ∈ wsX30, w ∈ wsX0_comeDownToRim := by decide +kernel
  refine w_q ({ frames := 1, cells := 0, slots := 0, locals := 21 } : Room) (fun Q0 hQ => ?_)
  rw [fX0_comeDownToRim] at hR
  refine lv_aload_n hx hb dX0_comeDownToRim_0 rfl (lv_at hl 1 rfl) ?_
  refine lv_aload_n hx hb dX0_comeDownToRim_1 rfl (lv_at hl 0 rfl) ?_
  refine va_get (D := (dC, dI)) (ci := 0) (v := .int t_cell) (C := RX0) (T := TX0) (N := 8) hx hb hts hinX0 hown hK hP 0 rfl rfl 1 (by decide) (hts (.fieldLink RX0 15 "PaperInBin$Flight" "cell" "I") (by decide +kernel)) (fun _ h9 => h9) rfl dX0_comeDownToRim_2 ?_
  obtain ⟨r1, hu2, hR⟩ := b1_s hR
  refine cl_VNiN (As := [.int t_cell]) (rest := []) (wc := [(a_p1, .inr (3, [.int p1_hand, .int p1_at, .int p1_wide, .int p1_rim, .int p1_fill, .int p1_wall, .int p1_ceiling, .int p1_puff, .int p1_period, .int p1_second, .int p1_score, .int p1_thrown, .int p1_ballCount, .ref a_p1_kinds, .ref a_p1_sizes, .ref a_p1_tights]))]) (wr := [(a_t, .inr (0, [.int t_end, .int t_cell, .int t_steps, .int t_greatest, .int t_struck, .int t_height, .int t_pace, .int t_rise]))]) ⟨hx, hb, hml, hown, hts⟩ (kX3_isOverBin l dC dI cI a_p1 a_p1_kinds a_p1_sizes a_p1_tights s.heap.size t_cell p1_hand p1_at p1_wide p1_rim p1_fill p1_wall p1_ceiling p1_puff p1_period p1_second p1_score p1_thrown p1_ballCount r1 hu2) ⟨va_cnB 1 hts gX0_comeDownToRim_X3_isOverBin_n89 rfl rfl rfl (nM_Flight_89 hN) (hts (.initialized RX3) (by decide +kernel)) (by decide +kernel) ⟨Nat.le_of_ble_eq_true rfl, Nat.le_of_ble_eq_true rfl⟩, hts (.instanceMethod yX3_isOverBin) (by decide +kernel), hts (.selects RX3 yX3_isOverBin yX3_isOverBin) (by decide +kernel)⟩ hK hN hP hD hS hA (va_recv hK hP (ci := 3) (q0 := 1) rfl rfl) [1] [0] rfl rfl rfl rfl rfl (by decide) rfl hl.1 rfl (Nat.le_of_ble_eq_true rfl) dX0_comeDownToRim_5 (fun H locs hP hD hS => ?_)
  have hP : va_P (dC, dI) vwCl [(a_t, .inr (0, [.int t_end, .int t_cell, .int t_steps, .int t_greatest, .int t_struck, .int t_height, .int t_pace, .int t_rise])), (a_p1, .inr (3, [.int p1_hand, .int p1_at, .int p1_wide, .int p1_rim, .int p1_fill, .int p1_wall, .int p1_ceiling, .int p1_puff, .int p1_period, .int p1_second, .int p1_score, .int p1_thrown, .int p1_ballCount, .ref a_p1_kinds, .ref a_p1_sizes, .ref a_p1_tights]))] H := hP
  have hD : va_D A [(a_t, .inr (0, [.int t_end, .int t_cell, .int t_steps, .int t_greatest, .int t_struck, .int t_height, .int t_pace, .int t_rise])), (a_p1, .inr (3, [.int p1_hand, .int p1_at, .int p1_wide, .int p1_rim, .int p1_fill, .int p1_wall, .int p1_ceiling, .int p1_puff, .int p1_period, .int p1_second, .int p1_score, .int p1_thrown, .int p1_ballCount, .ref a_p1_kinds, .ref a_p1_sizes, .ref a_p1_tights]))] := hD
  refine lv_if_eq (tgt := 32) hx hb dX0_comeDownToRim_8 (by decide) (fun c8 => ?_) (fun c8 => ?_)
  · have hR := (if_pos c8).symm.trans hR
    refine lv_aload_n hx hb dX0_comeDownToRim_32 rfl (lv_at hl 1 rfl) ?_
    refine lv_aload_n hx hb dX0_comeDownToRim_33 rfl (lv_at hl 0 rfl) ?_
    refine va_get (D := (dC, dI)) (ci := 0) (v := .int t_cell) (C := RX0) (T := TX0) (N := 8) hx hb hts hinX0 hown hK hP 0 rfl rfl 1 (by decide) (hts (.fieldLink RX0 15 "PaperInBin$Flight" "cell" "I") (by decide +kernel)) (fun _ h9 => h9) rfl dX0_comeDownToRim_34 ?_
    obtain ⟨r3, hu4, hR⟩ := b1_s hR
    refine cl_VNiN (As := [.int t_cell]) (rest := []) (wc := [(a_p1, .inr (3, [.int p1_hand, .int p1_at, .int p1_wide, .int p1_rim, .int p1_fill, .int p1_wall, .int p1_ceiling, .int p1_puff, .int p1_period, .int p1_second, .int p1_score, .int p1_thrown, .int p1_ballCount, .ref a_p1_kinds, .ref a_p1_sizes, .ref a_p1_tights]))]) (wr := [(a_t, .inr (0, [.int t_end, .int t_cell, .int t_steps, .int t_greatest, .int t_struck, .int t_height, .int t_pace, .int t_rise]))]) ⟨hx, hb, hml, hown, hts⟩ (kX3_isBesideBin l dC dI cI a_p1 a_p1_kinds a_p1_sizes a_p1_tights H.size t_cell p1_hand p1_at p1_wide p1_rim p1_fill p1_wall p1_ceiling p1_puff p1_period p1_second p1_score p1_thrown p1_ballCount r3 hu4) ⟨va_cnB 1 hts gX0_comeDownToRim_X3_isBesideBin_n95 rfl rfl rfl (nM_Flight_95 hN) (hts (.initialized RX3) (by decide +kernel)) (by decide +kernel) ⟨Nat.le_of_ble_eq_true rfl, Nat.le_of_ble_eq_true rfl⟩, hts (.instanceMethod yX3_isBesideBin) (by decide +kernel), hts (.selects RX3 yX3_isBesideBin yX3_isBesideBin) (by decide +kernel)⟩ hK hN hP hD hS hA (va_recv hK hP (ci := 3) (q0 := 1) rfl rfl) [1] [0] rfl rfl rfl rfl rfl (by decide) rfl hl.1 rfl (Nat.le_of_ble_eq_true rfl) dX0_comeDownToRim_37 (fun H locs hP hD hS => ?_)
    have hP : va_P (dC, dI) vwCl [(a_t, .inr (0, [.int t_end, .int t_cell, .int t_steps, .int t_greatest, .int t_struck, .int t_height, .int t_pace, .int t_rise])), (a_p1, .inr (3, [.int p1_hand, .int p1_at, .int p1_wide, .int p1_rim, .int p1_fill, .int p1_wall, .int p1_ceiling, .int p1_puff, .int p1_period, .int p1_second, .int p1_score, .int p1_thrown, .int p1_ballCount, .ref a_p1_kinds, .ref a_p1_sizes, .ref a_p1_tights]))] H := hP
    have hD : va_D A [(a_t, .inr (0, [.int t_end, .int t_cell, .int t_steps, .int t_greatest, .int t_struck, .int t_height, .int t_pace, .int t_rise])), (a_p1, .inr (3, [.int p1_hand, .int p1_at, .int p1_wide, .int p1_rim, .int p1_fill, .int p1_wall, .int p1_ceiling, .int p1_puff, .int p1_period, .int p1_second, .int p1_score, .int p1_thrown, .int p1_ballCount, .ref a_p1_kinds, .ref a_p1_sizes, .ref a_p1_tights]))] := hD
    refine lv_if_eq (tgt := 86) hx hb dX0_comeDownToRim_40 (by decide) (fun c40 => ?_) (fun c40 => ?_)
    · have hR := (if_pos c40).symm.trans hR
      subst hQ
      subst hAe
      exact W.vret hx hb hr (fun t ht hW => ⟨⟨(t_end, t_struck, t_height, t_pace, t_rise), rfl, Option.some.inj hR, by rw [ht]; exact hP, hD⟩, hS.F ht⟩) hS.2.2 dX0_comeDownToRim_86
    · have hR := (if_neg c40).symm.trans hR
      refine lv_aload_n hx hb dX0_comeDownToRim_43 rfl (lv_at hl 0 rfl) ?_
      refine va_get (D := (dC, dI)) (ci := 0) (v := .int t_struck) (C := RX0) (T := TX0) (N := 8) hx hb hts hinX0 hown hK hP 0 rfl rfl 4 (by decide) (hts (.fieldLink RX0 32 "PaperInBin$Flight" "struck" "I") (by decide +kernel)) (fun _ h9 => h9) rfl dX0_comeDownToRim_44 ?_
      refine lv_iconst (v := 4) hx hb dX0_comeDownToRim_47 (by decide) ?_
      refine lv_iand hx hb dX0_comeDownToRim_48 ?_
      refine lv_if_ne (tgt := 86) hx hb dX0_comeDownToRim_49 (by decide) (fun c49 => ?_) (fun c49 => ?_)
      · have hR := (if_neg c49).symm.trans hR
        subst hQ
        subst hAe
        exact W.vret hx hb hr (fun t ht hW => ⟨⟨(t_end, t_struck, t_height, t_pace, t_rise), rfl, Option.some.inj hR, by rw [ht]; exact hP, hD⟩, hS.F ht⟩) hS.2.2 dX0_comeDownToRim_86
      · have hR := (if_pos c49).symm.trans hR
        refine lv_aload_n hx hb dX0_comeDownToRim_52 rfl (lv_at hl 0 rfl) ?_
        refine lv_aload_n hx hb dX0_comeDownToRim_53 rfl (lv_at hl 1 rfl) ?_
        refine va_getN (D := (dC, dI)) (ci := 3) (v := .int p1_rim) (C := RX3) (T := TX3) (N := 16) hx hb hts hinX3 hown hK hP 1 rfl rfl 3 (by decide) ((nF_Flight_74 hN).use rfl) (fun _ h9 => h9) rfl dX0_comeDownToRim_54 ?_
        refine lv_iconst (v := 1) hx hb dX0_comeDownToRim_57 (by decide) ?_
        refine lv_iadd hx hb dX0_comeDownToRim_58 ?_
        refine va_put (D := (dC, dI)) (ci := 0) (v := .int (p1_rim + 1)) (ty := .int) (C := RX0) (T := TX0) (N := 8) hx hb hts hinX0 tyX0 tyX0_ok nmX0 hown hK hP hD hS 0 rfl rfl 5 (by decide) (hts (.fieldLink RX0 26 "PaperInBin$Flight" "height" "I") (by decide +kernel)) (fun _ h9 => h9) rfl (tyX0_ok 5 (by decide)) rfl rfl (Nat.le_of_ble_eq_true rfl) dX0_comeDownToRim_59 (fun H locs hP hD hS => ?_)
        have hP : va_P (dC, dI) vwCl [(a_t, .inr (0, [.int t_end, .int t_cell, .int t_steps, .int t_greatest, .int t_struck, .int (p1_rim + 1), .int t_pace, .int t_rise])), (a_p1, .inr (3, [.int p1_hand, .int p1_at, .int p1_wide, .int p1_rim, .int p1_fill, .int p1_wall, .int p1_ceiling, .int p1_puff, .int p1_period, .int p1_second, .int p1_score, .int p1_thrown, .int p1_ballCount, .ref a_p1_kinds, .ref a_p1_sizes, .ref a_p1_tights]))] H := hP
        have hD : va_D A [(a_t, .inr (0, [.int t_end, .int t_cell, .int t_steps, .int t_greatest, .int t_struck, .int (p1_rim + 1), .int t_pace, .int t_rise])), (a_p1, .inr (3, [.int p1_hand, .int p1_at, .int p1_wide, .int p1_rim, .int p1_fill, .int p1_wall, .int p1_ceiling, .int p1_puff, .int p1_period, .int p1_second, .int p1_score, .int p1_thrown, .int p1_ballCount, .ref a_p1_kinds, .ref a_p1_sizes, .ref a_p1_tights]))] := hD
        refine lv_aload_n hx hb dX0_comeDownToRim_62 rfl (lv_at hl 0 rfl) ?_
        refine lv_aload_n hx hb dX0_comeDownToRim_63 rfl (lv_at hl 0 rfl) ?_
        refine va_get (D := (dC, dI)) (ci := 0) (v := .int t_pace) (C := RX0) (T := TX0) (N := 8) hx hb hts hinX0 hown hK hP 0 rfl rfl 6 (by decide) (hts (.fieldLink RX0 35 "PaperInBin$Flight" "pace" "I") (by decide +kernel)) (fun _ h9 => h9) rfl dX0_comeDownToRim_64 ?_
        refine lv_ineg hx hb dX0_comeDownToRim_67 ?_
        refine va_put (D := (dC, dI)) (ci := 0) (v := .int (-t_pace)) (ty := .int) (C := RX0) (T := TX0) (N := 8) hx hb hts hinX0 tyX0 tyX0_ok nmX0 hown hK hP hD hS 0 rfl rfl 6 (by decide) (hts (.fieldLink RX0 35 "PaperInBin$Flight" "pace" "I") (by decide +kernel)) (fun _ h9 => h9) rfl (tyX0_ok 6 (by decide)) rfl rfl (Nat.le_of_ble_eq_true rfl) dX0_comeDownToRim_68 (fun H locs hP hD hS => ?_)
        have hP : va_P (dC, dI) vwCl [(a_t, .inr (0, [.int t_end, .int t_cell, .int t_steps, .int t_greatest, .int t_struck, .int (p1_rim + 1), .int (-t_pace), .int t_rise])), (a_p1, .inr (3, [.int p1_hand, .int p1_at, .int p1_wide, .int p1_rim, .int p1_fill, .int p1_wall, .int p1_ceiling, .int p1_puff, .int p1_period, .int p1_second, .int p1_score, .int p1_thrown, .int p1_ballCount, .ref a_p1_kinds, .ref a_p1_sizes, .ref a_p1_tights]))] H := hP
        have hD : va_D A [(a_t, .inr (0, [.int t_end, .int t_cell, .int t_steps, .int t_greatest, .int t_struck, .int (p1_rim + 1), .int (-t_pace), .int t_rise])), (a_p1, .inr (3, [.int p1_hand, .int p1_at, .int p1_wide, .int p1_rim, .int p1_fill, .int p1_wall, .int p1_ceiling, .int p1_puff, .int p1_period, .int p1_second, .int p1_score, .int p1_thrown, .int p1_ballCount, .ref a_p1_kinds, .ref a_p1_sizes, .ref a_p1_tights]))] := hD
        refine lv_aload_n hx hb dX0_comeDownToRim_71 rfl (lv_at hl 0 rfl) ?_
        refine lv_iconst (v := 1) hx hb dX0_comeDownToRim_72 (by decide) ?_
        refine va_put (D := (dC, dI)) (ci := 0) (v := .int 1) (ty := .int) (C := RX0) (T := TX0) (N := 8) hx hb hts hinX0 tyX0 tyX0_ok nmX0 hown hK hP hD hS 0 rfl rfl 7 (by decide) (hts (.fieldLink RX0 38 "PaperInBin$Flight" "rise" "I") (by decide +kernel)) (fun _ h9 => h9) rfl (tyX0_ok 7 (by decide)) rfl rfl (Nat.le_of_ble_eq_true rfl) dX0_comeDownToRim_73 (fun H locs hP hD hS => ?_)
        have hP : va_P (dC, dI) vwCl [(a_t, .inr (0, [.int t_end, .int t_cell, .int t_steps, .int t_greatest, .int t_struck, .int (p1_rim + 1), .int (-t_pace), .int 1])), (a_p1, .inr (3, [.int p1_hand, .int p1_at, .int p1_wide, .int p1_rim, .int p1_fill, .int p1_wall, .int p1_ceiling, .int p1_puff, .int p1_period, .int p1_second, .int p1_score, .int p1_thrown, .int p1_ballCount, .ref a_p1_kinds, .ref a_p1_sizes, .ref a_p1_tights]))] H := hP
        have hD : va_D A [(a_t, .inr (0, [.int t_end, .int t_cell, .int t_steps, .int t_greatest, .int t_struck, .int (p1_rim + 1), .int (-t_pace), .int 1])), (a_p1, .inr (3, [.int p1_hand, .int p1_at, .int p1_wide, .int p1_rim, .int p1_fill, .int p1_wall, .int p1_ceiling, .int p1_puff, .int p1_period, .int p1_second, .int p1_score, .int p1_thrown, .int p1_ballCount, .ref a_p1_kinds, .ref a_p1_sizes, .ref a_p1_tights]))] := hD
        refine lv_aload_n hx hb dX0_comeDownToRim_76 rfl (lv_at hl 0 rfl) ?_
        refine lv_dup hx hb dX0_comeDownToRim_77 rfl ?_
        refine va_get (D := (dC, dI)) (ci := 0) (v := .int t_struck) (C := RX0) (T := TX0) (N := 8) hx hb hts hinX0 hown hK hP 0 rfl rfl 4 (by decide) (hts (.fieldLink RX0 32 "PaperInBin$Flight" "struck" "I") (by decide +kernel)) (fun _ h9 => h9) rfl dX0_comeDownToRim_78 ?_
        refine lv_iconst (v := 4) hx hb dX0_comeDownToRim_81 (by decide) ?_
        refine lv_ior hx hb dX0_comeDownToRim_82 ?_
        refine va_put (D := (dC, dI)) (ci := 0) (v := .int (t_struck ||| 4)) (ty := .int) (C := RX0) (T := TX0) (N := 8) hx hb hts hinX0 tyX0 tyX0_ok nmX0 hown hK hP hD hS 0 rfl rfl 4 (by decide) (hts (.fieldLink RX0 32 "PaperInBin$Flight" "struck" "I") (by decide +kernel)) (fun _ h9 => h9) rfl (tyX0_ok 4 (by decide)) rfl rfl (Nat.le_of_ble_eq_true rfl) dX0_comeDownToRim_83 (fun H locs hP hD hS => ?_)
        have hP : va_P (dC, dI) vwCl [(a_t, .inr (0, [.int t_end, .int t_cell, .int t_steps, .int t_greatest, .int (t_struck ||| 4), .int (p1_rim + 1), .int (-t_pace), .int 1])), (a_p1, .inr (3, [.int p1_hand, .int p1_at, .int p1_wide, .int p1_rim, .int p1_fill, .int p1_wall, .int p1_ceiling, .int p1_puff, .int p1_period, .int p1_second, .int p1_score, .int p1_thrown, .int p1_ballCount, .ref a_p1_kinds, .ref a_p1_sizes, .ref a_p1_tights]))] H := hP
        have hD : va_D A [(a_t, .inr (0, [.int t_end, .int t_cell, .int t_steps, .int t_greatest, .int (t_struck ||| 4), .int (p1_rim + 1), .int (-t_pace), .int 1])), (a_p1, .inr (3, [.int p1_hand, .int p1_at, .int p1_wide, .int p1_rim, .int p1_fill, .int p1_wall, .int p1_ceiling, .int p1_puff, .int p1_period, .int p1_second, .int p1_score, .int p1_thrown, .int p1_ballCount, .ref a_p1_kinds, .ref a_p1_sizes, .ref a_p1_tights]))] := hD
        subst hQ
        subst hAe
        exact W.vret hx hb hr (fun t ht hW => ⟨⟨(t_end, (t_struck ||| 4), (p1_rim + 1), (-t_pace), 1), rfl, Option.some.inj hR, by rw [ht]; exact hP, hD⟩, hS.F ht⟩) hS.2.2 dX0_comeDownToRim_86
  · have hR := (if_neg c8).symm.trans hR
    refine lv_aload_n hx hb dX0_comeDownToRim_11 rfl (lv_at hl 0 rfl) ?_
    refine lv_aload_n hx hb dX0_comeDownToRim_12 rfl (lv_at hl 1 rfl) ?_
    refine va_getN (D := (dC, dI)) (ci := 3) (v := .int p1_fill) (C := RX3) (T := TX3) (N := 16) hx hb hts hinX3 hown hK hP 1 rfl rfl 4 (by decide) ((nF_Flight_92 hN).use rfl) (fun _ h9 => h9) rfl dX0_comeDownToRim_13 ?_
    refine lv_bipush (v := 9) hx hb dX0_comeDownToRim_16 (by decide) ?_
    refine lv_icmp_lt (tgt := 25) hx hb dX0_comeDownToRim_18 (by decide) (fun c18 => ?_) (fun c18 => ?_)
    · have hR := (if_pos c18).symm.trans hR
      refine lv_iconst (v := 0) hx hb dX0_comeDownToRim_25 (by decide) ?_
      refine va_put (D := (dC, dI)) (ci := 0) (v := .int 0) (ty := .int) (C := RX0) (T := TX0) (N := 8) hx hb hts hinX0 tyX0 tyX0_ok nmX0 hown hK hP hD hS 0 rfl rfl 0 (by decide) (hts (.fieldLink RX0 9 "PaperInBin$Flight" "end" "I") (by decide +kernel)) (fun _ h9 => h9) rfl (tyX0_ok 0 (by decide)) rfl rfl (Nat.le_of_ble_eq_true rfl) dX0_comeDownToRim_26 (fun H locs hP hD hS => ?_)
      have hP : va_P (dC, dI) vwCl [(a_t, .inr (0, [.int 0, .int t_cell, .int t_steps, .int t_greatest, .int t_struck, .int t_height, .int t_pace, .int t_rise])), (a_p1, .inr (3, [.int p1_hand, .int p1_at, .int p1_wide, .int p1_rim, .int p1_fill, .int p1_wall, .int p1_ceiling, .int p1_puff, .int p1_period, .int p1_second, .int p1_score, .int p1_thrown, .int p1_ballCount, .ref a_p1_kinds, .ref a_p1_sizes, .ref a_p1_tights]))] H := hP
      have hD : va_D A [(a_t, .inr (0, [.int 0, .int t_cell, .int t_steps, .int t_greatest, .int t_struck, .int t_height, .int t_pace, .int t_rise])), (a_p1, .inr (3, [.int p1_hand, .int p1_at, .int p1_wide, .int p1_rim, .int p1_fill, .int p1_wall, .int p1_ceiling, .int p1_puff, .int p1_period, .int p1_second, .int p1_score, .int p1_thrown, .int p1_ballCount, .ref a_p1_kinds, .ref a_p1_sizes, .ref a_p1_tights]))] := hD
      refine lv_goto (tgt := 86) hx hb dX0_comeDownToRim_29 (by decide) ?_
      subst hQ
      subst hAe
      exact W.vret hx hb hr (fun t ht hW => ⟨⟨(0, t_struck, t_height, t_pace, t_rise), rfl, Option.some.inj hR, by rw [ht]; exact hP, hD⟩, hS.F ht⟩) hS.2.2 dX0_comeDownToRim_86
    · have hR := (if_neg c18).symm.trans hR
      refine lv_iconst (v := 3) hx hb dX0_comeDownToRim_21 (by decide) ?_
      refine lv_goto (tgt := 26) hx hb dX0_comeDownToRim_22 (by decide) ?_
      refine va_put (D := (dC, dI)) (ci := 0) (v := .int 3) (ty := .int) (C := RX0) (T := TX0) (N := 8) hx hb hts hinX0 tyX0 tyX0_ok nmX0 hown hK hP hD hS 0 rfl rfl 0 (by decide) (hts (.fieldLink RX0 9 "PaperInBin$Flight" "end" "I") (by decide +kernel)) (fun _ h9 => h9) rfl (tyX0_ok 0 (by decide)) rfl rfl (Nat.le_of_ble_eq_true rfl) dX0_comeDownToRim_26 (fun H locs hP hD hS => ?_)
      have hP : va_P (dC, dI) vwCl [(a_t, .inr (0, [.int 3, .int t_cell, .int t_steps, .int t_greatest, .int t_struck, .int t_height, .int t_pace, .int t_rise])), (a_p1, .inr (3, [.int p1_hand, .int p1_at, .int p1_wide, .int p1_rim, .int p1_fill, .int p1_wall, .int p1_ceiling, .int p1_puff, .int p1_period, .int p1_second, .int p1_score, .int p1_thrown, .int p1_ballCount, .ref a_p1_kinds, .ref a_p1_sizes, .ref a_p1_tights]))] H := hP
      have hD : va_D A [(a_t, .inr (0, [.int 3, .int t_cell, .int t_steps, .int t_greatest, .int t_struck, .int t_height, .int t_pace, .int t_rise])), (a_p1, .inr (3, [.int p1_hand, .int p1_at, .int p1_wide, .int p1_rim, .int p1_fill, .int p1_wall, .int p1_ceiling, .int p1_puff, .int p1_period, .int p1_second, .int p1_score, .int p1_thrown, .int p1_ballCount, .ref a_p1_kinds, .ref a_p1_sizes, .ref a_p1_tights]))] := hD
      refine lv_goto (tgt := 86) hx hb dX0_comeDownToRim_29 (by decide) ?_
      subst hQ
      subst hAe
      exact W.vret hx hb hr (fun t ht hW => ⟨⟨(3, t_struck, t_height, t_pace, t_rise), rfl, Option.some.inj hR, by rw [ht]; exact hP, hD⟩, hS.F ht⟩) hS.2.2 dX0_comeDownToRim_86
def jX0_step_92 (p1_at : Int32) (t_end : Int32) (t_cell : Int32) (t_greatest : Int32) (t_struck : Int32) (t_height : Int32) (t_pace : Int32) (t_rise : Int32)  : Option (Int32 × Int32 × Int32 × Int32 × Int32 × Int32 × Int32) :=
  if t_end = (-1) then (
   if 0 < t_height then (
    some (t_end, t_cell, t_greatest, t_struck, t_height, t_pace, t_rise))
   else (
   if p1_at ≤ t_cell then (
    some (2, t_cell, t_greatest, t_struck, t_height, t_pace, t_rise))
   else (
   some (1, t_cell, t_greatest, t_struck, t_height, t_pace, t_rise))))
  else (
  some (t_end, t_cell, t_greatest, t_struck, t_height, t_pace, t_rise))
def jX0_step_17 (p1_at : Int32) (p1_wide : Int32) (p1_rim : Int32) (p1_fill : Int32) (p1_wall : Int32) (p1_ceiling : Int32) (x2 : Int32) (st0 : Int32) (t_end : Int32) (t_cell : Int32) (t_greatest : Int32) (t_struck : Int32) (t_height : Int32) (t_pace : Int32) (t_rise : Int32)  : Option (Int32 × Int32 × Int32 × Int32 × Int32 × Int32 × Int32) :=
  b5 (fX0_strikeCeilingAndWall (t_cell + t_pace) t_struck (t_height + t_rise) t_pace t_rise p1_wall p1_ceiling) (fun w2 w3 w4 w5 w6 =>
  if st0 = 0 then (
   jX0_step_92 p1_at t_end w2 (if t_greatest < w4 then w4 else t_greatest) w3 w4 w5 w6)
  else (
  if x2 ≤ p1_rim then (
   jX0_step_92 p1_at t_end w2 (if t_greatest < w4 then w4 else t_greatest) w3 w4 w5 w6)
  else (
  if p1_rim < w4 then (
   jX0_step_92 p1_at t_end w2 (if t_greatest < w4 then w4 else t_greatest) w3 w4 w5 w6)
  else (
  b5 (fX0_comeDownToRim t_end w2 w3 w4 w5 w6 p1_at p1_wide p1_rim p1_fill) (fun w9 w10 w11 w12 w13 =>
  jX0_step_92 p1_at w9 w2 (if t_greatest < w4 then w4 else t_greatest) w10 w11 w12 w13)))))
def fX0_step (t_end : Int32) (t_cell : Int32) (t_greatest : Int32) (t_struck : Int32) (t_height : Int32) (t_pace : Int32) (t_rise : Int32) (p1_at : Int32) (p1_wide : Int32) (p1_rim : Int32) (p1_fill : Int32) (p1_wall : Int32) (p1_ceiling : Int32) : Option (Int32 × Int32 × Int32 × Int32 × Int32 × Int32 × Int32) :=
  if 0 ≤ t_rise then (
   jX0_step_17 p1_at p1_wide p1_rim p1_fill p1_wall p1_ceiling t_height 0 t_end t_cell t_greatest t_struck t_height t_pace t_rise)
  else (
  jX0_step_17 p1_at p1_wide p1_rim p1_fill p1_wall p1_ceiling t_height 1 t_end t_cell t_greatest t_struck t_height t_pace t_rise)
set_option maxHeartbeats 4000000 in
set_option maxRecDepth 100000 in
theorem kX0_step (l : Launch) (dC : Nat → ClassId) (dI : Nat → Nat → Nat) (cI : ClassId) (a_t a_p1 a_p1_kinds a_p1_sizes a_p1_tights : Nat) (sz : Nat) (t_end : Int32) (t_cell : Int32) (t_steps : Int32) (t_greatest : Int32) (t_struck : Int32) (t_height : Int32) (t_pace : Int32) (t_rise : Int32) (p1_hand : Int32) (p1_at : Int32) (p1_wide : Int32) (p1_rim : Int32) (p1_fill : Int32) (p1_wall : Int32) (p1_ceiling : Int32) (p1_puff : Int32) (p1_period : Int32) (p1_second : Int32) (p1_score : Int32) (p1_thrown : Int32) (p1_ballCount : Int32) (R : Int32 × Int32 × Int32 × Int32 × Int32 × Int32 × Int32) (hR : fX0_step t_end t_cell t_greatest t_struck t_height t_pace t_rise p1_at p1_wide p1_rim p1_fill p1_wall p1_ceiling = some R) : Met l yX0_step wsX0_step ({ frames := 2, cells := 0, slots := 0, locals := 42 } : Room) (va_Pc [.ref a_t, .ref a_p1] (Wp (dC, dI) [(cI, .int)] [(a_t, .inr (0, [.int t_end, .int t_cell, .int t_steps, .int t_greatest, .int t_struck, .int t_height, .int t_pace, .int t_rise])), (a_p1, .inr (3, [.int p1_hand, .int p1_at, .int p1_wide, .int p1_rim, .int p1_fill, .int p1_wall, .int p1_ceiling, .int p1_puff, .int p1_period, .int p1_second, .int p1_score, .int p1_thrown, .int p1_ballCount, .ref a_p1_kinds, .ref a_p1_sizes, .ref a_p1_tights]))] sz)) (va_Qv (fun (u : Int32 × Int32 × Int32 × Int32 × Int32 × Int32 × Int32) => u = R) (Wq (dC, dI) [(a_t, .inr (0, [.int t_end, .int t_cell, .int t_steps, .int t_greatest, .int t_struck, .int t_height, .int t_pace, .int t_rise])), (a_p1, .inr (3, [.int p1_hand, .int p1_at, .int p1_wide, .int p1_rim, .int p1_fill, .int p1_wall, .int p1_ceiling, .int p1_puff, .int p1_period, .int p1_second, .int p1_score, .int p1_thrown, .int p1_ballCount, .ref a_p1_kinds, .ref a_p1_sizes, .ref a_p1_tights]))] sz (fun (u : Int32 × Int32 × Int32 × Int32 × Int32 × Int32 × Int32) => ([(a_t, .inr (0, [.int u.1, .int u.2.1, .int t_steps, .int u.2.2.1, .int u.2.2.2.1, .int u.2.2.2.2.1, .int u.2.2.2.2.2.1, .int u.2.2.2.2.2.2])), (a_p1, .inr (3, [.int p1_hand, .int p1_at, .int p1_wide, .int p1_rim, .int p1_fill, .int p1_wall, .int p1_ceiling, .int p1_puff, .int p1_period, .int p1_second, .int p1_score, .int p1_thrown, .int p1_ballCount, .ref a_p1_kinds, .ref a_p1_sizes, .ref a_p1_tights]))] : va_W))) (va_A [(a_t, .inr (0, [.int t_end, .int t_cell, .int t_steps, .int t_greatest, .int t_struck, .int t_height, .int t_pace, .int t_rise])), (a_p1, .inr (3, [.int p1_hand, .int p1_at, .int p1_wide, .int p1_rim, .int p1_fill, .int p1_wall, .int p1_ceiling, .int p1_puff, .int p1_period, .int p1_second, .int p1_score, .int p1_thrown, .int p1_ballCount, .ref a_p1_kinds, .ref a_p1_sizes, .ref a_p1_tights]))] sz)) 0 0 (va_A [(a_t, .inr (0, [.int t_end, .int t_cell, .int t_steps, .int t_greatest, .int t_struck, .int t_height, .int t_pace, .int t_rise])), (a_p1, .inr (3, [.int p1_hand, .int p1_at, .int p1_wide, .int p1_rim, .int p1_fill, .int p1_wall, .int p1_ceiling, .int p1_puff, .int p1_period, .int p1_second, .int p1_score, .int p1_thrown, .int p1_ballCount, .ref a_p1_kinds, .ref a_p1_sizes, .ref a_p1_tights]))] sz) := by
  refine Met.ofW (cc := cX0_step) (maxL := 4) (ret := none) (by decide) rfl ?_
  intro p e s m args below meth c s₁ B hml hv
  obtain ⟨hargs, hsz, hP, hK, hD0, hN⟩ := hv
  have hx := B.exec
  have hb := B.bytes
  have hr := B.returns
  have hts := atoms_spec (ws := wsX0_step) B.pre
  have hown : s.vm.findClass RX0 = some m.cls := findClass_of_methodNamed B.named
  have hlocks := B.notSynchronized
  subst hsz
  have hD := hD0.self (sz := s.heap.size)
  obtain ⟨A, hAe⟩ : ∃ A, A = va_A [(a_t, .inr (0, [.int t_end, .int t_cell, .int t_steps, .int t_greatest, .int t_struck, .int t_height, .int t_pace, .int t_rise])), (a_p1, .inr (3, [.int p1_hand, .int p1_at, .int p1_wide, .int p1_rim, .int p1_fill, .int p1_wall, .int p1_ceiling, .int p1_puff, .int p1_period, .int p1_second, .int p1_score, .int p1_thrown, .int p1_ballCount, .ref a_p1_kinds, .ref a_p1_sizes, .ref a_p1_tights]))] s.heap.size := ⟨_, rfl⟩
  rw [← hAe] at hD
  have hA : ∀ q : Nat, s.heap.size ≤ q → A q := fun q h => by rw [hAe]; exact Or.inr h
  have hS : va_S A s.heap s.heap [] := va_S.rf
  have hl := lv_entry ([.ref a_t, .ref a_p1]) (n := 4) (Nat.le_of_ble_eq_true rfl)
  rw [e_of hargs, lg_entry_eq]
  generalize (lg_sl ([.ref a_t, .ref a_p1]) ++ List.replicate (4 - (lg_sl ([.ref a_t, .ref a_p1])).length) Slot.unset).toArray = ls at hl ⊢
  have hl : lv_has ls 4 [(0, .ref a_t), (1, .ref a_p1)] := hl
  have hinX0 : ∀ w ∈ wsX00, w ∈ wsX0_step := by decide +kernel
  have hinX3 : ∀ w ∈ wsX30, w ∈ wsX0_step := by decide +kernel
  refine w_q ({ frames := 2, cells := 0, slots := 0, locals := 42 } : Room) (fun Q0 hQ => ?_)
  have K92 : ∀ (t_end : Int32) (t_cell : Int32) (t_greatest : Int32) (t_struck : Int32) (t_height : Int32) (t_pace : Int32) (t_rise : Int32) (H : Heap) (locs : List Loc), va_P (dC, dI) vwCl [(a_t, .inr (0, [.int t_end, .int t_cell, .int t_steps, .int t_greatest, .int t_struck, .int t_height, .int t_pace, .int t_rise])), (a_p1, .inr (3, [.int p1_hand, .int p1_at, .int p1_wide, .int p1_rim, .int p1_fill, .int p1_wall, .int p1_ceiling, .int p1_puff, .int p1_period, .int p1_second, .int p1_score, .int p1_thrown, .int p1_ballCount, .ref a_p1_kinds, .ref a_p1_sizes, .ref a_p1_tights]))] H → va_D A [(a_t, .inr (0, [.int t_end, .int t_cell, .int t_steps, .int t_greatest, .int t_struck, .int t_height, .int t_pace, .int t_rise])), (a_p1, .inr (3, [.int p1_hand, .int p1_at, .int p1_wide, .int p1_rim, .int p1_fill, .int p1_wall, .int p1_ceiling, .int p1_puff, .int p1_period, .int p1_second, .int p1_score, .int p1_thrown, .int p1_ballCount, .ref a_p1_kinds, .ref a_p1_sizes, .ref a_p1_tights]))] → va_S A s.heap H locs → ∀ (ls : Array Slot), lv_has ls 4 [(0, .ref a_t), (1, .ref a_p1)] → jX0_step_92 p1_at t_end t_cell t_greatest t_struck t_height t_pace t_rise = some R → W p l e ({ frames := 2, cells := 0, slots := 0, locals := 42 } : Room) s m args below meth c H locs 0 0 Q0 (F0 m 92 ls []) := by
    intro t_end t_cell t_greatest t_struck t_height t_pace t_rise H locs hP hD hS ls hl hR
    rw [jX0_step_92] at hR
    refine lv_aload_n hx hb dX0_step_92 rfl (lv_at hl 0 rfl) ?_
    refine va_get (D := (dC, dI)) (ci := 0) (v := .int t_end) (C := RX0) (T := TX0) (N := 8) hx hb hts hinX0 hown hK hP 0 rfl rfl 0 (by decide) (hts (.fieldLink RX0 9 "PaperInBin$Flight" "end" "I") (by decide +kernel)) (fun _ h9 => h9) rfl dX0_step_93 ?_
    refine lv_iconst (v := (-1)) hx hb dX0_step_96 (by decide) ?_
    refine lv_icmp_ne (tgt := 127) hx hb dX0_step_97 (by decide) (fun c97 => ?_) (fun c97 => ?_)
    · have hR := (if_neg c97).symm.trans hR
      subst hQ
      subst hAe
      exact W.vret hx hb hr (fun t ht hW => ⟨⟨(t_end, t_cell, t_greatest, t_struck, t_height, t_pace, t_rise), rfl, Option.some.inj hR, by rw [ht]; exact hP, hD⟩, hS.F ht⟩) hS.2.2 dX0_step_127
    · have hR := (if_pos c97).symm.trans hR
      refine lv_aload_n hx hb dX0_step_100 rfl (lv_at hl 0 rfl) ?_
      refine va_get (D := (dC, dI)) (ci := 0) (v := .int t_height) (C := RX0) (T := TX0) (N := 8) hx hb hts hinX0 hown hK hP 0 rfl rfl 5 (by decide) (hts (.fieldLink RX0 26 "PaperInBin$Flight" "height" "I") (by decide +kernel)) (fun _ h9 => h9) rfl dX0_step_101 ?_
      refine lv_if_gt (tgt := 127) hx hb dX0_step_104 (by decide) (fun c104 => ?_) (fun c104 => ?_)
      · have hR := (if_pos c104).symm.trans hR
        subst hQ
        subst hAe
        exact W.vret hx hb hr (fun t ht hW => ⟨⟨(t_end, t_cell, t_greatest, t_struck, t_height, t_pace, t_rise), rfl, Option.some.inj hR, by rw [ht]; exact hP, hD⟩, hS.F ht⟩) hS.2.2 dX0_step_127
      · have hR := (if_neg c104).symm.trans hR
        refine lv_aload_n hx hb dX0_step_107 rfl (lv_at hl 0 rfl) ?_
        refine lv_aload_n hx hb dX0_step_108 rfl (lv_at hl 0 rfl) ?_
        refine va_get (D := (dC, dI)) (ci := 0) (v := .int t_cell) (C := RX0) (T := TX0) (N := 8) hx hb hts hinX0 hown hK hP 0 rfl rfl 1 (by decide) (hts (.fieldLink RX0 15 "PaperInBin$Flight" "cell" "I") (by decide +kernel)) (fun _ h9 => h9) rfl dX0_step_109 ?_
        refine lv_aload_n hx hb dX0_step_112 rfl (lv_at hl 1 rfl) ?_
        refine va_getN (D := (dC, dI)) (ci := 3) (v := .int p1_at) (C := RX3) (T := TX3) (N := 16) hx hb hts hinX3 hown hK hP 1 rfl rfl 1 (by decide) ((nF_Flight_80 hN).use rfl) (fun _ h9 => h9) rfl dX0_step_113 ?_
        refine lv_icmp_ge (tgt := 123) hx hb dX0_step_116 (by decide) (fun c116 => ?_) (fun c116 => ?_)
        · have hR := (if_pos c116).symm.trans hR
          refine lv_iconst (v := 2) hx hb dX0_step_123 (by decide) ?_
          refine va_put (D := (dC, dI)) (ci := 0) (v := .int 2) (ty := .int) (C := RX0) (T := TX0) (N := 8) hx hb hts hinX0 tyX0 tyX0_ok nmX0 hown hK hP hD hS 0 rfl rfl 0 (by decide) (hts (.fieldLink RX0 9 "PaperInBin$Flight" "end" "I") (by decide +kernel)) (fun _ h9 => h9) rfl (tyX0_ok 0 (by decide)) rfl rfl (Nat.le_of_ble_eq_true rfl) dX0_step_124 (fun H locs hP hD hS => ?_)
          have hP : va_P (dC, dI) vwCl [(a_t, .inr (0, [.int 2, .int t_cell, .int t_steps, .int t_greatest, .int t_struck, .int t_height, .int t_pace, .int t_rise])), (a_p1, .inr (3, [.int p1_hand, .int p1_at, .int p1_wide, .int p1_rim, .int p1_fill, .int p1_wall, .int p1_ceiling, .int p1_puff, .int p1_period, .int p1_second, .int p1_score, .int p1_thrown, .int p1_ballCount, .ref a_p1_kinds, .ref a_p1_sizes, .ref a_p1_tights]))] H := hP
          have hD : va_D A [(a_t, .inr (0, [.int 2, .int t_cell, .int t_steps, .int t_greatest, .int t_struck, .int t_height, .int t_pace, .int t_rise])), (a_p1, .inr (3, [.int p1_hand, .int p1_at, .int p1_wide, .int p1_rim, .int p1_fill, .int p1_wall, .int p1_ceiling, .int p1_puff, .int p1_period, .int p1_second, .int p1_score, .int p1_thrown, .int p1_ballCount, .ref a_p1_kinds, .ref a_p1_sizes, .ref a_p1_tights]))] := hD
          subst hQ
          subst hAe
          exact W.vret hx hb hr (fun t ht hW => ⟨⟨(2, t_cell, t_greatest, t_struck, t_height, t_pace, t_rise), rfl, Option.some.inj hR, by rw [ht]; exact hP, hD⟩, hS.F ht⟩) hS.2.2 dX0_step_127
        · have hR := (if_neg c116).symm.trans hR
          refine lv_iconst (v := 1) hx hb dX0_step_119 (by decide) ?_
          refine lv_goto (tgt := 124) hx hb dX0_step_120 (by decide) ?_
          refine va_put (D := (dC, dI)) (ci := 0) (v := .int 1) (ty := .int) (C := RX0) (T := TX0) (N := 8) hx hb hts hinX0 tyX0 tyX0_ok nmX0 hown hK hP hD hS 0 rfl rfl 0 (by decide) (hts (.fieldLink RX0 9 "PaperInBin$Flight" "end" "I") (by decide +kernel)) (fun _ h9 => h9) rfl (tyX0_ok 0 (by decide)) rfl rfl (Nat.le_of_ble_eq_true rfl) dX0_step_124 (fun H locs hP hD hS => ?_)
          have hP : va_P (dC, dI) vwCl [(a_t, .inr (0, [.int 1, .int t_cell, .int t_steps, .int t_greatest, .int t_struck, .int t_height, .int t_pace, .int t_rise])), (a_p1, .inr (3, [.int p1_hand, .int p1_at, .int p1_wide, .int p1_rim, .int p1_fill, .int p1_wall, .int p1_ceiling, .int p1_puff, .int p1_period, .int p1_second, .int p1_score, .int p1_thrown, .int p1_ballCount, .ref a_p1_kinds, .ref a_p1_sizes, .ref a_p1_tights]))] H := hP
          have hD : va_D A [(a_t, .inr (0, [.int 1, .int t_cell, .int t_steps, .int t_greatest, .int t_struck, .int t_height, .int t_pace, .int t_rise])), (a_p1, .inr (3, [.int p1_hand, .int p1_at, .int p1_wide, .int p1_rim, .int p1_fill, .int p1_wall, .int p1_ceiling, .int p1_puff, .int p1_period, .int p1_second, .int p1_score, .int p1_thrown, .int p1_ballCount, .ref a_p1_kinds, .ref a_p1_sizes, .ref a_p1_tights]))] := hD
          subst hQ
          subst hAe
          exact W.vret hx hb hr (fun t ht hW => ⟨⟨(1, t_cell, t_greatest, t_struck, t_height, t_pace, t_rise), rfl, Option.some.inj hR, by rw [ht]; exact hP, hD⟩, hS.F ht⟩) hS.2.2 dX0_step_127
  have K17 : ∀ (x2 : Int32) (st0 : Int32) (t_end : Int32) (t_cell : Int32) (t_greatest : Int32) (t_struck : Int32) (t_height : Int32) (t_pace : Int32) (t_rise : Int32) (H : Heap) (locs : List Loc), va_P (dC, dI) vwCl [(a_t, .inr (0, [.int t_end, .int t_cell, .int t_steps, .int t_greatest, .int t_struck, .int t_height, .int t_pace, .int t_rise])), (a_p1, .inr (3, [.int p1_hand, .int p1_at, .int p1_wide, .int p1_rim, .int p1_fill, .int p1_wall, .int p1_ceiling, .int p1_puff, .int p1_period, .int p1_second, .int p1_score, .int p1_thrown, .int p1_ballCount, .ref a_p1_kinds, .ref a_p1_sizes, .ref a_p1_tights]))] H → va_D A [(a_t, .inr (0, [.int t_end, .int t_cell, .int t_steps, .int t_greatest, .int t_struck, .int t_height, .int t_pace, .int t_rise])), (a_p1, .inr (3, [.int p1_hand, .int p1_at, .int p1_wide, .int p1_rim, .int p1_fill, .int p1_wall, .int p1_ceiling, .int p1_puff, .int p1_period, .int p1_second, .int p1_score, .int p1_thrown, .int p1_ballCount, .ref a_p1_kinds, .ref a_p1_sizes, .ref a_p1_tights]))] → va_S A s.heap H locs → ∀ (ls : Array Slot), lv_has ls 4 [(0, .ref a_t), (1, .ref a_p1), (2, .int x2)] → jX0_step_17 p1_at p1_wide p1_rim p1_fill p1_wall p1_ceiling x2 st0 t_end t_cell t_greatest t_struck t_height t_pace t_rise = some R → W p l e ({ frames := 2, cells := 0, slots := 0, locals := 42 } : Room) s m args below meth c H locs 0 0 Q0 (F0 m 17 ls [.int st0]) := by
    intro x2 st0 t_end t_cell t_greatest t_struck t_height t_pace t_rise H locs hP hD hS ls hl hR
    rw [jX0_step_17] at hR
    refine lv_istore_n (lv' := [(3, .int st0), (0, .ref a_t), (1, .ref a_p1), (2, .int x2)]) hx hb dX0_step_17 rfl hl (by decide) rfl (fun ls hl => ?_)
    refine lv_aload_n hx hb dX0_step_18 rfl (lv_at hl 1 rfl) ?_
    refine lv_dup hx hb dX0_step_19 rfl ?_
    refine va_get (D := (dC, dI)) (ci := 0) (v := .int t_cell) (C := RX0) (T := TX0) (N := 8) hx hb hts hinX0 hown hK hP 0 rfl rfl 1 (by decide) (hts (.fieldLink RX0 15 "PaperInBin$Flight" "cell" "I") (by decide +kernel)) (fun _ h9 => h9) rfl dX0_step_20 ?_
    refine lv_aload_n hx hb dX0_step_23 rfl (lv_at hl 1 rfl) ?_
    refine va_get (D := (dC, dI)) (ci := 0) (v := .int t_pace) (C := RX0) (T := TX0) (N := 8) hx hb hts hinX0 hown hK hP 0 rfl rfl 6 (by decide) (hts (.fieldLink RX0 35 "PaperInBin$Flight" "pace" "I") (by decide +kernel)) (fun _ h9 => h9) rfl dX0_step_24 ?_
    refine lv_iadd hx hb dX0_step_27 ?_
    refine va_put (D := (dC, dI)) (ci := 0) (v := .int (t_cell + t_pace)) (ty := .int) (C := RX0) (T := TX0) (N := 8) hx hb hts hinX0 tyX0 tyX0_ok nmX0 hown hK hP hD hS 0 rfl rfl 1 (by decide) (hts (.fieldLink RX0 15 "PaperInBin$Flight" "cell" "I") (by decide +kernel)) (fun _ h9 => h9) rfl (tyX0_ok 1 (by decide)) rfl rfl (Nat.le_of_ble_eq_true rfl) dX0_step_28 (fun H locs hP hD hS => ?_)
    have hP : va_P (dC, dI) vwCl [(a_t, .inr (0, [.int t_end, .int (t_cell + t_pace), .int t_steps, .int t_greatest, .int t_struck, .int t_height, .int t_pace, .int t_rise])), (a_p1, .inr (3, [.int p1_hand, .int p1_at, .int p1_wide, .int p1_rim, .int p1_fill, .int p1_wall, .int p1_ceiling, .int p1_puff, .int p1_period, .int p1_second, .int p1_score, .int p1_thrown, .int p1_ballCount, .ref a_p1_kinds, .ref a_p1_sizes, .ref a_p1_tights]))] H := hP
    have hD : va_D A [(a_t, .inr (0, [.int t_end, .int (t_cell + t_pace), .int t_steps, .int t_greatest, .int t_struck, .int t_height, .int t_pace, .int t_rise])), (a_p1, .inr (3, [.int p1_hand, .int p1_at, .int p1_wide, .int p1_rim, .int p1_fill, .int p1_wall, .int p1_ceiling, .int p1_puff, .int p1_period, .int p1_second, .int p1_score, .int p1_thrown, .int p1_ballCount, .ref a_p1_kinds, .ref a_p1_sizes, .ref a_p1_tights]))] := hD
    refine lv_aload_n hx hb dX0_step_31 rfl (lv_at hl 1 rfl) ?_
    refine lv_dup hx hb dX0_step_32 rfl ?_
    refine va_get (D := (dC, dI)) (ci := 0) (v := .int t_height) (C := RX0) (T := TX0) (N := 8) hx hb hts hinX0 hown hK hP 0 rfl rfl 5 (by decide) (hts (.fieldLink RX0 26 "PaperInBin$Flight" "height" "I") (by decide +kernel)) (fun _ h9 => h9) rfl dX0_step_33 ?_
    refine lv_aload_n hx hb dX0_step_36 rfl (lv_at hl 1 rfl) ?_
    refine va_get (D := (dC, dI)) (ci := 0) (v := .int t_rise) (C := RX0) (T := TX0) (N := 8) hx hb hts hinX0 hown hK hP 0 rfl rfl 7 (by decide) (hts (.fieldLink RX0 38 "PaperInBin$Flight" "rise" "I") (by decide +kernel)) (fun _ h9 => h9) rfl dX0_step_37 ?_
    refine lv_iadd hx hb dX0_step_40 ?_
    refine va_put (D := (dC, dI)) (ci := 0) (v := .int (t_height + t_rise)) (ty := .int) (C := RX0) (T := TX0) (N := 8) hx hb hts hinX0 tyX0 tyX0_ok nmX0 hown hK hP hD hS 0 rfl rfl 5 (by decide) (hts (.fieldLink RX0 26 "PaperInBin$Flight" "height" "I") (by decide +kernel)) (fun _ h9 => h9) rfl (tyX0_ok 5 (by decide)) rfl rfl (Nat.le_of_ble_eq_true rfl) dX0_step_41 (fun H locs hP hD hS => ?_)
    have hP : va_P (dC, dI) vwCl [(a_t, .inr (0, [.int t_end, .int (t_cell + t_pace), .int t_steps, .int t_greatest, .int t_struck, .int (t_height + t_rise), .int t_pace, .int t_rise])), (a_p1, .inr (3, [.int p1_hand, .int p1_at, .int p1_wide, .int p1_rim, .int p1_fill, .int p1_wall, .int p1_ceiling, .int p1_puff, .int p1_period, .int p1_second, .int p1_score, .int p1_thrown, .int p1_ballCount, .ref a_p1_kinds, .ref a_p1_sizes, .ref a_p1_tights]))] H := hP
    have hD : va_D A [(a_t, .inr (0, [.int t_end, .int (t_cell + t_pace), .int t_steps, .int t_greatest, .int t_struck, .int (t_height + t_rise), .int t_pace, .int t_rise])), (a_p1, .inr (3, [.int p1_hand, .int p1_at, .int p1_wide, .int p1_rim, .int p1_fill, .int p1_wall, .int p1_ceiling, .int p1_puff, .int p1_period, .int p1_second, .int p1_score, .int p1_thrown, .int p1_ballCount, .ref a_p1_kinds, .ref a_p1_sizes, .ref a_p1_tights]))] := hD
    refine lv_aload_n hx hb dX0_step_44 rfl (lv_at hl 1 rfl) ?_
    refine lv_aload_n hx hb dX0_step_45 rfl (lv_at hl 2 rfl) ?_
    obtain ⟨w2, w3, w4, w5, w6, hu7, hR⟩ := b5_s hR
    refine cl_Vv (As := [.ref a_p1]) (rest := []) (wc := [(a_t, .inr (0, [.int t_end, .int (t_cell + t_pace), .int t_steps, .int t_greatest, .int t_struck, .int (t_height + t_rise), .int t_pace, .int t_rise])), (a_p1, .inr (3, [.int p1_hand, .int p1_at, .int p1_wide, .int p1_rim, .int p1_fill, .int p1_wall, .int p1_ceiling, .int p1_puff, .int p1_period, .int p1_second, .int p1_score, .int p1_thrown, .int p1_ballCount, .ref a_p1_kinds, .ref a_p1_sizes, .ref a_p1_tights]))]) (wr := []) ⟨hx, hb, hml, hown, hts⟩ (kX0_strikeCeilingAndWall l dC dI cI a_t a_p1 a_p1_kinds a_p1_sizes a_p1_tights H.size t_end (t_cell + t_pace) t_steps t_greatest t_struck (t_height + t_rise) t_pace t_rise p1_hand p1_at p1_wide p1_rim p1_fill p1_wall p1_ceiling p1_puff p1_period p1_second p1_score p1_thrown p1_ballCount (w2, w3, w4, w5, w6) hu7) (cwV 1 hts gX0_step_X0_strikeCeilingAndWall rfl rfl rfl (by decide +kernel) ⟨Nat.le_of_ble_eq_true rfl, Nat.le_of_ble_eq_true rfl⟩) hK hN hP hD hS hA (va_recv hK hP (ci := 0) (q0 := 0) rfl rfl) [0, 1] [] rfl rfl rfl rfl rfl (by decide) rfl hl.1 rfl (Nat.le_of_ble_eq_true rfl) dX0_step_46 (fun H locs hP hD hS => ?_)
    have hP : va_P (dC, dI) vwCl [(a_t, .inr (0, [.int t_end, .int w2, .int t_steps, .int t_greatest, .int w3, .int w4, .int w5, .int w6])), (a_p1, .inr (3, [.int p1_hand, .int p1_at, .int p1_wide, .int p1_rim, .int p1_fill, .int p1_wall, .int p1_ceiling, .int p1_puff, .int p1_period, .int p1_second, .int p1_score, .int p1_thrown, .int p1_ballCount, .ref a_p1_kinds, .ref a_p1_sizes, .ref a_p1_tights]))] H := hP
    have hD : va_D A [(a_t, .inr (0, [.int t_end, .int w2, .int t_steps, .int t_greatest, .int w3, .int w4, .int w5, .int w6])), (a_p1, .inr (3, [.int p1_hand, .int p1_at, .int p1_wide, .int p1_rim, .int p1_fill, .int p1_wall, .int p1_ceiling, .int p1_puff, .int p1_period, .int p1_second, .int p1_score, .int p1_thrown, .int p1_ballCount, .ref a_p1_kinds, .ref a_p1_sizes, .ref a_p1_tights]))] := hD
    refine lv_aload_n hx hb dX0_step_49 rfl (lv_at hl 1 rfl) ?_
    refine lv_aload_n hx hb dX0_step_50 rfl (lv_at hl 1 rfl) ?_
    refine va_get (D := (dC, dI)) (ci := 0) (v := .int t_greatest) (C := RX0) (T := TX0) (N := 8) hx hb hts hinX0 hown hK hP 0 rfl rfl 3 (by decide) (hts (.fieldLink RX0 29 "PaperInBin$Flight" "greatest" "I") (by decide +kernel)) (fun _ h9 => h9) rfl dX0_step_51 ?_
    refine lv_aload_n hx hb dX0_step_54 rfl (lv_at hl 1 rfl) ?_
    refine va_get (D := (dC, dI)) (ci := 0) (v := .int w4) (C := RX0) (T := TX0) (N := 8) hx hb hts hinX0 hown hK hP 0 rfl rfl 5 (by decide) (hts (.fieldLink RX0 26 "PaperInBin$Flight" "height" "I") (by decide +kernel)) (fun _ h9 => h9) rfl dX0_step_55 ?_
    refine va_mmax hx hb (hml.trans hl.1.symm) hown (hts (.methodLink RX0 69 Lib.Math.max.name) (by decide +kernel)) (hts (.static Lib.Math.max.name) (by decide +kernel)) (hts (.initialized "java/lang/Math") (by decide +kernel)) (hts (.code Lib.Math.max.name Lib.Math.max.code 2 (some .int)) (by decide +kernel)) (Nat.le_of_ble_eq_true rfl) (Nat.le_of_ble_eq_true rfl) (Nat.zero_le _) (Nat.zero_le _) dX0_step_58 ?_
    refine va_put (D := (dC, dI)) (ci := 0) (v := .int (if t_greatest < w4 then w4 else t_greatest)) (ty := .int) (C := RX0) (T := TX0) (N := 8) hx hb hts hinX0 tyX0 tyX0_ok nmX0 hown hK hP hD hS 0 rfl rfl 3 (by decide) (hts (.fieldLink RX0 29 "PaperInBin$Flight" "greatest" "I") (by decide +kernel)) (fun _ h9 => h9) rfl (tyX0_ok 3 (by decide)) rfl rfl (Nat.le_of_ble_eq_true rfl) dX0_step_61 (fun H locs hP hD hS => ?_)
    have hP : va_P (dC, dI) vwCl [(a_t, .inr (0, [.int t_end, .int w2, .int t_steps, .int (if t_greatest < w4 then w4 else t_greatest), .int w3, .int w4, .int w5, .int w6])), (a_p1, .inr (3, [.int p1_hand, .int p1_at, .int p1_wide, .int p1_rim, .int p1_fill, .int p1_wall, .int p1_ceiling, .int p1_puff, .int p1_period, .int p1_second, .int p1_score, .int p1_thrown, .int p1_ballCount, .ref a_p1_kinds, .ref a_p1_sizes, .ref a_p1_tights]))] H := hP
    have hD : va_D A [(a_t, .inr (0, [.int t_end, .int w2, .int t_steps, .int (if t_greatest < w4 then w4 else t_greatest), .int w3, .int w4, .int w5, .int w6])), (a_p1, .inr (3, [.int p1_hand, .int p1_at, .int p1_wide, .int p1_rim, .int p1_fill, .int p1_wall, .int p1_ceiling, .int p1_puff, .int p1_period, .int p1_second, .int p1_score, .int p1_thrown, .int p1_ballCount, .ref a_p1_kinds, .ref a_p1_sizes, .ref a_p1_tights]))] := hD
    refine lv_iload_n hx hb dX0_step_64 rfl (lv_at hl 0 rfl) ?_
    refine lv_if_eq (tgt := 92) hx hb dX0_step_65 (by decide) (fun c65 => ?_) (fun c65 => ?_)
    · have hR := (if_pos c65).symm.trans hR
      exact K92 t_end w2 (if t_greatest < w4 then w4 else t_greatest) w3 w4 w5 w6 _ _ hP hD hS _ (lv_sub hl [1, 2] rfl) hR
    · have hR := (if_neg c65).symm.trans hR
      refine lv_iload_n hx hb dX0_step_68 rfl (lv_at hl 3 rfl) ?_
      refine lv_aload_n hx hb dX0_step_69 rfl (lv_at hl 2 rfl) ?_
      refine va_getN (D := (dC, dI)) (ci := 3) (v := .int p1_rim) (C := RX3) (T := TX3) (N := 16) hx hb hts hinX3 hown hK hP 1 rfl rfl 3 (by decide) ((nF_Flight_74 hN).use rfl) (fun _ h9 => h9) rfl dX0_step_70 ?_
      refine lv_icmp_le (tgt := 92) hx hb dX0_step_73 (by decide) (fun c73 => ?_) (fun c73 => ?_)
      · have hR := (if_pos c73).symm.trans hR
        exact K92 t_end w2 (if t_greatest < w4 then w4 else t_greatest) w3 w4 w5 w6 _ _ hP hD hS _ (lv_sub hl [1, 2] rfl) hR
      · have hR := (if_neg c73).symm.trans hR
        refine lv_aload_n hx hb dX0_step_76 rfl (lv_at hl 1 rfl) ?_
        refine va_get (D := (dC, dI)) (ci := 0) (v := .int w4) (C := RX0) (T := TX0) (N := 8) hx hb hts hinX0 hown hK hP 0 rfl rfl 5 (by decide) (hts (.fieldLink RX0 26 "PaperInBin$Flight" "height" "I") (by decide +kernel)) (fun _ h9 => h9) rfl dX0_step_77 ?_
        refine lv_aload_n hx hb dX0_step_80 rfl (lv_at hl 2 rfl) ?_
        refine va_getN (D := (dC, dI)) (ci := 3) (v := .int p1_rim) (C := RX3) (T := TX3) (N := 16) hx hb hts hinX3 hown hK hP 1 rfl rfl 3 (by decide) ((nF_Flight_74 hN).use rfl) (fun _ h9 => h9) rfl dX0_step_81 ?_
        refine lv_icmp_gt (tgt := 92) hx hb dX0_step_84 (by decide) (fun c84 => ?_) (fun c84 => ?_)
        · have hR := (if_pos c84).symm.trans hR
          exact K92 t_end w2 (if t_greatest < w4 then w4 else t_greatest) w3 w4 w5 w6 _ _ hP hD hS _ (lv_sub hl [1, 2] rfl) hR
        · have hR := (if_neg c84).symm.trans hR
          refine lv_aload_n hx hb dX0_step_87 rfl (lv_at hl 1 rfl) ?_
          refine lv_aload_n hx hb dX0_step_88 rfl (lv_at hl 2 rfl) ?_
          obtain ⟨w9, w10, w11, w12, w13, hu14, hR⟩ := b5_s hR
          refine cl_Vv (As := [.ref a_p1]) (rest := []) (wc := [(a_t, .inr (0, [.int t_end, .int w2, .int t_steps, .int (if t_greatest < w4 then w4 else t_greatest), .int w3, .int w4, .int w5, .int w6])), (a_p1, .inr (3, [.int p1_hand, .int p1_at, .int p1_wide, .int p1_rim, .int p1_fill, .int p1_wall, .int p1_ceiling, .int p1_puff, .int p1_period, .int p1_second, .int p1_score, .int p1_thrown, .int p1_ballCount, .ref a_p1_kinds, .ref a_p1_sizes, .ref a_p1_tights]))]) (wr := []) ⟨hx, hb, hml, hown, hts⟩ (kX0_comeDownToRim l dC dI cI a_t a_p1 a_p1_kinds a_p1_sizes a_p1_tights H.size t_end w2 t_steps (if t_greatest < w4 then w4 else t_greatest) w3 w4 w5 w6 p1_hand p1_at p1_wide p1_rim p1_fill p1_wall p1_ceiling p1_puff p1_period p1_second p1_score p1_thrown p1_ballCount (w9, w10, w11, w12, w13) hu14) (cwV 1 hts gX0_step_X0_comeDownToRim rfl rfl rfl (by decide +kernel) ⟨Nat.le_of_ble_eq_true rfl, Nat.le_of_ble_eq_true rfl⟩) hK hN hP hD hS hA (va_recv hK hP (ci := 0) (q0 := 0) rfl rfl) [0, 1] [] rfl rfl rfl rfl rfl (by decide) rfl hl.1 rfl (Nat.le_of_ble_eq_true rfl) dX0_step_89 (fun H locs hP hD hS => ?_)
          have hP : va_P (dC, dI) vwCl [(a_t, .inr (0, [.int w9, .int w2, .int t_steps, .int (if t_greatest < w4 then w4 else t_greatest), .int w10, .int w11, .int w12, .int w13])), (a_p1, .inr (3, [.int p1_hand, .int p1_at, .int p1_wide, .int p1_rim, .int p1_fill, .int p1_wall, .int p1_ceiling, .int p1_puff, .int p1_period, .int p1_second, .int p1_score, .int p1_thrown, .int p1_ballCount, .ref a_p1_kinds, .ref a_p1_sizes, .ref a_p1_tights]))] H := hP
          have hD : va_D A [(a_t, .inr (0, [.int w9, .int w2, .int t_steps, .int (if t_greatest < w4 then w4 else t_greatest), .int w10, .int w11, .int w12, .int w13])), (a_p1, .inr (3, [.int p1_hand, .int p1_at, .int p1_wide, .int p1_rim, .int p1_fill, .int p1_wall, .int p1_ceiling, .int p1_puff, .int p1_period, .int p1_second, .int p1_score, .int p1_thrown, .int p1_ballCount, .ref a_p1_kinds, .ref a_p1_sizes, .ref a_p1_tights]))] := hD
          exact K92 w9 w2 (if t_greatest < w4 then w4 else t_greatest) w10 w11 w12 w13 _ _ hP hD hS _ (lv_sub hl [1, 2] rfl) hR
  rw [fX0_step] at hR
  refine lv_aload_n hx hb dX0_step_0 rfl (lv_at hl 0 rfl) ?_
  refine va_get (D := (dC, dI)) (ci := 0) (v := .int t_height) (C := RX0) (T := TX0) (N := 8) hx hb hts hinX0 hown hK hP 0 rfl rfl 5 (by decide) (hts (.fieldLink RX0 26 "PaperInBin$Flight" "height" "I") (by decide +kernel)) (fun _ h9 => h9) rfl dX0_step_1 ?_
  refine lv_istore_n (lv' := [(2, .int t_height), (0, .ref a_t), (1, .ref a_p1)]) hx hb dX0_step_4 rfl hl (by decide) rfl (fun ls hl => ?_)
  refine lv_aload_n hx hb dX0_step_5 rfl (lv_at hl 1 rfl) ?_
  refine va_get (D := (dC, dI)) (ci := 0) (v := .int t_rise) (C := RX0) (T := TX0) (N := 8) hx hb hts hinX0 hown hK hP 0 rfl rfl 7 (by decide) (hts (.fieldLink RX0 38 "PaperInBin$Flight" "rise" "I") (by decide +kernel)) (fun _ h9 => h9) rfl dX0_step_6 ?_
  refine lv_if_ge (tgt := 16) hx hb dX0_step_9 (by decide) (fun c9 => ?_) (fun c9 => ?_)
  · have hR := (if_pos c9).symm.trans hR
    refine lv_iconst (v := 0) hx hb dX0_step_16 (by decide) ?_
    exact K17 t_height 0 t_end t_cell t_greatest t_struck t_height t_pace t_rise _ _ hP hD hS _ (lv_sub hl [1, 2, 0] rfl) hR
  · have hR := (if_neg c9).symm.trans hR
    refine lv_iconst (v := 1) hx hb dX0_step_12 (by decide) ?_
    refine lv_goto (tgt := 17) hx hb dX0_step_13 (by decide) ?_
    exact K17 t_height 1 t_end t_cell t_greatest t_struck t_height t_pace t_rise _ _ hP hD hS _ (lv_sub hl [1, 2, 0] rfl) hR
def fX0_nearerZero (x0 : Int32) (x1 : Int32) : Option (Int32) :=
  if x0 ≤ 0 then (
   some ((if (x0 + x1) < (0 : Int32) then (x0 + x1) else (0 : Int32))))
  else (
  some ((if (0 : Int32) < (x0 - x1) then (x0 - x1) else (0 : Int32))))
set_option maxHeartbeats 4000000 in
set_option maxRecDepth 100000 in
theorem kX0_nearerZero (l : Launch) (dC : Nat → ClassId) (dI : Nat → Nat → Nat) (cI : ClassId) (sz : Nat) (x0 : Int32) (x1 : Int32) (R : Int32) (hR : fX0_nearerZero x0 x1 = some R) : Met l yX0_nearerZero wsX0_nearerZero ({ frames := 1, cells := 0, slots := 0, locals := 21 } : Room) (va_Pc [.int x0, .int x1] (Wp (dC, dI) [(cI, .int)] [] sz)) (va_Qi (fun (r : Int32) (_ : Unit) => r = R) (Wq (dC, dI) [] sz (fun (_ : Unit) => ([] : va_W))) (va_A [] sz)) 0 0 (va_A [] sz) := by
  refine Met.ofW (cc := cX0_nearerZero) (maxL := 2) (ret := (some .int)) (by decide) rfl ?_
  intro p e s m args below meth c s₁ B hml hv
  obtain ⟨hargs, hsz, hP, hK, hD0, hN⟩ := hv
  have hx := B.exec
  have hb := B.bytes
  have hr := B.returns
  have hts := atoms_spec (ws := wsX0_nearerZero) B.pre
  have hown : s.vm.findClass RX0 = some m.cls := findClass_of_methodNamed B.named
  have hlocks := B.notSynchronized
  subst hsz
  have hD := hD0.self (sz := s.heap.size)
  obtain ⟨A, hAe⟩ : ∃ A, A = va_A [] s.heap.size := ⟨_, rfl⟩
  rw [← hAe] at hD
  have hA : ∀ q : Nat, s.heap.size ≤ q → A q := fun q h => by rw [hAe]; exact Or.inr h
  have hS : va_S A s.heap s.heap [] := va_S.rf
  have hl := lv_entry ([.int x0, .int x1]) (n := 2) (Nat.le_of_ble_eq_true rfl)
  rw [e_of hargs, lg_entry_eq]
  generalize (lg_sl ([.int x0, .int x1]) ++ List.replicate (2 - (lg_sl ([.int x0, .int x1])).length) Slot.unset).toArray = ls at hl ⊢
  have hl : lv_has ls 2 [(0, .int x0), (1, .int x1)] := hl
  refine w_q ({ frames := 1, cells := 0, slots := 0, locals := 21 } : Room) (fun Q0 hQ => ?_)
  rw [fX0_nearerZero] at hR
  refine lv_iload_n hx hb dX0_nearerZero_0 rfl (lv_at hl 0 rfl) ?_
  refine lv_if_le (tgt := 14) hx hb dX0_nearerZero_1 (by decide) (fun c1 => ?_) (fun c1 => ?_)
  · have hR := (if_pos c1).symm.trans hR
    refine lv_iconst (v := 0) hx hb dX0_nearerZero_14 (by decide) ?_
    refine lv_iload_n hx hb dX0_nearerZero_15 rfl (lv_at hl 0 rfl) ?_
    refine lv_iload_n hx hb dX0_nearerZero_16 rfl (lv_at hl 1 rfl) ?_
    refine lv_iadd hx hb dX0_nearerZero_17 ?_
    refine va_mmin hx hb (hml.trans hl.1.symm) hown (hts (.methodLink RX0 98 Lib.Math.min.name) (by decide +kernel)) (hts (.static Lib.Math.min.name) (by decide +kernel)) (hts (.initialized "java/lang/Math") (by decide +kernel)) (hts (.code Lib.Math.min.name Lib.Math.min.code 2 (some .int)) (by decide +kernel)) (Nat.le_of_ble_eq_true rfl) (Nat.le_of_ble_eq_true rfl) (Nat.zero_le _) (Nat.zero_le _) dX0_nearerZero_18 ?_
    subst hQ
    subst hAe
    exact W.iret (v := (if (x0 + x1) < (0 : Int32) then (x0 + x1) else (0 : Int32))) hx hb hr (fun t ht hW => ⟨⟨(if (x0 + x1) < (0 : Int32) then (x0 + x1) else (0 : Int32)), (), rfl, Option.some.inj hR, by rw [ht]; exact hP, hD⟩, hS.F ht⟩) hS.2.2 dX0_nearerZero_21
  · have hR := (if_neg c1).symm.trans hR
    refine lv_iconst (v := 0) hx hb dX0_nearerZero_4 (by decide) ?_
    refine lv_iload_n hx hb dX0_nearerZero_5 rfl (lv_at hl 0 rfl) ?_
    refine lv_iload_n hx hb dX0_nearerZero_6 rfl (lv_at hl 1 rfl) ?_
    refine lv_isub hx hb dX0_nearerZero_7 ?_
    refine va_mmax hx hb (hml.trans hl.1.symm) hown (hts (.methodLink RX0 69 Lib.Math.max.name) (by decide +kernel)) (hts (.static Lib.Math.max.name) (by decide +kernel)) (hts (.initialized "java/lang/Math") (by decide +kernel)) (hts (.code Lib.Math.max.name Lib.Math.max.code 2 (some .int)) (by decide +kernel)) (Nat.le_of_ble_eq_true rfl) (Nat.le_of_ble_eq_true rfl) (Nat.zero_le _) (Nat.zero_le _) dX0_nearerZero_8 ?_
    refine lv_goto (tgt := 21) hx hb dX0_nearerZero_11 (by decide) ?_
    subst hQ
    subst hAe
    exact W.iret (v := (if (0 : Int32) < (x0 - x1) then (x0 - x1) else (0 : Int32))) hx hb hr (fun t ht hW => ⟨⟨(if (0 : Int32) < (x0 - x1) then (x0 - x1) else (0 : Int32)), (), rfl, Option.some.inj hR, by rw [ht]; exact hP, hD⟩, hS.F ht⟩) hS.2.2 dX0_nearerZero_21
def lX0_run_68 (p1_at : Int32) (p1_wide : Int32) (p1_rim : Int32) (p1_fill : Int32) (p1_wall : Int32) (p1_ceiling : Int32) (p1_period : Int32) (p1_second : Int32) : Nat → Int32 → Int32 → Int32 → Int32 → Int32 → Int32 → Int32 → Int32 → Int32 → Int32 → Int32 → Option (Int32 × Int32 × Int32 × Int32 × Int32 × Int32 × Int32 × Int32)
  | 0, _, _, _, _, _, _, _, _, _, _, _ => none
  | n + 1, x5, x6, x7, t_end, t_cell, t_steps, t_greatest, t_struck, t_height, t_pace, t_rise =>
    if t_end = (-1) then (
     if 60 ≤ t_steps then (
      if t_end = (-1) then (
       some (1, t_cell, t_steps, t_greatest, t_struck, t_height, t_pace, t_rise))
      else (
      some (t_end, t_cell, t_steps, t_greatest, t_struck, t_height, t_pace, t_rise)))
     else (
     b7 (fX0_step t_end t_cell t_greatest t_struck t_height t_pace t_rise p1_at p1_wide p1_rim p1_fill p1_wall p1_ceiling) (fun w2 w3 w4 w5 w6 w7 w8 =>
     b1 (fX0_nearerZero w7 x5) (fun r10 =>
     b1 (fX3_blowsIn (p1_second + ((t_steps + 1) / 4)) p1_period) (fun r12 =>
     if r12 = 0 then (
      lX0_run_68 p1_at p1_wide p1_rim p1_fill p1_wall p1_ceiling p1_period p1_second n x5 x6 x7 w2 w3 (t_steps + 1) w4 w5 w6 r10 (w8 - x6))
     else (
     lX0_run_68 p1_at p1_wide p1_rim p1_fill p1_wall p1_ceiling p1_period p1_second n x5 x6 x7 w2 w3 (t_steps + 1) w4 w5 w6 (r10 + x7) (w8 - x6)))))))
    else (
    if t_end = (-1) then (
     some (1, t_cell, t_steps, t_greatest, t_struck, t_height, t_pace, t_rise))
    else (
    some (t_end, t_cell, t_steps, t_greatest, t_struck, t_height, t_pace, t_rise)))
def fX0_run (x2 : Int32) (x3 : Int32) (x4 : Int32) (p1_hand : Int32) (p1_at : Int32) (p1_wide : Int32) (p1_rim : Int32) (p1_fill : Int32) (p1_wall : Int32) (p1_ceiling : Int32) (p1_puff : Int32) (p1_period : Int32) (p1_second : Int32) (p1_ballCount : Int32) (p1_sizesA : Nat → Int32) (p1_tightsA : Nat → Int32) (p1_kindsA : Nat → Int32) : Option (Int32 × Int32 × Int32 × Int32 × Int32 × Int32 × Int32 × Int32) :=
  b1 (fX3_dragOf x2 p1_ballCount p1_sizesA p1_tightsA p1_kindsA) (fun r14 =>
  b1 (fX3_fallOf x2 p1_ballCount p1_kindsA) (fun r16 =>
  b1 (fX3_fanOf x2 p1_puff p1_ballCount p1_kindsA) (fun r18 =>
  lX0_run_68 p1_at p1_wide p1_rim p1_fill p1_wall p1_ceiling p1_period p1_second (100) r14 r16 r18 (-1) 0 0 p1_hand 0 p1_hand x3 x4)))
set_option maxHeartbeats 4000000 in
set_option maxRecDepth 100000 in
theorem kX0_run (l : Launch) (dC : Nat → ClassId) (dI : Nat → Nat → Nat) (cI : ClassId) (a_t a_p1 a_p1_kinds a_p1_sizes a_p1_tights : Nat) (sz : Nat) (x2 : Int32) (x3 : Int32) (x4 : Int32) (t_end : Int32) (t_cell : Int32) (t_steps : Int32) (t_greatest : Int32) (t_struck : Int32) (t_height : Int32) (t_pace : Int32) (t_rise : Int32) (p1_hand : Int32) (p1_at : Int32) (p1_wide : Int32) (p1_rim : Int32) (p1_fill : Int32) (p1_wall : Int32) (p1_ceiling : Int32) (p1_puff : Int32) (p1_period : Int32) (p1_second : Int32) (p1_score : Int32) (p1_thrown : Int32) (p1_ballCount : Int32) (p1_sizesA : Nat → Int32) (p1_tightsA : Nat → Int32) (p1_kindsA : Nat → Int32) (R : Int32 × Int32 × Int32 × Int32 × Int32 × Int32 × Int32 × Int32) (hR : fX0_run x2 x3 x4 p1_hand p1_at p1_wide p1_rim p1_fill p1_wall p1_ceiling p1_puff p1_period p1_second p1_ballCount p1_sizesA p1_tightsA p1_kindsA = some R) : Met l yX0_run wsX0_run ({ frames := 3, cells := 0, slots := 0, locals := 65 } : Room) (va_Pc [.ref a_t, .ref a_p1, .int x2, .int x3, .int x4] (Wp (dC, dI) [(cI, .int)] [(a_t, .inr (0, [.int t_end, .int t_cell, .int t_steps, .int t_greatest, .int t_struck, .int t_height, .int t_pace, .int t_rise])), (a_p1, .inr (3, [.int p1_hand, .int p1_at, .int p1_wide, .int p1_rim, .int p1_fill, .int p1_wall, .int p1_ceiling, .int p1_puff, .int p1_period, .int p1_second, .int p1_score, .int p1_thrown, .int p1_ballCount, .ref a_p1_kinds, .ref a_p1_sizes, .ref a_p1_tights])), (a_p1_sizes, .inl (cI, 5, .inl p1_sizesA)), (a_p1_tights, .inl (cI, 5, .inl p1_tightsA)), (a_p1_kinds, .inl (cI, 5, .inl p1_kindsA))] sz)) (va_Qv (fun (u : Int32 × Int32 × Int32 × Int32 × Int32 × Int32 × Int32 × Int32) => u = R) (Wq (dC, dI) [(a_t, .inr (0, [.int t_end, .int t_cell, .int t_steps, .int t_greatest, .int t_struck, .int t_height, .int t_pace, .int t_rise])), (a_p1, .inr (3, [.int p1_hand, .int p1_at, .int p1_wide, .int p1_rim, .int p1_fill, .int p1_wall, .int p1_ceiling, .int p1_puff, .int p1_period, .int p1_second, .int p1_score, .int p1_thrown, .int p1_ballCount, .ref a_p1_kinds, .ref a_p1_sizes, .ref a_p1_tights])), (a_p1_sizes, .inl (cI, 5, .inl p1_sizesA)), (a_p1_tights, .inl (cI, 5, .inl p1_tightsA)), (a_p1_kinds, .inl (cI, 5, .inl p1_kindsA))] sz (fun (u : Int32 × Int32 × Int32 × Int32 × Int32 × Int32 × Int32 × Int32) => ([(a_t, .inr (0, [.int u.1, .int u.2.1, .int u.2.2.1, .int u.2.2.2.1, .int u.2.2.2.2.1, .int u.2.2.2.2.2.1, .int u.2.2.2.2.2.2.1, .int u.2.2.2.2.2.2.2])), (a_p1, .inr (3, [.int p1_hand, .int p1_at, .int p1_wide, .int p1_rim, .int p1_fill, .int p1_wall, .int p1_ceiling, .int p1_puff, .int p1_period, .int p1_second, .int p1_score, .int p1_thrown, .int p1_ballCount, .ref a_p1_kinds, .ref a_p1_sizes, .ref a_p1_tights])), (a_p1_sizes, .inl (cI, 5, .inl p1_sizesA)), (a_p1_tights, .inl (cI, 5, .inl p1_tightsA)), (a_p1_kinds, .inl (cI, 5, .inl p1_kindsA))] : va_W))) (va_A [(a_t, .inr (0, [.int t_end, .int t_cell, .int t_steps, .int t_greatest, .int t_struck, .int t_height, .int t_pace, .int t_rise])), (a_p1, .inr (3, [.int p1_hand, .int p1_at, .int p1_wide, .int p1_rim, .int p1_fill, .int p1_wall, .int p1_ceiling, .int p1_puff, .int p1_period, .int p1_second, .int p1_score, .int p1_thrown, .int p1_ballCount, .ref a_p1_kinds, .ref a_p1_sizes, .ref a_p1_tights])), (a_p1_sizes, .inl (cI, 5, .inl p1_sizesA)), (a_p1_tights, .inl (cI, 5, .inl p1_tightsA)), (a_p1_kinds, .inl (cI, 5, .inl p1_kindsA))] sz)) 0 0 (va_A [(a_t, .inr (0, [.int t_end, .int t_cell, .int t_steps, .int t_greatest, .int t_struck, .int t_height, .int t_pace, .int t_rise])), (a_p1, .inr (3, [.int p1_hand, .int p1_at, .int p1_wide, .int p1_rim, .int p1_fill, .int p1_wall, .int p1_ceiling, .int p1_puff, .int p1_period, .int p1_second, .int p1_score, .int p1_thrown, .int p1_ballCount, .ref a_p1_kinds, .ref a_p1_sizes, .ref a_p1_tights])), (a_p1_sizes, .inl (cI, 5, .inl p1_sizesA)), (a_p1_tights, .inl (cI, 5, .inl p1_tightsA)), (a_p1_kinds, .inl (cI, 5, .inl p1_kindsA))] sz) := by
  refine Met.ofW (cc := cX0_run) (maxL := 8) (ret := none) (by decide) rfl ?_
  intro p e s m args below meth c s₁ B hml hv
  obtain ⟨hargs, hsz, hP, hK, hD0, hN⟩ := hv
  have hx := B.exec
  have hb := B.bytes
  have hr := B.returns
  have hts := atoms_spec (ws := wsX0_run) B.pre
  have hown : s.vm.findClass RX0 = some m.cls := findClass_of_methodNamed B.named
  have hlocks := B.notSynchronized
  subst hsz
  have hD := hD0.self (sz := s.heap.size)
  obtain ⟨A, hAe⟩ : ∃ A, A = va_A [(a_t, .inr (0, [.int t_end, .int t_cell, .int t_steps, .int t_greatest, .int t_struck, .int t_height, .int t_pace, .int t_rise])), (a_p1, .inr (3, [.int p1_hand, .int p1_at, .int p1_wide, .int p1_rim, .int p1_fill, .int p1_wall, .int p1_ceiling, .int p1_puff, .int p1_period, .int p1_second, .int p1_score, .int p1_thrown, .int p1_ballCount, .ref a_p1_kinds, .ref a_p1_sizes, .ref a_p1_tights])), (a_p1_sizes, .inl (cI, 5, .inl p1_sizesA)), (a_p1_tights, .inl (cI, 5, .inl p1_tightsA)), (a_p1_kinds, .inl (cI, 5, .inl p1_kindsA))] s.heap.size := ⟨_, rfl⟩
  rw [← hAe] at hD
  have hA : ∀ q : Nat, s.heap.size ≤ q → A q := fun q h => by rw [hAe]; exact Or.inr h
  have hS : va_S A s.heap s.heap [] := va_S.rf
  have hl := lv_entry ([.ref a_t, .ref a_p1, .int x2, .int x3, .int x4]) (n := 8) (Nat.le_of_ble_eq_true rfl)
  rw [e_of hargs, lg_entry_eq]
  generalize (lg_sl ([.ref a_t, .ref a_p1, .int x2, .int x3, .int x4]) ++ List.replicate (8 - (lg_sl ([.ref a_t, .ref a_p1, .int x2, .int x3, .int x4])).length) Slot.unset).toArray = ls at hl ⊢
  have hl : lv_has ls 8 [(0, .ref a_t), (1, .ref a_p1), (2, .int x2), (3, .int x3), (4, .int x4)] := hl
  have hinX0 : ∀ w ∈ wsX00, w ∈ wsX0_run := by decide +kernel
  have hinX3 : ∀ w ∈ wsX30, w ∈ wsX0_run := by decide +kernel
  refine w_q ({ frames := 3, cells := 0, slots := 0, locals := 65 } : Room) (fun Q0 hQ => ?_)
  have K68 : ∀ (n68 : Nat) (x5 : Int32) (x6 : Int32) (x7 : Int32) (t_end : Int32) (t_cell : Int32) (t_steps : Int32) (t_greatest : Int32) (t_struck : Int32) (t_height : Int32) (t_pace : Int32) (t_rise : Int32) (H : Heap) (locs : List Loc), va_P (dC, dI) vwCl [(a_t, .inr (0, [.int t_end, .int t_cell, .int t_steps, .int t_greatest, .int t_struck, .int t_height, .int t_pace, .int t_rise])), (a_p1, .inr (3, [.int p1_hand, .int p1_at, .int p1_wide, .int p1_rim, .int p1_fill, .int p1_wall, .int p1_ceiling, .int p1_puff, .int p1_period, .int p1_second, .int p1_score, .int p1_thrown, .int p1_ballCount, .ref a_p1_kinds, .ref a_p1_sizes, .ref a_p1_tights])), (a_p1_sizes, .inl (cI, 5, .inl p1_sizesA)), (a_p1_tights, .inl (cI, 5, .inl p1_tightsA)), (a_p1_kinds, .inl (cI, 5, .inl p1_kindsA))] H → va_D A [(a_t, .inr (0, [.int t_end, .int t_cell, .int t_steps, .int t_greatest, .int t_struck, .int t_height, .int t_pace, .int t_rise])), (a_p1, .inr (3, [.int p1_hand, .int p1_at, .int p1_wide, .int p1_rim, .int p1_fill, .int p1_wall, .int p1_ceiling, .int p1_puff, .int p1_period, .int p1_second, .int p1_score, .int p1_thrown, .int p1_ballCount, .ref a_p1_kinds, .ref a_p1_sizes, .ref a_p1_tights])), (a_p1_sizes, .inl (cI, 5, .inl p1_sizesA)), (a_p1_tights, .inl (cI, 5, .inl p1_tightsA)), (a_p1_kinds, .inl (cI, 5, .inl p1_kindsA))] → va_S A s.heap H locs → ∀ (ls : Array Slot), lv_has ls 8 [(0, .ref a_t), (1, .ref a_p1), (5, .int x5), (6, .int x6), (7, .int x7)] → lX0_run_68 p1_at p1_wide p1_rim p1_fill p1_wall p1_ceiling p1_period p1_second n68 x5 x6 x7 t_end t_cell t_steps t_greatest t_struck t_height t_pace t_rise = some R → W p l e ({ frames := 3, cells := 0, slots := 0, locals := 65 } : Room) s m args below meth c H locs 0 0 Q0 (F0 m 68 ls []) := by
    intro n68
    induction n68 with
    | zero =>
      intro x5 x6 x7 t_end t_cell t_steps t_greatest t_struck t_height t_pace t_rise H locs hP hD hS ls hl hR
      rw [lX0_run_68] at hR
      cases hR
    | succ n68 ih68 =>
      intro x5 x6 x7 t_end t_cell t_steps t_greatest t_struck t_height t_pace t_rise H locs hP hD hS ls hl hR
      rw [lX0_run_68] at hR
      refine lv_aload_n hx hb dX0_run_68 rfl (lv_at hl 0 rfl) ?_
      refine va_get (D := (dC, dI)) (ci := 0) (v := .int t_end) (C := RX0) (T := TX0) (N := 8) hx hb hts hinX0 hown hK hP 0 rfl rfl 0 (by decide) (hts (.fieldLink RX0 9 "PaperInBin$Flight" "end" "I") (by decide +kernel)) (fun _ h9 => h9) rfl dX0_run_69 ?_
      refine lv_iconst (v := (-1)) hx hb dX0_run_72 (by decide) ?_
      refine lv_icmp_ne (tgt := 156) hx hb dX0_run_73 (by decide) (fun c73 => ?_) (fun c73 => ?_)
      · have hR := (if_neg c73).symm.trans hR
        refine lv_aload_n hx hb dX0_run_156 rfl (lv_at hl 0 rfl) ?_
        refine va_get (D := (dC, dI)) (ci := 0) (v := .int t_end) (C := RX0) (T := TX0) (N := 8) hx hb hts hinX0 hown hK hP 0 rfl rfl 0 (by decide) (hts (.fieldLink RX0 9 "PaperInBin$Flight" "end" "I") (by decide +kernel)) (fun _ h9 => h9) rfl dX0_run_157 ?_
        refine lv_iconst (v := (-1)) hx hb dX0_run_160 (by decide) ?_
        refine lv_icmp_ne (tgt := 169) hx hb dX0_run_161 (by decide) (fun c161 => ?_) (fun c161 => ?_)
        · have hR := (if_neg c161).symm.trans hR
          subst hQ
          subst hAe
          exact W.vret hx hb hr (fun t ht hW => ⟨⟨(t_end, t_cell, t_steps, t_greatest, t_struck, t_height, t_pace, t_rise), rfl, Option.some.inj hR, by rw [ht]; exact hP, hD⟩, hS.F ht⟩) hS.2.2 dX0_run_169
        · have hR := (if_pos c161).symm.trans hR
          refine lv_aload_n hx hb dX0_run_164 rfl (lv_at hl 0 rfl) ?_
          refine lv_iconst (v := 1) hx hb dX0_run_165 (by decide) ?_
          refine va_put (D := (dC, dI)) (ci := 0) (v := .int 1) (ty := .int) (C := RX0) (T := TX0) (N := 8) hx hb hts hinX0 tyX0 tyX0_ok nmX0 hown hK hP hD hS 0 rfl rfl 0 (by decide) (hts (.fieldLink RX0 9 "PaperInBin$Flight" "end" "I") (by decide +kernel)) (fun _ h9 => h9) rfl (tyX0_ok 0 (by decide)) rfl rfl (Nat.le_of_ble_eq_true rfl) dX0_run_166 (fun H locs hP hD hS => ?_)
          have hP : va_P (dC, dI) vwCl [(a_t, .inr (0, [.int 1, .int t_cell, .int t_steps, .int t_greatest, .int t_struck, .int t_height, .int t_pace, .int t_rise])), (a_p1, .inr (3, [.int p1_hand, .int p1_at, .int p1_wide, .int p1_rim, .int p1_fill, .int p1_wall, .int p1_ceiling, .int p1_puff, .int p1_period, .int p1_second, .int p1_score, .int p1_thrown, .int p1_ballCount, .ref a_p1_kinds, .ref a_p1_sizes, .ref a_p1_tights])), (a_p1_sizes, .inl (cI, 5, .inl p1_sizesA)), (a_p1_tights, .inl (cI, 5, .inl p1_tightsA)), (a_p1_kinds, .inl (cI, 5, .inl p1_kindsA))] H := hP
          have hD : va_D A [(a_t, .inr (0, [.int 1, .int t_cell, .int t_steps, .int t_greatest, .int t_struck, .int t_height, .int t_pace, .int t_rise])), (a_p1, .inr (3, [.int p1_hand, .int p1_at, .int p1_wide, .int p1_rim, .int p1_fill, .int p1_wall, .int p1_ceiling, .int p1_puff, .int p1_period, .int p1_second, .int p1_score, .int p1_thrown, .int p1_ballCount, .ref a_p1_kinds, .ref a_p1_sizes, .ref a_p1_tights])), (a_p1_sizes, .inl (cI, 5, .inl p1_sizesA)), (a_p1_tights, .inl (cI, 5, .inl p1_tightsA)), (a_p1_kinds, .inl (cI, 5, .inl p1_kindsA))] := hD
          subst hQ
          subst hAe
          exact W.vret hx hb hr (fun t ht hW => ⟨⟨(1, t_cell, t_steps, t_greatest, t_struck, t_height, t_pace, t_rise), rfl, Option.some.inj hR, by rw [ht]; exact hP, hD⟩, hS.F ht⟩) hS.2.2 dX0_run_169
      · have hR := (if_pos c73).symm.trans hR
        refine lv_aload_n hx hb dX0_run_76 rfl (lv_at hl 0 rfl) ?_
        refine va_get (D := (dC, dI)) (ci := 0) (v := .int t_steps) (C := RX0) (T := TX0) (N := 8) hx hb hts hinX0 hown hK hP 0 rfl rfl 2 (by decide) (hts (.fieldLink RX0 18 "PaperInBin$Flight" "steps" "I") (by decide +kernel)) (fun _ h9 => h9) rfl dX0_run_77 ?_
        refine lv_bipush (v := 60) hx hb dX0_run_80 (by decide) ?_
        refine lv_icmp_ge (tgt := 156) hx hb dX0_run_82 (by decide) (fun c82 => ?_) (fun c82 => ?_)
        · have hR := (if_pos c82).symm.trans hR
          refine lv_aload_n hx hb dX0_run_156 rfl (lv_at hl 0 rfl) ?_
          refine va_get (D := (dC, dI)) (ci := 0) (v := .int t_end) (C := RX0) (T := TX0) (N := 8) hx hb hts hinX0 hown hK hP 0 rfl rfl 0 (by decide) (hts (.fieldLink RX0 9 "PaperInBin$Flight" "end" "I") (by decide +kernel)) (fun _ h9 => h9) rfl dX0_run_157 ?_
          refine lv_iconst (v := (-1)) hx hb dX0_run_160 (by decide) ?_
          refine lv_icmp_ne (tgt := 169) hx hb dX0_run_161 (by decide) (fun c161 => ?_) (fun c161 => ?_)
          · have hR := (if_neg c161).symm.trans hR
            subst hQ
            subst hAe
            exact W.vret hx hb hr (fun t ht hW => ⟨⟨(t_end, t_cell, t_steps, t_greatest, t_struck, t_height, t_pace, t_rise), rfl, Option.some.inj hR, by rw [ht]; exact hP, hD⟩, hS.F ht⟩) hS.2.2 dX0_run_169
          · have hR := (if_pos c161).symm.trans hR
            refine lv_aload_n hx hb dX0_run_164 rfl (lv_at hl 0 rfl) ?_
            refine lv_iconst (v := 1) hx hb dX0_run_165 (by decide) ?_
            refine va_put (D := (dC, dI)) (ci := 0) (v := .int 1) (ty := .int) (C := RX0) (T := TX0) (N := 8) hx hb hts hinX0 tyX0 tyX0_ok nmX0 hown hK hP hD hS 0 rfl rfl 0 (by decide) (hts (.fieldLink RX0 9 "PaperInBin$Flight" "end" "I") (by decide +kernel)) (fun _ h9 => h9) rfl (tyX0_ok 0 (by decide)) rfl rfl (Nat.le_of_ble_eq_true rfl) dX0_run_166 (fun H locs hP hD hS => ?_)
            have hP : va_P (dC, dI) vwCl [(a_t, .inr (0, [.int 1, .int t_cell, .int t_steps, .int t_greatest, .int t_struck, .int t_height, .int t_pace, .int t_rise])), (a_p1, .inr (3, [.int p1_hand, .int p1_at, .int p1_wide, .int p1_rim, .int p1_fill, .int p1_wall, .int p1_ceiling, .int p1_puff, .int p1_period, .int p1_second, .int p1_score, .int p1_thrown, .int p1_ballCount, .ref a_p1_kinds, .ref a_p1_sizes, .ref a_p1_tights])), (a_p1_sizes, .inl (cI, 5, .inl p1_sizesA)), (a_p1_tights, .inl (cI, 5, .inl p1_tightsA)), (a_p1_kinds, .inl (cI, 5, .inl p1_kindsA))] H := hP
            have hD : va_D A [(a_t, .inr (0, [.int 1, .int t_cell, .int t_steps, .int t_greatest, .int t_struck, .int t_height, .int t_pace, .int t_rise])), (a_p1, .inr (3, [.int p1_hand, .int p1_at, .int p1_wide, .int p1_rim, .int p1_fill, .int p1_wall, .int p1_ceiling, .int p1_puff, .int p1_period, .int p1_second, .int p1_score, .int p1_thrown, .int p1_ballCount, .ref a_p1_kinds, .ref a_p1_sizes, .ref a_p1_tights])), (a_p1_sizes, .inl (cI, 5, .inl p1_sizesA)), (a_p1_tights, .inl (cI, 5, .inl p1_tightsA)), (a_p1_kinds, .inl (cI, 5, .inl p1_kindsA))] := hD
            subst hQ
            subst hAe
            exact W.vret hx hb hr (fun t ht hW => ⟨⟨(1, t_cell, t_steps, t_greatest, t_struck, t_height, t_pace, t_rise), rfl, Option.some.inj hR, by rw [ht]; exact hP, hD⟩, hS.F ht⟩) hS.2.2 dX0_run_169
        · have hR := (if_neg c82).symm.trans hR
          refine lv_aload_n hx hb dX0_run_85 rfl (lv_at hl 0 rfl) ?_
          refine lv_dup hx hb dX0_run_86 rfl ?_
          refine va_get (D := (dC, dI)) (ci := 0) (v := .int t_steps) (C := RX0) (T := TX0) (N := 8) hx hb hts hinX0 hown hK hP 0 rfl rfl 2 (by decide) (hts (.fieldLink RX0 18 "PaperInBin$Flight" "steps" "I") (by decide +kernel)) (fun _ h9 => h9) rfl dX0_run_87 ?_
          refine lv_iconst (v := 1) hx hb dX0_run_90 (by decide) ?_
          refine lv_iadd hx hb dX0_run_91 ?_
          refine va_put (D := (dC, dI)) (ci := 0) (v := .int (t_steps + 1)) (ty := .int) (C := RX0) (T := TX0) (N := 8) hx hb hts hinX0 tyX0 tyX0_ok nmX0 hown hK hP hD hS 0 rfl rfl 2 (by decide) (hts (.fieldLink RX0 18 "PaperInBin$Flight" "steps" "I") (by decide +kernel)) (fun _ h9 => h9) rfl (tyX0_ok 2 (by decide)) rfl rfl (Nat.le_of_ble_eq_true rfl) dX0_run_92 (fun H locs hP hD hS => ?_)
          have hP : va_P (dC, dI) vwCl [(a_t, .inr (0, [.int t_end, .int t_cell, .int (t_steps + 1), .int t_greatest, .int t_struck, .int t_height, .int t_pace, .int t_rise])), (a_p1, .inr (3, [.int p1_hand, .int p1_at, .int p1_wide, .int p1_rim, .int p1_fill, .int p1_wall, .int p1_ceiling, .int p1_puff, .int p1_period, .int p1_second, .int p1_score, .int p1_thrown, .int p1_ballCount, .ref a_p1_kinds, .ref a_p1_sizes, .ref a_p1_tights])), (a_p1_sizes, .inl (cI, 5, .inl p1_sizesA)), (a_p1_tights, .inl (cI, 5, .inl p1_tightsA)), (a_p1_kinds, .inl (cI, 5, .inl p1_kindsA))] H := hP
          have hD : va_D A [(a_t, .inr (0, [.int t_end, .int t_cell, .int (t_steps + 1), .int t_greatest, .int t_struck, .int t_height, .int t_pace, .int t_rise])), (a_p1, .inr (3, [.int p1_hand, .int p1_at, .int p1_wide, .int p1_rim, .int p1_fill, .int p1_wall, .int p1_ceiling, .int p1_puff, .int p1_period, .int p1_second, .int p1_score, .int p1_thrown, .int p1_ballCount, .ref a_p1_kinds, .ref a_p1_sizes, .ref a_p1_tights])), (a_p1_sizes, .inl (cI, 5, .inl p1_sizesA)), (a_p1_tights, .inl (cI, 5, .inl p1_tightsA)), (a_p1_kinds, .inl (cI, 5, .inl p1_kindsA))] := hD
          refine lv_aload_n hx hb dX0_run_95 rfl (lv_at hl 0 rfl) ?_
          refine lv_aload_n hx hb dX0_run_96 rfl (lv_at hl 1 rfl) ?_
          obtain ⟨w2, w3, w4, w5, w6, w7, w8, hu9, hR⟩ := b7_s hR
          refine cl_Vv (As := [.ref a_p1]) (rest := []) (wc := [(a_t, .inr (0, [.int t_end, .int t_cell, .int (t_steps + 1), .int t_greatest, .int t_struck, .int t_height, .int t_pace, .int t_rise])), (a_p1, .inr (3, [.int p1_hand, .int p1_at, .int p1_wide, .int p1_rim, .int p1_fill, .int p1_wall, .int p1_ceiling, .int p1_puff, .int p1_period, .int p1_second, .int p1_score, .int p1_thrown, .int p1_ballCount, .ref a_p1_kinds, .ref a_p1_sizes, .ref a_p1_tights]))]) (wr := [(a_p1_sizes, .inl (cI, 5, .inl p1_sizesA)), (a_p1_tights, .inl (cI, 5, .inl p1_tightsA)), (a_p1_kinds, .inl (cI, 5, .inl p1_kindsA))]) ⟨hx, hb, hml, hown, hts⟩ (kX0_step l dC dI cI a_t a_p1 a_p1_kinds a_p1_sizes a_p1_tights H.size t_end t_cell (t_steps + 1) t_greatest t_struck t_height t_pace t_rise p1_hand p1_at p1_wide p1_rim p1_fill p1_wall p1_ceiling p1_puff p1_period p1_second p1_score p1_thrown p1_ballCount (w2, w3, w4, w5, w6, w7, w8) hu9) (cwV 1 hts gX0_run_X0_step rfl rfl rfl (by decide +kernel) ⟨Nat.le_of_ble_eq_true rfl, Nat.le_of_ble_eq_true rfl⟩) hK hN hP hD hS hA (va_recv hK hP (ci := 0) (q0 := 0) rfl rfl) [0, 1] [2, 3, 4] rfl rfl rfl rfl rfl (by decide) rfl hl.1 rfl (Nat.le_of_ble_eq_true rfl) dX0_run_97 (fun H locs hP hD hS => ?_)
          have hP : va_P (dC, dI) vwCl [(a_p1_sizes, .inl (cI, 5, .inl p1_sizesA)), (a_p1_tights, .inl (cI, 5, .inl p1_tightsA)), (a_p1_kinds, .inl (cI, 5, .inl p1_kindsA)), (a_t, .inr (0, [.int w2, .int w3, .int (t_steps + 1), .int w4, .int w5, .int w6, .int w7, .int w8])), (a_p1, .inr (3, [.int p1_hand, .int p1_at, .int p1_wide, .int p1_rim, .int p1_fill, .int p1_wall, .int p1_ceiling, .int p1_puff, .int p1_period, .int p1_second, .int p1_score, .int p1_thrown, .int p1_ballCount, .ref a_p1_kinds, .ref a_p1_sizes, .ref a_p1_tights]))] H := hP
          have hD : va_D A [(a_p1_sizes, .inl (cI, 5, .inl p1_sizesA)), (a_p1_tights, .inl (cI, 5, .inl p1_tightsA)), (a_p1_kinds, .inl (cI, 5, .inl p1_kindsA)), (a_t, .inr (0, [.int w2, .int w3, .int (t_steps + 1), .int w4, .int w5, .int w6, .int w7, .int w8])), (a_p1, .inr (3, [.int p1_hand, .int p1_at, .int p1_wide, .int p1_rim, .int p1_fill, .int p1_wall, .int p1_ceiling, .int p1_puff, .int p1_period, .int p1_second, .int p1_score, .int p1_thrown, .int p1_ballCount, .ref a_p1_kinds, .ref a_p1_sizes, .ref a_p1_tights]))] := hD
          refine lv_aload_n hx hb dX0_run_100 rfl (lv_at hl 0 rfl) ?_
          refine lv_aload_n hx hb dX0_run_101 rfl (lv_at hl 0 rfl) ?_
          refine va_get (D := (dC, dI)) (ci := 0) (v := .int w7) (C := RX0) (T := TX0) (N := 8) hx hb hts hinX0 hown hK hP 3 rfl rfl 6 (by decide) (hts (.fieldLink RX0 35 "PaperInBin$Flight" "pace" "I") (by decide +kernel)) (fun _ h9 => h9) rfl dX0_run_102 ?_
          refine lv_iload hx hb dX0_run_105 (lv_at hl 2 rfl) ?_
          obtain ⟨r10, hu11, hR⟩ := b1_s hR
          refine cl_SiN (As := [.int w7, .int x5]) (rest := [.ref a_t]) (wc := []) (wr := [(a_p1_sizes, .inl (cI, 5, .inl p1_sizesA)), (a_p1_tights, .inl (cI, 5, .inl p1_tightsA)), (a_p1_kinds, .inl (cI, 5, .inl p1_kindsA)), (a_t, .inr (0, [.int w2, .int w3, .int (t_steps + 1), .int w4, .int w5, .int w6, .int w7, .int w8])), (a_p1, .inr (3, [.int p1_hand, .int p1_at, .int p1_wide, .int p1_rim, .int p1_fill, .int p1_wall, .int p1_ceiling, .int p1_puff, .int p1_period, .int p1_second, .int p1_score, .int p1_thrown, .int p1_ballCount, .ref a_p1_kinds, .ref a_p1_sizes, .ref a_p1_tights]))]) ⟨hx, hb, hml, hown, hts⟩ (kX0_nearerZero l dC dI cI H.size w7 x5 r10 hu11) (cwS 2 hts gX0_run_X0_nearerZero rfl rfl rfl (by decide +kernel) ⟨Nat.le_of_ble_eq_true rfl, Nat.le_of_ble_eq_true rfl⟩) hK hN hP hD hS hA [] [0, 1, 2, 3, 4] rfl rfl rfl rfl rfl (by decide) rfl hl.1 rfl (Nat.le_of_ble_eq_true rfl) dX0_run_107 (fun H locs hP hD hS => ?_)
          have hP : va_P (dC, dI) vwCl [(a_p1_sizes, .inl (cI, 5, .inl p1_sizesA)), (a_p1_tights, .inl (cI, 5, .inl p1_tightsA)), (a_p1_kinds, .inl (cI, 5, .inl p1_kindsA)), (a_t, .inr (0, [.int w2, .int w3, .int (t_steps + 1), .int w4, .int w5, .int w6, .int w7, .int w8])), (a_p1, .inr (3, [.int p1_hand, .int p1_at, .int p1_wide, .int p1_rim, .int p1_fill, .int p1_wall, .int p1_ceiling, .int p1_puff, .int p1_period, .int p1_second, .int p1_score, .int p1_thrown, .int p1_ballCount, .ref a_p1_kinds, .ref a_p1_sizes, .ref a_p1_tights]))] H := hP
          have hD : va_D A [(a_p1_sizes, .inl (cI, 5, .inl p1_sizesA)), (a_p1_tights, .inl (cI, 5, .inl p1_tightsA)), (a_p1_kinds, .inl (cI, 5, .inl p1_kindsA)), (a_t, .inr (0, [.int w2, .int w3, .int (t_steps + 1), .int w4, .int w5, .int w6, .int w7, .int w8])), (a_p1, .inr (3, [.int p1_hand, .int p1_at, .int p1_wide, .int p1_rim, .int p1_fill, .int p1_wall, .int p1_ceiling, .int p1_puff, .int p1_period, .int p1_second, .int p1_score, .int p1_thrown, .int p1_ballCount, .ref a_p1_kinds, .ref a_p1_sizes, .ref a_p1_tights]))] := hD
          refine va_put (D := (dC, dI)) (ci := 0) (v := .int r10) (ty := .int) (C := RX0) (T := TX0) (N := 8) hx hb hts hinX0 tyX0 tyX0_ok nmX0 hown hK hP hD hS 3 rfl rfl 6 (by decide) (hts (.fieldLink RX0 35 "PaperInBin$Flight" "pace" "I") (by decide +kernel)) (fun _ h9 => h9) rfl (tyX0_ok 6 (by decide)) rfl rfl (Nat.le_of_ble_eq_true rfl) dX0_run_110 (fun H locs hP hD hS => ?_)
          have hP : va_P (dC, dI) vwCl [(a_p1_sizes, .inl (cI, 5, .inl p1_sizesA)), (a_p1_tights, .inl (cI, 5, .inl p1_tightsA)), (a_p1_kinds, .inl (cI, 5, .inl p1_kindsA)), (a_t, .inr (0, [.int w2, .int w3, .int (t_steps + 1), .int w4, .int w5, .int w6, .int r10, .int w8])), (a_p1, .inr (3, [.int p1_hand, .int p1_at, .int p1_wide, .int p1_rim, .int p1_fill, .int p1_wall, .int p1_ceiling, .int p1_puff, .int p1_period, .int p1_second, .int p1_score, .int p1_thrown, .int p1_ballCount, .ref a_p1_kinds, .ref a_p1_sizes, .ref a_p1_tights]))] H := hP
          have hD : va_D A [(a_p1_sizes, .inl (cI, 5, .inl p1_sizesA)), (a_p1_tights, .inl (cI, 5, .inl p1_tightsA)), (a_p1_kinds, .inl (cI, 5, .inl p1_kindsA)), (a_t, .inr (0, [.int w2, .int w3, .int (t_steps + 1), .int w4, .int w5, .int w6, .int r10, .int w8])), (a_p1, .inr (3, [.int p1_hand, .int p1_at, .int p1_wide, .int p1_rim, .int p1_fill, .int p1_wall, .int p1_ceiling, .int p1_puff, .int p1_period, .int p1_second, .int p1_score, .int p1_thrown, .int p1_ballCount, .ref a_p1_kinds, .ref a_p1_sizes, .ref a_p1_tights]))] := hD
          refine lv_aload_n hx hb dX0_run_113 rfl (lv_at hl 0 rfl) ?_
          refine lv_dup hx hb dX0_run_114 rfl ?_
          refine va_get (D := (dC, dI)) (ci := 0) (v := .int w8) (C := RX0) (T := TX0) (N := 8) hx hb hts hinX0 hown hK hP 3 rfl rfl 7 (by decide) (hts (.fieldLink RX0 38 "PaperInBin$Flight" "rise" "I") (by decide +kernel)) (fun _ h9 => h9) rfl dX0_run_115 ?_
          refine lv_iload hx hb dX0_run_118 (lv_at hl 3 rfl) ?_
          refine lv_isub hx hb dX0_run_120 ?_
          refine va_put (D := (dC, dI)) (ci := 0) (v := .int (w8 - x6)) (ty := .int) (C := RX0) (T := TX0) (N := 8) hx hb hts hinX0 tyX0 tyX0_ok nmX0 hown hK hP hD hS 3 rfl rfl 7 (by decide) (hts (.fieldLink RX0 38 "PaperInBin$Flight" "rise" "I") (by decide +kernel)) (fun _ h9 => h9) rfl (tyX0_ok 7 (by decide)) rfl rfl (Nat.le_of_ble_eq_true rfl) dX0_run_121 (fun H locs hP hD hS => ?_)
          have hP : va_P (dC, dI) vwCl [(a_p1_sizes, .inl (cI, 5, .inl p1_sizesA)), (a_p1_tights, .inl (cI, 5, .inl p1_tightsA)), (a_p1_kinds, .inl (cI, 5, .inl p1_kindsA)), (a_t, .inr (0, [.int w2, .int w3, .int (t_steps + 1), .int w4, .int w5, .int w6, .int r10, .int (w8 - x6)])), (a_p1, .inr (3, [.int p1_hand, .int p1_at, .int p1_wide, .int p1_rim, .int p1_fill, .int p1_wall, .int p1_ceiling, .int p1_puff, .int p1_period, .int p1_second, .int p1_score, .int p1_thrown, .int p1_ballCount, .ref a_p1_kinds, .ref a_p1_sizes, .ref a_p1_tights]))] H := hP
          have hD : va_D A [(a_p1_sizes, .inl (cI, 5, .inl p1_sizesA)), (a_p1_tights, .inl (cI, 5, .inl p1_tightsA)), (a_p1_kinds, .inl (cI, 5, .inl p1_kindsA)), (a_t, .inr (0, [.int w2, .int w3, .int (t_steps + 1), .int w4, .int w5, .int w6, .int r10, .int (w8 - x6)])), (a_p1, .inr (3, [.int p1_hand, .int p1_at, .int p1_wide, .int p1_rim, .int p1_fill, .int p1_wall, .int p1_ceiling, .int p1_puff, .int p1_period, .int p1_second, .int p1_score, .int p1_thrown, .int p1_ballCount, .ref a_p1_kinds, .ref a_p1_sizes, .ref a_p1_tights]))] := hD
          refine lv_aload_n hx hb dX0_run_124 rfl (lv_at hl 1 rfl) ?_
          refine lv_aload_n hx hb dX0_run_125 rfl (lv_at hl 1 rfl) ?_
          refine va_getN (D := (dC, dI)) (ci := 3) (v := .int p1_second) (C := RX3) (T := TX3) (N := 16) hx hb hts hinX3 hown hK hP 4 rfl rfl 9 (by decide) ((nF_Flight_59 hN).use rfl) (fun _ h9 => h9) rfl dX0_run_126 ?_
          refine lv_aload_n hx hb dX0_run_129 rfl (lv_at hl 0 rfl) ?_
          refine va_get (D := (dC, dI)) (ci := 0) (v := .int (t_steps + 1)) (C := RX0) (T := TX0) (N := 8) hx hb hts hinX0 hown hK hP 3 rfl rfl 2 (by decide) (hts (.fieldLink RX0 18 "PaperInBin$Flight" "steps" "I") (by decide +kernel)) (fun _ h9 => h9) rfl dX0_run_130 ?_
          refine lv_iconst (v := 4) hx hb dX0_run_133 (by decide) ?_
          refine lv_idiv hx hb dX0_run_134 (by decide) ?_
          refine lv_iadd hx hb dX0_run_135 ?_
          obtain ⟨r12, hu13, hR⟩ := b1_s hR
          refine cl_VNiN (As := [.int (p1_second + ((t_steps + 1) / 4))]) (rest := []) (wc := [(a_p1, .inr (3, [.int p1_hand, .int p1_at, .int p1_wide, .int p1_rim, .int p1_fill, .int p1_wall, .int p1_ceiling, .int p1_puff, .int p1_period, .int p1_second, .int p1_score, .int p1_thrown, .int p1_ballCount, .ref a_p1_kinds, .ref a_p1_sizes, .ref a_p1_tights]))]) (wr := [(a_p1_sizes, .inl (cI, 5, .inl p1_sizesA)), (a_p1_tights, .inl (cI, 5, .inl p1_tightsA)), (a_p1_kinds, .inl (cI, 5, .inl p1_kindsA)), (a_t, .inr (0, [.int w2, .int w3, .int (t_steps + 1), .int w4, .int w5, .int w6, .int r10, .int (w8 - x6)]))]) ⟨hx, hb, hml, hown, hts⟩ (kX3_blowsIn l dC dI cI a_p1 a_p1_kinds a_p1_sizes a_p1_tights H.size (p1_second + ((t_steps + 1) / 4)) p1_hand p1_at p1_wide p1_rim p1_fill p1_wall p1_ceiling p1_puff p1_period p1_second p1_score p1_thrown p1_ballCount r12 hu13) ⟨va_cnB 1 hts gX0_run_X3_blowsIn_n62 rfl rfl rfl (nM_Flight_62 hN) (hts (.initialized RX3) (by decide +kernel)) (by decide +kernel) ⟨Nat.le_of_ble_eq_true rfl, Nat.le_of_ble_eq_true rfl⟩, hts (.instanceMethod yX3_blowsIn) (by decide +kernel), hts (.selects RX3 yX3_blowsIn yX3_blowsIn) (by decide +kernel)⟩ hK hN hP hD hS hA (va_recv hK hP (ci := 3) (q0 := 4) rfl rfl) [4] [0, 1, 2, 3] rfl rfl rfl rfl rfl (by decide) rfl hl.1 rfl (Nat.le_of_ble_eq_true rfl) dX0_run_136 (fun H locs hP hD hS => ?_)
          have hP : va_P (dC, dI) vwCl [(a_p1_sizes, .inl (cI, 5, .inl p1_sizesA)), (a_p1_tights, .inl (cI, 5, .inl p1_tightsA)), (a_p1_kinds, .inl (cI, 5, .inl p1_kindsA)), (a_t, .inr (0, [.int w2, .int w3, .int (t_steps + 1), .int w4, .int w5, .int w6, .int r10, .int (w8 - x6)])), (a_p1, .inr (3, [.int p1_hand, .int p1_at, .int p1_wide, .int p1_rim, .int p1_fill, .int p1_wall, .int p1_ceiling, .int p1_puff, .int p1_period, .int p1_second, .int p1_score, .int p1_thrown, .int p1_ballCount, .ref a_p1_kinds, .ref a_p1_sizes, .ref a_p1_tights]))] H := hP
          have hD : va_D A [(a_p1_sizes, .inl (cI, 5, .inl p1_sizesA)), (a_p1_tights, .inl (cI, 5, .inl p1_tightsA)), (a_p1_kinds, .inl (cI, 5, .inl p1_kindsA)), (a_t, .inr (0, [.int w2, .int w3, .int (t_steps + 1), .int w4, .int w5, .int w6, .int r10, .int (w8 - x6)])), (a_p1, .inr (3, [.int p1_hand, .int p1_at, .int p1_wide, .int p1_rim, .int p1_fill, .int p1_wall, .int p1_ceiling, .int p1_puff, .int p1_period, .int p1_second, .int p1_score, .int p1_thrown, .int p1_ballCount, .ref a_p1_kinds, .ref a_p1_sizes, .ref a_p1_tights]))] := hD
          refine lv_if_eq (tgt := 68) hx hb dX0_run_139 (by decide) (fun c139 => ?_) (fun c139 => ?_)
          · have hR := (if_pos c139).symm.trans hR
            have hP := hP.sub (ws' := [(a_t, .inr (0, [.int w2, .int w3, .int (t_steps + 1), .int w4, .int w5, .int w6, .int r10, .int (w8 - x6)])), (a_p1, .inr (3, [.int p1_hand, .int p1_at, .int p1_wide, .int p1_rim, .int p1_fill, .int p1_wall, .int p1_ceiling, .int p1_puff, .int p1_period, .int p1_second, .int p1_score, .int p1_thrown, .int p1_ballCount, .ref a_p1_kinds, .ref a_p1_sizes, .ref a_p1_tights])), (a_p1_sizes, .inl (cI, 5, .inl p1_sizesA)), (a_p1_tights, .inl (cI, 5, .inl p1_tightsA)), (a_p1_kinds, .inl (cI, 5, .inl p1_kindsA))]) [3, 4, 0, 1, 2] rfl
            have hD := hD.sub (ws' := [(a_t, .inr (0, [.int w2, .int w3, .int (t_steps + 1), .int w4, .int w5, .int w6, .int r10, .int (w8 - x6)])), (a_p1, .inr (3, [.int p1_hand, .int p1_at, .int p1_wide, .int p1_rim, .int p1_fill, .int p1_wall, .int p1_ceiling, .int p1_puff, .int p1_period, .int p1_second, .int p1_score, .int p1_thrown, .int p1_ballCount, .ref a_p1_kinds, .ref a_p1_sizes, .ref a_p1_tights])), (a_p1_sizes, .inl (cI, 5, .inl p1_sizesA)), (a_p1_tights, .inl (cI, 5, .inl p1_tightsA)), (a_p1_kinds, .inl (cI, 5, .inl p1_kindsA))]) [3, 4, 0, 1, 2] (by decide) rfl
            exact ih68 x5 x6 x7 w2 w3 (t_steps + 1) w4 w5 w6 r10 (w8 - x6) _ _ hP hD hS _ (lv_sub hl [0, 1, 2, 3, 4] rfl) hR
          · have hR := (if_neg c139).symm.trans hR
            refine lv_aload_n hx hb dX0_run_142 rfl (lv_at hl 0 rfl) ?_
            refine lv_dup hx hb dX0_run_143 rfl ?_
            refine va_get (D := (dC, dI)) (ci := 0) (v := .int r10) (C := RX0) (T := TX0) (N := 8) hx hb hts hinX0 hown hK hP 3 rfl rfl 6 (by decide) (hts (.fieldLink RX0 35 "PaperInBin$Flight" "pace" "I") (by decide +kernel)) (fun _ h9 => h9) rfl dX0_run_144 ?_
            refine lv_iload hx hb dX0_run_147 (lv_at hl 4 rfl) ?_
            refine lv_iadd hx hb dX0_run_149 ?_
            refine va_put (D := (dC, dI)) (ci := 0) (v := .int (r10 + x7)) (ty := .int) (C := RX0) (T := TX0) (N := 8) hx hb hts hinX0 tyX0 tyX0_ok nmX0 hown hK hP hD hS 3 rfl rfl 6 (by decide) (hts (.fieldLink RX0 35 "PaperInBin$Flight" "pace" "I") (by decide +kernel)) (fun _ h9 => h9) rfl (tyX0_ok 6 (by decide)) rfl rfl (Nat.le_of_ble_eq_true rfl) dX0_run_150 (fun H locs hP hD hS => ?_)
            have hP : va_P (dC, dI) vwCl [(a_p1_sizes, .inl (cI, 5, .inl p1_sizesA)), (a_p1_tights, .inl (cI, 5, .inl p1_tightsA)), (a_p1_kinds, .inl (cI, 5, .inl p1_kindsA)), (a_t, .inr (0, [.int w2, .int w3, .int (t_steps + 1), .int w4, .int w5, .int w6, .int (r10 + x7), .int (w8 - x6)])), (a_p1, .inr (3, [.int p1_hand, .int p1_at, .int p1_wide, .int p1_rim, .int p1_fill, .int p1_wall, .int p1_ceiling, .int p1_puff, .int p1_period, .int p1_second, .int p1_score, .int p1_thrown, .int p1_ballCount, .ref a_p1_kinds, .ref a_p1_sizes, .ref a_p1_tights]))] H := hP
            have hD : va_D A [(a_p1_sizes, .inl (cI, 5, .inl p1_sizesA)), (a_p1_tights, .inl (cI, 5, .inl p1_tightsA)), (a_p1_kinds, .inl (cI, 5, .inl p1_kindsA)), (a_t, .inr (0, [.int w2, .int w3, .int (t_steps + 1), .int w4, .int w5, .int w6, .int (r10 + x7), .int (w8 - x6)])), (a_p1, .inr (3, [.int p1_hand, .int p1_at, .int p1_wide, .int p1_rim, .int p1_fill, .int p1_wall, .int p1_ceiling, .int p1_puff, .int p1_period, .int p1_second, .int p1_score, .int p1_thrown, .int p1_ballCount, .ref a_p1_kinds, .ref a_p1_sizes, .ref a_p1_tights]))] := hD
            refine lv_goto (tgt := 68) hx hb dX0_run_153 (by decide) ?_
            have hP := hP.sub (ws' := [(a_t, .inr (0, [.int w2, .int w3, .int (t_steps + 1), .int w4, .int w5, .int w6, .int (r10 + x7), .int (w8 - x6)])), (a_p1, .inr (3, [.int p1_hand, .int p1_at, .int p1_wide, .int p1_rim, .int p1_fill, .int p1_wall, .int p1_ceiling, .int p1_puff, .int p1_period, .int p1_second, .int p1_score, .int p1_thrown, .int p1_ballCount, .ref a_p1_kinds, .ref a_p1_sizes, .ref a_p1_tights])), (a_p1_sizes, .inl (cI, 5, .inl p1_sizesA)), (a_p1_tights, .inl (cI, 5, .inl p1_tightsA)), (a_p1_kinds, .inl (cI, 5, .inl p1_kindsA))]) [3, 4, 0, 1, 2] rfl
            have hD := hD.sub (ws' := [(a_t, .inr (0, [.int w2, .int w3, .int (t_steps + 1), .int w4, .int w5, .int w6, .int (r10 + x7), .int (w8 - x6)])), (a_p1, .inr (3, [.int p1_hand, .int p1_at, .int p1_wide, .int p1_rim, .int p1_fill, .int p1_wall, .int p1_ceiling, .int p1_puff, .int p1_period, .int p1_second, .int p1_score, .int p1_thrown, .int p1_ballCount, .ref a_p1_kinds, .ref a_p1_sizes, .ref a_p1_tights])), (a_p1_sizes, .inl (cI, 5, .inl p1_sizesA)), (a_p1_tights, .inl (cI, 5, .inl p1_tightsA)), (a_p1_kinds, .inl (cI, 5, .inl p1_kindsA))]) [3, 4, 0, 1, 2] (by decide) rfl
            exact ih68 x5 x6 x7 w2 w3 (t_steps + 1) w4 w5 w6 (r10 + x7) (w8 - x6) _ _ hP hD hS _ (lv_sub hl [0, 1, 2, 3, 4] rfl) hR
  rw [fX0_run] at hR
  refine lv_aload_n hx hb dX0_run_0 rfl (lv_at hl 0 rfl) ?_
  refine lv_iconst (v := (-1)) hx hb dX0_run_1 (by decide) ?_
  refine va_put (D := (dC, dI)) (ci := 0) (v := .int (-1)) (ty := .int) (C := RX0) (T := TX0) (N := 8) hx hb hts hinX0 tyX0 tyX0_ok nmX0 hown hK hP hD hS 0 rfl rfl 0 (by decide) (hts (.fieldLink RX0 9 "PaperInBin$Flight" "end" "I") (by decide +kernel)) (fun _ h9 => h9) rfl (tyX0_ok 0 (by decide)) rfl rfl (Nat.le_of_ble_eq_true rfl) dX0_run_2 (fun H locs hP hD hS => ?_)
  have hP : va_P (dC, dI) vwCl [(a_t, .inr (0, [.int (-1), .int t_cell, .int t_steps, .int t_greatest, .int t_struck, .int t_height, .int t_pace, .int t_rise])), (a_p1, .inr (3, [.int p1_hand, .int p1_at, .int p1_wide, .int p1_rim, .int p1_fill, .int p1_wall, .int p1_ceiling, .int p1_puff, .int p1_period, .int p1_second, .int p1_score, .int p1_thrown, .int p1_ballCount, .ref a_p1_kinds, .ref a_p1_sizes, .ref a_p1_tights])), (a_p1_sizes, .inl (cI, 5, .inl p1_sizesA)), (a_p1_tights, .inl (cI, 5, .inl p1_tightsA)), (a_p1_kinds, .inl (cI, 5, .inl p1_kindsA))] H := hP
  have hD : va_D A [(a_t, .inr (0, [.int (-1), .int t_cell, .int t_steps, .int t_greatest, .int t_struck, .int t_height, .int t_pace, .int t_rise])), (a_p1, .inr (3, [.int p1_hand, .int p1_at, .int p1_wide, .int p1_rim, .int p1_fill, .int p1_wall, .int p1_ceiling, .int p1_puff, .int p1_period, .int p1_second, .int p1_score, .int p1_thrown, .int p1_ballCount, .ref a_p1_kinds, .ref a_p1_sizes, .ref a_p1_tights])), (a_p1_sizes, .inl (cI, 5, .inl p1_sizesA)), (a_p1_tights, .inl (cI, 5, .inl p1_tightsA)), (a_p1_kinds, .inl (cI, 5, .inl p1_kindsA))] := hD
  refine lv_aload_n hx hb dX0_run_5 rfl (lv_at hl 0 rfl) ?_
  refine lv_iconst (v := 0) hx hb dX0_run_6 (by decide) ?_
  refine va_put (D := (dC, dI)) (ci := 0) (v := .int 0) (ty := .int) (C := RX0) (T := TX0) (N := 8) hx hb hts hinX0 tyX0 tyX0_ok nmX0 hown hK hP hD hS 0 rfl rfl 1 (by decide) (hts (.fieldLink RX0 15 "PaperInBin$Flight" "cell" "I") (by decide +kernel)) (fun _ h9 => h9) rfl (tyX0_ok 1 (by decide)) rfl rfl (Nat.le_of_ble_eq_true rfl) dX0_run_7 (fun H locs hP hD hS => ?_)
  have hP : va_P (dC, dI) vwCl [(a_t, .inr (0, [.int (-1), .int 0, .int t_steps, .int t_greatest, .int t_struck, .int t_height, .int t_pace, .int t_rise])), (a_p1, .inr (3, [.int p1_hand, .int p1_at, .int p1_wide, .int p1_rim, .int p1_fill, .int p1_wall, .int p1_ceiling, .int p1_puff, .int p1_period, .int p1_second, .int p1_score, .int p1_thrown, .int p1_ballCount, .ref a_p1_kinds, .ref a_p1_sizes, .ref a_p1_tights])), (a_p1_sizes, .inl (cI, 5, .inl p1_sizesA)), (a_p1_tights, .inl (cI, 5, .inl p1_tightsA)), (a_p1_kinds, .inl (cI, 5, .inl p1_kindsA))] H := hP
  have hD : va_D A [(a_t, .inr (0, [.int (-1), .int 0, .int t_steps, .int t_greatest, .int t_struck, .int t_height, .int t_pace, .int t_rise])), (a_p1, .inr (3, [.int p1_hand, .int p1_at, .int p1_wide, .int p1_rim, .int p1_fill, .int p1_wall, .int p1_ceiling, .int p1_puff, .int p1_period, .int p1_second, .int p1_score, .int p1_thrown, .int p1_ballCount, .ref a_p1_kinds, .ref a_p1_sizes, .ref a_p1_tights])), (a_p1_sizes, .inl (cI, 5, .inl p1_sizesA)), (a_p1_tights, .inl (cI, 5, .inl p1_tightsA)), (a_p1_kinds, .inl (cI, 5, .inl p1_kindsA))] := hD
  refine lv_aload_n hx hb dX0_run_10 rfl (lv_at hl 0 rfl) ?_
  refine lv_iconst (v := 0) hx hb dX0_run_11 (by decide) ?_
  refine va_put (D := (dC, dI)) (ci := 0) (v := .int 0) (ty := .int) (C := RX0) (T := TX0) (N := 8) hx hb hts hinX0 tyX0 tyX0_ok nmX0 hown hK hP hD hS 0 rfl rfl 2 (by decide) (hts (.fieldLink RX0 18 "PaperInBin$Flight" "steps" "I") (by decide +kernel)) (fun _ h9 => h9) rfl (tyX0_ok 2 (by decide)) rfl rfl (Nat.le_of_ble_eq_true rfl) dX0_run_12 (fun H locs hP hD hS => ?_)
  have hP : va_P (dC, dI) vwCl [(a_t, .inr (0, [.int (-1), .int 0, .int 0, .int t_greatest, .int t_struck, .int t_height, .int t_pace, .int t_rise])), (a_p1, .inr (3, [.int p1_hand, .int p1_at, .int p1_wide, .int p1_rim, .int p1_fill, .int p1_wall, .int p1_ceiling, .int p1_puff, .int p1_period, .int p1_second, .int p1_score, .int p1_thrown, .int p1_ballCount, .ref a_p1_kinds, .ref a_p1_sizes, .ref a_p1_tights])), (a_p1_sizes, .inl (cI, 5, .inl p1_sizesA)), (a_p1_tights, .inl (cI, 5, .inl p1_tightsA)), (a_p1_kinds, .inl (cI, 5, .inl p1_kindsA))] H := hP
  have hD : va_D A [(a_t, .inr (0, [.int (-1), .int 0, .int 0, .int t_greatest, .int t_struck, .int t_height, .int t_pace, .int t_rise])), (a_p1, .inr (3, [.int p1_hand, .int p1_at, .int p1_wide, .int p1_rim, .int p1_fill, .int p1_wall, .int p1_ceiling, .int p1_puff, .int p1_period, .int p1_second, .int p1_score, .int p1_thrown, .int p1_ballCount, .ref a_p1_kinds, .ref a_p1_sizes, .ref a_p1_tights])), (a_p1_sizes, .inl (cI, 5, .inl p1_sizesA)), (a_p1_tights, .inl (cI, 5, .inl p1_tightsA)), (a_p1_kinds, .inl (cI, 5, .inl p1_kindsA))] := hD
  refine lv_aload_n hx hb dX0_run_15 rfl (lv_at hl 0 rfl) ?_
  refine lv_aload_n hx hb dX0_run_16 rfl (lv_at hl 1 rfl) ?_
  refine va_getN (D := (dC, dI)) (ci := 3) (v := .int p1_hand) (C := RX3) (T := TX3) (N := 16) hx hb hts hinX3 hown hK hP 1 rfl rfl 0 (by decide) ((nF_Flight_21 hN).use rfl) (fun _ h9 => h9) rfl dX0_run_17 ?_
  refine va_put (D := (dC, dI)) (ci := 0) (v := .int p1_hand) (ty := .int) (C := RX0) (T := TX0) (N := 8) hx hb hts hinX0 tyX0 tyX0_ok nmX0 hown hK hP hD hS 0 rfl rfl 5 (by decide) (hts (.fieldLink RX0 26 "PaperInBin$Flight" "height" "I") (by decide +kernel)) (fun _ h9 => h9) rfl (tyX0_ok 5 (by decide)) rfl rfl (Nat.le_of_ble_eq_true rfl) dX0_run_20 (fun H locs hP hD hS => ?_)
  have hP : va_P (dC, dI) vwCl [(a_t, .inr (0, [.int (-1), .int 0, .int 0, .int t_greatest, .int t_struck, .int p1_hand, .int t_pace, .int t_rise])), (a_p1, .inr (3, [.int p1_hand, .int p1_at, .int p1_wide, .int p1_rim, .int p1_fill, .int p1_wall, .int p1_ceiling, .int p1_puff, .int p1_period, .int p1_second, .int p1_score, .int p1_thrown, .int p1_ballCount, .ref a_p1_kinds, .ref a_p1_sizes, .ref a_p1_tights])), (a_p1_sizes, .inl (cI, 5, .inl p1_sizesA)), (a_p1_tights, .inl (cI, 5, .inl p1_tightsA)), (a_p1_kinds, .inl (cI, 5, .inl p1_kindsA))] H := hP
  have hD : va_D A [(a_t, .inr (0, [.int (-1), .int 0, .int 0, .int t_greatest, .int t_struck, .int p1_hand, .int t_pace, .int t_rise])), (a_p1, .inr (3, [.int p1_hand, .int p1_at, .int p1_wide, .int p1_rim, .int p1_fill, .int p1_wall, .int p1_ceiling, .int p1_puff, .int p1_period, .int p1_second, .int p1_score, .int p1_thrown, .int p1_ballCount, .ref a_p1_kinds, .ref a_p1_sizes, .ref a_p1_tights])), (a_p1_sizes, .inl (cI, 5, .inl p1_sizesA)), (a_p1_tights, .inl (cI, 5, .inl p1_tightsA)), (a_p1_kinds, .inl (cI, 5, .inl p1_kindsA))] := hD
  refine lv_aload_n hx hb dX0_run_23 rfl (lv_at hl 0 rfl) ?_
  refine lv_aload_n hx hb dX0_run_24 rfl (lv_at hl 0 rfl) ?_
  refine va_get (D := (dC, dI)) (ci := 0) (v := .int p1_hand) (C := RX0) (T := TX0) (N := 8) hx hb hts hinX0 hown hK hP 0 rfl rfl 5 (by decide) (hts (.fieldLink RX0 26 "PaperInBin$Flight" "height" "I") (by decide +kernel)) (fun _ h9 => h9) rfl dX0_run_25 ?_
  refine va_put (D := (dC, dI)) (ci := 0) (v := .int p1_hand) (ty := .int) (C := RX0) (T := TX0) (N := 8) hx hb hts hinX0 tyX0 tyX0_ok nmX0 hown hK hP hD hS 0 rfl rfl 3 (by decide) (hts (.fieldLink RX0 29 "PaperInBin$Flight" "greatest" "I") (by decide +kernel)) (fun _ h9 => h9) rfl (tyX0_ok 3 (by decide)) rfl rfl (Nat.le_of_ble_eq_true rfl) dX0_run_28 (fun H locs hP hD hS => ?_)
  have hP : va_P (dC, dI) vwCl [(a_t, .inr (0, [.int (-1), .int 0, .int 0, .int p1_hand, .int t_struck, .int p1_hand, .int t_pace, .int t_rise])), (a_p1, .inr (3, [.int p1_hand, .int p1_at, .int p1_wide, .int p1_rim, .int p1_fill, .int p1_wall, .int p1_ceiling, .int p1_puff, .int p1_period, .int p1_second, .int p1_score, .int p1_thrown, .int p1_ballCount, .ref a_p1_kinds, .ref a_p1_sizes, .ref a_p1_tights])), (a_p1_sizes, .inl (cI, 5, .inl p1_sizesA)), (a_p1_tights, .inl (cI, 5, .inl p1_tightsA)), (a_p1_kinds, .inl (cI, 5, .inl p1_kindsA))] H := hP
  have hD : va_D A [(a_t, .inr (0, [.int (-1), .int 0, .int 0, .int p1_hand, .int t_struck, .int p1_hand, .int t_pace, .int t_rise])), (a_p1, .inr (3, [.int p1_hand, .int p1_at, .int p1_wide, .int p1_rim, .int p1_fill, .int p1_wall, .int p1_ceiling, .int p1_puff, .int p1_period, .int p1_second, .int p1_score, .int p1_thrown, .int p1_ballCount, .ref a_p1_kinds, .ref a_p1_sizes, .ref a_p1_tights])), (a_p1_sizes, .inl (cI, 5, .inl p1_sizesA)), (a_p1_tights, .inl (cI, 5, .inl p1_tightsA)), (a_p1_kinds, .inl (cI, 5, .inl p1_kindsA))] := hD
  refine lv_aload_n hx hb dX0_run_31 rfl (lv_at hl 0 rfl) ?_
  refine lv_iconst (v := 0) hx hb dX0_run_32 (by decide) ?_
  refine va_put (D := (dC, dI)) (ci := 0) (v := .int 0) (ty := .int) (C := RX0) (T := TX0) (N := 8) hx hb hts hinX0 tyX0 tyX0_ok nmX0 hown hK hP hD hS 0 rfl rfl 4 (by decide) (hts (.fieldLink RX0 32 "PaperInBin$Flight" "struck" "I") (by decide +kernel)) (fun _ h9 => h9) rfl (tyX0_ok 4 (by decide)) rfl rfl (Nat.le_of_ble_eq_true rfl) dX0_run_33 (fun H locs hP hD hS => ?_)
  have hP : va_P (dC, dI) vwCl [(a_t, .inr (0, [.int (-1), .int 0, .int 0, .int p1_hand, .int 0, .int p1_hand, .int t_pace, .int t_rise])), (a_p1, .inr (3, [.int p1_hand, .int p1_at, .int p1_wide, .int p1_rim, .int p1_fill, .int p1_wall, .int p1_ceiling, .int p1_puff, .int p1_period, .int p1_second, .int p1_score, .int p1_thrown, .int p1_ballCount, .ref a_p1_kinds, .ref a_p1_sizes, .ref a_p1_tights])), (a_p1_sizes, .inl (cI, 5, .inl p1_sizesA)), (a_p1_tights, .inl (cI, 5, .inl p1_tightsA)), (a_p1_kinds, .inl (cI, 5, .inl p1_kindsA))] H := hP
  have hD : va_D A [(a_t, .inr (0, [.int (-1), .int 0, .int 0, .int p1_hand, .int 0, .int p1_hand, .int t_pace, .int t_rise])), (a_p1, .inr (3, [.int p1_hand, .int p1_at, .int p1_wide, .int p1_rim, .int p1_fill, .int p1_wall, .int p1_ceiling, .int p1_puff, .int p1_period, .int p1_second, .int p1_score, .int p1_thrown, .int p1_ballCount, .ref a_p1_kinds, .ref a_p1_sizes, .ref a_p1_tights])), (a_p1_sizes, .inl (cI, 5, .inl p1_sizesA)), (a_p1_tights, .inl (cI, 5, .inl p1_tightsA)), (a_p1_kinds, .inl (cI, 5, .inl p1_kindsA))] := hD
  refine lv_aload_n hx hb dX0_run_36 rfl (lv_at hl 0 rfl) ?_
  refine lv_iload_n hx hb dX0_run_37 rfl (lv_at hl 3 rfl) ?_
  refine va_put (D := (dC, dI)) (ci := 0) (v := .int x3) (ty := .int) (C := RX0) (T := TX0) (N := 8) hx hb hts hinX0 tyX0 tyX0_ok nmX0 hown hK hP hD hS 0 rfl rfl 6 (by decide) (hts (.fieldLink RX0 35 "PaperInBin$Flight" "pace" "I") (by decide +kernel)) (fun _ h9 => h9) rfl (tyX0_ok 6 (by decide)) rfl rfl (Nat.le_of_ble_eq_true rfl) dX0_run_38 (fun H locs hP hD hS => ?_)
  have hP : va_P (dC, dI) vwCl [(a_t, .inr (0, [.int (-1), .int 0, .int 0, .int p1_hand, .int 0, .int p1_hand, .int x3, .int t_rise])), (a_p1, .inr (3, [.int p1_hand, .int p1_at, .int p1_wide, .int p1_rim, .int p1_fill, .int p1_wall, .int p1_ceiling, .int p1_puff, .int p1_period, .int p1_second, .int p1_score, .int p1_thrown, .int p1_ballCount, .ref a_p1_kinds, .ref a_p1_sizes, .ref a_p1_tights])), (a_p1_sizes, .inl (cI, 5, .inl p1_sizesA)), (a_p1_tights, .inl (cI, 5, .inl p1_tightsA)), (a_p1_kinds, .inl (cI, 5, .inl p1_kindsA))] H := hP
  have hD : va_D A [(a_t, .inr (0, [.int (-1), .int 0, .int 0, .int p1_hand, .int 0, .int p1_hand, .int x3, .int t_rise])), (a_p1, .inr (3, [.int p1_hand, .int p1_at, .int p1_wide, .int p1_rim, .int p1_fill, .int p1_wall, .int p1_ceiling, .int p1_puff, .int p1_period, .int p1_second, .int p1_score, .int p1_thrown, .int p1_ballCount, .ref a_p1_kinds, .ref a_p1_sizes, .ref a_p1_tights])), (a_p1_sizes, .inl (cI, 5, .inl p1_sizesA)), (a_p1_tights, .inl (cI, 5, .inl p1_tightsA)), (a_p1_kinds, .inl (cI, 5, .inl p1_kindsA))] := hD
  refine lv_aload_n hx hb dX0_run_41 rfl (lv_at hl 0 rfl) ?_
  refine lv_iload hx hb dX0_run_42 (lv_at hl 4 rfl) ?_
  refine va_put (D := (dC, dI)) (ci := 0) (v := .int x4) (ty := .int) (C := RX0) (T := TX0) (N := 8) hx hb hts hinX0 tyX0 tyX0_ok nmX0 hown hK hP hD hS 0 rfl rfl 7 (by decide) (hts (.fieldLink RX0 38 "PaperInBin$Flight" "rise" "I") (by decide +kernel)) (fun _ h9 => h9) rfl (tyX0_ok 7 (by decide)) rfl rfl (Nat.le_of_ble_eq_true rfl) dX0_run_44 (fun H locs hP hD hS => ?_)
  have hP : va_P (dC, dI) vwCl [(a_t, .inr (0, [.int (-1), .int 0, .int 0, .int p1_hand, .int 0, .int p1_hand, .int x3, .int x4])), (a_p1, .inr (3, [.int p1_hand, .int p1_at, .int p1_wide, .int p1_rim, .int p1_fill, .int p1_wall, .int p1_ceiling, .int p1_puff, .int p1_period, .int p1_second, .int p1_score, .int p1_thrown, .int p1_ballCount, .ref a_p1_kinds, .ref a_p1_sizes, .ref a_p1_tights])), (a_p1_sizes, .inl (cI, 5, .inl p1_sizesA)), (a_p1_tights, .inl (cI, 5, .inl p1_tightsA)), (a_p1_kinds, .inl (cI, 5, .inl p1_kindsA))] H := hP
  have hD : va_D A [(a_t, .inr (0, [.int (-1), .int 0, .int 0, .int p1_hand, .int 0, .int p1_hand, .int x3, .int x4])), (a_p1, .inr (3, [.int p1_hand, .int p1_at, .int p1_wide, .int p1_rim, .int p1_fill, .int p1_wall, .int p1_ceiling, .int p1_puff, .int p1_period, .int p1_second, .int p1_score, .int p1_thrown, .int p1_ballCount, .ref a_p1_kinds, .ref a_p1_sizes, .ref a_p1_tights])), (a_p1_sizes, .inl (cI, 5, .inl p1_sizesA)), (a_p1_tights, .inl (cI, 5, .inl p1_tightsA)), (a_p1_kinds, .inl (cI, 5, .inl p1_kindsA))] := hD
  refine lv_aload_n hx hb dX0_run_47 rfl (lv_at hl 1 rfl) ?_
  refine lv_iload_n hx hb dX0_run_48 rfl (lv_at hl 2 rfl) ?_
  obtain ⟨r14, hu15, hR⟩ := b1_s hR
  refine cl_VNiN (As := [.int x2]) (rest := []) (wc := [(a_p1, .inr (3, [.int p1_hand, .int p1_at, .int p1_wide, .int p1_rim, .int p1_fill, .int p1_wall, .int p1_ceiling, .int p1_puff, .int p1_period, .int p1_second, .int p1_score, .int p1_thrown, .int p1_ballCount, .ref a_p1_kinds, .ref a_p1_sizes, .ref a_p1_tights])), (a_p1_sizes, .inl (cI, 5, .inl p1_sizesA)), (a_p1_tights, .inl (cI, 5, .inl p1_tightsA)), (a_p1_kinds, .inl (cI, 5, .inl p1_kindsA))]) (wr := [(a_t, .inr (0, [.int (-1), .int 0, .int 0, .int p1_hand, .int 0, .int p1_hand, .int x3, .int x4]))]) ⟨hx, hb, hml, hown, hts⟩ (kX3_dragOf l dC dI cI a_p1 a_p1_kinds a_p1_sizes a_p1_tights H.size x2 p1_hand p1_at p1_wide p1_rim p1_fill p1_wall p1_ceiling p1_puff p1_period p1_second p1_score p1_thrown p1_ballCount p1_sizesA p1_tightsA p1_kindsA r14 hu15) ⟨va_cnB 1 hts gX0_run_X3_dragOf_n41 rfl rfl rfl (nM_Flight_41 hN) (hts (.initialized RX3) (by decide +kernel)) (by decide +kernel) ⟨Nat.le_of_ble_eq_true rfl, Nat.le_of_ble_eq_true rfl⟩, hts (.instanceMethod yX3_dragOf) (by decide +kernel), hts (.selects RX3 yX3_dragOf yX3_dragOf) (by decide +kernel)⟩ hK hN hP hD hS hA (va_recv hK hP (ci := 3) (q0 := 1) rfl rfl) [1, 2, 3, 4] [0] rfl rfl rfl rfl rfl (by decide) rfl hl.1 rfl (Nat.le_of_ble_eq_true rfl) dX0_run_49 (fun H locs hP hD hS => ?_)
  have hP : va_P (dC, dI) vwCl [(a_t, .inr (0, [.int (-1), .int 0, .int 0, .int p1_hand, .int 0, .int p1_hand, .int x3, .int x4])), (a_p1, .inr (3, [.int p1_hand, .int p1_at, .int p1_wide, .int p1_rim, .int p1_fill, .int p1_wall, .int p1_ceiling, .int p1_puff, .int p1_period, .int p1_second, .int p1_score, .int p1_thrown, .int p1_ballCount, .ref a_p1_kinds, .ref a_p1_sizes, .ref a_p1_tights])), (a_p1_sizes, .inl (cI, 5, .inl p1_sizesA)), (a_p1_tights, .inl (cI, 5, .inl p1_tightsA)), (a_p1_kinds, .inl (cI, 5, .inl p1_kindsA))] H := hP
  have hD : va_D A [(a_t, .inr (0, [.int (-1), .int 0, .int 0, .int p1_hand, .int 0, .int p1_hand, .int x3, .int x4])), (a_p1, .inr (3, [.int p1_hand, .int p1_at, .int p1_wide, .int p1_rim, .int p1_fill, .int p1_wall, .int p1_ceiling, .int p1_puff, .int p1_period, .int p1_second, .int p1_score, .int p1_thrown, .int p1_ballCount, .ref a_p1_kinds, .ref a_p1_sizes, .ref a_p1_tights])), (a_p1_sizes, .inl (cI, 5, .inl p1_sizesA)), (a_p1_tights, .inl (cI, 5, .inl p1_tightsA)), (a_p1_kinds, .inl (cI, 5, .inl p1_kindsA))] := hD
  refine lv_istore (lv' := [(5, .int r14), (0, .ref a_t), (1, .ref a_p1), (2, .int x2), (3, .int x3), (4, .int x4)]) hx hb dX0_run_52 hl (by decide) rfl (fun ls hl => ?_)
  refine lv_aload_n hx hb dX0_run_54 rfl (lv_at hl 2 rfl) ?_
  refine lv_iload_n hx hb dX0_run_55 rfl (lv_at hl 3 rfl) ?_
  obtain ⟨r16, hu17, hR⟩ := b1_s hR
  refine cl_VNiN (As := [.int x2]) (rest := []) (wc := [(a_p1, .inr (3, [.int p1_hand, .int p1_at, .int p1_wide, .int p1_rim, .int p1_fill, .int p1_wall, .int p1_ceiling, .int p1_puff, .int p1_period, .int p1_second, .int p1_score, .int p1_thrown, .int p1_ballCount, .ref a_p1_kinds, .ref a_p1_sizes, .ref a_p1_tights])), (a_p1_kinds, .inl (cI, 5, .inl p1_kindsA))]) (wr := [(a_t, .inr (0, [.int (-1), .int 0, .int 0, .int p1_hand, .int 0, .int p1_hand, .int x3, .int x4])), (a_p1_sizes, .inl (cI, 5, .inl p1_sizesA)), (a_p1_tights, .inl (cI, 5, .inl p1_tightsA))]) ⟨hx, hb, hml, hown, hts⟩ (kX3_fallOf l dC dI cI a_p1 a_p1_kinds a_p1_sizes a_p1_tights H.size x2 p1_hand p1_at p1_wide p1_rim p1_fill p1_wall p1_ceiling p1_puff p1_period p1_second p1_score p1_thrown p1_ballCount p1_kindsA r16 hu17) ⟨va_cnB 1 hts gX0_run_X3_fallOf_n45 rfl rfl rfl (nM_Flight_45 hN) (hts (.initialized RX3) (by decide +kernel)) (by decide +kernel) ⟨Nat.le_of_ble_eq_true rfl, Nat.le_of_ble_eq_true rfl⟩, hts (.instanceMethod yX3_fallOf) (by decide +kernel), hts (.selects RX3 yX3_fallOf yX3_fallOf) (by decide +kernel)⟩ hK hN hP hD hS hA (va_recv hK hP (ci := 3) (q0 := 1) rfl rfl) [1, 4] [0, 2, 3] rfl rfl rfl rfl rfl (by decide) rfl hl.1 rfl (Nat.le_of_ble_eq_true rfl) dX0_run_56 (fun H locs hP hD hS => ?_)
  have hP : va_P (dC, dI) vwCl [(a_t, .inr (0, [.int (-1), .int 0, .int 0, .int p1_hand, .int 0, .int p1_hand, .int x3, .int x4])), (a_p1_sizes, .inl (cI, 5, .inl p1_sizesA)), (a_p1_tights, .inl (cI, 5, .inl p1_tightsA)), (a_p1, .inr (3, [.int p1_hand, .int p1_at, .int p1_wide, .int p1_rim, .int p1_fill, .int p1_wall, .int p1_ceiling, .int p1_puff, .int p1_period, .int p1_second, .int p1_score, .int p1_thrown, .int p1_ballCount, .ref a_p1_kinds, .ref a_p1_sizes, .ref a_p1_tights])), (a_p1_kinds, .inl (cI, 5, .inl p1_kindsA))] H := hP
  have hD : va_D A [(a_t, .inr (0, [.int (-1), .int 0, .int 0, .int p1_hand, .int 0, .int p1_hand, .int x3, .int x4])), (a_p1_sizes, .inl (cI, 5, .inl p1_sizesA)), (a_p1_tights, .inl (cI, 5, .inl p1_tightsA)), (a_p1, .inr (3, [.int p1_hand, .int p1_at, .int p1_wide, .int p1_rim, .int p1_fill, .int p1_wall, .int p1_ceiling, .int p1_puff, .int p1_period, .int p1_second, .int p1_score, .int p1_thrown, .int p1_ballCount, .ref a_p1_kinds, .ref a_p1_sizes, .ref a_p1_tights])), (a_p1_kinds, .inl (cI, 5, .inl p1_kindsA))] := hD
  refine lv_istore (lv' := [(6, .int r16), (5, .int r14), (0, .ref a_t), (1, .ref a_p1), (2, .int x2), (3, .int x3), (4, .int x4)]) hx hb dX0_run_59 hl (by decide) rfl (fun ls hl => ?_)
  refine lv_aload_n hx hb dX0_run_61 rfl (lv_at hl 3 rfl) ?_
  refine lv_iload_n hx hb dX0_run_62 rfl (lv_at hl 4 rfl) ?_
  obtain ⟨r18, hu19, hR⟩ := b1_s hR
  refine cl_VNiN (As := [.int x2]) (rest := []) (wc := [(a_p1, .inr (3, [.int p1_hand, .int p1_at, .int p1_wide, .int p1_rim, .int p1_fill, .int p1_wall, .int p1_ceiling, .int p1_puff, .int p1_period, .int p1_second, .int p1_score, .int p1_thrown, .int p1_ballCount, .ref a_p1_kinds, .ref a_p1_sizes, .ref a_p1_tights])), (a_p1_kinds, .inl (cI, 5, .inl p1_kindsA))]) (wr := [(a_t, .inr (0, [.int (-1), .int 0, .int 0, .int p1_hand, .int 0, .int p1_hand, .int x3, .int x4])), (a_p1_sizes, .inl (cI, 5, .inl p1_sizesA)), (a_p1_tights, .inl (cI, 5, .inl p1_tightsA))]) ⟨hx, hb, hml, hown, hts⟩ (kX3_fanOf l dC dI cI a_p1 a_p1_kinds a_p1_sizes a_p1_tights H.size x2 p1_hand p1_at p1_wide p1_rim p1_fill p1_wall p1_ceiling p1_puff p1_period p1_second p1_score p1_thrown p1_ballCount p1_kindsA r18 hu19) ⟨va_cnB 1 hts gX0_run_X3_fanOf_n48 rfl rfl rfl (nM_Flight_48 hN) (hts (.initialized RX3) (by decide +kernel)) (by decide +kernel) ⟨Nat.le_of_ble_eq_true rfl, Nat.le_of_ble_eq_true rfl⟩, hts (.instanceMethod yX3_fanOf) (by decide +kernel), hts (.selects RX3 yX3_fanOf yX3_fanOf) (by decide +kernel)⟩ hK hN hP hD hS hA (va_recv hK hP (ci := 3) (q0 := 3) rfl rfl) [3, 4] [0, 1, 2] rfl rfl rfl rfl rfl (by decide) rfl hl.1 rfl (Nat.le_of_ble_eq_true rfl) dX0_run_63 (fun H locs hP hD hS => ?_)
  have hP : va_P (dC, dI) vwCl [(a_t, .inr (0, [.int (-1), .int 0, .int 0, .int p1_hand, .int 0, .int p1_hand, .int x3, .int x4])), (a_p1_sizes, .inl (cI, 5, .inl p1_sizesA)), (a_p1_tights, .inl (cI, 5, .inl p1_tightsA)), (a_p1, .inr (3, [.int p1_hand, .int p1_at, .int p1_wide, .int p1_rim, .int p1_fill, .int p1_wall, .int p1_ceiling, .int p1_puff, .int p1_period, .int p1_second, .int p1_score, .int p1_thrown, .int p1_ballCount, .ref a_p1_kinds, .ref a_p1_sizes, .ref a_p1_tights])), (a_p1_kinds, .inl (cI, 5, .inl p1_kindsA))] H := hP
  have hD : va_D A [(a_t, .inr (0, [.int (-1), .int 0, .int 0, .int p1_hand, .int 0, .int p1_hand, .int x3, .int x4])), (a_p1_sizes, .inl (cI, 5, .inl p1_sizesA)), (a_p1_tights, .inl (cI, 5, .inl p1_tightsA)), (a_p1, .inr (3, [.int p1_hand, .int p1_at, .int p1_wide, .int p1_rim, .int p1_fill, .int p1_wall, .int p1_ceiling, .int p1_puff, .int p1_period, .int p1_second, .int p1_score, .int p1_thrown, .int p1_ballCount, .ref a_p1_kinds, .ref a_p1_sizes, .ref a_p1_tights])), (a_p1_kinds, .inl (cI, 5, .inl p1_kindsA))] := hD
  refine lv_istore (lv' := [(7, .int r18), (6, .int r16), (5, .int r14), (0, .ref a_t), (1, .ref a_p1), (2, .int x2), (3, .int x3), (4, .int x4)]) hx hb dX0_run_66 hl (by decide) rfl (fun ls hl => ?_)
  have hP := hP.sub (ws' := [(a_t, .inr (0, [.int (-1), .int 0, .int 0, .int p1_hand, .int 0, .int p1_hand, .int x3, .int x4])), (a_p1, .inr (3, [.int p1_hand, .int p1_at, .int p1_wide, .int p1_rim, .int p1_fill, .int p1_wall, .int p1_ceiling, .int p1_puff, .int p1_period, .int p1_second, .int p1_score, .int p1_thrown, .int p1_ballCount, .ref a_p1_kinds, .ref a_p1_sizes, .ref a_p1_tights])), (a_p1_sizes, .inl (cI, 5, .inl p1_sizesA)), (a_p1_tights, .inl (cI, 5, .inl p1_tightsA)), (a_p1_kinds, .inl (cI, 5, .inl p1_kindsA))]) [0, 3, 1, 2, 4] rfl
  have hD := hD.sub (ws' := [(a_t, .inr (0, [.int (-1), .int 0, .int 0, .int p1_hand, .int 0, .int p1_hand, .int x3, .int x4])), (a_p1, .inr (3, [.int p1_hand, .int p1_at, .int p1_wide, .int p1_rim, .int p1_fill, .int p1_wall, .int p1_ceiling, .int p1_puff, .int p1_period, .int p1_second, .int p1_score, .int p1_thrown, .int p1_ballCount, .ref a_p1_kinds, .ref a_p1_sizes, .ref a_p1_tights])), (a_p1_sizes, .inl (cI, 5, .inl p1_sizesA)), (a_p1_tights, .inl (cI, 5, .inl p1_tightsA)), (a_p1_kinds, .inl (cI, 5, .inl p1_kindsA))]) [0, 3, 1, 2, 4] (by decide) rfl
  exact K68 (100) r14 r16 r18 (-1) 0 0 p1_hand 0 p1_hand x3 x4 _ _ hP hD hS _ (lv_sub hl [3, 4, 2, 1, 0] rfl) hR
