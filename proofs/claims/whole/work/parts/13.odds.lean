def fX1_drawBelow (x1 : Int32) (t_seed : Int32) : Option (Int32 × Int32) :=
  if x1 ≤ 0 then (
   some (0, ((t_seed * 1664525) + 1013904223)))
  else (
  g_nz x1 (
  some ((((((t_seed * 1664525) + 1013904223) &&& 2147483647) / 256) - ((((t_seed * 1664525) + 1013904223) &&& 2147483647) / 256) / x1 * x1), ((t_seed * 1664525) + 1013904223))))
set_option maxHeartbeats 4000000 in
set_option maxRecDepth 100000 in
theorem kX1_drawBelow (l : Launch) (dC : Nat → ClassId) (dI : Nat → Nat → Nat) (cI : ClassId) (a_t : Nat) (sz : Nat) (x1 : Int32) (t_seed : Int32) (R : Int32 × Int32) (hR : fX1_drawBelow x1 t_seed = some R) : Met l yX1_drawBelow wsX1_drawBelow ({ frames := 0, cells := 0, slots := 0, locals := 0 } : Room) (va_Pc [.ref a_t, .int x1] (Wp (dC, dI) [(cI, .int)] [(a_t, .inr (1, [.int t_seed]))] sz)) (va_Qi (fun (r : Int32) (u : Int32) => (r, u) = R) (Wq (dC, dI) [(a_t, .inr (1, [.int t_seed]))] sz (fun (u : Int32) => ([(a_t, .inr (1, [.int u]))] : va_W))) (va_A [(a_t, .inr (1, [.int t_seed]))] sz)) 0 0 (va_A [(a_t, .inr (1, [.int t_seed]))] sz) := by
  refine Met.ofW (cc := cX1_drawBelow) (maxL := 3) (ret := (some .int)) (by decide) rfl ?_
  intro p e s m args below meth c s₁ B hml hv
  obtain ⟨hargs, hsz, hP, hK, hD0, hN⟩ := hv
  have hx := B.exec
  have hb := B.bytes
  have hr := B.returns
  have hts := atoms_spec (ws := wsX1_drawBelow) B.pre
  have hown : s.vm.findClass RX1 = some m.cls := findClass_of_methodNamed B.named
  have hlocks := B.notSynchronized
  subst hsz
  have hD := hD0.self (sz := s.heap.size)
  obtain ⟨A, hAe⟩ : ∃ A, A = va_A [(a_t, .inr (1, [.int t_seed]))] s.heap.size := ⟨_, rfl⟩
  rw [← hAe] at hD
  have hA : ∀ q : Nat, s.heap.size ≤ q → A q := fun q h => by rw [hAe]; exact Or.inr h
  have hS : va_S A s.heap s.heap [] := va_S.rf
  have hl := lv_entry ([.ref a_t, .int x1]) (n := 3) (Nat.le_of_ble_eq_true rfl)
  rw [e_of hargs, lg_entry_eq]
  generalize (lg_sl ([.ref a_t, .int x1]) ++ List.replicate (3 - (lg_sl ([.ref a_t, .int x1])).length) Slot.unset).toArray = ls at hl ⊢
  have hl : lv_has ls 3 [(0, .ref a_t), (1, .int x1)] := hl
  have hinX1 : ∀ w ∈ wsX10, w ∈ wsX1_drawBelow := by decide +kernel
  refine w_q ({ frames := 0, cells := 0, slots := 0, locals := 0 } : Room) (fun Q0 hQ => ?_)
  rw [fX1_drawBelow] at hR
  refine lv_aload_n hx hb dX1_drawBelow_0 rfl (lv_at hl 0 rfl) ?_
  refine lv_aload_n hx hb dX1_drawBelow_1 rfl (lv_at hl 0 rfl) ?_
  refine va_get (D := (dC, dI)) (ci := 1) (v := .int t_seed) (C := RX1) (T := TX1) (N := 1) hx hb hts hinX1 hown hK hP 0 rfl rfl 0 (by decide) (hts (.fieldLink RX1 7 "PaperInBin$Lot" "seed" "I") (by decide +kernel)) (fun _ h9 => h9) rfl dX1_drawBelow_2 ?_
  refine lv_ldc (v := 1664525) hx hb hown (hts (.constant RX1 13 (1664525)) (by decide +kernel)) dX1_drawBelow_5 ?_
  refine lv_imul hx hb dX1_drawBelow_7 ?_
  refine lv_ldc (v := 1013904223) hx hb hown (hts (.constant RX1 14 (1013904223)) (by decide +kernel)) dX1_drawBelow_8 ?_
  refine lv_iadd hx hb dX1_drawBelow_10 ?_
  refine va_put (D := (dC, dI)) (ci := 1) (v := .int ((t_seed * 1664525) + 1013904223)) (ty := .int) (C := RX1) (T := TX1) (N := 1) hx hb hts hinX1 tyX1 tyX1_ok nmX1 hown hK hP hD hS 0 rfl rfl 0 (by decide) (hts (.fieldLink RX1 7 "PaperInBin$Lot" "seed" "I") (by decide +kernel)) (fun _ h9 => h9) rfl (tyX1_ok 0 (by decide)) rfl rfl (Nat.le_of_ble_eq_true rfl) dX1_drawBelow_11 (fun H locs hP hD hS => ?_)
  have hP : va_P (dC, dI) vwCl [(a_t, .inr (1, [.int ((t_seed * 1664525) + 1013904223)]))] H := hP
  have hD : va_D A [(a_t, .inr (1, [.int ((t_seed * 1664525) + 1013904223)]))] := hD
  refine lv_aload_n hx hb dX1_drawBelow_14 rfl (lv_at hl 0 rfl) ?_
  refine va_get (D := (dC, dI)) (ci := 1) (v := .int ((t_seed * 1664525) + 1013904223)) (C := RX1) (T := TX1) (N := 1) hx hb hts hinX1 hown hK hP 0 rfl rfl 0 (by decide) (hts (.fieldLink RX1 7 "PaperInBin$Lot" "seed" "I") (by decide +kernel)) (fun _ h9 => h9) rfl dX1_drawBelow_15 ?_
  refine lv_ldc (v := 2147483647) hx hb hown (hts (.constant RX1 15 (2147483647)) (by decide +kernel)) dX1_drawBelow_18 ?_
  refine lv_iand hx hb dX1_drawBelow_20 ?_
  refine lv_sipush (v := 256) hx hb dX1_drawBelow_21 (by decide) ?_
  refine lv_idiv hx hb dX1_drawBelow_24 (by decide) ?_
  refine lv_istore_n (lv' := [(2, .int ((((t_seed * 1664525) + 1013904223) &&& 2147483647) / 256)), (0, .ref a_t), (1, .int x1)]) hx hb dX1_drawBelow_25 rfl hl (by decide) rfl (fun ls hl => ?_)
  refine lv_iload_n hx hb dX1_drawBelow_26 rfl (lv_at hl 2 rfl) ?_
  refine lv_if_le (tgt := 36) hx hb dX1_drawBelow_27 (by decide) (fun c27 => ?_) (fun c27 => ?_)
  · have hR := (if_pos c27).symm.trans hR
    refine lv_iconst (v := 0) hx hb dX1_drawBelow_36 (by decide) ?_
    subst hQ
    subst hAe
    exact W.iret (v := 0) hx hb hr (fun t ht hW => ⟨⟨0, (((t_seed * 1664525) + 1013904223)), rfl, Option.some.inj hR, by rw [ht]; exact hP, hD⟩, hS.F ht⟩) hS.2.2 dX1_drawBelow_37
  · have hR := (if_neg c27).symm.trans hR
    refine lv_iload_n hx hb dX1_drawBelow_30 rfl (lv_at hl 0 rfl) ?_
    refine lv_iload_n hx hb dX1_drawBelow_31 rfl (lv_at hl 2 rfl) ?_
    obtain ⟨g1, hR⟩ := g_nz_s hR
    refine lv_irem hx hb dX1_drawBelow_32 g1 ?_
    refine lv_goto (tgt := 37) hx hb dX1_drawBelow_33 (by decide) ?_
    subst hQ
    subst hAe
    exact W.iret (v := (((((t_seed * 1664525) + 1013904223) &&& 2147483647) / 256) - ((((t_seed * 1664525) + 1013904223) &&& 2147483647) / 256) / x1 * x1)) hx hb hr (fun t ht hW => ⟨⟨(((((t_seed * 1664525) + 1013904223) &&& 2147483647) / 256) - ((((t_seed * 1664525) + 1013904223) &&& 2147483647) / 256) / x1 * x1), (((t_seed * 1664525) + 1013904223)), rfl, Option.some.inj hR, by rw [ht]; exact hP, hD⟩, hS.F ht⟩) hS.2.2 dX1_drawBelow_37
def lX2_power_5 (x0 : Int64) (x2 : Int32) : Nat → Int64 → Int32 → Option (Int64)
  | 0, _, _ => none
  | n + 1, x3, x5 =>
    if x2 ≤ x5 then (
     some (x3))
    else (
    lX2_power_5 x0 x2 n (x3 * x0) (x5 + 1))
def fX2_power (x0 : Int64) (x2 : Int32) : Option (Int64) :=
  lX2_power_5 x0 x2 (100) 1 0
set_option maxHeartbeats 4000000 in
set_option maxRecDepth 100000 in
theorem kX2_power (l : Launch) (dC : Nat → ClassId) (dI : Nat → Nat → Nat) (cI : ClassId) (sz : Nat) (x0 : Int64) (x2 : Int32) (R : Int64) (hR : fX2_power x0 x2 = some R) : Met l yX2_power wsX2_power ({ frames := 0, cells := 0, slots := 0, locals := 0 } : Room) (va_Pc [.long x0, .int x2] (Wp (dC, dI) [(cI, .int)] [] sz)) (va_Ql (fun (r : Int64) (_ : Unit) => r = R) (Wq (dC, dI) [] sz (fun (_ : Unit) => ([] : va_W))) (va_A [] sz)) 0 0 (va_A [] sz) := by
  refine Met.ofW (cc := cX2_power) (maxL := 6) (ret := (some .long)) (by decide) rfl ?_
  intro p e s m args below meth c s₁ B hml hv
  obtain ⟨hargs, hsz, hP, hK, hD0, hN⟩ := hv
  have hx := B.exec
  have hb := B.bytes
  have hr := B.returns
  have hts := atoms_spec (ws := wsX2_power) B.pre
  have hown : s.vm.findClass RX2 = some m.cls := findClass_of_methodNamed B.named
  have hlocks := B.notSynchronized
  subst hsz
  have hD := hD0.self (sz := s.heap.size)
  obtain ⟨A, hAe⟩ : ∃ A, A = va_A [] s.heap.size := ⟨_, rfl⟩
  rw [← hAe] at hD
  have hA : ∀ q : Nat, s.heap.size ≤ q → A q := fun q h => by rw [hAe]; exact Or.inr h
  have hS : va_S A s.heap s.heap [] := va_S.rf
  have hl := lv_entry ([.long x0, .int x2]) (n := 6) (Nat.le_of_ble_eq_true rfl)
  rw [e_of hargs, lg_entry_eq]
  generalize (lg_sl ([.long x0, .int x2]) ++ List.replicate (6 - (lg_sl ([.long x0, .int x2])).length) Slot.unset).toArray = ls at hl ⊢
  have hl : lv_has ls 6 [(0, .long x0), (2, .int x2)] := hl
  refine w_q ({ frames := 0, cells := 0, slots := 0, locals := 0 } : Room) (fun Q0 hQ => ?_)
  have K5 : ∀ (n5 : Nat) (x3 : Int64) (x5 : Int32) (H : Heap) (locs : List Loc), va_P (dC, dI) vwCl [] H → va_D A [] → va_S A s.heap H locs → ∀ (ls : Array Slot), lv_has ls 6 [(0, .long x0), (2, .int x2), (3, .long x3), (5, .int x5)] → lX2_power_5 x0 x2 n5 x3 x5 = some R → W p l e ({ frames := 0, cells := 0, slots := 0, locals := 0 } : Room) s m args below meth c H locs 0 0 Q0 (F0 m 5 ls []) := by
    intro n5
    induction n5 with
    | zero =>
      intro x3 x5 H locs hP hD hS ls hl hR
      rw [lX2_power_5] at hR
      cases hR
    | succ n5 ih5 =>
      intro x3 x5 H locs hP hD hS ls hl hR
      rw [lX2_power_5] at hR
      refine lv_iload hx hb dX2_power_5 (lv_at hl 3 rfl) ?_
      refine lv_iload_n hx hb dX2_power_7 rfl (lv_at hl 1 rfl) ?_
      refine lv_icmp_ge (tgt := 21) hx hb dX2_power_8 (by decide) (fun c8 => ?_) (fun c8 => ?_)
      · have hR := (if_pos c8).symm.trans hR
        refine lv_lload_n hx hb dX2_power_21 rfl (lv_at hl 2 rfl) ?_
        subst hQ
        subst hAe
        exact W.lret (v := x3) hx hb hr (fun t ht hW => ⟨⟨x3, (), rfl, Option.some.inj hR, by rw [ht]; exact hP, hD⟩, hS.F ht⟩) hS.2.2 dX2_power_22
      · have hR := (if_neg c8).symm.trans hR
        refine lv_lload_n hx hb dX2_power_11 rfl (lv_at hl 2 rfl) ?_
        refine lv_lload_n hx hb dX2_power_12 rfl (lv_at hl 0 rfl) ?_
        refine lv_lmul hx hb dX2_power_13 ?_
        refine lv_lstore_n (lv' := [(3, .long (x3 * x0)), (0, .long x0), (2, .int x2), (5, .int x5)]) hx hb dX2_power_14 rfl hl (by decide) rfl (fun ls hl => ?_)
        refine lv_iinc (v := (x5 + 1)) (lv' := [(5, .int (x5 + 1)), (3, .long (x3 * x0)), (0, .long x0), (2, .int x2)]) hx hb dX2_power_15 hl (k := 3) rfl rfl (by decide) rfl (fun ls hl => ?_)
        refine lv_goto (tgt := 5) hx hb dX2_power_18 (by decide) ?_
        exact ih5 (x3 * x0) (x5 + 1) _ _ hP hD hS _ (lv_sub hl [2, 3, 1, 0] rfl) hR
  rw [fX2_power] at hR
  refine lv_lconst (v := 1) hx hb dX2_power_0 (by decide) ?_
  refine lv_lstore_n (lv' := [(3, .long 1), (0, .long x0), (2, .int x2)]) hx hb dX2_power_1 rfl hl (by decide) rfl (fun ls hl => ?_)
  refine lv_iconst (v := 0) hx hb dX2_power_2 (by decide) ?_
  refine lv_istore (lv' := [(5, .int 0), (3, .long 1), (0, .long x0), (2, .int x2)]) hx hb dX2_power_3 hl (by decide) rfl (fun ls hl => ?_)
  exact K5 (100) 1 0 _ _ hP hD hS _ (lv_sub hl [2, 3, 1, 0] rfl) hR
def lX2_choices_5 (x0 : Int32) (x1 : Int32) : Nat → Int64 → Int32 → Option (Int64)
  | 0, _, _ => none
  | n + 1, x2, x4 =>
    if x1 < x4 then (
     some (x2))
    else (
    g_nzl ((x4).toInt64) (
    lX2_choices_5 x0 x1 n ((x2 * ((x0 - x1) + x4).toInt64) / (x4).toInt64) (x4 + 1)))
def fX2_choices (x0 : Int32) (x1 : Int32) : Option (Int64) :=
  lX2_choices_5 x0 x1 (100) 1 1
set_option maxHeartbeats 4000000 in
set_option maxRecDepth 100000 in
theorem kX2_choices (l : Launch) (dC : Nat → ClassId) (dI : Nat → Nat → Nat) (cI : ClassId) (sz : Nat) (x0 : Int32) (x1 : Int32) (R : Int64) (hR : fX2_choices x0 x1 = some R) : Met l yX2_choices wsX2_choices ({ frames := 0, cells := 0, slots := 0, locals := 0 } : Room) (va_Pc [.int x0, .int x1] (Wp (dC, dI) [(cI, .int)] [] sz)) (va_Ql (fun (r : Int64) (_ : Unit) => r = R) (Wq (dC, dI) [] sz (fun (_ : Unit) => ([] : va_W))) (va_A [] sz)) 0 0 (va_A [] sz) := by
  refine Met.ofW (cc := cX2_choices) (maxL := 5) (ret := (some .long)) (by decide) rfl ?_
  intro p e s m args below meth c s₁ B hml hv
  obtain ⟨hargs, hsz, hP, hK, hD0, hN⟩ := hv
  have hx := B.exec
  have hb := B.bytes
  have hr := B.returns
  have hts := atoms_spec (ws := wsX2_choices) B.pre
  have hown : s.vm.findClass RX2 = some m.cls := findClass_of_methodNamed B.named
  have hlocks := B.notSynchronized
  subst hsz
  have hD := hD0.self (sz := s.heap.size)
  obtain ⟨A, hAe⟩ : ∃ A, A = va_A [] s.heap.size := ⟨_, rfl⟩
  rw [← hAe] at hD
  have hA : ∀ q : Nat, s.heap.size ≤ q → A q := fun q h => by rw [hAe]; exact Or.inr h
  have hS : va_S A s.heap s.heap [] := va_S.rf
  have hl := lv_entry ([.int x0, .int x1]) (n := 5) (Nat.le_of_ble_eq_true rfl)
  rw [e_of hargs, lg_entry_eq]
  generalize (lg_sl ([.int x0, .int x1]) ++ List.replicate (5 - (lg_sl ([.int x0, .int x1])).length) Slot.unset).toArray = ls at hl ⊢
  have hl : lv_has ls 5 [(0, .int x0), (1, .int x1)] := hl
  refine w_q ({ frames := 0, cells := 0, slots := 0, locals := 0 } : Room) (fun Q0 hQ => ?_)
  have K5 : ∀ (n5 : Nat) (x2 : Int64) (x4 : Int32) (H : Heap) (locs : List Loc), va_P (dC, dI) vwCl [] H → va_D A [] → va_S A s.heap H locs → ∀ (ls : Array Slot), lv_has ls 5 [(0, .int x0), (1, .int x1), (2, .long x2), (4, .int x4)] → lX2_choices_5 x0 x1 n5 x2 x4 = some R → W p l e ({ frames := 0, cells := 0, slots := 0, locals := 0 } : Room) s m args below meth c H locs 0 0 Q0 (F0 m 5 ls []) := by
    intro n5
    induction n5 with
    | zero =>
      intro x2 x4 H locs hP hD hS ls hl hR
      rw [lX2_choices_5] at hR
      cases hR
    | succ n5 ih5 =>
      intro x2 x4 H locs hP hD hS ls hl hR
      rw [lX2_choices_5] at hR
      refine lv_iload hx hb dX2_choices_5 (lv_at hl 3 rfl) ?_
      refine lv_iload_n hx hb dX2_choices_7 rfl (lv_at hl 1 rfl) ?_
      refine lv_icmp_gt (tgt := 31) hx hb dX2_choices_8 (by decide) (fun c8 => ?_) (fun c8 => ?_)
      · have hR := (if_pos c8).symm.trans hR
        refine lv_lload_n hx hb dX2_choices_31 rfl (lv_at hl 2 rfl) ?_
        subst hQ
        subst hAe
        exact W.lret (v := x2) hx hb hr (fun t ht hW => ⟨⟨x2, (), rfl, Option.some.inj hR, by rw [ht]; exact hP, hD⟩, hS.F ht⟩) hS.2.2 dX2_choices_32
      · have hR := (if_neg c8).symm.trans hR
        refine lv_lload_n hx hb dX2_choices_11 rfl (lv_at hl 2 rfl) ?_
        refine lv_iload_n hx hb dX2_choices_12 rfl (lv_at hl 0 rfl) ?_
        refine lv_iload_n hx hb dX2_choices_13 rfl (lv_at hl 1 rfl) ?_
        refine lv_isub hx hb dX2_choices_14 ?_
        refine lv_iload hx hb dX2_choices_15 (lv_at hl 3 rfl) ?_
        refine lv_iadd hx hb dX2_choices_17 ?_
        refine lv_i2l hx hb dX2_choices_18 rfl ?_
        refine lv_lmul hx hb dX2_choices_19 ?_
        refine lv_iload hx hb dX2_choices_20 (lv_at hl 3 rfl) ?_
        refine lv_i2l hx hb dX2_choices_22 rfl ?_
        obtain ⟨g1, hR⟩ := g_nzl_s hR
        refine lv_ldiv hx hb dX2_choices_23 g1 ?_
        refine lv_lstore_n (lv' := [(2, .long ((x2 * ((x0 - x1) + x4).toInt64) / (x4).toInt64)), (0, .int x0), (1, .int x1), (4, .int x4)]) hx hb dX2_choices_24 rfl hl (by decide) rfl (fun ls hl => ?_)
        refine lv_iinc (v := (x4 + 1)) (lv' := [(4, .int (x4 + 1)), (2, .long ((x2 * ((x0 - x1) + x4).toInt64) / (x4).toInt64)), (0, .int x0), (1, .int x1)]) hx hb dX2_choices_25 hl (k := 3) rfl rfl (by decide) rfl (fun ls hl => ?_)
        refine lv_goto (tgt := 5) hx hb dX2_choices_28 (by decide) ?_
        exact ih5 ((x2 * ((x0 - x1) + x4).toInt64) / (x4).toInt64) (x4 + 1) _ _ hP hD hS _ (lv_sub hl [2, 3, 1, 0] rfl) hR
  rw [fX2_choices] at hR
  refine lv_lconst (v := 1) hx hb dX2_choices_0 (by decide) ?_
  refine lv_lstore_n (lv' := [(2, .long 1), (0, .int x0), (1, .int x1)]) hx hb dX2_choices_1 rfl hl (by decide) rfl (fun ls hl => ?_)
  refine lv_iconst (v := 1) hx hb dX2_choices_2 (by decide) ?_
  refine lv_istore (lv' := [(4, .int 1), (2, .long 1), (0, .int x0), (1, .int x1)]) hx hb dX2_choices_3 hl (by decide) rfl (fun ls hl => ?_)
  exact K5 (100) 1 1 _ _ hP hD hS _ (lv_sub hl [2, 3, 1, 0] rfl) hR
def lX2_commonDivisor_9  : Nat → Int64 → Int64 → Int32 → Option (Int64)
  | 0, _, _, _ => none
  | n + 1, x4, x6, x8 =>
    if 1000 ≤ x8 then (
     some (x4))
    else (
    if (lg_cmp x6 0) = 0 then (
     some (x4))
    else (
    g_nzl x6 (
    lX2_commonDivisor_9 n x6 (x4 - x4 / x6 * x6) (x8 + 1))))
def fX2_commonDivisor (x0 : Int64) (x2 : Int64) : Option (Int64) :=
  lX2_commonDivisor_9 (1001) x0 x2 0
set_option maxHeartbeats 4000000 in
set_option maxRecDepth 100000 in
theorem kX2_commonDivisor (l : Launch) (dC : Nat → ClassId) (dI : Nat → Nat → Nat) (cI : ClassId) (sz : Nat) (x0 : Int64) (x2 : Int64) (R : Int64) (hR : fX2_commonDivisor x0 x2 = some R) : Met l yX2_commonDivisor wsX2_commonDivisor ({ frames := 0, cells := 0, slots := 0, locals := 0 } : Room) (va_Pc [.long x0, .long x2] (Wp (dC, dI) [(cI, .int)] [] sz)) (va_Ql (fun (r : Int64) (_ : Unit) => r = R) (Wq (dC, dI) [] sz (fun (_ : Unit) => ([] : va_W))) (va_A [] sz)) 0 0 (va_A [] sz) := by
  refine Met.ofW (cc := cX2_commonDivisor) (maxL := 11) (ret := (some .long)) (by decide) rfl ?_
  intro p e s m args below meth c s₁ B hml hv
  obtain ⟨hargs, hsz, hP, hK, hD0, hN⟩ := hv
  have hx := B.exec
  have hb := B.bytes
  have hr := B.returns
  have hts := atoms_spec (ws := wsX2_commonDivisor) B.pre
  have hown : s.vm.findClass RX2 = some m.cls := findClass_of_methodNamed B.named
  have hlocks := B.notSynchronized
  subst hsz
  have hD := hD0.self (sz := s.heap.size)
  obtain ⟨A, hAe⟩ : ∃ A, A = va_A [] s.heap.size := ⟨_, rfl⟩
  rw [← hAe] at hD
  have hA : ∀ q : Nat, s.heap.size ≤ q → A q := fun q h => by rw [hAe]; exact Or.inr h
  have hS : va_S A s.heap s.heap [] := va_S.rf
  have hl := lv_entry ([.long x0, .long x2]) (n := 11) (Nat.le_of_ble_eq_true rfl)
  rw [e_of hargs, lg_entry_eq]
  generalize (lg_sl ([.long x0, .long x2]) ++ List.replicate (11 - (lg_sl ([.long x0, .long x2])).length) Slot.unset).toArray = ls at hl ⊢
  have hl : lv_has ls 11 [(0, .long x0), (2, .long x2)] := hl
  refine w_q ({ frames := 0, cells := 0, slots := 0, locals := 0 } : Room) (fun Q0 hQ => ?_)
  have K9 : ∀ (n9 : Nat) (x4 : Int64) (x6 : Int64) (x8 : Int32) (H : Heap) (locs : List Loc), va_P (dC, dI) vwCl [] H → va_D A [] → va_S A s.heap H locs → ∀ (ls : Array Slot), lv_has ls 11 [(4, .long x4), (6, .long x6), (8, .int x8)] → lX2_commonDivisor_9 n9 x4 x6 x8 = some R → W p l e ({ frames := 0, cells := 0, slots := 0, locals := 0 } : Room) s m args below meth c H locs 0 0 Q0 (F0 m 9 ls []) := by
    intro n9
    induction n9 with
    | zero =>
      intro x4 x6 x8 H locs hP hD hS ls hl hR
      rw [lX2_commonDivisor_9] at hR
      cases hR
    | succ n9 ih9 =>
      intro x4 x6 x8 H locs hP hD hS ls hl hR
      rw [lX2_commonDivisor_9] at hR
      refine lv_iload hx hb dX2_commonDivisor_9 (lv_at hl 2 rfl) ?_
      refine lv_sipush (v := 1000) hx hb dX2_commonDivisor_11 (by decide) ?_
      refine lv_icmp_ge (tgt := 45) hx hb dX2_commonDivisor_14 (by decide) (fun c14 => ?_) (fun c14 => ?_)
      · have hR := (if_pos c14).symm.trans hR
        refine lv_lload hx hb dX2_commonDivisor_45 (lv_at hl 0 rfl) ?_
        subst hQ
        subst hAe
        exact W.lret (v := x4) hx hb hr (fun t ht hW => ⟨⟨x4, (), rfl, Option.some.inj hR, by rw [ht]; exact hP, hD⟩, hS.F ht⟩) hS.2.2 dX2_commonDivisor_47
      · have hR := (if_neg c14).symm.trans hR
        refine lv_lload hx hb dX2_commonDivisor_17 (lv_at hl 1 rfl) ?_
        refine lv_lconst (v := 0) hx hb dX2_commonDivisor_19 (by decide) ?_
        refine W.lcmp hx hb dX2_commonDivisor_20 ?_
        refine lv_if_eq (tgt := 45) hx hb dX2_commonDivisor_21 (by decide) (fun c21 => ?_) (fun c21 => ?_)
        · have hR := (if_pos c21).symm.trans hR
          refine lv_lload hx hb dX2_commonDivisor_45 (lv_at hl 0 rfl) ?_
          subst hQ
          subst hAe
          exact W.lret (v := x4) hx hb hr (fun t ht hW => ⟨⟨x4, (), rfl, Option.some.inj hR, by rw [ht]; exact hP, hD⟩, hS.F ht⟩) hS.2.2 dX2_commonDivisor_47
        · have hR := (if_neg c21).symm.trans hR
          refine lv_lload hx hb dX2_commonDivisor_24 (lv_at hl 0 rfl) ?_
          refine lv_lload hx hb dX2_commonDivisor_26 (lv_at hl 1 rfl) ?_
          obtain ⟨g1, hR⟩ := g_nzl_s hR
          refine lv_lrem hx hb dX2_commonDivisor_28 g1 ?_
          refine lv_lstore (lv' := [(9, .long (x4 - x4 / x6 * x6)), (4, .long x4), (6, .long x6), (8, .int x8)]) hx hb dX2_commonDivisor_29 hl (by decide) rfl (fun ls hl => ?_)
          refine lv_lload hx hb dX2_commonDivisor_31 (lv_at hl 2 rfl) ?_
          refine lv_lstore (lv' := [(4, .long x6), (9, .long (x4 - x4 / x6 * x6)), (6, .long x6), (8, .int x8)]) hx hb dX2_commonDivisor_33 hl (by decide) rfl (fun ls hl => ?_)
          refine lv_lload hx hb dX2_commonDivisor_35 (lv_at hl 1 rfl) ?_
          refine lv_lstore (lv' := [(6, .long (x4 - x4 / x6 * x6)), (4, .long x6), (9, .long (x4 - x4 / x6 * x6)), (8, .int x8)]) hx hb dX2_commonDivisor_37 hl (by decide) rfl (fun ls hl => ?_)
          refine lv_iinc (v := (x8 + 1)) (lv' := [(8, .int (x8 + 1)), (6, .long (x4 - x4 / x6 * x6)), (4, .long x6), (9, .long (x4 - x4 / x6 * x6))]) hx hb dX2_commonDivisor_39 hl (k := 3) rfl rfl (by decide) rfl (fun ls hl => ?_)
          refine lv_goto (tgt := 9) hx hb dX2_commonDivisor_42 (by decide) ?_
          exact ih9 x6 (x4 - x4 / x6 * x6) (x8 + 1) _ _ hP hD hS _ (lv_sub hl [2, 1, 0] rfl) hR
  rw [fX2_commonDivisor] at hR
  refine lv_lload_n hx hb dX2_commonDivisor_0 rfl (lv_at hl 0 rfl) ?_
  refine lv_lstore (lv' := [(4, .long x0), (0, .long x0), (2, .long x2)]) hx hb dX2_commonDivisor_1 hl (by decide) rfl (fun ls hl => ?_)
  refine lv_lload_n hx hb dX2_commonDivisor_3 rfl (lv_at hl 2 rfl) ?_
  refine lv_lstore (lv' := [(6, .long x2), (4, .long x0), (0, .long x0), (2, .long x2)]) hx hb dX2_commonDivisor_4 hl (by decide) rfl (fun ls hl => ?_)
  refine lv_iconst (v := 0) hx hb dX2_commonDivisor_6 (by decide) ?_
  refine lv_istore (lv' := [(8, .int 0), (6, .long x2), (4, .long x0), (0, .long x0), (2, .long x2)]) hx hb dX2_commonDivisor_7 hl (by decide) rfl (fun ls hl => ?_)
  exact K9 (1001) x0 x2 0 _ _ hP hD hS _ (lv_sub hl [2, 1, 0] rfl) hR
def lX2_atLeast_19 (x1 : Int32) (x3 : Int32) : Nat → Int32 → Int64 → Int64 → Option (Int64 × Int64)
  | 0, _, _, _ => none
  | n + 1, x4, t_above, t_below =>
    if x1 < x4 then (
     b1 (fX2_commonDivisor t_above t_below) (fun r1 =>
     if (lg_cmp r1 1) ≤ 0 then (
      some (t_above, t_below))
     else (
     g_nzl r1 (
     g_nzl r1 (
     some ((t_above / r1), (t_below / r1)))))))
    else (
    b1 (fX2_choices x1 x4) (fun r5 =>
    b1 (fX2_power ((x3).toInt64) x4) (fun r7 =>
    b1 (fX2_power ((9 - x3).toInt64) (x1 - x4)) (fun r9 =>
    lX2_atLeast_19 x1 x3 n (x4 + 1) (t_above + ((r5 * r7) * r9)) t_below))))
def fX2_atLeast (x1 : Int32) (x2 : Int32) (x3 : Int32) : Option (Int64 × Int64) :=
  b1 (fX2_power 9 x1) (fun r11 =>
  lX2_atLeast_19 x1 x3 (100) x2 0 r11)
set_option maxHeartbeats 4000000 in
set_option maxRecDepth 100000 in
theorem kX2_atLeast (l : Launch) (dC : Nat → ClassId) (dI : Nat → Nat → Nat) (cI : ClassId) (a_t : Nat) (sz : Nat) (x1 : Int32) (x2 : Int32) (x3 : Int32) (t_above : Int64) (t_below : Int64) (R : Int64 × Int64) (hR : fX2_atLeast x1 x2 x3 = some R) : Met l yX2_atLeast wsX2_atLeast ({ frames := 1, cells := 0, slots := 0, locals := 30 } : Room) (va_Pc [.ref a_t, .int x1, .int x2, .int x3] (Wp (dC, dI) [(cI, .int)] [(a_t, .inr (2, [.long t_above, .long t_below]))] sz)) (va_Qv (fun (u : Int64 × Int64) => u = R) (Wq (dC, dI) [(a_t, .inr (2, [.long t_above, .long t_below]))] sz (fun (u : Int64 × Int64) => ([(a_t, .inr (2, [.long u.1, .long u.2]))] : va_W))) (va_A [(a_t, .inr (2, [.long t_above, .long t_below]))] sz)) 0 0 (va_A [(a_t, .inr (2, [.long t_above, .long t_below]))] sz) := by
  refine Met.ofW (cc := cX2_atLeast) (maxL := 6) (ret := none) (by decide) rfl ?_
  intro p e s m args below meth c s₁ B hml hv
  obtain ⟨hargs, hsz, hP, hK, hD0, hN⟩ := hv
  have hx := B.exec
  have hb := B.bytes
  have hr := B.returns
  have hts := atoms_spec (ws := wsX2_atLeast) B.pre
  have hown : s.vm.findClass RX2 = some m.cls := findClass_of_methodNamed B.named
  have hlocks := B.notSynchronized
  subst hsz
  have hD := hD0.self (sz := s.heap.size)
  obtain ⟨A, hAe⟩ : ∃ A, A = va_A [(a_t, .inr (2, [.long t_above, .long t_below]))] s.heap.size := ⟨_, rfl⟩
  rw [← hAe] at hD
  have hA : ∀ q : Nat, s.heap.size ≤ q → A q := fun q h => by rw [hAe]; exact Or.inr h
  have hS : va_S A s.heap s.heap [] := va_S.rf
  have hl := lv_entry ([.ref a_t, .int x1, .int x2, .int x3]) (n := 6) (Nat.le_of_ble_eq_true rfl)
  rw [e_of hargs, lg_entry_eq]
  generalize (lg_sl ([.ref a_t, .int x1, .int x2, .int x3]) ++ List.replicate (6 - (lg_sl ([.ref a_t, .int x1, .int x2, .int x3])).length) Slot.unset).toArray = ls at hl ⊢
  have hl : lv_has ls 6 [(0, .ref a_t), (1, .int x1), (2, .int x2), (3, .int x3)] := hl
  have hinX2 : ∀ w ∈ wsX20, w ∈ wsX2_atLeast := by decide +kernel
  refine w_q ({ frames := 1, cells := 0, slots := 0, locals := 30 } : Room) (fun Q0 hQ => ?_)
  have K19 : ∀ (n19 : Nat) (x4 : Int32) (t_above : Int64) (t_below : Int64) (H : Heap) (locs : List Loc), va_P (dC, dI) vwCl [(a_t, .inr (2, [.long t_above, .long t_below]))] H → va_D A [(a_t, .inr (2, [.long t_above, .long t_below]))] → va_S A s.heap H locs → ∀ (ls : Array Slot), lv_has ls 6 [(0, .ref a_t), (1, .int x1), (3, .int x3), (4, .int x4)] → lX2_atLeast_19 x1 x3 n19 x4 t_above t_below = some R → W p l e ({ frames := 1, cells := 0, slots := 0, locals := 30 } : Room) s m args below meth c H locs 0 0 Q0 (F0 m 19 ls []) := by
    intro n19
    induction n19 with
    | zero =>
      intro x4 t_above t_below H locs hP hD hS ls hl hR
      rw [lX2_atLeast_19] at hR
      cases hR
    | succ n19 ih19 =>
      intro x4 t_above t_below H locs hP hD hS ls hl hR
      rw [lX2_atLeast_19] at hR
      refine lv_iload hx hb dX2_atLeast_19 (lv_at hl 3 rfl) ?_
      refine lv_iload_n hx hb dX2_atLeast_21 rfl (lv_at hl 1 rfl) ?_
      refine lv_icmp_gt (tgt := 67) hx hb dX2_atLeast_22 (by decide) (fun c22 => ?_) (fun c22 => ?_)
      · have hR := (if_pos c22).symm.trans hR
        refine lv_aload_n hx hb dX2_atLeast_67 rfl (lv_at hl 0 rfl) ?_
        refine va_get (D := (dC, dI)) (ci := 2) (v := .long t_above) (C := RX2) (T := TX2) (N := 2) hx hb hts hinX2 hown hK hP 0 rfl rfl 0 (by decide) (hts (.fieldLink RX2 9 "PaperInBin$Odds" "above" "J") (by decide +kernel)) (fun _ h9 => h9) rfl dX2_atLeast_68 ?_
        refine lv_aload_n hx hb dX2_atLeast_71 rfl (lv_at hl 0 rfl) ?_
        refine va_get (D := (dC, dI)) (ci := 2) (v := .long t_below) (C := RX2) (T := TX2) (N := 2) hx hb hts hinX2 hown hK hP 0 rfl rfl 1 (by decide) (hts (.fieldLink RX2 21 "PaperInBin$Odds" "below" "J") (by decide +kernel)) (fun _ h9 => h9) rfl dX2_atLeast_72 ?_
        obtain ⟨r1, hu2, hR⟩ := b1_s hR
        refine cl_SlN (As := [.long t_above, .long t_below]) (rest := []) (wc := []) (wr := [(a_t, .inr (2, [.long t_above, .long t_below]))]) ⟨hx, hb, hml, hown, hts⟩ (kX2_commonDivisor l dC dI cI H.size t_above t_below r1 hu2) (cwS 2 hts gX2_atLeast_X2_commonDivisor rfl rfl rfl (by decide +kernel) ⟨Nat.le_of_ble_eq_true rfl, Nat.le_of_ble_eq_true rfl⟩) hK hN hP hD hS hA [] [0] rfl rfl rfl rfl rfl (by decide) rfl hl.1 rfl (Nat.le_of_ble_eq_true rfl) dX2_atLeast_75 (fun H locs hP hD hS => ?_)
        have hP : va_P (dC, dI) vwCl [(a_t, .inr (2, [.long t_above, .long t_below]))] H := hP
        have hD : va_D A [(a_t, .inr (2, [.long t_above, .long t_below]))] := hD
        refine lv_lstore (lv' := [(4, .long r1), (0, .ref a_t), (1, .int x1), (3, .int x3)]) hx hb dX2_atLeast_78 hl (by decide) rfl (fun ls hl => ?_)
        refine lv_lload hx hb dX2_atLeast_80 (lv_at hl 0 rfl) ?_
        refine lv_lconst (v := 1) hx hb dX2_atLeast_82 (by decide) ?_
        refine W.lcmp hx hb dX2_atLeast_83 ?_
        refine lv_if_le (tgt := 109) hx hb dX2_atLeast_84 (by decide) (fun c84 => ?_) (fun c84 => ?_)
        · have hR := (if_pos c84).symm.trans hR
          subst hQ
          subst hAe
          exact W.vret hx hb hr (fun t ht hW => ⟨⟨(t_above, t_below), rfl, Option.some.inj hR, by rw [ht]; exact hP, hD⟩, hS.F ht⟩) hS.2.2 dX2_atLeast_109
        · have hR := (if_neg c84).symm.trans hR
          refine lv_aload_n hx hb dX2_atLeast_87 rfl (lv_at hl 1 rfl) ?_
          refine lv_dup hx hb dX2_atLeast_88 rfl ?_
          refine va_get (D := (dC, dI)) (ci := 2) (v := .long t_above) (C := RX2) (T := TX2) (N := 2) hx hb hts hinX2 hown hK hP 0 rfl rfl 0 (by decide) (hts (.fieldLink RX2 9 "PaperInBin$Odds" "above" "J") (by decide +kernel)) (fun _ h9 => h9) rfl dX2_atLeast_89 ?_
          refine lv_lload hx hb dX2_atLeast_92 (lv_at hl 0 rfl) ?_
          obtain ⟨g3, hR⟩ := g_nzl_s hR
          refine lv_ldiv hx hb dX2_atLeast_94 g3 ?_
          refine va_put (D := (dC, dI)) (ci := 2) (v := .long (t_above / r1)) (ty := .long) (C := RX2) (T := TX2) (N := 2) hx hb hts hinX2 tyX2 tyX2_ok nmX2 hown hK hP hD hS 0 rfl rfl 0 (by decide) (hts (.fieldLink RX2 9 "PaperInBin$Odds" "above" "J") (by decide +kernel)) (fun _ h9 => h9) rfl (tyX2_ok 0 (by decide)) rfl rfl (Nat.le_of_ble_eq_true rfl) dX2_atLeast_95 (fun H locs hP hD hS => ?_)
          have hP : va_P (dC, dI) vwCl [(a_t, .inr (2, [.long (t_above / r1), .long t_below]))] H := hP
          have hD : va_D A [(a_t, .inr (2, [.long (t_above / r1), .long t_below]))] := hD
          refine lv_aload_n hx hb dX2_atLeast_98 rfl (lv_at hl 1 rfl) ?_
          refine lv_dup hx hb dX2_atLeast_99 rfl ?_
          refine va_get (D := (dC, dI)) (ci := 2) (v := .long t_below) (C := RX2) (T := TX2) (N := 2) hx hb hts hinX2 hown hK hP 0 rfl rfl 1 (by decide) (hts (.fieldLink RX2 21 "PaperInBin$Odds" "below" "J") (by decide +kernel)) (fun _ h9 => h9) rfl dX2_atLeast_100 ?_
          refine lv_lload hx hb dX2_atLeast_103 (lv_at hl 0 rfl) ?_
          obtain ⟨g4, hR⟩ := g_nzl_s hR
          refine lv_ldiv hx hb dX2_atLeast_105 g4 ?_
          refine va_put (D := (dC, dI)) (ci := 2) (v := .long (t_below / r1)) (ty := .long) (C := RX2) (T := TX2) (N := 2) hx hb hts hinX2 tyX2 tyX2_ok nmX2 hown hK hP hD hS 0 rfl rfl 1 (by decide) (hts (.fieldLink RX2 21 "PaperInBin$Odds" "below" "J") (by decide +kernel)) (fun _ h9 => h9) rfl (tyX2_ok 1 (by decide)) rfl rfl (Nat.le_of_ble_eq_true rfl) dX2_atLeast_106 (fun H locs hP hD hS => ?_)
          have hP : va_P (dC, dI) vwCl [(a_t, .inr (2, [.long (t_above / r1), .long (t_below / r1)]))] H := hP
          have hD : va_D A [(a_t, .inr (2, [.long (t_above / r1), .long (t_below / r1)]))] := hD
          subst hQ
          subst hAe
          exact W.vret hx hb hr (fun t ht hW => ⟨⟨((t_above / r1), (t_below / r1)), rfl, Option.some.inj hR, by rw [ht]; exact hP, hD⟩, hS.F ht⟩) hS.2.2 dX2_atLeast_109
      · have hR := (if_neg c22).symm.trans hR
        refine lv_aload_n hx hb dX2_atLeast_25 rfl (lv_at hl 0 rfl) ?_
        refine lv_dup hx hb dX2_atLeast_26 rfl ?_
        refine va_get (D := (dC, dI)) (ci := 2) (v := .long t_above) (C := RX2) (T := TX2) (N := 2) hx hb hts hinX2 hown hK hP 0 rfl rfl 0 (by decide) (hts (.fieldLink RX2 9 "PaperInBin$Odds" "above" "J") (by decide +kernel)) (fun _ h9 => h9) rfl dX2_atLeast_27 ?_
        refine lv_iload_n hx hb dX2_atLeast_30 rfl (lv_at hl 1 rfl) ?_
        refine lv_iload hx hb dX2_atLeast_31 (lv_at hl 3 rfl) ?_
        obtain ⟨r5, hu6, hR⟩ := b1_s hR
        refine cl_SlN (As := [.int x1, .int x4]) (rest := [.long t_above, .ref a_t]) (wc := []) (wr := [(a_t, .inr (2, [.long t_above, .long t_below]))]) ⟨hx, hb, hml, hown, hts⟩ (kX2_choices l dC dI cI H.size x1 x4 r5 hu6) (cwS 2 hts gX2_atLeast_X2_choices rfl rfl rfl (by decide +kernel) ⟨Nat.le_of_ble_eq_true rfl, Nat.le_of_ble_eq_true rfl⟩) hK hN hP hD hS hA [] [0] rfl rfl rfl rfl rfl (by decide) rfl hl.1 rfl (Nat.le_of_ble_eq_true rfl) dX2_atLeast_33 (fun H locs hP hD hS => ?_)
        have hP : va_P (dC, dI) vwCl [(a_t, .inr (2, [.long t_above, .long t_below]))] H := hP
        have hD : va_D A [(a_t, .inr (2, [.long t_above, .long t_below]))] := hD
        refine lv_iload_n hx hb dX2_atLeast_36 rfl (lv_at hl 2 rfl) ?_
        refine lv_i2l hx hb dX2_atLeast_37 rfl ?_
        refine lv_iload hx hb dX2_atLeast_38 (lv_at hl 3 rfl) ?_
        obtain ⟨r7, hu8, hR⟩ := b1_s hR
        refine cl_SlN (As := [.long ((x3).toInt64), .int x4]) (rest := [.long r5, .long t_above, .ref a_t]) (wc := []) (wr := [(a_t, .inr (2, [.long t_above, .long t_below]))]) ⟨hx, hb, hml, hown, hts⟩ (kX2_power l dC dI cI H.size ((x3).toInt64) x4 r7 hu8) (cwS 2 hts gX2_atLeast_X2_power rfl rfl rfl (by decide +kernel) ⟨Nat.le_of_ble_eq_true rfl, Nat.le_of_ble_eq_true rfl⟩) hK hN hP hD hS hA [] [0] rfl rfl rfl rfl rfl (by decide) rfl hl.1 rfl (Nat.le_of_ble_eq_true rfl) dX2_atLeast_40 (fun H locs hP hD hS => ?_)
        have hP : va_P (dC, dI) vwCl [(a_t, .inr (2, [.long t_above, .long t_below]))] H := hP
        have hD : va_D A [(a_t, .inr (2, [.long t_above, .long t_below]))] := hD
        refine lv_lmul hx hb dX2_atLeast_43 ?_
        refine lv_bipush (v := 9) hx hb dX2_atLeast_44 (by decide) ?_
        refine lv_iload_n hx hb dX2_atLeast_46 rfl (lv_at hl 2 rfl) ?_
        refine lv_isub hx hb dX2_atLeast_47 ?_
        refine lv_i2l hx hb dX2_atLeast_48 rfl ?_
        refine lv_iload_n hx hb dX2_atLeast_49 rfl (lv_at hl 1 rfl) ?_
        refine lv_iload hx hb dX2_atLeast_50 (lv_at hl 3 rfl) ?_
        refine lv_isub hx hb dX2_atLeast_52 ?_
        obtain ⟨r9, hu10, hR⟩ := b1_s hR
        refine cl_SlN (As := [.long ((9 - x3).toInt64), .int (x1 - x4)]) (rest := [.long (r5 * r7), .long t_above, .ref a_t]) (wc := []) (wr := [(a_t, .inr (2, [.long t_above, .long t_below]))]) ⟨hx, hb, hml, hown, hts⟩ (kX2_power l dC dI cI H.size ((9 - x3).toInt64) (x1 - x4) r9 hu10) (cwS 2 hts gX2_atLeast_X2_power rfl rfl rfl (by decide +kernel) ⟨Nat.le_of_ble_eq_true rfl, Nat.le_of_ble_eq_true rfl⟩) hK hN hP hD hS hA [] [0] rfl rfl rfl rfl rfl (by decide) rfl hl.1 rfl (Nat.le_of_ble_eq_true rfl) dX2_atLeast_53 (fun H locs hP hD hS => ?_)
        have hP : va_P (dC, dI) vwCl [(a_t, .inr (2, [.long t_above, .long t_below]))] H := hP
        have hD : va_D A [(a_t, .inr (2, [.long t_above, .long t_below]))] := hD
        refine lv_lmul hx hb dX2_atLeast_56 ?_
        refine lv_ladd hx hb dX2_atLeast_57 ?_
        refine va_put (D := (dC, dI)) (ci := 2) (v := .long (t_above + ((r5 * r7) * r9))) (ty := .long) (C := RX2) (T := TX2) (N := 2) hx hb hts hinX2 tyX2 tyX2_ok nmX2 hown hK hP hD hS 0 rfl rfl 0 (by decide) (hts (.fieldLink RX2 9 "PaperInBin$Odds" "above" "J") (by decide +kernel)) (fun _ h9 => h9) rfl (tyX2_ok 0 (by decide)) rfl rfl (Nat.le_of_ble_eq_true rfl) dX2_atLeast_58 (fun H locs hP hD hS => ?_)
        have hP : va_P (dC, dI) vwCl [(a_t, .inr (2, [.long (t_above + ((r5 * r7) * r9)), .long t_below]))] H := hP
        have hD : va_D A [(a_t, .inr (2, [.long (t_above + ((r5 * r7) * r9)), .long t_below]))] := hD
        refine lv_iinc (v := (x4 + 1)) (lv' := [(4, .int (x4 + 1)), (0, .ref a_t), (1, .int x1), (3, .int x3)]) hx hb dX2_atLeast_61 hl (k := 3) rfl rfl (by decide) rfl (fun ls hl => ?_)
        refine lv_goto (tgt := 19) hx hb dX2_atLeast_64 (by decide) ?_
        exact ih19 (x4 + 1) (t_above + ((r5 * r7) * r9)) t_below _ _ hP hD hS _ (lv_sub hl [1, 2, 3, 0] rfl) hR
  rw [fX2_atLeast] at hR
  refine lv_aload_n hx hb dX2_atLeast_0 rfl (lv_at hl 0 rfl) ?_
  refine lv_lconst (v := 0) hx hb dX2_atLeast_1 (by decide) ?_
  refine va_put (D := (dC, dI)) (ci := 2) (v := .long 0) (ty := .long) (C := RX2) (T := TX2) (N := 2) hx hb hts hinX2 tyX2 tyX2_ok nmX2 hown hK hP hD hS 0 rfl rfl 0 (by decide) (hts (.fieldLink RX2 9 "PaperInBin$Odds" "above" "J") (by decide +kernel)) (fun _ h9 => h9) rfl (tyX2_ok 0 (by decide)) rfl rfl (Nat.le_of_ble_eq_true rfl) dX2_atLeast_2 (fun H locs hP hD hS => ?_)
  have hP : va_P (dC, dI) vwCl [(a_t, .inr (2, [.long 0, .long t_below]))] H := hP
  have hD : va_D A [(a_t, .inr (2, [.long 0, .long t_below]))] := hD
  refine lv_aload_n hx hb dX2_atLeast_5 rfl (lv_at hl 0 rfl) ?_
  refine lv_ldc2 (v := 9) hx hb hown (hts (.constantLong RX2 15 (9)) (by decide +kernel)) dX2_atLeast_6 ?_
  refine lv_iload_n hx hb dX2_atLeast_9 rfl (lv_at hl 1 rfl) ?_
  obtain ⟨r11, hu12, hR⟩ := b1_s hR
  refine cl_SlN (As := [.long 9, .int x1]) (rest := [.ref a_t]) (wc := []) (wr := [(a_t, .inr (2, [.long 0, .long t_below]))]) ⟨hx, hb, hml, hown, hts⟩ (kX2_power l dC dI cI H.size 9 x1 r11 hu12) (cwS 2 hts gX2_atLeast_X2_power rfl rfl rfl (by decide +kernel) ⟨Nat.le_of_ble_eq_true rfl, Nat.le_of_ble_eq_true rfl⟩) hK hN hP hD hS hA [] [0] rfl rfl rfl rfl rfl (by decide) rfl hl.1 rfl (Nat.le_of_ble_eq_true rfl) dX2_atLeast_10 (fun H locs hP hD hS => ?_)
  have hP : va_P (dC, dI) vwCl [(a_t, .inr (2, [.long 0, .long t_below]))] H := hP
  have hD : va_D A [(a_t, .inr (2, [.long 0, .long t_below]))] := hD
  refine va_put (D := (dC, dI)) (ci := 2) (v := .long r11) (ty := .long) (C := RX2) (T := TX2) (N := 2) hx hb hts hinX2 tyX2 tyX2_ok nmX2 hown hK hP hD hS 0 rfl rfl 1 (by decide) (hts (.fieldLink RX2 21 "PaperInBin$Odds" "below" "J") (by decide +kernel)) (fun _ h9 => h9) rfl (tyX2_ok 1 (by decide)) rfl rfl (Nat.le_of_ble_eq_true rfl) dX2_atLeast_13 (fun H locs hP hD hS => ?_)
  have hP : va_P (dC, dI) vwCl [(a_t, .inr (2, [.long 0, .long r11]))] H := hP
  have hD : va_D A [(a_t, .inr (2, [.long 0, .long r11]))] := hD
  refine lv_iload_n hx hb dX2_atLeast_16 rfl (lv_at hl 2 rfl) ?_
  refine lv_istore (lv' := [(4, .int x2), (0, .ref a_t), (1, .int x1), (2, .int x2), (3, .int x3)]) hx hb dX2_atLeast_17 hl (by decide) rfl (fun ls hl => ?_)
  exact K19 (100) x2 0 r11 _ _ hP hD hS _ (lv_sub hl [1, 2, 4, 0] rfl) hR
