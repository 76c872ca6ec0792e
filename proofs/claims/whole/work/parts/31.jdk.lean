def fJ0_isLatin1_aae02  : Option (Int32) :=
  if (1 : Int32) = 0 then (
   some (0))
  else (
  if (0 : Int32) = 0 then (
   some (1))
  else (
  some (0)))
set_option maxHeartbeats 4000000 in
set_option maxRecDepth 100000 in
theorem kJ0_isLatin1_aae02 (l : Launch) (dC : Nat → ClassId) (dI : Nat → Nat → Nat) (cI : ClassId) (a_strK a_strV : Nat) (sz : Nat)  (R : Int32) (hR : fJ0_isLatin1_aae02 = some R) : Met l yJ0_isLatin1_aae02 wsJ0_isLatin1_aae02 ({ frames := 0, cells := 0, slots := 0, locals := 0 } : Room) (va_Pc [.ref a_strK] (Wps (dC, dI) [(cI, .int)] [] sz a_strK a_strV)) (va_Qi (fun (r : Int32) (_ : Unit) => r = R) (Wq (dC, dI) [] sz (fun (_ : Unit) => ([] : va_W))) (va_A [] sz)) 0 0 (va_A [] sz) := by
  refine Met.ofW (cc := cJ0_isLatin1_aae02) (maxL := 1) (ret := (some .boolean)) (by decide) rfl ?_
  intro p e s m args below meth c s₁ B hml hv
  obtain ⟨hargs, ⟨hsz, hP, hK, hD0, hN⟩, hSc, hRs⟩ := hv
  have hx := B.exec
  have hb := B.bytes
  have hr := B.returns
  have hts := atoms_spec (ws := wsJ0_isLatin1_aae02) B.pre
  have hown : s.vm.findClass RJ0 = some m.cls := findClass_of_methodNamed B.named
  have hlocks := B.notSynchronized
  subst hsz
  have hD := hD0.self (sz := s.heap.size)
  obtain ⟨A, hAe⟩ : ∃ A, A = va_A [] s.heap.size := ⟨_, rfl⟩
  rw [← hAe] at hD
  rw [← hAe] at hSc
  have hA : ∀ q : Nat, s.heap.size ≤ q → A q := fun q h => by rw [hAe]; exact Or.inr h
  have hS : va_S A s.heap s.heap [] := va_S.rf
  have hl := lv_entry ([.ref a_strK]) (n := 1) (Nat.le_of_ble_eq_true rfl)
  rw [e_of hargs, lg_entry_eq]
  generalize (lg_sl ([.ref a_strK]) ++ List.replicate (1 - (lg_sl ([.ref a_strK])).length) Slot.unset).toArray = ls at hl ⊢
  have hl : lv_has ls 1 [(0, .ref a_strK)] := hl
  refine w_q ({ frames := 0, cells := 0, slots := 0, locals := 0 } : Room) (fun Q0 hQ => ?_)
  rw [fJ0_isLatin1_aae02] at hR
  refine va_gets hx hb hSc.2.2.2.2 hS hown (hts (.fieldLink RJ0 38 "java/lang/String" "COMPACT_STRINGS" "Z") (by decide +kernel)) (fun _ h9 => h9) dJ0_isLatin1_aae02_0 ?_
  refine lv_if_eq (tgt := 17) hx hb dJ0_isLatin1_aae02_3 (by decide) (fun c3 => ?_) (fun c3 => ?_)
  · have hR := (if_pos c3).symm.trans hR
    refine lv_iconst (v := 0) hx hb dJ0_isLatin1_aae02_17 (by decide) ?_
    subst hQ
    subst hAe
    exact W.zret (ty := .boolean) (v := 0) hx hb hr rfl (fun t ht hW => ⟨⟨0, (), rfl, Option.some.inj hR, by rw [ht]; exact hP, hD⟩, hS.F ht⟩) hS.2.2 dJ0_isLatin1_aae02_18
  · have hR := (if_neg c3).symm.trans hR
    refine lv_aload_n hx hb dJ0_isLatin1_aae02_6 rfl (lv_at hl 0 rfl) ?_
    refine vk_getf hx hb hSc.2.1 hS hown (hts (.fieldLink RJ0 15 "java/lang/String" "coder" "B") (by decide +kernel)) (fun _ h9 => h9) dJ0_isLatin1_aae02_7 ?_
    refine lv_if_ne (tgt := 17) hx hb dJ0_isLatin1_aae02_10 (by decide) (fun c10 => ?_) (fun c10 => ?_)
    · have hR := (if_neg c10).symm.trans hR
      refine lv_iconst (v := 0) hx hb dJ0_isLatin1_aae02_17 (by decide) ?_
      subst hQ
      subst hAe
      exact W.zret (ty := .boolean) (v := 0) hx hb hr rfl (fun t ht hW => ⟨⟨0, (), rfl, Option.some.inj hR, by rw [ht]; exact hP, hD⟩, hS.F ht⟩) hS.2.2 dJ0_isLatin1_aae02_18
    · have hR := (if_pos c10).symm.trans hR
      refine lv_iconst (v := 1) hx hb dJ0_isLatin1_aae02_13 (by decide) ?_
      refine lv_goto (tgt := 18) hx hb dJ0_isLatin1_aae02_14 (by decide) ?_
      subst hQ
      subst hAe
      exact W.zret (ty := .boolean) (v := 1) hx hb hr rfl (fun t ht hW => ⟨⟨1, (), rfl, Option.some.inj hR, by rw [ht]; exact hP, hD⟩, hS.F ht⟩) hS.2.2 dJ0_isLatin1_aae02_18
def fJ0_coder_7d493  : Option (Int32) :=
  if (1 : Int32) = 0 then (
   some (1))
  else (
  some (0))
set_option maxHeartbeats 4000000 in
set_option maxRecDepth 100000 in
theorem kJ0_coder_7d493 (l : Launch) (dC : Nat → ClassId) (dI : Nat → Nat → Nat) (cI : ClassId) (a_strK a_strV : Nat) (sz : Nat)  (R : Int32) (hR : fJ0_coder_7d493 = some R) : Met l yJ0_coder_7d493 wsJ0_coder_7d493 ({ frames := 0, cells := 0, slots := 0, locals := 0 } : Room) (va_Pc [.ref a_strK] (Wps (dC, dI) [(cI, .int)] [] sz a_strK a_strV)) (va_Qi (fun (r : Int32) (_ : Unit) => r = R) (Wq (dC, dI) [] sz (fun (_ : Unit) => ([] : va_W))) (va_A [] sz)) 0 0 (va_A [] sz) := by
  refine Met.ofW (cc := cJ0_coder_7d493) (maxL := 1) (ret := (some .byte)) (by decide) rfl ?_
  intro p e s m args below meth c s₁ B hml hv
  obtain ⟨hargs, ⟨hsz, hP, hK, hD0, hN⟩, hSc, hRs⟩ := hv
  have hx := B.exec
  have hb := B.bytes
  have hr := B.returns
  have hts := atoms_spec (ws := wsJ0_coder_7d493) B.pre
  have hown : s.vm.findClass RJ0 = some m.cls := findClass_of_methodNamed B.named
  have hlocks := B.notSynchronized
  subst hsz
  have hD := hD0.self (sz := s.heap.size)
  obtain ⟨A, hAe⟩ : ∃ A, A = va_A [] s.heap.size := ⟨_, rfl⟩
  rw [← hAe] at hD
  rw [← hAe] at hSc
  have hA : ∀ q : Nat, s.heap.size ≤ q → A q := fun q h => by rw [hAe]; exact Or.inr h
  have hS : va_S A s.heap s.heap [] := va_S.rf
  have hl := lv_entry ([.ref a_strK]) (n := 1) (Nat.le_of_ble_eq_true rfl)
  rw [e_of hargs, lg_entry_eq]
  generalize (lg_sl ([.ref a_strK]) ++ List.replicate (1 - (lg_sl ([.ref a_strK])).length) Slot.unset).toArray = ls at hl ⊢
  have hl : lv_has ls 1 [(0, .ref a_strK)] := hl
  refine w_q ({ frames := 0, cells := 0, slots := 0, locals := 0 } : Room) (fun Q0 hQ => ?_)
  rw [fJ0_coder_7d493] at hR
  refine va_gets hx hb hSc.2.2.2.2 hS hown (hts (.fieldLink RJ0 38 "java/lang/String" "COMPACT_STRINGS" "Z") (by decide +kernel)) (fun _ h9 => h9) dJ0_coder_7d493_0 ?_
  refine lv_if_eq (tgt := 13) hx hb dJ0_coder_7d493_3 (by decide) (fun c3 => ?_) (fun c3 => ?_)
  · have hR := (if_pos c3).symm.trans hR
    refine lv_iconst (v := 1) hx hb dJ0_coder_7d493_13 (by decide) ?_
    subst hQ
    subst hAe
    exact W.zret (ty := .byte) (v := 1) hx hb hr rfl (fun t ht hW => ⟨⟨1, (), rfl, Option.some.inj hR, by rw [ht]; exact hP, hD⟩, hS.F ht⟩) hS.2.2 dJ0_coder_7d493_14
  · have hR := (if_neg c3).symm.trans hR
    refine lv_aload_n hx hb dJ0_coder_7d493_6 rfl (lv_at hl 0 rfl) ?_
    refine vk_getf hx hb hSc.2.1 hS hown (hts (.fieldLink RJ0 15 "java/lang/String" "coder" "B") (by decide +kernel)) (fun _ h9 => h9) dJ0_coder_7d493_7 ?_
    refine lv_goto (tgt := 14) hx hb dJ0_coder_7d493_10 (by decide) ?_
    subst hQ
    subst hAe
    exact W.zret (ty := .byte) (v := 0) hx hb hr rfl (fun t ht hW => ⟨⟨0, (), rfl, Option.some.inj hR, by rw [ht]; exact hP, hD⟩, hS.F ht⟩) hS.2.2 dJ0_coder_7d493_14
def fJ0_length_8abf5  : Option (Int32) :=
  b1 (fJ0_coder_7d493) (fun r1 =>
  some (((6 : Int32) >>> (r1 &&& 31))))
set_option maxHeartbeats 4000000 in
set_option maxRecDepth 100000 in
theorem kJ0_length_8abf5 (l : Launch) (dC : Nat → ClassId) (dI : Nat → Nat → Nat) (cI : ClassId) (a_strK a_strV : Nat) (sz : Nat)  (R : Int32) (hR : fJ0_length_8abf5 = some R) : Met l yJ0_length_8abf5 wsJ0_length_8abf5 ({ frames := 1, cells := 0, slots := 0, locals := 20 } : Room) (va_Pc [.ref a_strK] (Wps (dC, dI) [(cI, .int)] [] sz a_strK a_strV)) (va_Qi (fun (r : Int32) (_ : Unit) => r = R) (Wq (dC, dI) [] sz (fun (_ : Unit) => ([] : va_W))) (va_A [] sz)) 0 0 (va_A [] sz) := by
  refine Met.ofW (cc := cJ0_length_8abf5) (maxL := 1) (ret := (some .int)) (by decide) rfl ?_
  intro p e s m args below meth c s₁ B hml hv
  obtain ⟨hargs, ⟨hsz, hP, hK, hD0, hN⟩, hSc, hRs⟩ := hv
  have hx := B.exec
  have hb := B.bytes
  have hr := B.returns
  have hts := atoms_spec (ws := wsJ0_length_8abf5) B.pre
  have hown : s.vm.findClass RJ0 = some m.cls := findClass_of_methodNamed B.named
  have hlocks := B.notSynchronized
  subst hsz
  have hD := hD0.self (sz := s.heap.size)
  obtain ⟨A, hAe⟩ : ∃ A, A = va_A [] s.heap.size := ⟨_, rfl⟩
  rw [← hAe] at hD
  rw [← hAe] at hSc
  have hA : ∀ q : Nat, s.heap.size ≤ q → A q := fun q h => by rw [hAe]; exact Or.inr h
  have hS : va_S A s.heap s.heap [] := va_S.rf
  have hl := lv_entry ([.ref a_strK]) (n := 1) (Nat.le_of_ble_eq_true rfl)
  rw [e_of hargs, lg_entry_eq]
  generalize (lg_sl ([.ref a_strK]) ++ List.replicate (1 - (lg_sl ([.ref a_strK])).length) Slot.unset).toArray = ls at hl ⊢
  have hl : lv_has ls 1 [(0, .ref a_strK)] := hl
  refine w_q ({ frames := 1, cells := 0, slots := 0, locals := 20 } : Room) (fun Q0 hQ => ?_)
  rw [fJ0_length_8abf5] at hR
  refine lv_aload_n hx hb dJ0_length_8abf5_0 rfl (lv_at hl 0 rfl) ?_
  refine vk_getf hx hb hSc.2.2.1 hS hown (hts (.fieldLink RJ0 9 "java/lang/String" "value" "[B") (by decide +kernel)) (fun _ h9 => h9) dJ0_length_8abf5_1 ?_
  refine va_tlen (v := 6) hx hb hSc.2.2.2.1 hS (by decide) dJ0_length_8abf5_4 ?_
  refine lv_aload_n hx hb dJ0_length_8abf5_5 rfl (lv_at hl 0 rfl) ?_
  obtain ⟨r1, hu2, hR⟩ := b1_s hR
  refine cls_ViN (As := []) (rest := [.int 6]) (wc := []) (wr := []) ⟨hx, hb, hml, hown, hts⟩ (kJ0_coder_7d493 l dC dI cI a_strK a_strV s.heap.size r1 hu2) (cwV 0 hts gJ0_length_8abf5_J0_coder_7d493 rfl rfl rfl (by decide +kernel) ⟨Nat.le_of_ble_eq_true rfl, Nat.le_of_ble_eq_true rfl⟩) hK hN hSc hRs hP hD hS hA (sc_recv hSc hS) [] [] rfl rfl rfl rfl rfl (by decide) rfl hl.1 rfl (Nat.le_of_ble_eq_true rfl) dJ0_length_8abf5_6 (fun H locs hP hD hS => ?_)
  have hP : va_P (dC, dI) vwCl [] H := hP
  have hD : va_D A [] := hD
  refine lv_ishr hx hb dJ0_length_8abf5_9 ?_
  subst hQ
  subst hAe
  exact W.iret (v := ((6 : Int32) >>> (r1 &&& 31))) hx hb hr (fun t ht hW => ⟨⟨((6 : Int32) >>> (r1 &&& 31)), (), rfl, Option.some.inj hR, by rw [ht]; exact hP, hD⟩, hS.F ht⟩) hS.2.2 dJ0_length_8abf5_10
def fJ1_canEncode_9a6ad (x0 : Int32) : Option (Int32) :=
  if x0 < 0 then (
   some (0))
  else (
  if 255 < x0 then (
   some (0))
  else (
  some (1)))
set_option maxHeartbeats 4000000 in
set_option maxRecDepth 100000 in
theorem kJ1_canEncode_9a6ad (l : Launch) (dC : Nat → ClassId) (dI : Nat → Nat → Nat) (cI : ClassId) (sz : Nat) (x0 : Int32) (R : Int32) (hR : fJ1_canEncode_9a6ad x0 = some R) : Met l yJ1_canEncode_9a6ad wsJ1_canEncode_9a6ad ({ frames := 0, cells := 0, slots := 0, locals := 0 } : Room) (va_Pc [.int x0] (Wp (dC, dI) [(cI, .int)] [] sz)) (va_Qi (fun (r : Int32) (_ : Unit) => r = R) (Wq (dC, dI) [] sz (fun (_ : Unit) => ([] : va_W))) (va_A [] sz)) 0 0 (va_A [] sz) := by
  refine Met.ofW (cc := cJ1_canEncode_9a6ad) (maxL := 1) (ret := (some .boolean)) (by decide) rfl ?_
  intro p e s m args below meth c s₁ B hml hv
  obtain ⟨hargs, hsz, hP, hK, hD0, hN⟩ := hv
  have hx := B.exec
  have hb := B.bytes
  have hr := B.returns
  have hts := atoms_spec (ws := wsJ1_canEncode_9a6ad) B.pre
  have hown : s.vm.findClass RJ1 = some m.cls := findClass_of_methodNamed B.named
  have hlocks := B.notSynchronized
  subst hsz
  have hD := hD0.self (sz := s.heap.size)
  obtain ⟨A, hAe⟩ : ∃ A, A = va_A [] s.heap.size := ⟨_, rfl⟩
  rw [← hAe] at hD
  have hA : ∀ q : Nat, s.heap.size ≤ q → A q := fun q h => by rw [hAe]; exact Or.inr h
  have hS : va_S A s.heap s.heap [] := va_S.rf
  have hl := lv_entry ([.int x0]) (n := 1) (Nat.le_of_ble_eq_true rfl)
  rw [e_of hargs, lg_entry_eq]
  generalize (lg_sl ([.int x0]) ++ List.replicate (1 - (lg_sl ([.int x0])).length) Slot.unset).toArray = ls at hl ⊢
  have hl : lv_has ls 1 [(0, .int x0)] := hl
  refine w_q ({ frames := 0, cells := 0, slots := 0, locals := 0 } : Room) (fun Q0 hQ => ?_)
  rw [fJ1_canEncode_9a6ad] at hR
  refine lv_iload_n hx hb dJ1_canEncode_9a6ad_0 rfl (lv_at hl 0 rfl) ?_
  refine lv_if_lt (tgt := 15) hx hb dJ1_canEncode_9a6ad_1 (by decide) (fun c1 => ?_) (fun c1 => ?_)
  · have hR := (if_pos c1).symm.trans hR
    refine lv_iconst (v := 0) hx hb dJ1_canEncode_9a6ad_15 (by decide) ?_
    subst hQ
    subst hAe
    exact W.zret (ty := .boolean) (v := 0) hx hb hr rfl (fun t ht hW => ⟨⟨0, (), rfl, Option.some.inj hR, by rw [ht]; exact hP, hD⟩, hS.F ht⟩) hS.2.2 dJ1_canEncode_9a6ad_16
  · have hR := (if_neg c1).symm.trans hR
    refine lv_iload_n hx hb dJ1_canEncode_9a6ad_4 rfl (lv_at hl 0 rfl) ?_
    refine lv_sipush (v := 255) hx hb dJ1_canEncode_9a6ad_5 (by decide) ?_
    refine lv_icmp_gt (tgt := 15) hx hb dJ1_canEncode_9a6ad_8 (by decide) (fun c8 => ?_) (fun c8 => ?_)
    · have hR := (if_pos c8).symm.trans hR
      refine lv_iconst (v := 0) hx hb dJ1_canEncode_9a6ad_15 (by decide) ?_
      subst hQ
      subst hAe
      exact W.zret (ty := .boolean) (v := 0) hx hb hr rfl (fun t ht hW => ⟨⟨0, (), rfl, Option.some.inj hR, by rw [ht]; exact hP, hD⟩, hS.F ht⟩) hS.2.2 dJ1_canEncode_9a6ad_16
    · have hR := (if_neg c8).symm.trans hR
      refine lv_iconst (v := 1) hx hb dJ1_canEncode_9a6ad_11 (by decide) ?_
      refine lv_goto (tgt := 16) hx hb dJ1_canEncode_9a6ad_12 (by decide) ?_
      subst hQ
      subst hAe
      exact W.zret (ty := .boolean) (v := 1) hx hb hr rfl (fun t ht hW => ⟨⟨1, (), rfl, Option.some.inj hR, by rw [ht]; exact hP, hD⟩, hS.F ht⟩) hS.2.2 dJ1_canEncode_9a6ad_16
def lJ1_indexOfChar_4cfef_7 (x3 : Int32) : Nat → Int32 → Int32 → Option (Int32)
  | 0, _, _ => none
  | n + 1, x4, x5 =>
    if x3 ≤ x5 then (
     some ((-1)))
    else (
    g_in x5 6 (
    if (strB.getD (x5).toNatClampNeg 0) = x4 then (
     some (x5))
    else (
    lJ1_indexOfChar_4cfef_7 x3 n x4 (x5 + 1))))
def fJ1_indexOfChar_4cfef (x1 : Int32) (x2 : Int32) (x3 : Int32) : Option (Int32) :=
  lJ1_indexOfChar_4cfef_7 x3 (100) ((x1).toInt8.toInt32) x2
set_option maxHeartbeats 4000000 in
set_option maxRecDepth 100000 in
theorem kJ1_indexOfChar_4cfef (l : Launch) (dC : Nat → ClassId) (dI : Nat → Nat → Nat) (cI : ClassId) (a_strK a_strV : Nat) (sz : Nat) (x1 : Int32) (x2 : Int32) (x3 : Int32) (R : Int32) (hR : fJ1_indexOfChar_4cfef x1 x2 x3 = some R) : Met l yJ1_indexOfChar_4cfef wsJ1_indexOfChar_4cfef ({ frames := 0, cells := 0, slots := 0, locals := 0 } : Room) (va_Pc [.ref a_strV, .int x1, .int x2, .int x3] (Wps (dC, dI) [(cI, .int)] [] sz a_strK a_strV)) (va_Qi (fun (r : Int32) (_ : Unit) => r = R) (Wq (dC, dI) [] sz (fun (_ : Unit) => ([] : va_W))) (va_A [] sz)) 0 0 (va_A [] sz) := by
  refine Met.ofW (cc := cJ1_indexOfChar_4cfef) (maxL := 6) (ret := (some .int)) (by decide) rfl ?_
  intro p e s m args below meth c s₁ B hml hv
  obtain ⟨hargs, ⟨hsz, hP, hK, hD0, hN⟩, hSc, hRs⟩ := hv
  have hx := B.exec
  have hb := B.bytes
  have hr := B.returns
  have hts := atoms_spec (ws := wsJ1_indexOfChar_4cfef) B.pre
  have hown : s.vm.findClass RJ1 = some m.cls := findClass_of_methodNamed B.named
  have hlocks := B.notSynchronized
  subst hsz
  have hD := hD0.self (sz := s.heap.size)
  obtain ⟨A, hAe⟩ : ∃ A, A = va_A [] s.heap.size := ⟨_, rfl⟩
  rw [← hAe] at hD
  rw [← hAe] at hSc
  have hA : ∀ q : Nat, s.heap.size ≤ q → A q := fun q h => by rw [hAe]; exact Or.inr h
  have hS : va_S A s.heap s.heap [] := va_S.rf
  have hl := lv_entry ([.ref a_strV, .int x1, .int x2, .int x3]) (n := 6) (Nat.le_of_ble_eq_true rfl)
  rw [e_of hargs, lg_entry_eq]
  generalize (lg_sl ([.ref a_strV, .int x1, .int x2, .int x3]) ++ List.replicate (6 - (lg_sl ([.ref a_strV, .int x1, .int x2, .int x3])).length) Slot.unset).toArray = ls at hl ⊢
  have hl : lv_has ls 6 [(0, .ref a_strV), (1, .int x1), (2, .int x2), (3, .int x3)] := hl
  refine w_q ({ frames := 0, cells := 0, slots := 0, locals := 0 } : Room) (fun Q0 hQ => ?_)
  have K7 : ∀ (n7 : Nat) (x4 : Int32) (x5 : Int32) (H : Heap) (locs : List Loc), va_P (dC, dI) vwCl [] H → va_D A [] → va_S A s.heap H locs → ∀ (ls : Array Slot), lv_has ls 6 [(0, .ref a_strV), (3, .int x3), (4, .int x4), (5, .int x5)] → lJ1_indexOfChar_4cfef_7 x3 n7 x4 x5 = some R → W p l e ({ frames := 0, cells := 0, slots := 0, locals := 0 } : Room) s m args below meth c H locs 0 0 Q0 (F0 m 7 ls []) := by
    intro n7
    induction n7 with
    | zero =>
      intro x4 x5 H locs hP hD hS ls hl hR
      rw [lJ1_indexOfChar_4cfef_7] at hR
      cases hR
    | succ n7 ih7 =>
      intro x4 x5 H locs hP hD hS ls hl hR
      rw [lJ1_indexOfChar_4cfef_7] at hR
      refine lv_iload hx hb dJ1_indexOfChar_4cfef_7 (lv_at hl 3 rfl) ?_
      refine lv_iload_n hx hb dJ1_indexOfChar_4cfef_9 rfl (lv_at hl 1 rfl) ?_
      refine lv_icmp_ge (tgt := 31) hx hb dJ1_indexOfChar_4cfef_10 (by decide) (fun c10 => ?_) (fun c10 => ?_)
      · have hR := (if_pos c10).symm.trans hR
        refine lv_iconst (v := (-1)) hx hb dJ1_indexOfChar_4cfef_31 (by decide) ?_
        subst hQ
        subst hAe
        exact W.iret (v := (-1)) hx hb hr (fun t ht hW => ⟨⟨(-1), (), rfl, Option.some.inj hR, by rw [ht]; exact hP, hD⟩, hS.F ht⟩) hS.2.2 dJ1_indexOfChar_4cfef_32
      · have hR := (if_neg c10).symm.trans hR
        refine lv_aload_n hx hb dJ1_indexOfChar_4cfef_13 rfl (lv_at hl 0 rfl) ?_
        refine lv_iload hx hb dJ1_indexOfChar_4cfef_14 (lv_at hl 3 rfl) ?_
        obtain ⟨g1, hR⟩ := g_in_s hR
        refine va_tb (v := .int (strB.getD (x5).toNatClampNeg 0)) hx hb hSc.2.2.2.1 hS g1 rfl dJ1_indexOfChar_4cfef_16 ?_
        refine lv_iload hx hb dJ1_indexOfChar_4cfef_17 (lv_at hl 2 rfl) ?_
        refine lv_icmp_ne (tgt := 25) hx hb dJ1_indexOfChar_4cfef_19 (by decide) (fun c19 => ?_) (fun c19 => ?_)
        · have hR := (if_neg c19).symm.trans hR
          refine lv_iinc (v := (x5 + 1)) (lv' := [(5, .int (x5 + 1)), (0, .ref a_strV), (3, .int x3), (4, .int x4)]) hx hb dJ1_indexOfChar_4cfef_25 hl (k := 3) rfl rfl (by decide) rfl (fun ls hl => ?_)
          refine lv_goto (tgt := 7) hx hb dJ1_indexOfChar_4cfef_28 (by decide) ?_
          exact ih7 x4 (x5 + 1) _ _ hP hD hS _ (lv_sub hl [1, 2, 3, 0] rfl) hR
        · have hR := (if_pos c19).symm.trans hR
          refine lv_iload hx hb dJ1_indexOfChar_4cfef_22 (lv_at hl 3 rfl) ?_
          subst hQ
          subst hAe
          exact W.iret (v := x5) hx hb hr (fun t ht hW => ⟨⟨x5, (), rfl, Option.some.inj hR, by rw [ht]; exact hP, hD⟩, hS.F ht⟩) hS.2.2 dJ1_indexOfChar_4cfef_24
  rw [fJ1_indexOfChar_4cfef] at hR
  refine lv_iload_n hx hb dJ1_indexOfChar_4cfef_0 rfl (lv_at hl 1 rfl) ?_
  refine lv_i2b hx hb dJ1_indexOfChar_4cfef_1 rfl ?_
  refine lv_istore (lv' := [(4, .int ((x1).toInt8.toInt32)), (0, .ref a_strV), (1, .int x1), (2, .int x2), (3, .int x3)]) hx hb dJ1_indexOfChar_4cfef_2 hl (by decide) rfl (fun ls hl => ?_)
  refine lv_iload_n hx hb dJ1_indexOfChar_4cfef_4 rfl (lv_at hl 3 rfl) ?_
  refine lv_istore (lv' := [(5, .int x2), (4, .int ((x1).toInt8.toInt32)), (0, .ref a_strV), (1, .int x1), (2, .int x2), (3, .int x3)]) hx hb dJ1_indexOfChar_4cfef_5 hl (by decide) rfl (fun ls hl => ?_)
  exact K7 (100) ((x1).toInt8.toInt32) x2 _ _ hP hD hS _ (lv_sub hl [2, 5, 1, 0] rfl) hR
def fJ1_indexOf_4cfef (x1 : Int32) (x2 : Int32) (x3 : Int32) : Option (Int32) :=
  b1 (fJ1_canEncode_9a6ad x1) (fun r1 =>
  if r1 = 0 then (
   some ((-1)))
  else (
  if (if x2 < 0 then 0 else x2) < (if 6 < x3 then 6 else x3) then (
   b1 (fJ1_indexOfChar_4cfef x1 (if x2 < 0 then 0 else x2) (if 6 < x3 then 6 else x3)) (fun r3 =>
   some (r3)))
  else (
  some ((-1)))))
set_option maxHeartbeats 4000000 in
set_option maxRecDepth 100000 in
theorem kJ1_indexOf_4cfef (l : Launch) (dC : Nat → ClassId) (dI : Nat → Nat → Nat) (cI : ClassId) (a_strK a_strV : Nat) (sz : Nat) (x1 : Int32) (x2 : Int32) (x3 : Int32) (R : Int32) (hR : fJ1_indexOf_4cfef x1 x2 x3 = some R) : Met l yJ1_indexOf_4cfef wsJ1_indexOf_4cfef ({ frames := 1, cells := 0, slots := 0, locals := 25 } : Room) (va_Pc [.ref a_strV, .int x1, .int x2, .int x3] (Wps (dC, dI) [(cI, .int)] [] sz a_strK a_strV)) (va_Qi (fun (r : Int32) (_ : Unit) => r = R) (Wq (dC, dI) [] sz (fun (_ : Unit) => ([] : va_W))) (va_A [] sz)) 0 0 (va_A [] sz) := by
  refine Met.ofW (cc := cJ1_indexOf_4cfef) (maxL := 4) (ret := (some .int)) (by decide) rfl ?_
  intro p e s m args below meth c s₁ B hml hv
  obtain ⟨hargs, ⟨hsz, hP, hK, hD0, hN⟩, hSc, hRs⟩ := hv
  have hx := B.exec
  have hb := B.bytes
  have hr := B.returns
  have hts := atoms_spec (ws := wsJ1_indexOf_4cfef) B.pre
  have hown : s.vm.findClass RJ1 = some m.cls := findClass_of_methodNamed B.named
  have hlocks := B.notSynchronized
  subst hsz
  have hD := hD0.self (sz := s.heap.size)
  obtain ⟨A, hAe⟩ : ∃ A, A = va_A [] s.heap.size := ⟨_, rfl⟩
  rw [← hAe] at hD
  rw [← hAe] at hSc
  have hA : ∀ q : Nat, s.heap.size ≤ q → A q := fun q h => by rw [hAe]; exact Or.inr h
  have hS : va_S A s.heap s.heap [] := va_S.rf
  have hl := lv_entry ([.ref a_strV, .int x1, .int x2, .int x3]) (n := 4) (Nat.le_of_ble_eq_true rfl)
  rw [e_of hargs, lg_entry_eq]
  generalize (lg_sl ([.ref a_strV, .int x1, .int x2, .int x3]) ++ List.replicate (4 - (lg_sl ([.ref a_strV, .int x1, .int x2, .int x3])).length) Slot.unset).toArray = ls at hl ⊢
  have hl : lv_has ls 4 [(0, .ref a_strV), (1, .int x1), (2, .int x2), (3, .int x3)] := hl
  refine w_q ({ frames := 1, cells := 0, slots := 0, locals := 25 } : Room) (fun Q0 hQ => ?_)
  rw [fJ1_indexOf_4cfef] at hR
  refine lv_iload_n hx hb dJ1_indexOf_4cfef_0 rfl (lv_at hl 1 rfl) ?_
  obtain ⟨r1, hu2, hR⟩ := b1_s hR
  refine cl_SiN (As := [.int x1]) (rest := []) (wc := []) (wr := []) ⟨hx, hb, hml, hown, hts⟩ (kJ1_canEncode_9a6ad l dC dI cI s.heap.size x1 r1 hu2) (cwS 1 hts gJ1_indexOf_4cfef_J1_canEncode_9a6ad rfl rfl rfl (by decide +kernel) ⟨Nat.le_of_ble_eq_true rfl, Nat.le_of_ble_eq_true rfl⟩) hK hN hP hD hS hA [] [] rfl rfl rfl rfl rfl (by decide) rfl hl.1 rfl (Nat.le_of_ble_eq_true rfl) dJ1_indexOf_4cfef_1 (fun H locs hP hD hS => ?_)
  have hP : va_P (dC, dI) vwCl [] H := hP
  have hD : va_D A [] := hD
  refine lv_if_ne (tgt := 9) hx hb dJ1_indexOf_4cfef_4 (by decide) (fun c4 => ?_) (fun c4 => ?_)
  · have hR := (if_neg c4).symm.trans hR
    refine lv_iload_n hx hb dJ1_indexOf_4cfef_9 rfl (lv_at hl 2 rfl) ?_
    refine lv_iconst (v := 0) hx hb dJ1_indexOf_4cfef_10 (by decide) ?_
    refine va_mmax hx hb (hml.trans hl.1.symm) hown (hts (.methodLink RJ1 92 Lib.Math.max.name) (by decide +kernel)) (hts (.static Lib.Math.max.name) (by decide +kernel)) (hts (.initialized "java/lang/Math") (by decide +kernel)) (hts (.code Lib.Math.max.name Lib.Math.max.code 2 (some .int)) (by decide +kernel)) (Nat.le_of_ble_eq_true rfl) (Nat.le_of_ble_eq_true rfl) (Nat.zero_le _) (Nat.zero_le _) dJ1_indexOf_4cfef_11 ?_
    refine lv_istore_n (lv' := [(2, .int (if x2 < 0 then 0 else x2)), (0, .ref a_strV), (1, .int x1), (3, .int x3)]) hx hb dJ1_indexOf_4cfef_14 rfl hl (by decide) rfl (fun ls hl => ?_)
    refine lv_iload_n hx hb dJ1_indexOf_4cfef_15 rfl (lv_at hl 3 rfl) ?_
    refine lv_aload_n hx hb dJ1_indexOf_4cfef_16 rfl (lv_at hl 1 rfl) ?_
    refine va_tlen (v := 6) hx hb hSc.2.2.2.1 hS (by decide) dJ1_indexOf_4cfef_17 ?_
    refine va_mmin hx hb (hml.trans hl.1.symm) hown (hts (.methodLink RJ1 38 Lib.Math.min.name) (by decide +kernel)) (hts (.static Lib.Math.min.name) (by decide +kernel)) (hts (.initialized "java/lang/Math") (by decide +kernel)) (hts (.code Lib.Math.min.name Lib.Math.min.code 2 (some .int)) (by decide +kernel)) (Nat.le_of_ble_eq_true rfl) (Nat.le_of_ble_eq_true rfl) (Nat.zero_le _) (Nat.zero_le _) dJ1_indexOf_4cfef_18 ?_
    refine lv_istore_n (lv' := [(3, .int (if 6 < x3 then 6 else x3)), (2, .int (if x2 < 0 then 0 else x2)), (0, .ref a_strV), (1, .int x1)]) hx hb dJ1_indexOf_4cfef_21 rfl hl (by decide) rfl (fun ls hl => ?_)
    refine lv_iload_n hx hb dJ1_indexOf_4cfef_22 rfl (lv_at hl 1 rfl) ?_
    refine lv_iload_n hx hb dJ1_indexOf_4cfef_23 rfl (lv_at hl 0 rfl) ?_
    refine lv_icmp_lt (tgt := 29) hx hb dJ1_indexOf_4cfef_24 (by decide) (fun c24 => ?_) (fun c24 => ?_)
    · have hR := (if_pos c24).symm.trans hR
      refine lv_aload_n hx hb dJ1_indexOf_4cfef_29 rfl (lv_at hl 2 rfl) ?_
      refine lv_iload_n hx hb dJ1_indexOf_4cfef_30 rfl (lv_at hl 3 rfl) ?_
      refine lv_iload_n hx hb dJ1_indexOf_4cfef_31 rfl (lv_at hl 1 rfl) ?_
      refine lv_iload_n hx hb dJ1_indexOf_4cfef_32 rfl (lv_at hl 0 rfl) ?_
      obtain ⟨r3, hu4, hR⟩ := b1_s hR
      refine cls_SiN (As := [.ref a_strV, .int x1, .int (if x2 < 0 then 0 else x2), .int (if 6 < x3 then 6 else x3)]) (rest := []) (wc := []) (wr := []) ⟨hx, hb, hml, hown, hts⟩ (kJ1_indexOfChar_4cfef l dC dI cI a_strK a_strV H.size x1 (if x2 < 0 then 0 else x2) (if 6 < x3 then 6 else x3) r3 hu4) (cwS 4 hts gJ1_indexOf_4cfef_J1_indexOfChar_4cfef rfl rfl rfl (by decide +kernel) ⟨Nat.le_of_ble_eq_true rfl, Nat.le_of_ble_eq_true rfl⟩) hK hN hSc hRs hP hD hS hA [] [] rfl rfl rfl rfl rfl (by decide) rfl hl.1 rfl (Nat.le_of_ble_eq_true rfl) dJ1_indexOf_4cfef_33 (fun H locs hP hD hS => ?_)
      have hP : va_P (dC, dI) vwCl [] H := hP
      have hD : va_D A [] := hD
      subst hQ
      subst hAe
      exact W.iret (v := r3) hx hb hr (fun t ht hW => ⟨⟨r3, (), rfl, Option.some.inj hR, by rw [ht]; exact hP, hD⟩, hS.F ht⟩) hS.2.2 dJ1_indexOf_4cfef_36
    · have hR := (if_neg c24).symm.trans hR
      refine lv_iconst (v := (-1)) hx hb dJ1_indexOf_4cfef_27 (by decide) ?_
      subst hQ
      subst hAe
      exact W.iret (v := (-1)) hx hb hr (fun t ht hW => ⟨⟨(-1), (), rfl, Option.some.inj hR, by rw [ht]; exact hP, hD⟩, hS.F ht⟩) hS.2.2 dJ1_indexOf_4cfef_28
  · have hR := (if_pos c4).symm.trans hR
    refine lv_iconst (v := (-1)) hx hb dJ1_indexOf_4cfef_7 (by decide) ?_
    subst hQ
    subst hAe
    exact W.iret (v := (-1)) hx hb hr (fun t ht hW => ⟨⟨(-1), (), rfl, Option.some.inj hR, by rw [ht]; exact hP, hD⟩, hS.F ht⟩) hS.2.2 dJ1_indexOf_4cfef_8
def fJ0_indexOf_7cf53 (x1 : Int32) (x2 : Int32) : Option (Int32) :=
  b1 (fJ0_isLatin1_aae02) (fun r1 =>
  if r1 = 0 then (
   none)
  else (
  b1 (fJ0_length_8abf5) (fun r3 =>
  b1 (fJ1_indexOf_4cfef x1 x2 r3) (fun r5 =>
  some (r5)))))
set_option maxHeartbeats 4000000 in
set_option maxRecDepth 100000 in
theorem kJ0_indexOf_7cf53 (l : Launch) (dC : Nat → ClassId) (dI : Nat → Nat → Nat) (cI : ClassId) (a_strK a_strV : Nat) (sz : Nat) (x1 : Int32) (x2 : Int32) (R : Int32) (hR : fJ0_indexOf_7cf53 x1 x2 = some R) : Met l yJ0_indexOf_7cf53 wsJ0_indexOf_7cf53 ({ frames := 2, cells := 0, slots := 0, locals := 48 } : Room) (va_Pc [.ref a_strK, .int x1, .int x2] (Wps (dC, dI) [(cI, .int)] [] sz a_strK a_strV)) (va_Qi (fun (r : Int32) (_ : Unit) => r = R) (Wq (dC, dI) [] sz (fun (_ : Unit) => ([] : va_W))) (va_A [] sz)) 0 0 (va_A [] sz) := by
  refine Met.ofW (cc := cJ0_indexOf_7cf53) (maxL := 3) (ret := (some .int)) (by decide) rfl ?_
  intro p e s m args below meth c s₁ B hml hv
  obtain ⟨hargs, ⟨hsz, hP, hK, hD0, hN⟩, hSc, hRs⟩ := hv
  have hx := B.exec
  have hb := B.bytes
  have hr := B.returns
  have hts := atoms_spec (ws := wsJ0_indexOf_7cf53) B.pre
  have hown : s.vm.findClass RJ0 = some m.cls := findClass_of_methodNamed B.named
  have hlocks := B.notSynchronized
  subst hsz
  have hD := hD0.self (sz := s.heap.size)
  obtain ⟨A, hAe⟩ : ∃ A, A = va_A [] s.heap.size := ⟨_, rfl⟩
  rw [← hAe] at hD
  rw [← hAe] at hSc
  have hA : ∀ q : Nat, s.heap.size ≤ q → A q := fun q h => by rw [hAe]; exact Or.inr h
  have hS : va_S A s.heap s.heap [] := va_S.rf
  have hl := lv_entry ([.ref a_strK, .int x1, .int x2]) (n := 3) (Nat.le_of_ble_eq_true rfl)
  rw [e_of hargs, lg_entry_eq]
  generalize (lg_sl ([.ref a_strK, .int x1, .int x2]) ++ List.replicate (3 - (lg_sl ([.ref a_strK, .int x1, .int x2])).length) Slot.unset).toArray = ls at hl ⊢
  have hl : lv_has ls 3 [(0, .ref a_strK), (1, .int x1), (2, .int x2)] := hl
  refine w_q ({ frames := 2, cells := 0, slots := 0, locals := 48 } : Room) (fun Q0 hQ => ?_)
  rw [fJ0_indexOf_7cf53] at hR
  refine lv_aload_n hx hb dJ0_indexOf_7cf53_0 rfl (lv_at hl 0 rfl) ?_
  obtain ⟨r1, hu2, hR⟩ := b1_s hR
  refine cls_ViN (As := []) (rest := []) (wc := []) (wr := []) ⟨hx, hb, hml, hown, hts⟩ (kJ0_isLatin1_aae02 l dC dI cI a_strK a_strV s.heap.size r1 hu2) (cwV 0 hts gJ0_indexOf_7cf53_J0_isLatin1_aae02 rfl rfl rfl (by decide +kernel) ⟨Nat.le_of_ble_eq_true rfl, Nat.le_of_ble_eq_true rfl⟩) hK hN hSc hRs hP hD hS hA (sc_recv hSc hS) [] [] rfl rfl rfl rfl rfl (by decide) rfl hl.1 rfl (Nat.le_of_ble_eq_true rfl) dJ0_indexOf_7cf53_1 (fun H locs hP hD hS => ?_)
  have hP : va_P (dC, dI) vwCl [] H := hP
  have hD : va_D A [] := hD
  refine lv_if_eq (tgt := 23) hx hb dJ0_indexOf_7cf53_4 (by decide) (fun c4 => ?_) (fun c4 => ?_)
  · have hR := (if_pos c4).symm.trans hR
    cases hR
  · have hR := (if_neg c4).symm.trans hR
    refine lv_aload_n hx hb dJ0_indexOf_7cf53_7 rfl (lv_at hl 0 rfl) ?_
    refine vk_getf hx hb hSc.2.2.1 hS hown (hts (.fieldLink RJ0 9 "java/lang/String" "value" "[B") (by decide +kernel)) (fun _ h9 => h9) dJ0_indexOf_7cf53_8 ?_
    refine lv_iload_n hx hb dJ0_indexOf_7cf53_11 rfl (lv_at hl 1 rfl) ?_
    refine lv_iload_n hx hb dJ0_indexOf_7cf53_12 rfl (lv_at hl 2 rfl) ?_
    refine lv_aload_n hx hb dJ0_indexOf_7cf53_13 rfl (lv_at hl 0 rfl) ?_
    obtain ⟨r3, hu4, hR⟩ := b1_s hR
    refine cls_ViN (As := []) (rest := [.int x2, .int x1, .ref a_strV]) (wc := []) (wr := []) ⟨hx, hb, hml, hown, hts⟩ (kJ0_length_8abf5 l dC dI cI a_strK a_strV H.size r3 hu4) (cwV 0 hts gJ0_indexOf_7cf53_J0_length_8abf5 rfl rfl rfl (by decide +kernel) ⟨Nat.le_of_ble_eq_true rfl, Nat.le_of_ble_eq_true rfl⟩) hK hN hSc hRs hP hD hS hA (sc_recv hSc hS) [] [] rfl rfl rfl rfl rfl (by decide) rfl hl.1 rfl (Nat.le_of_ble_eq_true rfl) dJ0_indexOf_7cf53_14 (fun H locs hP hD hS => ?_)
    have hP : va_P (dC, dI) vwCl [] H := hP
    have hD : va_D A [] := hD
    obtain ⟨r5, hu6, hR⟩ := b1_s hR
    refine cls_SiN (As := [.ref a_strV, .int x1, .int x2, .int r3]) (rest := []) (wc := []) (wr := []) ⟨hx, hb, hml, hown, hts⟩ (kJ1_indexOf_4cfef l dC dI cI a_strK a_strV H.size x1 x2 r3 r5 hu6) (va_cwS 4 hts gJ0_indexOf_7cf53_J1_indexOf_4cfef rfl rfl rfl (by decide +kernel) ⟨Nat.le_of_ble_eq_true rfl, Nat.le_of_ble_eq_true rfl⟩) hK hN hSc hRs hP hD hS hA [] [] rfl rfl rfl rfl rfl (by decide) rfl hl.1 rfl (Nat.le_of_ble_eq_true rfl) dJ0_indexOf_7cf53_17 (fun H locs hP hD hS => ?_)
    have hP : va_P (dC, dI) vwCl [] H := hP
    have hD : va_D A [] := hD
    refine lv_goto (tgt := 36) hx hb dJ0_indexOf_7cf53_20 (by decide) ?_
    subst hQ
    subst hAe
    exact W.iret (v := r5) hx hb hr (fun t ht hW => ⟨⟨r5, (), rfl, Option.some.inj hR, by rw [ht]; exact hP, hD⟩, hS.F ht⟩) hS.2.2 dJ0_indexOf_7cf53_36
def fJ0_indexOf_0f7a4 (x1 : Int32) : Option (Int32) :=
  b1 (fJ0_indexOf_7cf53 x1 0) (fun r1 =>
  some (r1))
set_option maxHeartbeats 4000000 in
set_option maxRecDepth 100000 in
theorem kJ0_indexOf_0f7a4 (l : Launch) (dC : Nat → ClassId) (dI : Nat → Nat → Nat) (cI : ClassId) (a_strK a_strV : Nat) (sz : Nat) (x1 : Int32) (R : Int32) (hR : fJ0_indexOf_0f7a4 x1 = some R) : Met l yJ0_indexOf_0f7a4 wsJ0_indexOf_0f7a4 ({ frames := 3, cells := 0, slots := 0, locals := 70 } : Room) (va_Pc [.ref a_strK, .int x1] (Wps (dC, dI) [(cI, .int)] [] sz a_strK a_strV)) (va_Qi (fun (r : Int32) (_ : Unit) => r = R) (Wq (dC, dI) [] sz (fun (_ : Unit) => ([] : va_W))) (va_A [] sz)) 0 0 (va_A [] sz) := by
  refine Met.ofW (cc := cJ0_indexOf_0f7a4) (maxL := 2) (ret := (some .int)) (by decide) rfl ?_
  intro p e s m args below meth c s₁ B hml hv
  obtain ⟨hargs, ⟨hsz, hP, hK, hD0, hN⟩, hSc, hRs⟩ := hv
  have hx := B.exec
  have hb := B.bytes
  have hr := B.returns
  have hts := atoms_spec (ws := wsJ0_indexOf_0f7a4) B.pre
  have hown : s.vm.findClass RJ0 = some m.cls := findClass_of_methodNamed B.named
  have hlocks := B.notSynchronized
  subst hsz
  have hD := hD0.self (sz := s.heap.size)
  obtain ⟨A, hAe⟩ : ∃ A, A = va_A [] s.heap.size := ⟨_, rfl⟩
  rw [← hAe] at hD
  rw [← hAe] at hSc
  have hA : ∀ q : Nat, s.heap.size ≤ q → A q := fun q h => by rw [hAe]; exact Or.inr h
  have hS : va_S A s.heap s.heap [] := va_S.rf
  have hl := lv_entry ([.ref a_strK, .int x1]) (n := 2) (Nat.le_of_ble_eq_true rfl)
  rw [e_of hargs, lg_entry_eq]
  generalize (lg_sl ([.ref a_strK, .int x1]) ++ List.replicate (2 - (lg_sl ([.ref a_strK, .int x1])).length) Slot.unset).toArray = ls at hl ⊢
  have hl : lv_has ls 2 [(0, .ref a_strK), (1, .int x1)] := hl
  refine w_q ({ frames := 3, cells := 0, slots := 0, locals := 70 } : Room) (fun Q0 hQ => ?_)
  rw [fJ0_indexOf_0f7a4] at hR
  refine lv_aload_n hx hb dJ0_indexOf_0f7a4_0 rfl (lv_at hl 0 rfl) ?_
  refine lv_iload_n hx hb dJ0_indexOf_0f7a4_1 rfl (lv_at hl 1 rfl) ?_
  refine lv_iconst (v := 0) hx hb dJ0_indexOf_0f7a4_2 (by decide) ?_
  obtain ⟨r1, hu2, hR⟩ := b1_s hR
  refine cls_ViN (As := [.int x1, .int 0]) (rest := []) (wc := []) (wr := []) ⟨hx, hb, hml, hown, hts⟩ (kJ0_indexOf_7cf53 l dC dI cI a_strK a_strV s.heap.size x1 0 r1 hu2) (cwV 2 hts gJ0_indexOf_0f7a4_J0_indexOf_7cf53 rfl rfl rfl (by decide +kernel) ⟨Nat.le_of_ble_eq_true rfl, Nat.le_of_ble_eq_true rfl⟩) hK hN hSc hRs hP hD hS hA (sc_recv hSc hS) [] [] rfl rfl rfl rfl rfl (by decide) rfl hl.1 rfl (Nat.le_of_ble_eq_true rfl) dJ0_indexOf_0f7a4_3 (fun H locs hP hD hS => ?_)
  have hP : va_P (dC, dI) vwCl [] H := hP
  have hD : va_D A [] := hD
  subst hQ
  subst hAe
  exact W.iret (v := r1) hx hb hr (fun t ht hW => ⟨⟨r1, (), rfl, Option.some.inj hR, by rw [ht]; exact hP, hD⟩, hS.F ht⟩) hS.2.2 dJ0_indexOf_0f7a4_6
