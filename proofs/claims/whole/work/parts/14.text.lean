def fX4_hasRoom (t_length : Int32) : Option (Int32) :=
  if 80 ≤ t_length then (
   some (0))
  else (
  some (1))
set_option maxHeartbeats 4000000 in
set_option maxRecDepth 100000 in
theorem kX4_hasRoom (l : Launch) (dC : Nat → ClassId) (dI : Nat → Nat → Nat) (cI : ClassId) (a_t a_letters : Nat) (sz : Nat) (t_length : Int32) (t_place : Int32) (t_word : Int32) (t_first : Int32) (t_second : Int32) (t_third : Int32) (R : Int32) (hR : fX4_hasRoom t_length = some R) : Met l yX4_hasRoom wsX4_hasRoom ({ frames := 0, cells := 0, slots := 0, locals := 0 } : Room) (va_Pc [.ref a_t] (Wp (dC, dI) [(cI, .int)] [(a_t, .inr (4, [.ref a_letters, .int t_length, .int t_place, .int t_word, .int t_first, .int t_second, .int t_third]))] sz)) (va_Qi (fun (r : Int32) (_ : Unit) => r = R) (Wq (dC, dI) [(a_t, .inr (4, [.ref a_letters, .int t_length, .int t_place, .int t_word, .int t_first, .int t_second, .int t_third]))] sz (fun (_ : Unit) => ([(a_t, .inr (4, [.ref a_letters, .int t_length, .int t_place, .int t_word, .int t_first, .int t_second, .int t_third]))] : va_W))) (va_A [(a_t, .inr (4, [.ref a_letters, .int t_length, .int t_place, .int t_word, .int t_first, .int t_second, .int t_third]))] sz)) 0 0 (va_A [(a_t, .inr (4, [.ref a_letters, .int t_length, .int t_place, .int t_word, .int t_first, .int t_second, .int t_third]))] sz) := by
  refine Met.ofW (cc := cX4_hasRoom) (maxL := 1) (ret := (some .boolean)) (by decide) rfl ?_
  intro p e s m args below meth c s₁ B hml hv
  obtain ⟨hargs, hsz, hP, hK, hD0, hN⟩ := hv
  have hx := B.exec
  have hb := B.bytes
  have hr := B.returns
  have hts := atoms_spec (ws := wsX4_hasRoom) B.pre
  have hown : s.vm.findClass RX4 = some m.cls := findClass_of_methodNamed B.named
  have hlocks := B.notSynchronized
  subst hsz
  have hD := hD0.self (sz := s.heap.size)
  obtain ⟨A, hAe⟩ : ∃ A, A = va_A [(a_t, .inr (4, [.ref a_letters, .int t_length, .int t_place, .int t_word, .int t_first, .int t_second, .int t_third]))] s.heap.size := ⟨_, rfl⟩
  rw [← hAe] at hD
  have hA : ∀ q : Nat, s.heap.size ≤ q → A q := fun q h => by rw [hAe]; exact Or.inr h
  have hS : va_S A s.heap s.heap [] := va_S.rf
  have hl := lv_entry ([.ref a_t]) (n := 1) (Nat.le_of_ble_eq_true rfl)
  rw [e_of hargs, lg_entry_eq]
  generalize (lg_sl ([.ref a_t]) ++ List.replicate (1 - (lg_sl ([.ref a_t])).length) Slot.unset).toArray = ls at hl ⊢
  have hl : lv_has ls 1 [(0, .ref a_t)] := hl
  have hinX4 : ∀ w ∈ wsX40, w ∈ wsX4_hasRoom := by decide +kernel
  refine w_q ({ frames := 0, cells := 0, slots := 0, locals := 0 } : Room) (fun Q0 hQ => ?_)
  rw [fX4_hasRoom] at hR
  refine lv_aload_n hx hb dX4_hasRoom_0 rfl (lv_at hl 0 rfl) ?_
  refine va_get (D := (dC, dI)) (ci := 4) (v := .int t_length) (C := RX4) (T := TX4) (N := 7) hx hb hts hinX4 hown hK hP 0 rfl rfl 1 (by decide) (hts (.fieldLink RX4 15 "PaperInBin$Text" "length" "I") (by decide +kernel)) (fun _ h9 => h9) rfl dX4_hasRoom_1 ?_
  refine lv_bipush (v := 80) hx hb dX4_hasRoom_4 (by decide) ?_
  refine lv_icmp_ge (tgt := 13) hx hb dX4_hasRoom_6 (by decide) (fun c6 => ?_) (fun c6 => ?_)
  · have hR := (if_pos c6).symm.trans hR
    refine lv_iconst (v := 0) hx hb dX4_hasRoom_13 (by decide) ?_
    subst hQ
    subst hAe
    exact W.zret (ty := .boolean) (v := 0) hx hb hr rfl (fun t ht hW => ⟨⟨0, (), rfl, Option.some.inj hR, by rw [ht]; exact hP, hD⟩, hS.F ht⟩) hS.2.2 dX4_hasRoom_14
  · have hR := (if_neg c6).symm.trans hR
    refine lv_iconst (v := 1) hx hb dX4_hasRoom_9 (by decide) ?_
    refine lv_goto (tgt := 14) hx hb dX4_hasRoom_10 (by decide) ?_
    subst hQ
    subst hAe
    exact W.zret (ty := .boolean) (v := 1) hx hb hr rfl (fun t ht hW => ⟨⟨1, (), rfl, Option.some.inj hR, by rw [ht]; exact hP, hD⟩, hS.F ht⟩) hS.2.2 dX4_hasRoom_14
def fX4_add (x1 : Int32) (t_length : Int32) (lettersA : Nat → Int32) : Option (Int32 × Int32 × (Nat → Int32)) :=
  if t_length < 0 then (
   some (t_length, t_length, lettersA))
  else (
  if 80 ≤ t_length then (
   some (t_length, t_length, lettersA))
  else (
  g_in t_length 80 (
  some ((t_length + 1), (t_length + 1), (upd lettersA (t_length).toNatClampNeg x1)))))
set_option maxHeartbeats 4000000 in
set_option maxRecDepth 100000 in
theorem kX4_add (l : Launch) (dC : Nat → ClassId) (dI : Nat → Nat → Nat) (cI : ClassId) (a_t a_letters : Nat) (sz : Nat) (x1 : Int32) (t_length : Int32) (t_place : Int32) (t_word : Int32) (t_first : Int32) (t_second : Int32) (t_third : Int32) (lettersA : Nat → Int32) (R : Int32 × Int32 × (Nat → Int32)) (hR : fX4_add x1 t_length lettersA = some R) : Met l yX4_add wsX4_add ({ frames := 0, cells := 0, slots := 0, locals := 0 } : Room) (va_Pc [.ref a_t, .int x1] (Wp (dC, dI) [(cI, .int)] [(a_t, .inr (4, [.ref a_letters, .int t_length, .int t_place, .int t_word, .int t_first, .int t_second, .int t_third])), (a_letters, .inl (cI, 80, .inl lettersA))] sz)) (va_Qi (fun (r : Int32) (u : Int32 × (Nat → Int32)) => (r, u) = R) (Wq (dC, dI) [(a_t, .inr (4, [.ref a_letters, .int t_length, .int t_place, .int t_word, .int t_first, .int t_second, .int t_third])), (a_letters, .inl (cI, 80, .inl lettersA))] sz (fun (u : Int32 × (Nat → Int32)) => ([(a_t, .inr (4, [.ref a_letters, .int u.1, .int t_place, .int t_word, .int t_first, .int t_second, .int t_third])), (a_letters, .inl (cI, 80, .inl u.2))] : va_W))) (va_A [(a_t, .inr (4, [.ref a_letters, .int t_length, .int t_place, .int t_word, .int t_first, .int t_second, .int t_third])), (a_letters, .inl (cI, 80, .inl lettersA))] sz)) 0 0 (va_A [(a_t, .inr (4, [.ref a_letters, .int t_length, .int t_place, .int t_word, .int t_first, .int t_second, .int t_third])), (a_letters, .inl (cI, 80, .inl lettersA))] sz) := by
  refine Met.ofW (cc := cX4_add) (maxL := 2) (ret := (some .int)) (by decide) rfl ?_
  intro p e s m args below meth c s₁ B hml hv
  obtain ⟨hargs, hsz, hP, hK, hD0, hN⟩ := hv
  have hx := B.exec
  have hb := B.bytes
  have hr := B.returns
  have hts := atoms_spec (ws := wsX4_add) B.pre
  have hown : s.vm.findClass RX4 = some m.cls := findClass_of_methodNamed B.named
  have hlocks := B.notSynchronized
  subst hsz
  have hD := hD0.self (sz := s.heap.size)
  obtain ⟨A, hAe⟩ : ∃ A, A = va_A [(a_t, .inr (4, [.ref a_letters, .int t_length, .int t_place, .int t_word, .int t_first, .int t_second, .int t_third])), (a_letters, .inl (cI, 80, .inl lettersA))] s.heap.size := ⟨_, rfl⟩
  rw [← hAe] at hD
  have hA : ∀ q : Nat, s.heap.size ≤ q → A q := fun q h => by rw [hAe]; exact Or.inr h
  have hS : va_S A s.heap s.heap [] := va_S.rf
  have hl := lv_entry ([.ref a_t, .int x1]) (n := 2) (Nat.le_of_ble_eq_true rfl)
  rw [e_of hargs, lg_entry_eq]
  generalize (lg_sl ([.ref a_t, .int x1]) ++ List.replicate (2 - (lg_sl ([.ref a_t, .int x1])).length) Slot.unset).toArray = ls at hl ⊢
  have hl : lv_has ls 2 [(0, .ref a_t), (1, .int x1)] := hl
  have hinX4 : ∀ w ∈ wsX40, w ∈ wsX4_add := by decide +kernel
  refine w_q ({ frames := 0, cells := 0, slots := 0, locals := 0 } : Room) (fun Q0 hQ => ?_)
  rw [fX4_add] at hR
  refine lv_aload_n hx hb dX4_add_0 rfl (lv_at hl 0 rfl) ?_
  refine va_get (D := (dC, dI)) (ci := 4) (v := .int t_length) (C := RX4) (T := TX4) (N := 7) hx hb hts hinX4 hown hK hP 0 rfl rfl 1 (by decide) (hts (.fieldLink RX4 15 "PaperInBin$Text" "length" "I") (by decide +kernel)) (fun _ h9 => h9) rfl dX4_add_1 ?_
  refine lv_if_lt (tgt := 36) hx hb dX4_add_4 (by decide) (fun c4 => ?_) (fun c4 => ?_)
  · have hR := (if_pos c4).symm.trans hR
    refine lv_aload_n hx hb dX4_add_36 rfl (lv_at hl 0 rfl) ?_
    refine va_get (D := (dC, dI)) (ci := 4) (v := .int t_length) (C := RX4) (T := TX4) (N := 7) hx hb hts hinX4 hown hK hP 0 rfl rfl 1 (by decide) (hts (.fieldLink RX4 15 "PaperInBin$Text" "length" "I") (by decide +kernel)) (fun _ h9 => h9) rfl dX4_add_37 ?_
    subst hQ
    subst hAe
    exact W.iret (v := t_length) hx hb hr (fun t ht hW => ⟨⟨t_length, (t_length, lettersA), rfl, Option.some.inj hR, by rw [ht]; exact hP, hD⟩, hS.F ht⟩) hS.2.2 dX4_add_40
  · have hR := (if_neg c4).symm.trans hR
    refine lv_aload_n hx hb dX4_add_7 rfl (lv_at hl 0 rfl) ?_
    refine va_get (D := (dC, dI)) (ci := 4) (v := .int t_length) (C := RX4) (T := TX4) (N := 7) hx hb hts hinX4 hown hK hP 0 rfl rfl 1 (by decide) (hts (.fieldLink RX4 15 "PaperInBin$Text" "length" "I") (by decide +kernel)) (fun _ h9 => h9) rfl dX4_add_8 ?_
    refine lv_bipush (v := 80) hx hb dX4_add_11 (by decide) ?_
    refine lv_icmp_ge (tgt := 36) hx hb dX4_add_13 (by decide) (fun c13 => ?_) (fun c13 => ?_)
    · have hR := (if_pos c13).symm.trans hR
      refine lv_aload_n hx hb dX4_add_36 rfl (lv_at hl 0 rfl) ?_
      refine va_get (D := (dC, dI)) (ci := 4) (v := .int t_length) (C := RX4) (T := TX4) (N := 7) hx hb hts hinX4 hown hK hP 0 rfl rfl 1 (by decide) (hts (.fieldLink RX4 15 "PaperInBin$Text" "length" "I") (by decide +kernel)) (fun _ h9 => h9) rfl dX4_add_37 ?_
      subst hQ
      subst hAe
      exact W.iret (v := t_length) hx hb hr (fun t ht hW => ⟨⟨t_length, (t_length, lettersA), rfl, Option.some.inj hR, by rw [ht]; exact hP, hD⟩, hS.F ht⟩) hS.2.2 dX4_add_40
    · have hR := (if_neg c13).symm.trans hR
      refine lv_aload_n hx hb dX4_add_16 rfl (lv_at hl 0 rfl) ?_
      refine va_get (D := (dC, dI)) (ci := 4) (v := .ref a_letters) (C := RX4) (T := TX4) (N := 7) hx hb hts hinX4 hown hK hP 0 rfl rfl 0 (by decide) (hts (.fieldLink RX4 9 "PaperInBin$Text" "letters" "[I") (by decide +kernel)) (fun _ h9 => h9) rfl dX4_add_17 ?_
      refine lv_aload_n hx hb dX4_add_20 rfl (lv_at hl 0 rfl) ?_
      refine va_get (D := (dC, dI)) (ci := 4) (v := .int t_length) (C := RX4) (T := TX4) (N := 7) hx hb hts hinX4 hown hK hP 0 rfl rfl 1 (by decide) (hts (.fieldLink RX4 15 "PaperInBin$Text" "length" "I") (by decide +kernel)) (fun _ h9 => h9) rfl dX4_add_21 ?_
      refine lv_iload_n hx hb dX4_add_24 rfl (lv_at hl 1 rfl) ?_
      obtain ⟨g1, hR⟩ := g_in_s hR
      refine va_iast hx hb hK hP hD hS 1 0 rfl rfl g1 dX4_add_25 (fun H locs hP hD hS => ?_)
      have hP : va_P (dC, dI) vwCl [(a_t, .inr (4, [.ref a_letters, .int t_length, .int t_place, .int t_word, .int t_first, .int t_second, .int t_third])), (a_letters, .inl (cI, 80, .inl (upd lettersA (t_length).toNatClampNeg x1)))] H := hP
      have hD : va_D A [(a_t, .inr (4, [.ref a_letters, .int t_length, .int t_place, .int t_word, .int t_first, .int t_second, .int t_third])), (a_letters, .inl (cI, 80, .inl (upd lettersA (t_length).toNatClampNeg x1)))] := hD
      refine lv_aload_n hx hb dX4_add_26 rfl (lv_at hl 0 rfl) ?_
      refine lv_dup hx hb dX4_add_27 rfl ?_
      refine va_get (D := (dC, dI)) (ci := 4) (v := .int t_length) (C := RX4) (T := TX4) (N := 7) hx hb hts hinX4 hown hK hP 0 rfl rfl 1 (by decide) (hts (.fieldLink RX4 15 "PaperInBin$Text" "length" "I") (by decide +kernel)) (fun _ h9 => h9) rfl dX4_add_28 ?_
      refine lv_iconst (v := 1) hx hb dX4_add_31 (by decide) ?_
      refine lv_iadd hx hb dX4_add_32 ?_
      refine va_put (D := (dC, dI)) (ci := 4) (v := .int (t_length + 1)) (ty := .int) (C := RX4) (T := TX4) (N := 7) hx hb hts hinX4 tyX4 tyX4_ok nmX4 hown hK hP hD hS 0 rfl rfl 1 (by decide) (hts (.fieldLink RX4 15 "PaperInBin$Text" "length" "I") (by decide +kernel)) (fun _ h9 => h9) rfl (tyX4_ok 1 (by decide)) rfl rfl (Nat.le_of_ble_eq_true rfl) dX4_add_33 (fun H locs hP hD hS => ?_)
      have hP : va_P (dC, dI) vwCl [(a_t, .inr (4, [.ref a_letters, .int (t_length + 1), .int t_place, .int t_word, .int t_first, .int t_second, .int t_third])), (a_letters, .inl (cI, 80, .inl (upd lettersA (t_length).toNatClampNeg x1)))] H := hP
      have hD : va_D A [(a_t, .inr (4, [.ref a_letters, .int (t_length + 1), .int t_place, .int t_word, .int t_first, .int t_second, .int t_third])), (a_letters, .inl (cI, 80, .inl (upd lettersA (t_length).toNatClampNeg x1)))] := hD
      refine lv_aload_n hx hb dX4_add_36 rfl (lv_at hl 0 rfl) ?_
      refine va_get (D := (dC, dI)) (ci := 4) (v := .int (t_length + 1)) (C := RX4) (T := TX4) (N := 7) hx hb hts hinX4 hown hK hP 0 rfl rfl 1 (by decide) (hts (.fieldLink RX4 15 "PaperInBin$Text" "length" "I") (by decide +kernel)) (fun _ h9 => h9) rfl dX4_add_37 ?_
      subst hQ
      subst hAe
      exact W.iret (v := (t_length + 1)) hx hb hr (fun t ht hW => ⟨⟨(t_length + 1), ((t_length + 1), (upd lettersA (t_length).toNatClampNeg x1)), rfl, Option.some.inj hR, by rw [ht]; exact hP, hD⟩, hS.F ht⟩) hS.2.2 dX4_add_40
def fX4_clear  : Option (Int32) :=
  some (0)
set_option maxHeartbeats 4000000 in
set_option maxRecDepth 100000 in
theorem kX4_clear (l : Launch) (dC : Nat → ClassId) (dI : Nat → Nat → Nat) (cI : ClassId) (a_t a_letters : Nat) (sz : Nat) (t_length : Int32) (t_place : Int32) (t_word : Int32) (t_first : Int32) (t_second : Int32) (t_third : Int32) (R : Int32) (hR : fX4_clear = some R) : Met l yX4_clear wsX4_clear ({ frames := 0, cells := 0, slots := 0, locals := 0 } : Room) (va_Pc [.ref a_t] (Wp (dC, dI) [(cI, .int)] [(a_t, .inr (4, [.ref a_letters, .int t_length, .int t_place, .int t_word, .int t_first, .int t_second, .int t_third]))] sz)) (va_Qv (fun (u : Int32) => u = R) (Wq (dC, dI) [(a_t, .inr (4, [.ref a_letters, .int t_length, .int t_place, .int t_word, .int t_first, .int t_second, .int t_third]))] sz (fun (u : Int32) => ([(a_t, .inr (4, [.ref a_letters, .int u, .int t_place, .int t_word, .int t_first, .int t_second, .int t_third]))] : va_W))) (va_A [(a_t, .inr (4, [.ref a_letters, .int t_length, .int t_place, .int t_word, .int t_first, .int t_second, .int t_third]))] sz)) 0 0 (va_A [(a_t, .inr (4, [.ref a_letters, .int t_length, .int t_place, .int t_word, .int t_first, .int t_second, .int t_third]))] sz) := by
  refine Met.ofW (cc := cX4_clear) (maxL := 1) (ret := none) (by decide) rfl ?_
  intro p e s m args below meth c s₁ B hml hv
  obtain ⟨hargs, hsz, hP, hK, hD0, hN⟩ := hv
  have hx := B.exec
  have hb := B.bytes
  have hr := B.returns
  have hts := atoms_spec (ws := wsX4_clear) B.pre
  have hown : s.vm.findClass RX4 = some m.cls := findClass_of_methodNamed B.named
  have hlocks := B.notSynchronized
  subst hsz
  have hD := hD0.self (sz := s.heap.size)
  obtain ⟨A, hAe⟩ : ∃ A, A = va_A [(a_t, .inr (4, [.ref a_letters, .int t_length, .int t_place, .int t_word, .int t_first, .int t_second, .int t_third]))] s.heap.size := ⟨_, rfl⟩
  rw [← hAe] at hD
  have hA : ∀ q : Nat, s.heap.size ≤ q → A q := fun q h => by rw [hAe]; exact Or.inr h
  have hS : va_S A s.heap s.heap [] := va_S.rf
  have hl := lv_entry ([.ref a_t]) (n := 1) (Nat.le_of_ble_eq_true rfl)
  rw [e_of hargs, lg_entry_eq]
  generalize (lg_sl ([.ref a_t]) ++ List.replicate (1 - (lg_sl ([.ref a_t])).length) Slot.unset).toArray = ls at hl ⊢
  have hl : lv_has ls 1 [(0, .ref a_t)] := hl
  have hinX4 : ∀ w ∈ wsX40, w ∈ wsX4_clear := by decide +kernel
  refine w_q ({ frames := 0, cells := 0, slots := 0, locals := 0 } : Room) (fun Q0 hQ => ?_)
  rw [fX4_clear] at hR
  refine lv_aload_n hx hb dX4_clear_0 rfl (lv_at hl 0 rfl) ?_
  refine lv_iconst (v := 0) hx hb dX4_clear_1 (by decide) ?_
  refine va_put (D := (dC, dI)) (ci := 4) (v := .int 0) (ty := .int) (C := RX4) (T := TX4) (N := 7) hx hb hts hinX4 tyX4 tyX4_ok nmX4 hown hK hP hD hS 0 rfl rfl 1 (by decide) (hts (.fieldLink RX4 15 "PaperInBin$Text" "length" "I") (by decide +kernel)) (fun _ h9 => h9) rfl (tyX4_ok 1 (by decide)) rfl rfl (Nat.le_of_ble_eq_true rfl) dX4_clear_2 (fun H locs hP hD hS => ?_)
  have hP : va_P (dC, dI) vwCl [(a_t, .inr (4, [.ref a_letters, .int 0, .int t_place, .int t_word, .int t_first, .int t_second, .int t_third]))] H := hP
  have hD : va_D A [(a_t, .inr (4, [.ref a_letters, .int 0, .int t_place, .int t_word, .int t_first, .int t_second, .int t_third]))] := hD
  subst hQ
  subst hAe
  exact W.vret hx hb hr (fun t ht hW => ⟨⟨(0), rfl, Option.some.inj hR, by rw [ht]; exact hP, hD⟩, hS.F ht⟩) hS.2.2 dX4_clear_5
def fX4_letterHere (t_length : Int32) (t_place : Int32) (lettersA : Nat → Int32) : Option (Int32) :=
  if t_place < 0 then (
   some ((-1)))
  else (
  if t_length ≤ t_place then (
   some ((-1)))
  else (
  if 80 ≤ t_place then (
   some ((-1)))
  else (
  g_in t_place 80 (
  some ((lettersA (t_place).toNatClampNeg))))))
set_option maxHeartbeats 4000000 in
set_option maxRecDepth 100000 in
theorem kX4_letterHere (l : Launch) (dC : Nat → ClassId) (dI : Nat → Nat → Nat) (cI : ClassId) (a_t a_letters : Nat) (sz : Nat) (t_length : Int32) (t_place : Int32) (t_word : Int32) (t_first : Int32) (t_second : Int32) (t_third : Int32) (lettersA : Nat → Int32) (R : Int32) (hR : fX4_letterHere t_length t_place lettersA = some R) : Met l yX4_letterHere wsX4_letterHere ({ frames := 0, cells := 0, slots := 0, locals := 0 } : Room) (va_Pc [.ref a_t] (Wp (dC, dI) [(cI, .int)] [(a_t, .inr (4, [.ref a_letters, .int t_length, .int t_place, .int t_word, .int t_first, .int t_second, .int t_third])), (a_letters, .inl (cI, 80, .inl lettersA))] sz)) (va_Qi (fun (r : Int32) (_ : Unit) => r = R) (Wq (dC, dI) [(a_t, .inr (4, [.ref a_letters, .int t_length, .int t_place, .int t_word, .int t_first, .int t_second, .int t_third])), (a_letters, .inl (cI, 80, .inl lettersA))] sz (fun (_ : Unit) => ([(a_t, .inr (4, [.ref a_letters, .int t_length, .int t_place, .int t_word, .int t_first, .int t_second, .int t_third])), (a_letters, .inl (cI, 80, .inl lettersA))] : va_W))) (va_A [(a_t, .inr (4, [.ref a_letters, .int t_length, .int t_place, .int t_word, .int t_first, .int t_second, .int t_third])), (a_letters, .inl (cI, 80, .inl lettersA))] sz)) 0 0 (va_A [(a_t, .inr (4, [.ref a_letters, .int t_length, .int t_place, .int t_word, .int t_first, .int t_second, .int t_third])), (a_letters, .inl (cI, 80, .inl lettersA))] sz) := by
  refine Met.ofW (cc := cX4_letterHere) (maxL := 1) (ret := (some .int)) (by decide) rfl ?_
  intro p e s m args below meth c s₁ B hml hv
  obtain ⟨hargs, hsz, hP, hK, hD0, hN⟩ := hv
  have hx := B.exec
  have hb := B.bytes
  have hr := B.returns
  have hts := atoms_spec (ws := wsX4_letterHere) B.pre
  have hown : s.vm.findClass RX4 = some m.cls := findClass_of_methodNamed B.named
  have hlocks := B.notSynchronized
  subst hsz
  have hD := hD0.self (sz := s.heap.size)
  obtain ⟨A, hAe⟩ : ∃ A, A = va_A [(a_t, .inr (4, [.ref a_letters, .int t_length, .int t_place, .int t_word, .int t_first, .int t_second, .int t_third])), (a_letters, .inl (cI, 80, .inl lettersA))] s.heap.size := ⟨_, rfl⟩
  rw [← hAe] at hD
  have hA : ∀ q : Nat, s.heap.size ≤ q → A q := fun q h => by rw [hAe]; exact Or.inr h
  have hS : va_S A s.heap s.heap [] := va_S.rf
  have hl := lv_entry ([.ref a_t]) (n := 1) (Nat.le_of_ble_eq_true rfl)
  rw [e_of hargs, lg_entry_eq]
  generalize (lg_sl ([.ref a_t]) ++ List.replicate (1 - (lg_sl ([.ref a_t])).length) Slot.unset).toArray = ls at hl ⊢
  have hl : lv_has ls 1 [(0, .ref a_t)] := hl
  have hinX4 : ∀ w ∈ wsX40, w ∈ wsX4_letterHere := by decide +kernel
  refine w_q ({ frames := 0, cells := 0, slots := 0, locals := 0 } : Room) (fun Q0 hQ => ?_)
  rw [fX4_letterHere] at hR
  refine lv_aload_n hx hb dX4_letterHere_0 rfl (lv_at hl 0 rfl) ?_
  refine va_get (D := (dC, dI)) (ci := 4) (v := .int t_place) (C := RX4) (T := TX4) (N := 7) hx hb hts hinX4 hown hK hP 0 rfl rfl 2 (by decide) (hts (.fieldLink RX4 23 "PaperInBin$Text" "place" "I") (by decide +kernel)) (fun _ h9 => h9) rfl dX4_letterHere_1 ?_
  refine lv_if_lt (tgt := 39) hx hb dX4_letterHere_4 (by decide) (fun c4 => ?_) (fun c4 => ?_)
  · have hR := (if_pos c4).symm.trans hR
    refine lv_iconst (v := (-1)) hx hb dX4_letterHere_39 (by decide) ?_
    subst hQ
    subst hAe
    exact W.iret (v := (-1)) hx hb hr (fun t ht hW => ⟨⟨(-1), (), rfl, Option.some.inj hR, by rw [ht]; exact hP, hD⟩, hS.F ht⟩) hS.2.2 dX4_letterHere_40
  · have hR := (if_neg c4).symm.trans hR
    refine lv_aload_n hx hb dX4_letterHere_7 rfl (lv_at hl 0 rfl) ?_
    refine va_get (D := (dC, dI)) (ci := 4) (v := .int t_place) (C := RX4) (T := TX4) (N := 7) hx hb hts hinX4 hown hK hP 0 rfl rfl 2 (by decide) (hts (.fieldLink RX4 23 "PaperInBin$Text" "place" "I") (by decide +kernel)) (fun _ h9 => h9) rfl dX4_letterHere_8 ?_
    refine lv_aload_n hx hb dX4_letterHere_11 rfl (lv_at hl 0 rfl) ?_
    refine va_get (D := (dC, dI)) (ci := 4) (v := .int t_length) (C := RX4) (T := TX4) (N := 7) hx hb hts hinX4 hown hK hP 0 rfl rfl 1 (by decide) (hts (.fieldLink RX4 15 "PaperInBin$Text" "length" "I") (by decide +kernel)) (fun _ h9 => h9) rfl dX4_letterHere_12 ?_
    refine lv_icmp_ge (tgt := 39) hx hb dX4_letterHere_15 (by decide) (fun c15 => ?_) (fun c15 => ?_)
    · have hR := (if_pos c15).symm.trans hR
      refine lv_iconst (v := (-1)) hx hb dX4_letterHere_39 (by decide) ?_
      subst hQ
      subst hAe
      exact W.iret (v := (-1)) hx hb hr (fun t ht hW => ⟨⟨(-1), (), rfl, Option.some.inj hR, by rw [ht]; exact hP, hD⟩, hS.F ht⟩) hS.2.2 dX4_letterHere_40
    · have hR := (if_neg c15).symm.trans hR
      refine lv_aload_n hx hb dX4_letterHere_18 rfl (lv_at hl 0 rfl) ?_
      refine va_get (D := (dC, dI)) (ci := 4) (v := .int t_place) (C := RX4) (T := TX4) (N := 7) hx hb hts hinX4 hown hK hP 0 rfl rfl 2 (by decide) (hts (.fieldLink RX4 23 "PaperInBin$Text" "place" "I") (by decide +kernel)) (fun _ h9 => h9) rfl dX4_letterHere_19 ?_
      refine lv_bipush (v := 80) hx hb dX4_letterHere_22 (by decide) ?_
      refine lv_icmp_ge (tgt := 39) hx hb dX4_letterHere_24 (by decide) (fun c24 => ?_) (fun c24 => ?_)
      · have hR := (if_pos c24).symm.trans hR
        refine lv_iconst (v := (-1)) hx hb dX4_letterHere_39 (by decide) ?_
        subst hQ
        subst hAe
        exact W.iret (v := (-1)) hx hb hr (fun t ht hW => ⟨⟨(-1), (), rfl, Option.some.inj hR, by rw [ht]; exact hP, hD⟩, hS.F ht⟩) hS.2.2 dX4_letterHere_40
      · have hR := (if_neg c24).symm.trans hR
        refine lv_aload_n hx hb dX4_letterHere_27 rfl (lv_at hl 0 rfl) ?_
        refine va_get (D := (dC, dI)) (ci := 4) (v := .ref a_letters) (C := RX4) (T := TX4) (N := 7) hx hb hts hinX4 hown hK hP 0 rfl rfl 0 (by decide) (hts (.fieldLink RX4 9 "PaperInBin$Text" "letters" "[I") (by decide +kernel)) (fun _ h9 => h9) rfl dX4_letterHere_28 ?_
        refine lv_aload_n hx hb dX4_letterHere_31 rfl (lv_at hl 0 rfl) ?_
        refine va_get (D := (dC, dI)) (ci := 4) (v := .int t_place) (C := RX4) (T := TX4) (N := 7) hx hb hts hinX4 hown hK hP 0 rfl rfl 2 (by decide) (hts (.fieldLink RX4 23 "PaperInBin$Text" "place" "I") (by decide +kernel)) (fun _ h9 => h9) rfl dX4_letterHere_32 ?_
        obtain ⟨g1, hR⟩ := g_in_s hR
        refine va_iald hx hb hK hP 1 0 rfl rfl g1 dX4_letterHere_35 ?_
        refine lv_goto (tgt := 40) hx hb dX4_letterHere_36 (by decide) ?_
        subst hQ
        subst hAe
        exact W.iret (v := (lettersA (t_place).toNatClampNeg)) hx hb hr (fun t ht hW => ⟨⟨(lettersA (t_place).toNatClampNeg), (), rfl, Option.some.inj hR, by rw [ht]; exact hP, hD⟩, hS.F ht⟩) hS.2.2 dX4_letterHere_40
def fX4_kindOfLetter (x0 : Int32) : Option (Int32) :=
  if x0 = 98 then (
   some (1)) else
  if x0 = 107 then (
   some (5)) else
  if x0 = 108 then (
   some (4)) else
  if x0 = 112 then (
   some (0)) else
  if x0 = 115 then (
   some (3)) else
  if x0 = 119 then (
   some (2)) else
  some ((-1))
set_option maxHeartbeats 4000000 in
set_option maxRecDepth 100000 in
theorem kX4_kindOfLetter (l : Launch) (dC : Nat → ClassId) (dI : Nat → Nat → Nat) (cI : ClassId) (sz : Nat) (x0 : Int32) (R : Int32) (hR : fX4_kindOfLetter x0 = some R) : Met l yX4_kindOfLetter wsX4_kindOfLetter ({ frames := 0, cells := 0, slots := 0, locals := 0 } : Room) (va_Pc [.int x0] (Wp (dC, dI) [(cI, .int)] [] sz)) (va_Qi (fun (r : Int32) (_ : Unit) => r = R) (Wq (dC, dI) [] sz (fun (_ : Unit) => ([] : va_W))) (va_A [] sz)) 0 0 (va_A [] sz) := by
  refine Met.ofW (cc := cX4_kindOfLetter) (maxL := 1) (ret := (some .int)) (by decide) rfl ?_
  intro p e s m args below meth c s₁ B hml hv
  obtain ⟨hargs, hsz, hP, hK, hD0, hN⟩ := hv
  have hx := B.exec
  have hb := B.bytes
  have hr := B.returns
  have hts := atoms_spec (ws := wsX4_kindOfLetter) B.pre
  have hown : s.vm.findClass RX4 = some m.cls := findClass_of_methodNamed B.named
  have hlocks := B.notSynchronized
  subst hsz
  have hD := hD0.self (sz := s.heap.size)
  obtain ⟨A, hAe⟩ : ∃ A, A = va_A [] s.heap.size := ⟨_, rfl⟩
  rw [← hAe] at hD
  have hA : ∀ q : Nat, s.heap.size ≤ q → A q := fun q h => by rw [hAe]; exact Or.inr h
  have hS : va_S A s.heap s.heap [] := va_S.rf
  have hl := lv_entry ([.int x0]) (n := 1) (Nat.le_of_ble_eq_true rfl)
  rw [e_of hargs, lg_entry_eq]
  generalize (lg_sl ([.int x0]) ++ List.replicate (1 - (lg_sl ([.int x0])).length) Slot.unset).toArray = ls at hl ⊢
  have hl : lv_has ls 1 [(0, .int x0)] := hl
  refine w_q ({ frames := 0, cells := 0, slots := 0, locals := 0 } : Room) (fun Q0 hQ => ?_)
  rw [fX4_kindOfLetter] at hR
  refine lv_iload_n hx hb dX4_kindOfLetter_0 rfl (lv_at hl 0 rfl) ?_
  by_cases c1_0 : x0 = 98
  · have hR := (if_pos c1_0).symm.trans hR
    refine lv_lookup (off := 61) (tgt := 62) hx hb dX4_kindOfLetter_1 (by decide) (by rw [c1_0]; decide) (by decide) ?_
    refine lv_iconst (v := 1) hx hb dX4_kindOfLetter_62 (by decide) ?_
    subst hQ
    subst hAe
    exact W.iret (v := 1) hx hb hr (fun t ht hW => ⟨⟨1, (), rfl, Option.some.inj hR, by rw [ht]; exact hP, hD⟩, hS.F ht⟩) hS.2.2 dX4_kindOfLetter_63
  have hR := (if_neg c1_0).symm.trans hR
  by_cases c1_1 : x0 = 107
  · have hR := (if_pos c1_1).symm.trans hR
    refine lv_lookup (off := 69) (tgt := 70) hx hb dX4_kindOfLetter_1 (by decide) (by rw [c1_1]; decide) (by decide) ?_
    refine lv_iconst (v := 5) hx hb dX4_kindOfLetter_70 (by decide) ?_
    subst hQ
    subst hAe
    exact W.iret (v := 5) hx hb hr (fun t ht hW => ⟨⟨5, (), rfl, Option.some.inj hR, by rw [ht]; exact hP, hD⟩, hS.F ht⟩) hS.2.2 dX4_kindOfLetter_71
  have hR := (if_neg c1_1).symm.trans hR
  by_cases c1_2 : x0 = 108
  · have hR := (if_pos c1_2).symm.trans hR
    refine lv_lookup (off := 67) (tgt := 68) hx hb dX4_kindOfLetter_1 (by decide) (by rw [c1_2]; decide) (by decide) ?_
    refine lv_iconst (v := 4) hx hb dX4_kindOfLetter_68 (by decide) ?_
    subst hQ
    subst hAe
    exact W.iret (v := 4) hx hb hr (fun t ht hW => ⟨⟨4, (), rfl, Option.some.inj hR, by rw [ht]; exact hP, hD⟩, hS.F ht⟩) hS.2.2 dX4_kindOfLetter_69
  have hR := (if_neg c1_2).symm.trans hR
  by_cases c1_3 : x0 = 112
  · have hR := (if_pos c1_3).symm.trans hR
    refine lv_lookup (off := 59) (tgt := 60) hx hb dX4_kindOfLetter_1 (by decide) (by rw [c1_3]; decide) (by decide) ?_
    refine lv_iconst (v := 0) hx hb dX4_kindOfLetter_60 (by decide) ?_
    subst hQ
    subst hAe
    exact W.iret (v := 0) hx hb hr (fun t ht hW => ⟨⟨0, (), rfl, Option.some.inj hR, by rw [ht]; exact hP, hD⟩, hS.F ht⟩) hS.2.2 dX4_kindOfLetter_61
  have hR := (if_neg c1_3).symm.trans hR
  by_cases c1_4 : x0 = 115
  · have hR := (if_pos c1_4).symm.trans hR
    refine lv_lookup (off := 65) (tgt := 66) hx hb dX4_kindOfLetter_1 (by decide) (by rw [c1_4]; decide) (by decide) ?_
    refine lv_iconst (v := 3) hx hb dX4_kindOfLetter_66 (by decide) ?_
    subst hQ
    subst hAe
    exact W.iret (v := 3) hx hb hr (fun t ht hW => ⟨⟨3, (), rfl, Option.some.inj hR, by rw [ht]; exact hP, hD⟩, hS.F ht⟩) hS.2.2 dX4_kindOfLetter_67
  have hR := (if_neg c1_4).symm.trans hR
  by_cases c1_5 : x0 = 119
  · have hR := (if_pos c1_5).symm.trans hR
    refine lv_lookup (off := 63) (tgt := 64) hx hb dX4_kindOfLetter_1 (by decide) (by rw [c1_5]; decide) (by decide) ?_
    refine lv_iconst (v := 2) hx hb dX4_kindOfLetter_64 (by decide) ?_
    subst hQ
    subst hAe
    exact W.iret (v := 2) hx hb hr (fun t ht hW => ⟨⟨2, (), rfl, Option.some.inj hR, by rw [ht]; exact hP, hD⟩, hS.F ht⟩) hS.2.2 dX4_kindOfLetter_65
  have hR := (if_neg c1_5).symm.trans hR
  refine lv_lookup (off := 71) (tgt := 72) hx hb dX4_kindOfLetter_1 (by decide) (by
    show Op.lookupswitch.offset [(98, 61), (107, 69), (108, 67), (112, 59), (115, 65), (119, 63)] 71 _ = 71
    rw [lv_osw (k := 98) c1_0 (by decide), lv_osw (k := 107) c1_1 (by decide), lv_osw (k := 108) c1_2 (by decide), lv_osw (k := 112) c1_3 (by decide), lv_osw (k := 115) c1_4 (by decide), lv_osw (k := 119) c1_5 (by decide)]
    rfl) (by decide) ?_
  refine lv_iconst (v := (-1)) hx hb dX4_kindOfLetter_72 (by decide) ?_
  subst hQ
  subst hAe
  exact W.iret (v := (-1)) hx hb hr (fun t ht hW => ⟨⟨(-1), (), rfl, Option.some.inj hR, by rw [ht]; exact hP, hD⟩, hS.F ht⟩) hS.2.2 dX4_kindOfLetter_73
def fX4_readKind (t_length : Int32) (t_place : Int32) (lettersA : Nat → Int32) : Option (Int32 × Int32 × Int32) :=
  b1 (fX4_letterHere t_length t_place lettersA) (fun r1 =>
  b1 (fX4_kindOfLetter r1) (fun r3 =>
  if 0 ≤ r3 then (
   some (1, (t_place + 1), r3))
  else (
  some (0, t_place, r3))))
set_option maxHeartbeats 4000000 in
set_option maxRecDepth 100000 in
theorem kX4_readKind (l : Launch) (dC : Nat → ClassId) (dI : Nat → Nat → Nat) (cI : ClassId) (a_t a_letters : Nat) (sz : Nat) (t_length : Int32) (t_place : Int32) (t_word : Int32) (t_first : Int32) (t_second : Int32) (t_third : Int32) (lettersA : Nat → Int32) (R : Int32 × Int32 × Int32) (hR : fX4_readKind t_length t_place lettersA = some R) : Met l yX4_readKind wsX4_readKind ({ frames := 1, cells := 0, slots := 0, locals := 20 } : Room) (va_Pc [.ref a_t] (Wp (dC, dI) [(cI, .int)] [(a_t, .inr (4, [.ref a_letters, .int t_length, .int t_place, .int t_word, .int t_first, .int t_second, .int t_third])), (a_letters, .inl (cI, 80, .inl lettersA))] sz)) (va_Qi (fun (r : Int32) (u : Int32 × Int32) => (r, u) = R) (Wq (dC, dI) [(a_t, .inr (4, [.ref a_letters, .int t_length, .int t_place, .int t_word, .int t_first, .int t_second, .int t_third])), (a_letters, .inl (cI, 80, .inl lettersA))] sz (fun (u : Int32 × Int32) => ([(a_t, .inr (4, [.ref a_letters, .int t_length, .int u.1, .int t_word, .int u.2, .int t_second, .int t_third])), (a_letters, .inl (cI, 80, .inl lettersA))] : va_W))) (va_A [(a_t, .inr (4, [.ref a_letters, .int t_length, .int t_place, .int t_word, .int t_first, .int t_second, .int t_third])), (a_letters, .inl (cI, 80, .inl lettersA))] sz)) 0 0 (va_A [(a_t, .inr (4, [.ref a_letters, .int t_length, .int t_place, .int t_word, .int t_first, .int t_second, .int t_third])), (a_letters, .inl (cI, 80, .inl lettersA))] sz) := by
  refine Met.ofW (cc := cX4_readKind) (maxL := 1) (ret := (some .boolean)) (by decide) rfl ?_
  intro p e s m args below meth c s₁ B hml hv
  obtain ⟨hargs, hsz, hP, hK, hD0, hN⟩ := hv
  have hx := B.exec
  have hb := B.bytes
  have hr := B.returns
  have hts := atoms_spec (ws := wsX4_readKind) B.pre
  have hown : s.vm.findClass RX4 = some m.cls := findClass_of_methodNamed B.named
  have hlocks := B.notSynchronized
  subst hsz
  have hD := hD0.self (sz := s.heap.size)
  obtain ⟨A, hAe⟩ : ∃ A, A = va_A [(a_t, .inr (4, [.ref a_letters, .int t_length, .int t_place, .int t_word, .int t_first, .int t_second, .int t_third])), (a_letters, .inl (cI, 80, .inl lettersA))] s.heap.size := ⟨_, rfl⟩
  rw [← hAe] at hD
  have hA : ∀ q : Nat, s.heap.size ≤ q → A q := fun q h => by rw [hAe]; exact Or.inr h
  have hS : va_S A s.heap s.heap [] := va_S.rf
  have hl := lv_entry ([.ref a_t]) (n := 1) (Nat.le_of_ble_eq_true rfl)
  rw [e_of hargs, lg_entry_eq]
  generalize (lg_sl ([.ref a_t]) ++ List.replicate (1 - (lg_sl ([.ref a_t])).length) Slot.unset).toArray = ls at hl ⊢
  have hl : lv_has ls 1 [(0, .ref a_t)] := hl
  have hinX4 : ∀ w ∈ wsX40, w ∈ wsX4_readKind := by decide +kernel
  refine w_q ({ frames := 1, cells := 0, slots := 0, locals := 20 } : Room) (fun Q0 hQ => ?_)
  rw [fX4_readKind] at hR
  refine lv_aload_n hx hb dX4_readKind_0 rfl (lv_at hl 0 rfl) ?_
  refine lv_aload_n hx hb dX4_readKind_1 rfl (lv_at hl 0 rfl) ?_
  obtain ⟨r1, hu2, hR⟩ := b1_s hR
  refine cl_ViN (As := []) (rest := [.ref a_t]) (wc := [(a_t, .inr (4, [.ref a_letters, .int t_length, .int t_place, .int t_word, .int t_first, .int t_second, .int t_third])), (a_letters, .inl (cI, 80, .inl lettersA))]) (wr := []) ⟨hx, hb, hml, hown, hts⟩ (kX4_letterHere l dC dI cI a_t a_letters s.heap.size t_length t_place t_word t_first t_second t_third lettersA r1 hu2) (cwV 0 hts gX4_readKind_X4_letterHere rfl rfl rfl (by decide +kernel) ⟨Nat.le_of_ble_eq_true rfl, Nat.le_of_ble_eq_true rfl⟩) hK hN hP hD hS hA (va_recv hK hP (ci := 4) (q0 := 0) rfl rfl) [0, 1] [] rfl rfl rfl rfl rfl (by decide) rfl hl.1 rfl (Nat.le_of_ble_eq_true rfl) dX4_readKind_2 (fun H locs hP hD hS => ?_)
  have hP : va_P (dC, dI) vwCl [(a_t, .inr (4, [.ref a_letters, .int t_length, .int t_place, .int t_word, .int t_first, .int t_second, .int t_third])), (a_letters, .inl (cI, 80, .inl lettersA))] H := hP
  have hD : va_D A [(a_t, .inr (4, [.ref a_letters, .int t_length, .int t_place, .int t_word, .int t_first, .int t_second, .int t_third])), (a_letters, .inl (cI, 80, .inl lettersA))] := hD
  obtain ⟨r3, hu4, hR⟩ := b1_s hR
  refine cl_SiN (As := [.int r1]) (rest := [.ref a_t]) (wc := []) (wr := [(a_t, .inr (4, [.ref a_letters, .int t_length, .int t_place, .int t_word, .int t_first, .int t_second, .int t_third])), (a_letters, .inl (cI, 80, .inl lettersA))]) ⟨hx, hb, hml, hown, hts⟩ (kX4_kindOfLetter l dC dI cI H.size r1 r3 hu4) (cwS 1 hts gX4_readKind_X4_kindOfLetter rfl rfl rfl (by decide +kernel) ⟨Nat.le_of_ble_eq_true rfl, Nat.le_of_ble_eq_true rfl⟩) hK hN hP hD hS hA [] [0, 1] rfl rfl rfl rfl rfl (by decide) rfl hl.1 rfl (Nat.le_of_ble_eq_true rfl) dX4_readKind_5 (fun H locs hP hD hS => ?_)
  have hP : va_P (dC, dI) vwCl [(a_t, .inr (4, [.ref a_letters, .int t_length, .int t_place, .int t_word, .int t_first, .int t_second, .int t_third])), (a_letters, .inl (cI, 80, .inl lettersA))] H := hP
  have hD : va_D A [(a_t, .inr (4, [.ref a_letters, .int t_length, .int t_place, .int t_word, .int t_first, .int t_second, .int t_third])), (a_letters, .inl (cI, 80, .inl lettersA))] := hD
  refine va_put (D := (dC, dI)) (ci := 4) (v := .int r3) (ty := .int) (C := RX4) (T := TX4) (N := 7) hx hb hts hinX4 tyX4 tyX4_ok nmX4 hown hK hP hD hS 0 rfl rfl 4 (by decide) (hts (.fieldLink RX4 37 "PaperInBin$Text" "first" "I") (by decide +kernel)) (fun _ h9 => h9) rfl (tyX4_ok 4 (by decide)) rfl rfl (Nat.le_of_ble_eq_true rfl) dX4_readKind_8 (fun H locs hP hD hS => ?_)
  have hP : va_P (dC, dI) vwCl [(a_t, .inr (4, [.ref a_letters, .int t_length, .int t_place, .int t_word, .int r3, .int t_second, .int t_third])), (a_letters, .inl (cI, 80, .inl lettersA))] H := hP
  have hD : va_D A [(a_t, .inr (4, [.ref a_letters, .int t_length, .int t_place, .int t_word, .int r3, .int t_second, .int t_third])), (a_letters, .inl (cI, 80, .inl lettersA))] := hD
  refine lv_aload_n hx hb dX4_readKind_11 rfl (lv_at hl 0 rfl) ?_
  refine va_get (D := (dC, dI)) (ci := 4) (v := .int r3) (C := RX4) (T := TX4) (N := 7) hx hb hts hinX4 hown hK hP 0 rfl rfl 4 (by decide) (hts (.fieldLink RX4 37 "PaperInBin$Text" "first" "I") (by decide +kernel)) (fun _ h9 => h9) rfl dX4_readKind_12 ?_
  refine lv_if_ge (tgt := 20) hx hb dX4_readKind_15 (by decide) (fun c15 => ?_) (fun c15 => ?_)
  · have hR := (if_pos c15).symm.trans hR
    refine lv_aload_n hx hb dX4_readKind_20 rfl (lv_at hl 0 rfl) ?_
    refine lv_dup hx hb dX4_readKind_21 rfl ?_
    refine va_get (D := (dC, dI)) (ci := 4) (v := .int t_place) (C := RX4) (T := TX4) (N := 7) hx hb hts hinX4 hown hK hP 0 rfl rfl 2 (by decide) (hts (.fieldLink RX4 23 "PaperInBin$Text" "place" "I") (by decide +kernel)) (fun _ h9 => h9) rfl dX4_readKind_22 ?_
    refine lv_iconst (v := 1) hx hb dX4_readKind_25 (by decide) ?_
    refine lv_iadd hx hb dX4_readKind_26 ?_
    refine va_put (D := (dC, dI)) (ci := 4) (v := .int (t_place + 1)) (ty := .int) (C := RX4) (T := TX4) (N := 7) hx hb hts hinX4 tyX4 tyX4_ok nmX4 hown hK hP hD hS 0 rfl rfl 2 (by decide) (hts (.fieldLink RX4 23 "PaperInBin$Text" "place" "I") (by decide +kernel)) (fun _ h9 => h9) rfl (tyX4_ok 2 (by decide)) rfl rfl (Nat.le_of_ble_eq_true rfl) dX4_readKind_27 (fun H locs hP hD hS => ?_)
    have hP : va_P (dC, dI) vwCl [(a_t, .inr (4, [.ref a_letters, .int t_length, .int (t_place + 1), .int t_word, .int r3, .int t_second, .int t_third])), (a_letters, .inl (cI, 80, .inl lettersA))] H := hP
    have hD : va_D A [(a_t, .inr (4, [.ref a_letters, .int t_length, .int (t_place + 1), .int t_word, .int r3, .int t_second, .int t_third])), (a_letters, .inl (cI, 80, .inl lettersA))] := hD
    refine lv_iconst (v := 1) hx hb dX4_readKind_30 (by decide) ?_
    subst hQ
    subst hAe
    exact W.zret (ty := .boolean) (v := 1) hx hb hr rfl (fun t ht hW => ⟨⟨1, ((t_place + 1), r3), rfl, Option.some.inj hR, by rw [ht]; exact hP, hD⟩, hS.F ht⟩) hS.2.2 dX4_readKind_31
  · have hR := (if_neg c15).symm.trans hR
    refine lv_iconst (v := 0) hx hb dX4_readKind_18 (by decide) ?_
    subst hQ
    subst hAe
    exact W.zret (ty := .boolean) (v := 0) hx hb hr rfl (fun t ht hW => ⟨⟨0, (t_place, r3), rfl, Option.some.inj hR, by rw [ht]; exact hP, hD⟩, hS.F ht⟩) hS.2.2 dX4_readKind_19
def lX4_readNumber_10 (x1 : Int32) (t_length : Int32) (lettersA : Nat → Int32) : Nat → Int32 → Int32 → Int32 → Int32 → Option (Int32 × Int32)
  | 0, _, _, _, _ => none
  | n + 1, x2, x3, x4, t_place =>
    if x1 ≤ x4 then (
     some (x2, t_place))
    else (
    if x3 < 48 then (
     some (x2, t_place))
    else (
    if 57 < x3 then (
     some (x2, t_place))
    else (
    b1 (fX4_letterHere t_length (t_place + 1) lettersA) (fun r1 =>
    lX4_readNumber_10 x1 t_length lettersA n (((10 * (if (0 : Int32) < x2 then x2 else (0 : Int32))) + x3) - 48) r1 (x4 + 1) (t_place + 1)))))
def fX4_readNumber (x1 : Int32) (t_length : Int32) (t_place : Int32) (lettersA : Nat → Int32) : Option (Int32 × Int32) :=
  b1 (fX4_letterHere t_length t_place lettersA) (fun r3 =>
  lX4_readNumber_10 x1 t_length lettersA (100) (-1) r3 0 t_place)
set_option maxHeartbeats 4000000 in
set_option maxRecDepth 100000 in
theorem kX4_readNumber (l : Launch) (dC : Nat → ClassId) (dI : Nat → Nat → Nat) (cI : ClassId) (a_t a_letters : Nat) (sz : Nat) (x1 : Int32) (t_length : Int32) (t_place : Int32) (t_word : Int32) (t_first : Int32) (t_second : Int32) (t_third : Int32) (lettersA : Nat → Int32) (R : Int32 × Int32) (hR : fX4_readNumber x1 t_length t_place lettersA = some R) : Met l yX4_readNumber wsX4_readNumber ({ frames := 1, cells := 0, slots := 0, locals := 21 } : Room) (va_Pc [.ref a_t, .int x1] (Wp (dC, dI) [(cI, .int)] [(a_t, .inr (4, [.ref a_letters, .int t_length, .int t_place, .int t_word, .int t_first, .int t_second, .int t_third])), (a_letters, .inl (cI, 80, .inl lettersA))] sz)) (va_Qi (fun (r : Int32) (u : Int32) => (r, u) = R) (Wq (dC, dI) [(a_t, .inr (4, [.ref a_letters, .int t_length, .int t_place, .int t_word, .int t_first, .int t_second, .int t_third])), (a_letters, .inl (cI, 80, .inl lettersA))] sz (fun (u : Int32) => ([(a_t, .inr (4, [.ref a_letters, .int t_length, .int u, .int t_word, .int t_first, .int t_second, .int t_third])), (a_letters, .inl (cI, 80, .inl lettersA))] : va_W))) (va_A [(a_t, .inr (4, [.ref a_letters, .int t_length, .int t_place, .int t_word, .int t_first, .int t_second, .int t_third])), (a_letters, .inl (cI, 80, .inl lettersA))] sz)) 0 0 (va_A [(a_t, .inr (4, [.ref a_letters, .int t_length, .int t_place, .int t_word, .int t_first, .int t_second, .int t_third])), (a_letters, .inl (cI, 80, .inl lettersA))] sz) := by
  refine Met.ofW (cc := cX4_readNumber) (maxL := 5) (ret := (some .int)) (by decide) rfl ?_
  intro p e s m args below meth c s₁ B hml hv
  obtain ⟨hargs, hsz, hP, hK, hD0, hN⟩ := hv
  have hx := B.exec
  have hb := B.bytes
  have hr := B.returns
  have hts := atoms_spec (ws := wsX4_readNumber) B.pre
  have hown : s.vm.findClass RX4 = some m.cls := findClass_of_methodNamed B.named
  have hlocks := B.notSynchronized
  subst hsz
  have hD := hD0.self (sz := s.heap.size)
  obtain ⟨A, hAe⟩ : ∃ A, A = va_A [(a_t, .inr (4, [.ref a_letters, .int t_length, .int t_place, .int t_word, .int t_first, .int t_second, .int t_third])), (a_letters, .inl (cI, 80, .inl lettersA))] s.heap.size := ⟨_, rfl⟩
  rw [← hAe] at hD
  have hA : ∀ q : Nat, s.heap.size ≤ q → A q := fun q h => by rw [hAe]; exact Or.inr h
  have hS : va_S A s.heap s.heap [] := va_S.rf
  have hl := lv_entry ([.ref a_t, .int x1]) (n := 5) (Nat.le_of_ble_eq_true rfl)
  rw [e_of hargs, lg_entry_eq]
  generalize (lg_sl ([.ref a_t, .int x1]) ++ List.replicate (5 - (lg_sl ([.ref a_t, .int x1])).length) Slot.unset).toArray = ls at hl ⊢
  have hl : lv_has ls 5 [(0, .ref a_t), (1, .int x1)] := hl
  have hinX4 : ∀ w ∈ wsX40, w ∈ wsX4_readNumber := by decide +kernel
  refine w_q ({ frames := 1, cells := 0, slots := 0, locals := 21 } : Room) (fun Q0 hQ => ?_)
  have K10 : ∀ (n10 : Nat) (x2 : Int32) (x3 : Int32) (x4 : Int32) (t_place : Int32) (H : Heap) (locs : List Loc), va_P (dC, dI) vwCl [(a_t, .inr (4, [.ref a_letters, .int t_length, .int t_place, .int t_word, .int t_first, .int t_second, .int t_third])), (a_letters, .inl (cI, 80, .inl lettersA))] H → va_D A [(a_t, .inr (4, [.ref a_letters, .int t_length, .int t_place, .int t_word, .int t_first, .int t_second, .int t_third])), (a_letters, .inl (cI, 80, .inl lettersA))] → va_S A s.heap H locs → ∀ (ls : Array Slot), lv_has ls 5 [(0, .ref a_t), (1, .int x1), (2, .int x2), (3, .int x3), (4, .int x4)] → lX4_readNumber_10 x1 t_length lettersA n10 x2 x3 x4 t_place = some R → W p l e ({ frames := 1, cells := 0, slots := 0, locals := 21 } : Room) s m args below meth c H locs 0 0 Q0 (F0 m 10 ls []) := by
    intro n10
    induction n10 with
    | zero =>
      intro x2 x3 x4 t_place H locs hP hD hS ls hl hR
      rw [lX4_readNumber_10] at hR
      cases hR
    | succ n10 ih10 =>
      intro x2 x3 x4 t_place H locs hP hD hS ls hl hR
      rw [lX4_readNumber_10] at hR
      refine lv_iload hx hb dX4_readNumber_10 (lv_at hl 4 rfl) ?_
      refine lv_iload_n hx hb dX4_readNumber_12 rfl (lv_at hl 1 rfl) ?_
      refine lv_icmp_ge (tgt := 63) hx hb dX4_readNumber_13 (by decide) (fun c13 => ?_) (fun c13 => ?_)
      · have hR := (if_pos c13).symm.trans hR
        refine lv_iload_n hx hb dX4_readNumber_63 rfl (lv_at hl 2 rfl) ?_
        subst hQ
        subst hAe
        exact W.iret (v := x2) hx hb hr (fun t ht hW => ⟨⟨x2, (t_place), rfl, Option.some.inj hR, by rw [ht]; exact hP, hD⟩, hS.F ht⟩) hS.2.2 dX4_readNumber_64
      · have hR := (if_neg c13).symm.trans hR
        refine lv_iload_n hx hb dX4_readNumber_16 rfl (lv_at hl 3 rfl) ?_
        refine lv_bipush (v := 48) hx hb dX4_readNumber_17 (by decide) ?_
        refine lv_icmp_lt (tgt := 63) hx hb dX4_readNumber_19 (by decide) (fun c19 => ?_) (fun c19 => ?_)
        · have hR := (if_pos c19).symm.trans hR
          refine lv_iload_n hx hb dX4_readNumber_63 rfl (lv_at hl 2 rfl) ?_
          subst hQ
          subst hAe
          exact W.iret (v := x2) hx hb hr (fun t ht hW => ⟨⟨x2, (t_place), rfl, Option.some.inj hR, by rw [ht]; exact hP, hD⟩, hS.F ht⟩) hS.2.2 dX4_readNumber_64
        · have hR := (if_neg c19).symm.trans hR
          refine lv_iload_n hx hb dX4_readNumber_22 rfl (lv_at hl 3 rfl) ?_
          refine lv_bipush (v := 57) hx hb dX4_readNumber_23 (by decide) ?_
          refine lv_icmp_gt (tgt := 63) hx hb dX4_readNumber_25 (by decide) (fun c25 => ?_) (fun c25 => ?_)
          · have hR := (if_pos c25).symm.trans hR
            refine lv_iload_n hx hb dX4_readNumber_63 rfl (lv_at hl 2 rfl) ?_
            subst hQ
            subst hAe
            exact W.iret (v := x2) hx hb hr (fun t ht hW => ⟨⟨x2, (t_place), rfl, Option.some.inj hR, by rw [ht]; exact hP, hD⟩, hS.F ht⟩) hS.2.2 dX4_readNumber_64
          · have hR := (if_neg c25).symm.trans hR
            refine lv_bipush (v := 10) hx hb dX4_readNumber_28 (by decide) ?_
            refine lv_iconst (v := 0) hx hb dX4_readNumber_30 (by decide) ?_
            refine lv_iload_n hx hb dX4_readNumber_31 rfl (lv_at hl 2 rfl) ?_
            refine va_mmax hx hb (hml.trans hl.1.symm) hown (hts (.methodLink RX4 97 Lib.Math.max.name) (by decide +kernel)) (hts (.static Lib.Math.max.name) (by decide +kernel)) (hts (.initialized "java/lang/Math") (by decide +kernel)) (hts (.code Lib.Math.max.name Lib.Math.max.code 2 (some .int)) (by decide +kernel)) (Nat.le_of_ble_eq_true rfl) (Nat.le_of_ble_eq_true rfl) (Nat.zero_le _) (Nat.zero_le _) dX4_readNumber_32 ?_
            refine lv_imul hx hb dX4_readNumber_35 ?_
            refine lv_iload_n hx hb dX4_readNumber_36 rfl (lv_at hl 3 rfl) ?_
            refine lv_iadd hx hb dX4_readNumber_37 ?_
            refine lv_bipush (v := 48) hx hb dX4_readNumber_38 (by decide) ?_
            refine lv_isub hx hb dX4_readNumber_40 ?_
            refine lv_istore_n (lv' := [(2, .int (((10 * (if (0 : Int32) < x2 then x2 else (0 : Int32))) + x3) - 48)), (0, .ref a_t), (1, .int x1), (3, .int x3), (4, .int x4)]) hx hb dX4_readNumber_41 rfl hl (by decide) rfl (fun ls hl => ?_)
            refine lv_aload_n hx hb dX4_readNumber_42 rfl (lv_at hl 1 rfl) ?_
            refine lv_dup hx hb dX4_readNumber_43 rfl ?_
            refine va_get (D := (dC, dI)) (ci := 4) (v := .int t_place) (C := RX4) (T := TX4) (N := 7) hx hb hts hinX4 hown hK hP 0 rfl rfl 2 (by decide) (hts (.fieldLink RX4 23 "PaperInBin$Text" "place" "I") (by decide +kernel)) (fun _ h9 => h9) rfl dX4_readNumber_44 ?_
            refine lv_iconst (v := 1) hx hb dX4_readNumber_47 (by decide) ?_
            refine lv_iadd hx hb dX4_readNumber_48 ?_
            refine va_put (D := (dC, dI)) (ci := 4) (v := .int (t_place + 1)) (ty := .int) (C := RX4) (T := TX4) (N := 7) hx hb hts hinX4 tyX4 tyX4_ok nmX4 hown hK hP hD hS 0 rfl rfl 2 (by decide) (hts (.fieldLink RX4 23 "PaperInBin$Text" "place" "I") (by decide +kernel)) (fun _ h9 => h9) rfl (tyX4_ok 2 (by decide)) rfl rfl (Nat.le_of_ble_eq_true rfl) dX4_readNumber_49 (fun H locs hP hD hS => ?_)
            have hP : va_P (dC, dI) vwCl [(a_t, .inr (4, [.ref a_letters, .int t_length, .int (t_place + 1), .int t_word, .int t_first, .int t_second, .int t_third])), (a_letters, .inl (cI, 80, .inl lettersA))] H := hP
            have hD : va_D A [(a_t, .inr (4, [.ref a_letters, .int t_length, .int (t_place + 1), .int t_word, .int t_first, .int t_second, .int t_third])), (a_letters, .inl (cI, 80, .inl lettersA))] := hD
            refine lv_aload_n hx hb dX4_readNumber_52 rfl (lv_at hl 1 rfl) ?_
            obtain ⟨r1, hu2, hR⟩ := b1_s hR
            refine cl_ViN (As := []) (rest := []) (wc := [(a_t, .inr (4, [.ref a_letters, .int t_length, .int (t_place + 1), .int t_word, .int t_first, .int t_second, .int t_third])), (a_letters, .inl (cI, 80, .inl lettersA))]) (wr := []) ⟨hx, hb, hml, hown, hts⟩ (kX4_letterHere l dC dI cI a_t a_letters H.size t_length (t_place + 1) t_word t_first t_second t_third lettersA r1 hu2) (cwV 0 hts gX4_readNumber_X4_letterHere rfl rfl rfl (by decide +kernel) ⟨Nat.le_of_ble_eq_true rfl, Nat.le_of_ble_eq_true rfl⟩) hK hN hP hD hS hA (va_recv hK hP (ci := 4) (q0 := 0) rfl rfl) [0, 1] [] rfl rfl rfl rfl rfl (by decide) rfl hl.1 rfl (Nat.le_of_ble_eq_true rfl) dX4_readNumber_53 (fun H locs hP hD hS => ?_)
            have hP : va_P (dC, dI) vwCl [(a_t, .inr (4, [.ref a_letters, .int t_length, .int (t_place + 1), .int t_word, .int t_first, .int t_second, .int t_third])), (a_letters, .inl (cI, 80, .inl lettersA))] H := hP
            have hD : va_D A [(a_t, .inr (4, [.ref a_letters, .int t_length, .int (t_place + 1), .int t_word, .int t_first, .int t_second, .int t_third])), (a_letters, .inl (cI, 80, .inl lettersA))] := hD
            refine lv_istore_n (lv' := [(3, .int r1), (2, .int (((10 * (if (0 : Int32) < x2 then x2 else (0 : Int32))) + x3) - 48)), (0, .ref a_t), (1, .int x1), (4, .int x4)]) hx hb dX4_readNumber_56 rfl hl (by decide) rfl (fun ls hl => ?_)
            refine lv_iinc (v := (x4 + 1)) (lv' := [(4, .int (x4 + 1)), (3, .int r1), (2, .int (((10 * (if (0 : Int32) < x2 then x2 else (0 : Int32))) + x3) - 48)), (0, .ref a_t), (1, .int x1)]) hx hb dX4_readNumber_57 hl (k := 4) rfl rfl (by decide) rfl (fun ls hl => ?_)
            refine lv_goto (tgt := 10) hx hb dX4_readNumber_60 (by decide) ?_
            exact ih10 (((10 * (if (0 : Int32) < x2 then x2 else (0 : Int32))) + x3) - 48) r1 (x4 + 1) (t_place + 1) _ _ hP hD hS _ (lv_sub hl [3, 4, 2, 1, 0] rfl) hR
  rw [fX4_readNumber] at hR
  refine lv_iconst (v := (-1)) hx hb dX4_readNumber_0 (by decide) ?_
  refine lv_istore_n (lv' := [(2, .int (-1)), (0, .ref a_t), (1, .int x1)]) hx hb dX4_readNumber_1 rfl hl (by decide) rfl (fun ls hl => ?_)
  refine lv_aload_n hx hb dX4_readNumber_2 rfl (lv_at hl 1 rfl) ?_
  obtain ⟨r3, hu4, hR⟩ := b1_s hR
  refine cl_ViN (As := []) (rest := []) (wc := [(a_t, .inr (4, [.ref a_letters, .int t_length, .int t_place, .int t_word, .int t_first, .int t_second, .int t_third])), (a_letters, .inl (cI, 80, .inl lettersA))]) (wr := []) ⟨hx, hb, hml, hown, hts⟩ (kX4_letterHere l dC dI cI a_t a_letters s.heap.size t_length t_place t_word t_first t_second t_third lettersA r3 hu4) (cwV 0 hts gX4_readNumber_X4_letterHere rfl rfl rfl (by decide +kernel) ⟨Nat.le_of_ble_eq_true rfl, Nat.le_of_ble_eq_true rfl⟩) hK hN hP hD hS hA (va_recv hK hP (ci := 4) (q0 := 0) rfl rfl) [0, 1] [] rfl rfl rfl rfl rfl (by decide) rfl hl.1 rfl (Nat.le_of_ble_eq_true rfl) dX4_readNumber_3 (fun H locs hP hD hS => ?_)
  have hP : va_P (dC, dI) vwCl [(a_t, .inr (4, [.ref a_letters, .int t_length, .int t_place, .int t_word, .int t_first, .int t_second, .int t_third])), (a_letters, .inl (cI, 80, .inl lettersA))] H := hP
  have hD : va_D A [(a_t, .inr (4, [.ref a_letters, .int t_length, .int t_place, .int t_word, .int t_first, .int t_second, .int t_third])), (a_letters, .inl (cI, 80, .inl lettersA))] := hD
  refine lv_istore_n (lv' := [(3, .int r3), (2, .int (-1)), (0, .ref a_t), (1, .int x1)]) hx hb dX4_readNumber_6 rfl hl (by decide) rfl (fun ls hl => ?_)
  refine lv_iconst (v := 0) hx hb dX4_readNumber_7 (by decide) ?_
  refine lv_istore (lv' := [(4, .int 0), (3, .int r3), (2, .int (-1)), (0, .ref a_t), (1, .int x1)]) hx hb dX4_readNumber_8 hl (by decide) rfl (fun ls hl => ?_)
  exact K10 (100) (-1) r3 0 t_place _ _ hP hD hS _ (lv_sub hl [3, 4, 2, 1, 0] rfl) hR
def fX4_readTwoDigits (t_length : Int32) (t_place : Int32) (t_third : Int32) (lettersA : Nat → Int32) : Option (Int32 × Int32 × Int32 × Int32) :=
  b2 (fX4_readNumber 1 t_length t_place lettersA) (fun r1 w2 =>
  if 0 ≤ r1 then (
   b2 (fX4_readNumber 1 t_length w2 lettersA) (fun r4 w5 =>
   if r4 < 0 then (
    some (0, w5, r1, r4))
   else (
   some (1, w5, r1, r4))))
  else (
  some (0, w2, r1, t_third)))
set_option maxHeartbeats 4000000 in
set_option maxRecDepth 100000 in
theorem kX4_readTwoDigits (l : Launch) (dC : Nat → ClassId) (dI : Nat → Nat → Nat) (cI : ClassId) (a_t a_letters : Nat) (sz : Nat) (t_length : Int32) (t_place : Int32) (t_word : Int32) (t_first : Int32) (t_second : Int32) (t_third : Int32) (lettersA : Nat → Int32) (R : Int32 × Int32 × Int32 × Int32) (hR : fX4_readTwoDigits t_length t_place t_third lettersA = some R) : Met l yX4_readTwoDigits wsX4_readTwoDigits ({ frames := 2, cells := 0, slots := 0, locals := 45 } : Room) (va_Pc [.ref a_t] (Wp (dC, dI) [(cI, .int)] [(a_t, .inr (4, [.ref a_letters, .int t_length, .int t_place, .int t_word, .int t_first, .int t_second, .int t_third])), (a_letters, .inl (cI, 80, .inl lettersA))] sz)) (va_Qi (fun (r : Int32) (u : Int32 × Int32 × Int32) => (r, u) = R) (Wq (dC, dI) [(a_t, .inr (4, [.ref a_letters, .int t_length, .int t_place, .int t_word, .int t_first, .int t_second, .int t_third])), (a_letters, .inl (cI, 80, .inl lettersA))] sz (fun (u : Int32 × Int32 × Int32) => ([(a_t, .inr (4, [.ref a_letters, .int t_length, .int u.1, .int t_word, .int t_first, .int u.2.1, .int u.2.2])), (a_letters, .inl (cI, 80, .inl lettersA))] : va_W))) (va_A [(a_t, .inr (4, [.ref a_letters, .int t_length, .int t_place, .int t_word, .int t_first, .int t_second, .int t_third])), (a_letters, .inl (cI, 80, .inl lettersA))] sz)) 0 0 (va_A [(a_t, .inr (4, [.ref a_letters, .int t_length, .int t_place, .int t_word, .int t_first, .int t_second, .int t_third])), (a_letters, .inl (cI, 80, .inl lettersA))] sz) := by
  refine Met.ofW (cc := cX4_readTwoDigits) (maxL := 1) (ret := (some .boolean)) (by decide) rfl ?_
  intro p e s m args below meth c s₁ B hml hv
  obtain ⟨hargs, hsz, hP, hK, hD0, hN⟩ := hv
  have hx := B.exec
  have hb := B.bytes
  have hr := B.returns
  have hts := atoms_spec (ws := wsX4_readTwoDigits) B.pre
  have hown : s.vm.findClass RX4 = some m.cls := findClass_of_methodNamed B.named
  have hlocks := B.notSynchronized
  subst hsz
  have hD := hD0.self (sz := s.heap.size)
  obtain ⟨A, hAe⟩ : ∃ A, A = va_A [(a_t, .inr (4, [.ref a_letters, .int t_length, .int t_place, .int t_word, .int t_first, .int t_second, .int t_third])), (a_letters, .inl (cI, 80, .inl lettersA))] s.heap.size := ⟨_, rfl⟩
  rw [← hAe] at hD
  have hA : ∀ q : Nat, s.heap.size ≤ q → A q := fun q h => by rw [hAe]; exact Or.inr h
  have hS : va_S A s.heap s.heap [] := va_S.rf
  have hl := lv_entry ([.ref a_t]) (n := 1) (Nat.le_of_ble_eq_true rfl)
  rw [e_of hargs, lg_entry_eq]
  generalize (lg_sl ([.ref a_t]) ++ List.replicate (1 - (lg_sl ([.ref a_t])).length) Slot.unset).toArray = ls at hl ⊢
  have hl : lv_has ls 1 [(0, .ref a_t)] := hl
  have hinX4 : ∀ w ∈ wsX40, w ∈ wsX4_readTwoDigits := by decide +kernel
  refine w_q ({ frames := 2, cells := 0, slots := 0, locals := 45 } : Room) (fun Q0 hQ => ?_)
  rw [fX4_readTwoDigits] at hR
  refine lv_aload_n hx hb dX4_readTwoDigits_0 rfl (lv_at hl 0 rfl) ?_
  refine lv_aload_n hx hb dX4_readTwoDigits_1 rfl (lv_at hl 0 rfl) ?_
  refine lv_iconst (v := 1) hx hb dX4_readTwoDigits_2 (by decide) ?_
  obtain ⟨r1, w2, hu3, hR⟩ := b2_s hR
  refine cl_ViT (As := [.int 1]) (rest := [.ref a_t]) (wc := [(a_t, .inr (4, [.ref a_letters, .int t_length, .int t_place, .int t_word, .int t_first, .int t_second, .int t_third])), (a_letters, .inl (cI, 80, .inl lettersA))]) (wr := []) ⟨hx, hb, hml, hown, hts⟩ (kX4_readNumber l dC dI cI a_t a_letters s.heap.size 1 t_length t_place t_word t_first t_second t_third lettersA (r1, w2) hu3) (cwV 1 hts gX4_readTwoDigits_X4_readNumber rfl rfl rfl (by decide +kernel) ⟨Nat.le_of_ble_eq_true rfl, Nat.le_of_ble_eq_true rfl⟩) hK hN hP hD hS hA (va_recv hK hP (ci := 4) (q0 := 0) rfl rfl) [0, 1] [] rfl rfl rfl rfl rfl (by decide) rfl hl.1 rfl (Nat.le_of_ble_eq_true rfl) dX4_readTwoDigits_3 (fun H locs hP hD hS => ?_)
  have hP : va_P (dC, dI) vwCl [(a_t, .inr (4, [.ref a_letters, .int t_length, .int w2, .int t_word, .int t_first, .int t_second, .int t_third])), (a_letters, .inl (cI, 80, .inl lettersA))] H := hP
  have hD : va_D A [(a_t, .inr (4, [.ref a_letters, .int t_length, .int w2, .int t_word, .int t_first, .int t_second, .int t_third])), (a_letters, .inl (cI, 80, .inl lettersA))] := hD
  refine va_put (D := (dC, dI)) (ci := 4) (v := .int r1) (ty := .int) (C := RX4) (T := TX4) (N := 7) hx hb hts hinX4 tyX4 tyX4_ok nmX4 hown hK hP hD hS 0 rfl rfl 5 (by decide) (hts (.fieldLink RX4 40 "PaperInBin$Text" "second" "I") (by decide +kernel)) (fun _ h9 => h9) rfl (tyX4_ok 5 (by decide)) rfl rfl (Nat.le_of_ble_eq_true rfl) dX4_readTwoDigits_6 (fun H locs hP hD hS => ?_)
  have hP : va_P (dC, dI) vwCl [(a_t, .inr (4, [.ref a_letters, .int t_length, .int w2, .int t_word, .int t_first, .int r1, .int t_third])), (a_letters, .inl (cI, 80, .inl lettersA))] H := hP
  have hD : va_D A [(a_t, .inr (4, [.ref a_letters, .int t_length, .int w2, .int t_word, .int t_first, .int r1, .int t_third])), (a_letters, .inl (cI, 80, .inl lettersA))] := hD
  refine lv_aload_n hx hb dX4_readTwoDigits_9 rfl (lv_at hl 0 rfl) ?_
  refine va_get (D := (dC, dI)) (ci := 4) (v := .int r1) (C := RX4) (T := TX4) (N := 7) hx hb hts hinX4 hown hK hP 0 rfl rfl 5 (by decide) (hts (.fieldLink RX4 40 "PaperInBin$Text" "second" "I") (by decide +kernel)) (fun _ h9 => h9) rfl dX4_readTwoDigits_10 ?_
  refine lv_if_ge (tgt := 18) hx hb dX4_readTwoDigits_13 (by decide) (fun c13 => ?_) (fun c13 => ?_)
  · have hR := (if_pos c13).symm.trans hR
    refine lv_aload_n hx hb dX4_readTwoDigits_18 rfl (lv_at hl 0 rfl) ?_
    refine lv_aload_n hx hb dX4_readTwoDigits_19 rfl (lv_at hl 0 rfl) ?_
    refine lv_iconst (v := 1) hx hb dX4_readTwoDigits_20 (by decide) ?_
    obtain ⟨r4, w5, hu6, hR⟩ := b2_s hR
    refine cl_ViT (As := [.int 1]) (rest := [.ref a_t]) (wc := [(a_t, .inr (4, [.ref a_letters, .int t_length, .int w2, .int t_word, .int t_first, .int r1, .int t_third])), (a_letters, .inl (cI, 80, .inl lettersA))]) (wr := []) ⟨hx, hb, hml, hown, hts⟩ (kX4_readNumber l dC dI cI a_t a_letters H.size 1 t_length w2 t_word t_first r1 t_third lettersA (r4, w5) hu6) (cwV 1 hts gX4_readTwoDigits_X4_readNumber rfl rfl rfl (by decide +kernel) ⟨Nat.le_of_ble_eq_true rfl, Nat.le_of_ble_eq_true rfl⟩) hK hN hP hD hS hA (va_recv hK hP (ci := 4) (q0 := 0) rfl rfl) [0, 1] [] rfl rfl rfl rfl rfl (by decide) rfl hl.1 rfl (Nat.le_of_ble_eq_true rfl) dX4_readTwoDigits_21 (fun H locs hP hD hS => ?_)
    have hP : va_P (dC, dI) vwCl [(a_t, .inr (4, [.ref a_letters, .int t_length, .int w5, .int t_word, .int t_first, .int r1, .int t_third])), (a_letters, .inl (cI, 80, .inl lettersA))] H := hP
    have hD : va_D A [(a_t, .inr (4, [.ref a_letters, .int t_length, .int w5, .int t_word, .int t_first, .int r1, .int t_third])), (a_letters, .inl (cI, 80, .inl lettersA))] := hD
    refine va_put (D := (dC, dI)) (ci := 4) (v := .int r4) (ty := .int) (C := RX4) (T := TX4) (N := 7) hx hb hts hinX4 tyX4 tyX4_ok nmX4 hown hK hP hD hS 0 rfl rfl 6 (by decide) (hts (.fieldLink RX4 43 "PaperInBin$Text" "third" "I") (by decide +kernel)) (fun _ h9 => h9) rfl (tyX4_ok 6 (by decide)) rfl rfl (Nat.le_of_ble_eq_true rfl) dX4_readTwoDigits_24 (fun H locs hP hD hS => ?_)
    have hP : va_P (dC, dI) vwCl [(a_t, .inr (4, [.ref a_letters, .int t_length, .int w5, .int t_word, .int t_first, .int r1, .int r4])), (a_letters, .inl (cI, 80, .inl lettersA))] H := hP
    have hD : va_D A [(a_t, .inr (4, [.ref a_letters, .int t_length, .int w5, .int t_word, .int t_first, .int r1, .int r4])), (a_letters, .inl (cI, 80, .inl lettersA))] := hD
    refine lv_aload_n hx hb dX4_readTwoDigits_27 rfl (lv_at hl 0 rfl) ?_
    refine va_get (D := (dC, dI)) (ci := 4) (v := .int r4) (C := RX4) (T := TX4) (N := 7) hx hb hts hinX4 hown hK hP 0 rfl rfl 6 (by decide) (hts (.fieldLink RX4 43 "PaperInBin$Text" "third" "I") (by decide +kernel)) (fun _ h9 => h9) rfl dX4_readTwoDigits_28 ?_
    refine lv_if_lt (tgt := 38) hx hb dX4_readTwoDigits_31 (by decide) (fun c31 => ?_) (fun c31 => ?_)
    · have hR := (if_pos c31).symm.trans hR
      refine lv_iconst (v := 0) hx hb dX4_readTwoDigits_38 (by decide) ?_
      subst hQ
      subst hAe
      exact W.zret (ty := .boolean) (v := 0) hx hb hr rfl (fun t ht hW => ⟨⟨0, (w5, r1, r4), rfl, Option.some.inj hR, by rw [ht]; exact hP, hD⟩, hS.F ht⟩) hS.2.2 dX4_readTwoDigits_39
    · have hR := (if_neg c31).symm.trans hR
      refine lv_iconst (v := 1) hx hb dX4_readTwoDigits_34 (by decide) ?_
      refine lv_goto (tgt := 39) hx hb dX4_readTwoDigits_35 (by decide) ?_
      subst hQ
      subst hAe
      exact W.zret (ty := .boolean) (v := 1) hx hb hr rfl (fun t ht hW => ⟨⟨1, (w5, r1, r4), rfl, Option.some.inj hR, by rw [ht]; exact hP, hD⟩, hS.F ht⟩) hS.2.2 dX4_readTwoDigits_39
  · have hR := (if_neg c13).symm.trans hR
    refine lv_iconst (v := 0) hx hb dX4_readTwoDigits_16 (by decide) ?_
    subst hQ
    subst hAe
    exact W.zret (ty := .boolean) (v := 0) hx hb hr rfl (fun t ht hW => ⟨⟨0, (w2, r1, t_third), rfl, Option.some.inj hR, by rw [ht]; exact hP, hD⟩, hS.F ht⟩) hS.2.2 dX4_readTwoDigits_17
def fX4_passLetter (x1 : Int32) (t_length : Int32) (t_place : Int32) (lettersA : Nat → Int32) : Option (Int32 × Int32) :=
  b1 (fX4_letterHere t_length t_place lettersA) (fun r1 =>
  if r1 = x1 then (
   some (1, (t_place + 1)))
  else (
  some (0, t_place)))
set_option maxHeartbeats 4000000 in
set_option maxRecDepth 100000 in
theorem kX4_passLetter (l : Launch) (dC : Nat → ClassId) (dI : Nat → Nat → Nat) (cI : ClassId) (a_t a_letters : Nat) (sz : Nat) (x1 : Int32) (t_length : Int32) (t_place : Int32) (t_word : Int32) (t_first : Int32) (t_second : Int32) (t_third : Int32) (lettersA : Nat → Int32) (R : Int32 × Int32) (hR : fX4_passLetter x1 t_length t_place lettersA = some R) : Met l yX4_passLetter wsX4_passLetter ({ frames := 1, cells := 0, slots := 0, locals := 20 } : Room) (va_Pc [.ref a_t, .int x1] (Wp (dC, dI) [(cI, .int)] [(a_t, .inr (4, [.ref a_letters, .int t_length, .int t_place, .int t_word, .int t_first, .int t_second, .int t_third])), (a_letters, .inl (cI, 80, .inl lettersA))] sz)) (va_Qi (fun (r : Int32) (u : Int32) => (r, u) = R) (Wq (dC, dI) [(a_t, .inr (4, [.ref a_letters, .int t_length, .int t_place, .int t_word, .int t_first, .int t_second, .int t_third])), (a_letters, .inl (cI, 80, .inl lettersA))] sz (fun (u : Int32) => ([(a_t, .inr (4, [.ref a_letters, .int t_length, .int u, .int t_word, .int t_first, .int t_second, .int t_third])), (a_letters, .inl (cI, 80, .inl lettersA))] : va_W))) (va_A [(a_t, .inr (4, [.ref a_letters, .int t_length, .int t_place, .int t_word, .int t_first, .int t_second, .int t_third])), (a_letters, .inl (cI, 80, .inl lettersA))] sz)) 0 0 (va_A [(a_t, .inr (4, [.ref a_letters, .int t_length, .int t_place, .int t_word, .int t_first, .int t_second, .int t_third])), (a_letters, .inl (cI, 80, .inl lettersA))] sz) := by
  refine Met.ofW (cc := cX4_passLetter) (maxL := 2) (ret := (some .boolean)) (by decide) rfl ?_
  intro p e s m args below meth c s₁ B hml hv
  obtain ⟨hargs, hsz, hP, hK, hD0, hN⟩ := hv
  have hx := B.exec
  have hb := B.bytes
  have hr := B.returns
  have hts := atoms_spec (ws := wsX4_passLetter) B.pre
  have hown : s.vm.findClass RX4 = some m.cls := findClass_of_methodNamed B.named
  have hlocks := B.notSynchronized
  subst hsz
  have hD := hD0.self (sz := s.heap.size)
  obtain ⟨A, hAe⟩ : ∃ A, A = va_A [(a_t, .inr (4, [.ref a_letters, .int t_length, .int t_place, .int t_word, .int t_first, .int t_second, .int t_third])), (a_letters, .inl (cI, 80, .inl lettersA))] s.heap.size := ⟨_, rfl⟩
  rw [← hAe] at hD
  have hA : ∀ q : Nat, s.heap.size ≤ q → A q := fun q h => by rw [hAe]; exact Or.inr h
  have hS : va_S A s.heap s.heap [] := va_S.rf
  have hl := lv_entry ([.ref a_t, .int x1]) (n := 2) (Nat.le_of_ble_eq_true rfl)
  rw [e_of hargs, lg_entry_eq]
  generalize (lg_sl ([.ref a_t, .int x1]) ++ List.replicate (2 - (lg_sl ([.ref a_t, .int x1])).length) Slot.unset).toArray = ls at hl ⊢
  have hl : lv_has ls 2 [(0, .ref a_t), (1, .int x1)] := hl
  have hinX4 : ∀ w ∈ wsX40, w ∈ wsX4_passLetter := by decide +kernel
  refine w_q ({ frames := 1, cells := 0, slots := 0, locals := 20 } : Room) (fun Q0 hQ => ?_)
  rw [fX4_passLetter] at hR
  refine lv_aload_n hx hb dX4_passLetter_0 rfl (lv_at hl 0 rfl) ?_
  obtain ⟨r1, hu2, hR⟩ := b1_s hR
  refine cl_ViN (As := []) (rest := []) (wc := [(a_t, .inr (4, [.ref a_letters, .int t_length, .int t_place, .int t_word, .int t_first, .int t_second, .int t_third])), (a_letters, .inl (cI, 80, .inl lettersA))]) (wr := []) ⟨hx, hb, hml, hown, hts⟩ (kX4_letterHere l dC dI cI a_t a_letters s.heap.size t_length t_place t_word t_first t_second t_third lettersA r1 hu2) (cwV 0 hts gX4_passLetter_X4_letterHere rfl rfl rfl (by decide +kernel) ⟨Nat.le_of_ble_eq_true rfl, Nat.le_of_ble_eq_true rfl⟩) hK hN hP hD hS hA (va_recv hK hP (ci := 4) (q0 := 0) rfl rfl) [0, 1] [] rfl rfl rfl rfl rfl (by decide) rfl hl.1 rfl (Nat.le_of_ble_eq_true rfl) dX4_passLetter_1 (fun H locs hP hD hS => ?_)
  have hP : va_P (dC, dI) vwCl [(a_t, .inr (4, [.ref a_letters, .int t_length, .int t_place, .int t_word, .int t_first, .int t_second, .int t_third])), (a_letters, .inl (cI, 80, .inl lettersA))] H := hP
  have hD : va_D A [(a_t, .inr (4, [.ref a_letters, .int t_length, .int t_place, .int t_word, .int t_first, .int t_second, .int t_third])), (a_letters, .inl (cI, 80, .inl lettersA))] := hD
  refine lv_iload_n hx hb dX4_passLetter_4 rfl (lv_at hl 1 rfl) ?_
  refine lv_icmp_eq (tgt := 10) hx hb dX4_passLetter_5 (by decide) (fun c5 => ?_) (fun c5 => ?_)
  · have hR := (if_pos c5).symm.trans hR
    refine lv_aload_n hx hb dX4_passLetter_10 rfl (lv_at hl 0 rfl) ?_
    refine lv_dup hx hb dX4_passLetter_11 rfl ?_
    refine va_get (D := (dC, dI)) (ci := 4) (v := .int t_place) (C := RX4) (T := TX4) (N := 7) hx hb hts hinX4 hown hK hP 0 rfl rfl 2 (by decide) (hts (.fieldLink RX4 23 "PaperInBin$Text" "place" "I") (by decide +kernel)) (fun _ h9 => h9) rfl dX4_passLetter_12 ?_
    refine lv_iconst (v := 1) hx hb dX4_passLetter_15 (by decide) ?_
    refine lv_iadd hx hb dX4_passLetter_16 ?_
    refine va_put (D := (dC, dI)) (ci := 4) (v := .int (t_place + 1)) (ty := .int) (C := RX4) (T := TX4) (N := 7) hx hb hts hinX4 tyX4 tyX4_ok nmX4 hown hK hP hD hS 0 rfl rfl 2 (by decide) (hts (.fieldLink RX4 23 "PaperInBin$Text" "place" "I") (by decide +kernel)) (fun _ h9 => h9) rfl (tyX4_ok 2 (by decide)) rfl rfl (Nat.le_of_ble_eq_true rfl) dX4_passLetter_17 (fun H locs hP hD hS => ?_)
    have hP : va_P (dC, dI) vwCl [(a_t, .inr (4, [.ref a_letters, .int t_length, .int (t_place + 1), .int t_word, .int t_first, .int t_second, .int t_third])), (a_letters, .inl (cI, 80, .inl lettersA))] H := hP
    have hD : va_D A [(a_t, .inr (4, [.ref a_letters, .int t_length, .int (t_place + 1), .int t_word, .int t_first, .int t_second, .int t_third])), (a_letters, .inl (cI, 80, .inl lettersA))] := hD
    refine lv_iconst (v := 1) hx hb dX4_passLetter_20 (by decide) ?_
    subst hQ
    subst hAe
    exact W.zret (ty := .boolean) (v := 1) hx hb hr rfl (fun t ht hW => ⟨⟨1, ((t_place + 1)), rfl, Option.some.inj hR, by rw [ht]; exact hP, hD⟩, hS.F ht⟩) hS.2.2 dX4_passLetter_21
  · have hR := (if_neg c5).symm.trans hR
    refine lv_iconst (v := 0) hx hb dX4_passLetter_8 (by decide) ?_
    subst hQ
    subst hAe
    exact W.zret (ty := .boolean) (v := 0) hx hb hr rfl (fun t ht hW => ⟨⟨0, (t_place), rfl, Option.some.inj hR, by rw [ht]; exact hP, hD⟩, hS.F ht⟩) hS.2.2 dX4_passLetter_9
def fX4_readFirst (x1 : Int32) (t_length : Int32) (t_place : Int32) (lettersA : Nat → Int32) : Option (Int32 × Int32 × Int32) :=
  b2 (fX4_readNumber x1 t_length t_place lettersA) (fun r1 w2 =>
  if r1 < 0 then (
   some (0, w2, r1))
  else (
  some (1, w2, r1)))
set_option maxHeartbeats 4000000 in
set_option maxRecDepth 100000 in
theorem kX4_readFirst (l : Launch) (dC : Nat → ClassId) (dI : Nat → Nat → Nat) (cI : ClassId) (a_t a_letters : Nat) (sz : Nat) (x1 : Int32) (t_length : Int32) (t_place : Int32) (t_word : Int32) (t_first : Int32) (t_second : Int32) (t_third : Int32) (lettersA : Nat → Int32) (R : Int32 × Int32 × Int32) (hR : fX4_readFirst x1 t_length t_place lettersA = some R) : Met l yX4_readFirst wsX4_readFirst ({ frames := 2, cells := 0, slots := 0, locals := 45 } : Room) (va_Pc [.ref a_t, .int x1] (Wp (dC, dI) [(cI, .int)] [(a_t, .inr (4, [.ref a_letters, .int t_length, .int t_place, .int t_word, .int t_first, .int t_second, .int t_third])), (a_letters, .inl (cI, 80, .inl lettersA))] sz)) (va_Qi (fun (r : Int32) (u : Int32 × Int32) => (r, u) = R) (Wq (dC, dI) [(a_t, .inr (4, [.ref a_letters, .int t_length, .int t_place, .int t_word, .int t_first, .int t_second, .int t_third])), (a_letters, .inl (cI, 80, .inl lettersA))] sz (fun (u : Int32 × Int32) => ([(a_t, .inr (4, [.ref a_letters, .int t_length, .int u.1, .int t_word, .int u.2, .int t_second, .int t_third])), (a_letters, .inl (cI, 80, .inl lettersA))] : va_W))) (va_A [(a_t, .inr (4, [.ref a_letters, .int t_length, .int t_place, .int t_word, .int t_first, .int t_second, .int t_third])), (a_letters, .inl (cI, 80, .inl lettersA))] sz)) 0 0 (va_A [(a_t, .inr (4, [.ref a_letters, .int t_length, .int t_place, .int t_word, .int t_first, .int t_second, .int t_third])), (a_letters, .inl (cI, 80, .inl lettersA))] sz) := by
  refine Met.ofW (cc := cX4_readFirst) (maxL := 2) (ret := (some .boolean)) (by decide) rfl ?_
  intro p e s m args below meth c s₁ B hml hv
  obtain ⟨hargs, hsz, hP, hK, hD0, hN⟩ := hv
  have hx := B.exec
  have hb := B.bytes
  have hr := B.returns
  have hts := atoms_spec (ws := wsX4_readFirst) B.pre
  have hown : s.vm.findClass RX4 = some m.cls := findClass_of_methodNamed B.named
  have hlocks := B.notSynchronized
  subst hsz
  have hD := hD0.self (sz := s.heap.size)
  obtain ⟨A, hAe⟩ : ∃ A, A = va_A [(a_t, .inr (4, [.ref a_letters, .int t_length, .int t_place, .int t_word, .int t_first, .int t_second, .int t_third])), (a_letters, .inl (cI, 80, .inl lettersA))] s.heap.size := ⟨_, rfl⟩
  rw [← hAe] at hD
  have hA : ∀ q : Nat, s.heap.size ≤ q → A q := fun q h => by rw [hAe]; exact Or.inr h
  have hS : va_S A s.heap s.heap [] := va_S.rf
  have hl := lv_entry ([.ref a_t, .int x1]) (n := 2) (Nat.le_of_ble_eq_true rfl)
  rw [e_of hargs, lg_entry_eq]
  generalize (lg_sl ([.ref a_t, .int x1]) ++ List.replicate (2 - (lg_sl ([.ref a_t, .int x1])).length) Slot.unset).toArray = ls at hl ⊢
  have hl : lv_has ls 2 [(0, .ref a_t), (1, .int x1)] := hl
  have hinX4 : ∀ w ∈ wsX40, w ∈ wsX4_readFirst := by decide +kernel
  refine w_q ({ frames := 2, cells := 0, slots := 0, locals := 45 } : Room) (fun Q0 hQ => ?_)
  rw [fX4_readFirst] at hR
  refine lv_aload_n hx hb dX4_readFirst_0 rfl (lv_at hl 0 rfl) ?_
  refine lv_aload_n hx hb dX4_readFirst_1 rfl (lv_at hl 0 rfl) ?_
  refine lv_iload_n hx hb dX4_readFirst_2 rfl (lv_at hl 1 rfl) ?_
  obtain ⟨r1, w2, hu3, hR⟩ := b2_s hR
  refine cl_ViT (As := [.int x1]) (rest := [.ref a_t]) (wc := [(a_t, .inr (4, [.ref a_letters, .int t_length, .int t_place, .int t_word, .int t_first, .int t_second, .int t_third])), (a_letters, .inl (cI, 80, .inl lettersA))]) (wr := []) ⟨hx, hb, hml, hown, hts⟩ (kX4_readNumber l dC dI cI a_t a_letters s.heap.size x1 t_length t_place t_word t_first t_second t_third lettersA (r1, w2) hu3) (cwV 1 hts gX4_readFirst_X4_readNumber rfl rfl rfl (by decide +kernel) ⟨Nat.le_of_ble_eq_true rfl, Nat.le_of_ble_eq_true rfl⟩) hK hN hP hD hS hA (va_recv hK hP (ci := 4) (q0 := 0) rfl rfl) [0, 1] [] rfl rfl rfl rfl rfl (by decide) rfl hl.1 rfl (Nat.le_of_ble_eq_true rfl) dX4_readFirst_3 (fun H locs hP hD hS => ?_)
  have hP : va_P (dC, dI) vwCl [(a_t, .inr (4, [.ref a_letters, .int t_length, .int w2, .int t_word, .int t_first, .int t_second, .int t_third])), (a_letters, .inl (cI, 80, .inl lettersA))] H := hP
  have hD : va_D A [(a_t, .inr (4, [.ref a_letters, .int t_length, .int w2, .int t_word, .int t_first, .int t_second, .int t_third])), (a_letters, .inl (cI, 80, .inl lettersA))] := hD
  refine va_put (D := (dC, dI)) (ci := 4) (v := .int r1) (ty := .int) (C := RX4) (T := TX4) (N := 7) hx hb hts hinX4 tyX4 tyX4_ok nmX4 hown hK hP hD hS 0 rfl rfl 4 (by decide) (hts (.fieldLink RX4 37 "PaperInBin$Text" "first" "I") (by decide +kernel)) (fun _ h9 => h9) rfl (tyX4_ok 4 (by decide)) rfl rfl (Nat.le_of_ble_eq_true rfl) dX4_readFirst_6 (fun H locs hP hD hS => ?_)
  have hP : va_P (dC, dI) vwCl [(a_t, .inr (4, [.ref a_letters, .int t_length, .int w2, .int t_word, .int r1, .int t_second, .int t_third])), (a_letters, .inl (cI, 80, .inl lettersA))] H := hP
  have hD : va_D A [(a_t, .inr (4, [.ref a_letters, .int t_length, .int w2, .int t_word, .int r1, .int t_second, .int t_third])), (a_letters, .inl (cI, 80, .inl lettersA))] := hD
  refine lv_aload_n hx hb dX4_readFirst_9 rfl (lv_at hl 0 rfl) ?_
  refine va_get (D := (dC, dI)) (ci := 4) (v := .int r1) (C := RX4) (T := TX4) (N := 7) hx hb hts hinX4 hown hK hP 0 rfl rfl 4 (by decide) (hts (.fieldLink RX4 37 "PaperInBin$Text" "first" "I") (by decide +kernel)) (fun _ h9 => h9) rfl dX4_readFirst_10 ?_
  refine lv_if_lt (tgt := 20) hx hb dX4_readFirst_13 (by decide) (fun c13 => ?_) (fun c13 => ?_)
  · have hR := (if_pos c13).symm.trans hR
    refine lv_iconst (v := 0) hx hb dX4_readFirst_20 (by decide) ?_
    subst hQ
    subst hAe
    exact W.zret (ty := .boolean) (v := 0) hx hb hr rfl (fun t ht hW => ⟨⟨0, (w2, r1), rfl, Option.some.inj hR, by rw [ht]; exact hP, hD⟩, hS.F ht⟩) hS.2.2 dX4_readFirst_21
  · have hR := (if_neg c13).symm.trans hR
    refine lv_iconst (v := 1) hx hb dX4_readFirst_16 (by decide) ?_
    refine lv_goto (tgt := 21) hx hb dX4_readFirst_17 (by decide) ?_
    subst hQ
    subst hAe
    exact W.zret (ty := .boolean) (v := 1) hx hb hr rfl (fun t ht hW => ⟨⟨1, (w2, r1), rfl, Option.some.inj hR, by rw [ht]; exact hP, hD⟩, hS.F ht⟩) hS.2.2 dX4_readFirst_21
def jX4_readFan_54 (t_length : Int32) (lettersA : Nat → Int32) (t_place : Int32) (t_first : Int32)  : Option (Int32 × Int32 × Int32 × Int32) :=
  b2 (fX4_readNumber 1 t_length t_place lettersA) (fun r1 w2 =>
  if r1 < 0 then (
   some (0, w2, t_first, r1))
  else (
  some (1, w2, t_first, r1)))
def jX4_readFan_19 (t_length : Int32) (lettersA : Nat → Int32) (x1 : Int32) (t_place : Int32) (t_second : Int32)  : Option (Int32 × Int32 × Int32 × Int32) :=
  b3 (fX4_readFirst 1 t_length (t_place + 1) lettersA) (fun r4 w5 w6 =>
  if r4 = 0 then (
   some (0, w5, w6, t_second))
  else (
  if x1 = 45 then (
   jX4_readFan_54 t_length lettersA w5 (-w6))
  else (
  jX4_readFan_54 t_length lettersA w5 w6)))
def fX4_readFan (t_length : Int32) (t_place : Int32) (t_first : Int32) (t_second : Int32) (lettersA : Nat → Int32) : Option (Int32 × Int32 × Int32 × Int32) :=
  b1 (fX4_letterHere t_length t_place lettersA) (fun r8 =>
  if r8 = 43 then (
   jX4_readFan_19 t_length lettersA r8 t_place t_second)
  else (
  if r8 = 45 then (
   jX4_readFan_19 t_length lettersA r8 t_place t_second)
  else (
  some (0, t_place, t_first, t_second))))
set_option maxHeartbeats 4000000 in
set_option maxRecDepth 100000 in
theorem kX4_readFan (l : Launch) (dC : Nat → ClassId) (dI : Nat → Nat → Nat) (cI : ClassId) (a_t a_letters : Nat) (sz : Nat) (t_length : Int32) (t_place : Int32) (t_word : Int32) (t_first : Int32) (t_second : Int32) (t_third : Int32) (lettersA : Nat → Int32) (R : Int32 × Int32 × Int32 × Int32) (hR : fX4_readFan t_length t_place t_first t_second lettersA = some R) : Met l yX4_readFan wsX4_readFan ({ frames := 3, cells := 0, slots := 0, locals := 66 } : Room) (va_Pc [.ref a_t] (Wp (dC, dI) [(cI, .int)] [(a_t, .inr (4, [.ref a_letters, .int t_length, .int t_place, .int t_word, .int t_first, .int t_second, .int t_third])), (a_letters, .inl (cI, 80, .inl lettersA))] sz)) (va_Qi (fun (r : Int32) (u : Int32 × Int32 × Int32) => (r, u) = R) (Wq (dC, dI) [(a_t, .inr (4, [.ref a_letters, .int t_length, .int t_place, .int t_word, .int t_first, .int t_second, .int t_third])), (a_letters, .inl (cI, 80, .inl lettersA))] sz (fun (u : Int32 × Int32 × Int32) => ([(a_t, .inr (4, [.ref a_letters, .int t_length, .int u.1, .int t_word, .int u.2.1, .int u.2.2, .int t_third])), (a_letters, .inl (cI, 80, .inl lettersA))] : va_W))) (va_A [(a_t, .inr (4, [.ref a_letters, .int t_length, .int t_place, .int t_word, .int t_first, .int t_second, .int t_third])), (a_letters, .inl (cI, 80, .inl lettersA))] sz)) 0 0 (va_A [(a_t, .inr (4, [.ref a_letters, .int t_length, .int t_place, .int t_word, .int t_first, .int t_second, .int t_third])), (a_letters, .inl (cI, 80, .inl lettersA))] sz) := by
  refine Met.ofW (cc := cX4_readFan) (maxL := 2) (ret := (some .boolean)) (by decide) rfl ?_
  intro p e s m args below meth c s₁ B hml hv
  obtain ⟨hargs, hsz, hP, hK, hD0, hN⟩ := hv
  have hx := B.exec
  have hb := B.bytes
  have hr := B.returns
  have hts := atoms_spec (ws := wsX4_readFan) B.pre
  have hown : s.vm.findClass RX4 = some m.cls := findClass_of_methodNamed B.named
  have hlocks := B.notSynchronized
  subst hsz
  have hD := hD0.self (sz := s.heap.size)
  obtain ⟨A, hAe⟩ : ∃ A, A = va_A [(a_t, .inr (4, [.ref a_letters, .int t_length, .int t_place, .int t_word, .int t_first, .int t_second, .int t_third])), (a_letters, .inl (cI, 80, .inl lettersA))] s.heap.size := ⟨_, rfl⟩
  rw [← hAe] at hD
  have hA : ∀ q : Nat, s.heap.size ≤ q → A q := fun q h => by rw [hAe]; exact Or.inr h
  have hS : va_S A s.heap s.heap [] := va_S.rf
  have hl := lv_entry ([.ref a_t]) (n := 2) (Nat.le_of_ble_eq_true rfl)
  rw [e_of hargs, lg_entry_eq]
  generalize (lg_sl ([.ref a_t]) ++ List.replicate (2 - (lg_sl ([.ref a_t])).length) Slot.unset).toArray = ls at hl ⊢
  have hl : lv_has ls 2 [(0, .ref a_t)] := hl
  have hinX4 : ∀ w ∈ wsX40, w ∈ wsX4_readFan := by decide +kernel
  refine w_q ({ frames := 3, cells := 0, slots := 0, locals := 66 } : Room) (fun Q0 hQ => ?_)
  have K54 : ∀ (t_place : Int32) (t_first : Int32) (t_second : Int32) (H : Heap) (locs : List Loc), va_P (dC, dI) vwCl [(a_t, .inr (4, [.ref a_letters, .int t_length, .int t_place, .int t_word, .int t_first, .int t_second, .int t_third])), (a_letters, .inl (cI, 80, .inl lettersA))] H → va_D A [(a_t, .inr (4, [.ref a_letters, .int t_length, .int t_place, .int t_word, .int t_first, .int t_second, .int t_third])), (a_letters, .inl (cI, 80, .inl lettersA))] → va_S A s.heap H locs → ∀ (ls : Array Slot), lv_has ls 2 [(0, .ref a_t)] → jX4_readFan_54 t_length lettersA t_place t_first = some R → W p l e ({ frames := 3, cells := 0, slots := 0, locals := 66 } : Room) s m args below meth c H locs 0 0 Q0 (F0 m 54 ls []) := by
    intro t_place t_first t_second H locs hP hD hS ls hl hR
    rw [jX4_readFan_54] at hR
    refine lv_aload_n hx hb dX4_readFan_54 rfl (lv_at hl 0 rfl) ?_
    refine lv_aload_n hx hb dX4_readFan_55 rfl (lv_at hl 0 rfl) ?_
    refine lv_iconst (v := 1) hx hb dX4_readFan_56 (by decide) ?_
    obtain ⟨r1, w2, hu3, hR⟩ := b2_s hR
    refine cl_ViT (As := [.int 1]) (rest := [.ref a_t]) (wc := [(a_t, .inr (4, [.ref a_letters, .int t_length, .int t_place, .int t_word, .int t_first, .int t_second, .int t_third])), (a_letters, .inl (cI, 80, .inl lettersA))]) (wr := []) ⟨hx, hb, hml, hown, hts⟩ (kX4_readNumber l dC dI cI a_t a_letters H.size 1 t_length t_place t_word t_first t_second t_third lettersA (r1, w2) hu3) (cwV 1 hts gX4_readFan_X4_readNumber rfl rfl rfl (by decide +kernel) ⟨Nat.le_of_ble_eq_true rfl, Nat.le_of_ble_eq_true rfl⟩) hK hN hP hD hS hA (va_recv hK hP (ci := 4) (q0 := 0) rfl rfl) [0, 1] [] rfl rfl rfl rfl rfl (by decide) rfl hl.1 rfl (Nat.le_of_ble_eq_true rfl) dX4_readFan_57 (fun H locs hP hD hS => ?_)
    have hP : va_P (dC, dI) vwCl [(a_t, .inr (4, [.ref a_letters, .int t_length, .int w2, .int t_word, .int t_first, .int t_second, .int t_third])), (a_letters, .inl (cI, 80, .inl lettersA))] H := hP
    have hD : va_D A [(a_t, .inr (4, [.ref a_letters, .int t_length, .int w2, .int t_word, .int t_first, .int t_second, .int t_third])), (a_letters, .inl (cI, 80, .inl lettersA))] := hD
    refine va_put (D := (dC, dI)) (ci := 4) (v := .int r1) (ty := .int) (C := RX4) (T := TX4) (N := 7) hx hb hts hinX4 tyX4 tyX4_ok nmX4 hown hK hP hD hS 0 rfl rfl 5 (by decide) (hts (.fieldLink RX4 40 "PaperInBin$Text" "second" "I") (by decide +kernel)) (fun _ h9 => h9) rfl (tyX4_ok 5 (by decide)) rfl rfl (Nat.le_of_ble_eq_true rfl) dX4_readFan_60 (fun H locs hP hD hS => ?_)
    have hP : va_P (dC, dI) vwCl [(a_t, .inr (4, [.ref a_letters, .int t_length, .int w2, .int t_word, .int t_first, .int r1, .int t_third])), (a_letters, .inl (cI, 80, .inl lettersA))] H := hP
    have hD : va_D A [(a_t, .inr (4, [.ref a_letters, .int t_length, .int w2, .int t_word, .int t_first, .int r1, .int t_third])), (a_letters, .inl (cI, 80, .inl lettersA))] := hD
    refine lv_aload_n hx hb dX4_readFan_63 rfl (lv_at hl 0 rfl) ?_
    refine va_get (D := (dC, dI)) (ci := 4) (v := .int r1) (C := RX4) (T := TX4) (N := 7) hx hb hts hinX4 hown hK hP 0 rfl rfl 5 (by decide) (hts (.fieldLink RX4 40 "PaperInBin$Text" "second" "I") (by decide +kernel)) (fun _ h9 => h9) rfl dX4_readFan_64 ?_
    refine lv_if_lt (tgt := 74) hx hb dX4_readFan_67 (by decide) (fun c67 => ?_) (fun c67 => ?_)
    · have hR := (if_pos c67).symm.trans hR
      refine lv_iconst (v := 0) hx hb dX4_readFan_74 (by decide) ?_
      subst hQ
      subst hAe
      exact W.zret (ty := .boolean) (v := 0) hx hb hr rfl (fun t ht hW => ⟨⟨0, (w2, t_first, r1), rfl, Option.some.inj hR, by rw [ht]; exact hP, hD⟩, hS.F ht⟩) hS.2.2 dX4_readFan_75
    · have hR := (if_neg c67).symm.trans hR
      refine lv_iconst (v := 1) hx hb dX4_readFan_70 (by decide) ?_
      refine lv_goto (tgt := 75) hx hb dX4_readFan_71 (by decide) ?_
      subst hQ
      subst hAe
      exact W.zret (ty := .boolean) (v := 1) hx hb hr rfl (fun t ht hW => ⟨⟨1, (w2, t_first, r1), rfl, Option.some.inj hR, by rw [ht]; exact hP, hD⟩, hS.F ht⟩) hS.2.2 dX4_readFan_75
  have K19 : ∀ (x1 : Int32) (t_place : Int32) (t_first : Int32) (t_second : Int32) (H : Heap) (locs : List Loc), va_P (dC, dI) vwCl [(a_t, .inr (4, [.ref a_letters, .int t_length, .int t_place, .int t_word, .int t_first, .int t_second, .int t_third])), (a_letters, .inl (cI, 80, .inl lettersA))] H → va_D A [(a_t, .inr (4, [.ref a_letters, .int t_length, .int t_place, .int t_word, .int t_first, .int t_second, .int t_third])), (a_letters, .inl (cI, 80, .inl lettersA))] → va_S A s.heap H locs → ∀ (ls : Array Slot), lv_has ls 2 [(0, .ref a_t), (1, .int x1)] → jX4_readFan_19 t_length lettersA x1 t_place t_second = some R → W p l e ({ frames := 3, cells := 0, slots := 0, locals := 66 } : Room) s m args below meth c H locs 0 0 Q0 (F0 m 19 ls []) := by
    intro x1 t_place t_first t_second H locs hP hD hS ls hl hR
    rw [jX4_readFan_19] at hR
    refine lv_aload_n hx hb dX4_readFan_19 rfl (lv_at hl 0 rfl) ?_
    refine lv_dup hx hb dX4_readFan_20 rfl ?_
    refine va_get (D := (dC, dI)) (ci := 4) (v := .int t_place) (C := RX4) (T := TX4) (N := 7) hx hb hts hinX4 hown hK hP 0 rfl rfl 2 (by decide) (hts (.fieldLink RX4 23 "PaperInBin$Text" "place" "I") (by decide +kernel)) (fun _ h9 => h9) rfl dX4_readFan_21 ?_
    refine lv_iconst (v := 1) hx hb dX4_readFan_24 (by decide) ?_
    refine lv_iadd hx hb dX4_readFan_25 ?_
    refine va_put (D := (dC, dI)) (ci := 4) (v := .int (t_place + 1)) (ty := .int) (C := RX4) (T := TX4) (N := 7) hx hb hts hinX4 tyX4 tyX4_ok nmX4 hown hK hP hD hS 0 rfl rfl 2 (by decide) (hts (.fieldLink RX4 23 "PaperInBin$Text" "place" "I") (by decide +kernel)) (fun _ h9 => h9) rfl (tyX4_ok 2 (by decide)) rfl rfl (Nat.le_of_ble_eq_true rfl) dX4_readFan_26 (fun H locs hP hD hS => ?_)
    have hP : va_P (dC, dI) vwCl [(a_t, .inr (4, [.ref a_letters, .int t_length, .int (t_place + 1), .int t_word, .int t_first, .int t_second, .int t_third])), (a_letters, .inl (cI, 80, .inl lettersA))] H := hP
    have hD : va_D A [(a_t, .inr (4, [.ref a_letters, .int t_length, .int (t_place + 1), .int t_word, .int t_first, .int t_second, .int t_third])), (a_letters, .inl (cI, 80, .inl lettersA))] := hD
    refine lv_aload_n hx hb dX4_readFan_29 rfl (lv_at hl 0 rfl) ?_
    refine lv_iconst (v := 1) hx hb dX4_readFan_30 (by decide) ?_
    obtain ⟨r4, w5, w6, hu7, hR⟩ := b3_s hR
    refine cl_ViT (As := [.int 1]) (rest := []) (wc := [(a_t, .inr (4, [.ref a_letters, .int t_length, .int (t_place + 1), .int t_word, .int t_first, .int t_second, .int t_third])), (a_letters, .inl (cI, 80, .inl lettersA))]) (wr := []) ⟨hx, hb, hml, hown, hts⟩ (kX4_readFirst l dC dI cI a_t a_letters H.size 1 t_length (t_place + 1) t_word t_first t_second t_third lettersA (r4, w5, w6) hu7) (cwV 1 hts gX4_readFan_X4_readFirst rfl rfl rfl (by decide +kernel) ⟨Nat.le_of_ble_eq_true rfl, Nat.le_of_ble_eq_true rfl⟩) hK hN hP hD hS hA (va_recv hK hP (ci := 4) (q0 := 0) rfl rfl) [0, 1] [] rfl rfl rfl rfl rfl (by decide) rfl hl.1 rfl (Nat.le_of_ble_eq_true rfl) dX4_readFan_31 (fun H locs hP hD hS => ?_)
    have hP : va_P (dC, dI) vwCl [(a_t, .inr (4, [.ref a_letters, .int t_length, .int w5, .int t_word, .int w6, .int t_second, .int t_third])), (a_letters, .inl (cI, 80, .inl lettersA))] H := hP
    have hD : va_D A [(a_t, .inr (4, [.ref a_letters, .int t_length, .int w5, .int t_word, .int w6, .int t_second, .int t_third])), (a_letters, .inl (cI, 80, .inl lettersA))] := hD
    refine lv_if_ne (tgt := 39) hx hb dX4_readFan_34 (by decide) (fun c34 => ?_) (fun c34 => ?_)
    · have hR := (if_neg c34).symm.trans hR
      refine lv_iload_n hx hb dX4_readFan_39 rfl (lv_at hl 1 rfl) ?_
      refine lv_bipush (v := 45) hx hb dX4_readFan_40 (by decide) ?_
      refine lv_icmp_ne (tgt := 54) hx hb dX4_readFan_42 (by decide) (fun c42 => ?_) (fun c42 => ?_)
      · have hR := (if_neg c42).symm.trans hR
        exact K54 w5 w6 t_second _ _ hP hD hS _ (lv_sub hl [0] rfl) hR
      · have hR := (if_pos c42).symm.trans hR
        refine lv_aload_n hx hb dX4_readFan_45 rfl (lv_at hl 0 rfl) ?_
        refine lv_aload_n hx hb dX4_readFan_46 rfl (lv_at hl 0 rfl) ?_
        refine va_get (D := (dC, dI)) (ci := 4) (v := .int w6) (C := RX4) (T := TX4) (N := 7) hx hb hts hinX4 hown hK hP 0 rfl rfl 4 (by decide) (hts (.fieldLink RX4 37 "PaperInBin$Text" "first" "I") (by decide +kernel)) (fun _ h9 => h9) rfl dX4_readFan_47 ?_
        refine lv_ineg hx hb dX4_readFan_50 ?_
        refine va_put (D := (dC, dI)) (ci := 4) (v := .int (-w6)) (ty := .int) (C := RX4) (T := TX4) (N := 7) hx hb hts hinX4 tyX4 tyX4_ok nmX4 hown hK hP hD hS 0 rfl rfl 4 (by decide) (hts (.fieldLink RX4 37 "PaperInBin$Text" "first" "I") (by decide +kernel)) (fun _ h9 => h9) rfl (tyX4_ok 4 (by decide)) rfl rfl (Nat.le_of_ble_eq_true rfl) dX4_readFan_51 (fun H locs hP hD hS => ?_)
        have hP : va_P (dC, dI) vwCl [(a_t, .inr (4, [.ref a_letters, .int t_length, .int w5, .int t_word, .int (-w6), .int t_second, .int t_third])), (a_letters, .inl (cI, 80, .inl lettersA))] H := hP
        have hD : va_D A [(a_t, .inr (4, [.ref a_letters, .int t_length, .int w5, .int t_word, .int (-w6), .int t_second, .int t_third])), (a_letters, .inl (cI, 80, .inl lettersA))] := hD
        exact K54 w5 (-w6) t_second _ _ hP hD hS _ (lv_sub hl [0] rfl) hR
    · have hR := (if_pos c34).symm.trans hR
      refine lv_iconst (v := 0) hx hb dX4_readFan_37 (by decide) ?_
      subst hQ
      subst hAe
      exact W.zret (ty := .boolean) (v := 0) hx hb hr rfl (fun t ht hW => ⟨⟨0, (w5, w6, t_second), rfl, Option.some.inj hR, by rw [ht]; exact hP, hD⟩, hS.F ht⟩) hS.2.2 dX4_readFan_38
  rw [fX4_readFan] at hR
  refine lv_aload_n hx hb dX4_readFan_0 rfl (lv_at hl 0 rfl) ?_
  obtain ⟨r8, hu9, hR⟩ := b1_s hR
  refine cl_ViN (As := []) (rest := []) (wc := [(a_t, .inr (4, [.ref a_letters, .int t_length, .int t_place, .int t_word, .int t_first, .int t_second, .int t_third])), (a_letters, .inl (cI, 80, .inl lettersA))]) (wr := []) ⟨hx, hb, hml, hown, hts⟩ (kX4_letterHere l dC dI cI a_t a_letters s.heap.size t_length t_place t_word t_first t_second t_third lettersA r8 hu9) (cwV 0 hts gX4_readFan_X4_letterHere rfl rfl rfl (by decide +kernel) ⟨Nat.le_of_ble_eq_true rfl, Nat.le_of_ble_eq_true rfl⟩) hK hN hP hD hS hA (va_recv hK hP (ci := 4) (q0 := 0) rfl rfl) [0, 1] [] rfl rfl rfl rfl rfl (by decide) rfl hl.1 rfl (Nat.le_of_ble_eq_true rfl) dX4_readFan_1 (fun H locs hP hD hS => ?_)
  have hP : va_P (dC, dI) vwCl [(a_t, .inr (4, [.ref a_letters, .int t_length, .int t_place, .int t_word, .int t_first, .int t_second, .int t_third])), (a_letters, .inl (cI, 80, .inl lettersA))] H := hP
  have hD : va_D A [(a_t, .inr (4, [.ref a_letters, .int t_length, .int t_place, .int t_word, .int t_first, .int t_second, .int t_third])), (a_letters, .inl (cI, 80, .inl lettersA))] := hD
  refine lv_istore_n (lv' := [(1, .int r8), (0, .ref a_t)]) hx hb dX4_readFan_4 rfl hl (by decide) rfl (fun ls hl => ?_)
  refine lv_iload_n hx hb dX4_readFan_5 rfl (lv_at hl 0 rfl) ?_
  refine lv_bipush (v := 43) hx hb dX4_readFan_6 (by decide) ?_
  refine lv_icmp_eq (tgt := 19) hx hb dX4_readFan_8 (by decide) (fun c8 => ?_) (fun c8 => ?_)
  · have hR := (if_pos c8).symm.trans hR
    exact K19 r8 t_place t_first t_second _ _ hP hD hS _ (lv_sub hl [1, 0] rfl) hR
  · have hR := (if_neg c8).symm.trans hR
    refine lv_iload_n hx hb dX4_readFan_11 rfl (lv_at hl 0 rfl) ?_
    refine lv_bipush (v := 45) hx hb dX4_readFan_12 (by decide) ?_
    refine lv_icmp_eq (tgt := 19) hx hb dX4_readFan_14 (by decide) (fun c14 => ?_) (fun c14 => ?_)
    · have hR := (if_pos c14).symm.trans hR
      exact K19 r8 t_place t_first t_second _ _ hP hD hS _ (lv_sub hl [1, 0] rfl) hR
    · have hR := (if_neg c14).symm.trans hR
      refine lv_iconst (v := 0) hx hb dX4_readFan_17 (by decide) ?_
      subst hQ
      subst hAe
      exact W.zret (ty := .boolean) (v := 0) hx hb hr rfl (fun t ht hW => ⟨⟨0, (t_place, t_first, t_second), rfl, Option.some.inj hR, by rw [ht]; exact hP, hD⟩, hS.F ht⟩) hS.2.2 dX4_readFan_18
def fX4_readStatement (t_length : Int32) (t_place : Int32) (t_first : Int32) (t_second : Int32) (t_third : Int32) (lettersA : Nat → Int32) : Option (Int32 × Int32 × Int32 × Int32 × Int32 × Int32) :=
  b1 (fX4_letterHere t_length t_place lettersA) (fun r1 =>
  if r1 = 98 then (
   b3 (fX4_readFirst 2 t_length (t_place + 1) lettersA) (fun r3 w4 w5 =>
   if r3 = 0 then (
    some (0, w4, r1, w5, t_second, t_third))
   else (
   b2 (fX4_passLetter 44 t_length w4 lettersA) (fun r7 w8 =>
   if r7 = 0 then (
    some (0, w8, r1, w5, t_second, t_third))
   else (
   b4 (fX4_readTwoDigits t_length w8 t_third lettersA) (fun r10 w11 w12 w13 =>
   if r10 = 0 then (
    some (0, w11, r1, w5, w12, w13))
   else (
   b2 (fX4_passLetter 59 t_length w11 lettersA) (fun r15 w16 =>
   if r15 = 0 then (
    some (0, w16, r1, w5, w12, w13))
   else (
   some (1, w16, r1, w5, w12, w13)))))))))) else
  if r1 = 99 then (
   b3 (fX4_readFirst 2 t_length (t_place + 1) lettersA) (fun r18 w19 w20 =>
   if r18 = 0 then (
    some (0, w19, r1, w20, t_second, t_third))
   else (
   b2 (fX4_passLetter 59 t_length w19 lettersA) (fun r22 w23 =>
   if r22 = 0 then (
    some (0, w23, r1, w20, t_second, t_third))
   else (
   some (1, w23, r1, w20, t_second, t_third)))))) else
  if r1 = 102 then (
   b4 (fX4_readFan t_length (t_place + 1) t_first t_second lettersA) (fun r25 w26 w27 w28 =>
   if r25 = 0 then (
    some (0, w26, r1, w27, w28, t_third))
   else (
   b2 (fX4_passLetter 59 t_length w26 lettersA) (fun r30 w31 =>
   if r30 = 0 then (
    some (0, w31, r1, w27, w28, t_third))
   else (
   some (1, w31, r1, w27, w28, t_third)))))) else
  if r1 = 104 then (
   b3 (fX4_readFirst 1 t_length (t_place + 1) lettersA) (fun r33 w34 w35 =>
   if r33 = 0 then (
    some (0, w34, r1, w35, t_second, t_third))
   else (
   b2 (fX4_passLetter 59 t_length w34 lettersA) (fun r37 w38 =>
   if r37 = 0 then (
    some (0, w38, r1, w35, t_second, t_third))
   else (
   some (1, w38, r1, w35, t_second, t_third)))))) else
  if r1 = 105 then (
   b3 (fX4_readFirst 1 t_length (t_place + 1) lettersA) (fun r40 w41 w42 =>
   if r40 = 0 then (
    some (0, w41, r1, w42, t_second, t_third))
   else (
   b2 (fX4_passLetter 59 t_length w41 lettersA) (fun r44 w45 =>
   if r44 = 0 then (
    some (0, w45, r1, w42, t_second, t_third))
   else (
   some (1, w45, r1, w42, t_second, t_third)))))) else
  if r1 = 112 then (
   b3 (fX4_readKind t_length (t_place + 1) lettersA) (fun r47 w48 w49 =>
   if r47 = 0 then (
    some (0, w48, r1, w49, t_second, t_third))
   else (
   b4 (fX4_readTwoDigits t_length w48 t_third lettersA) (fun r51 w52 w53 w54 =>
   if r51 = 0 then (
    some (0, w52, r1, w49, w53, w54))
   else (
   b2 (fX4_passLetter 59 t_length w52 lettersA) (fun r56 w57 =>
   if r56 = 0 then (
    some (0, w57, r1, w49, w53, w54))
   else (
   some (1, w57, r1, w49, w53, w54)))))))) else
  if r1 = 119 then (
   b3 (fX4_readFirst 2 t_length (t_place + 1) lettersA) (fun r59 w60 w61 =>
   if r59 = 0 then (
    some (0, w60, r1, w61, t_second, t_third))
   else (
   b2 (fX4_passLetter 59 t_length w60 lettersA) (fun r63 w64 =>
   if r63 = 0 then (
    some (0, w64, r1, w61, t_second, t_third))
   else (
   some (1, w64, r1, w61, t_second, t_third)))))) else
  some (0, t_place, r1, t_first, t_second, t_third))
set_option maxHeartbeats 4000000 in
set_option maxRecDepth 100000 in
theorem kX4_readStatement (l : Launch) (dC : Nat → ClassId) (dI : Nat → Nat → Nat) (cI : ClassId) (a_t a_letters : Nat) (sz : Nat) (t_length : Int32) (t_place : Int32) (t_word : Int32) (t_first : Int32) (t_second : Int32) (t_third : Int32) (lettersA : Nat → Int32) (R : Int32 × Int32 × Int32 × Int32 × Int32 × Int32) (hR : fX4_readStatement t_length t_place t_first t_second t_third lettersA = some R) : Met l yX4_readStatement wsX4_readStatement ({ frames := 4, cells := 0, slots := 0, locals := 87 } : Room) (va_Pc [.ref a_t] (Wp (dC, dI) [(cI, .int)] [(a_t, .inr (4, [.ref a_letters, .int t_length, .int t_place, .int t_word, .int t_first, .int t_second, .int t_third])), (a_letters, .inl (cI, 80, .inl lettersA))] sz)) (va_Qi (fun (r : Int32) (u : Int32 × Int32 × Int32 × Int32 × Int32) => (r, u) = R) (Wq (dC, dI) [(a_t, .inr (4, [.ref a_letters, .int t_length, .int t_place, .int t_word, .int t_first, .int t_second, .int t_third])), (a_letters, .inl (cI, 80, .inl lettersA))] sz (fun (u : Int32 × Int32 × Int32 × Int32 × Int32) => ([(a_t, .inr (4, [.ref a_letters, .int t_length, .int u.1, .int u.2.1, .int u.2.2.1, .int u.2.2.2.1, .int u.2.2.2.2])), (a_letters, .inl (cI, 80, .inl lettersA))] : va_W))) (va_A [(a_t, .inr (4, [.ref a_letters, .int t_length, .int t_place, .int t_word, .int t_first, .int t_second, .int t_third])), (a_letters, .inl (cI, 80, .inl lettersA))] sz)) 0 0 (va_A [(a_t, .inr (4, [.ref a_letters, .int t_length, .int t_place, .int t_word, .int t_first, .int t_second, .int t_third])), (a_letters, .inl (cI, 80, .inl lettersA))] sz) := by
  refine Met.ofW (cc := cX4_readStatement) (maxL := 1) (ret := (some .boolean)) (by decide) rfl ?_
  intro p e s m args below meth c s₁ B hml hv
  obtain ⟨hargs, hsz, hP, hK, hD0, hN⟩ := hv
  have hx := B.exec
  have hb := B.bytes
  have hr := B.returns
  have hts := atoms_spec (ws := wsX4_readStatement) B.pre
  have hown : s.vm.findClass RX4 = some m.cls := findClass_of_methodNamed B.named
  have hlocks := B.notSynchronized
  subst hsz
  have hD := hD0.self (sz := s.heap.size)
  obtain ⟨A, hAe⟩ : ∃ A, A = va_A [(a_t, .inr (4, [.ref a_letters, .int t_length, .int t_place, .int t_word, .int t_first, .int t_second, .int t_third])), (a_letters, .inl (cI, 80, .inl lettersA))] s.heap.size := ⟨_, rfl⟩
  rw [← hAe] at hD
  have hA : ∀ q : Nat, s.heap.size ≤ q → A q := fun q h => by rw [hAe]; exact Or.inr h
  have hS : va_S A s.heap s.heap [] := va_S.rf
  have hl := lv_entry ([.ref a_t]) (n := 1) (Nat.le_of_ble_eq_true rfl)
  rw [e_of hargs, lg_entry_eq]
  generalize (lg_sl ([.ref a_t]) ++ List.replicate (1 - (lg_sl ([.ref a_t])).length) Slot.unset).toArray = ls at hl ⊢
  have hl : lv_has ls 1 [(0, .ref a_t)] := hl
  have hinX4 : ∀ w ∈ wsX40, w ∈ wsX4_readStatement := by decide +kernel
  refine w_q ({ frames := 4, cells := 0, slots := 0, locals := 87 } : Room) (fun Q0 hQ => ?_)
  rw [fX4_readStatement] at hR
  refine lv_aload_n hx hb dX4_readStatement_0 rfl (lv_at hl 0 rfl) ?_
  refine lv_aload_n hx hb dX4_readStatement_1 rfl (lv_at hl 0 rfl) ?_
  obtain ⟨r1, hu2, hR⟩ := b1_s hR
  refine cl_ViN (As := []) (rest := [.ref a_t]) (wc := [(a_t, .inr (4, [.ref a_letters, .int t_length, .int t_place, .int t_word, .int t_first, .int t_second, .int t_third])), (a_letters, .inl (cI, 80, .inl lettersA))]) (wr := []) ⟨hx, hb, hml, hown, hts⟩ (kX4_letterHere l dC dI cI a_t a_letters s.heap.size t_length t_place t_word t_first t_second t_third lettersA r1 hu2) (cwV 0 hts gX4_readStatement_X4_letterHere rfl rfl rfl (by decide +kernel) ⟨Nat.le_of_ble_eq_true rfl, Nat.le_of_ble_eq_true rfl⟩) hK hN hP hD hS hA (va_recv hK hP (ci := 4) (q0 := 0) rfl rfl) [0, 1] [] rfl rfl rfl rfl rfl (by decide) rfl hl.1 rfl (Nat.le_of_ble_eq_true rfl) dX4_readStatement_2 (fun H locs hP hD hS => ?_)
  have hP : va_P (dC, dI) vwCl [(a_t, .inr (4, [.ref a_letters, .int t_length, .int t_place, .int t_word, .int t_first, .int t_second, .int t_third])), (a_letters, .inl (cI, 80, .inl lettersA))] H := hP
  have hD : va_D A [(a_t, .inr (4, [.ref a_letters, .int t_length, .int t_place, .int t_word, .int t_first, .int t_second, .int t_third])), (a_letters, .inl (cI, 80, .inl lettersA))] := hD
  refine va_put (D := (dC, dI)) (ci := 4) (v := .int r1) (ty := .int) (C := RX4) (T := TX4) (N := 7) hx hb hts hinX4 tyX4 tyX4_ok nmX4 hown hK hP hD hS 0 rfl rfl 3 (by decide) (hts (.fieldLink RX4 34 "PaperInBin$Text" "word" "I") (by decide +kernel)) (fun _ h9 => h9) rfl (tyX4_ok 3 (by decide)) rfl rfl (Nat.le_of_ble_eq_true rfl) dX4_readStatement_5 (fun H locs hP hD hS => ?_)
  have hP : va_P (dC, dI) vwCl [(a_t, .inr (4, [.ref a_letters, .int t_length, .int t_place, .int r1, .int t_first, .int t_second, .int t_third])), (a_letters, .inl (cI, 80, .inl lettersA))] H := hP
  have hD : va_D A [(a_t, .inr (4, [.ref a_letters, .int t_length, .int t_place, .int r1, .int t_first, .int t_second, .int t_third])), (a_letters, .inl (cI, 80, .inl lettersA))] := hD
  refine lv_aload_n hx hb dX4_readStatement_8 rfl (lv_at hl 0 rfl) ?_
  refine va_get (D := (dC, dI)) (ci := 4) (v := .int r1) (C := RX4) (T := TX4) (N := 7) hx hb hts hinX4 hown hK hP 0 rfl rfl 3 (by decide) (hts (.fieldLink RX4 34 "PaperInBin$Text" "word" "I") (by decide +kernel)) (fun _ h9 => h9) rfl dX4_readStatement_9 ?_
  by_cases c12_0 : r1 = 98
  · have hR := (if_pos c12_0).symm.trans hR
    refine lv_tableIn (off := 104) (tgt := 116) hx hb dX4_readStatement_12 (by rw [c12_0]; decide) (by rw [c12_0]; decide) (by rw [c12_0]; rfl) (by decide) ?_
    refine lv_aload_n hx hb dX4_readStatement_116 rfl (lv_at hl 0 rfl) ?_
    refine lv_dup hx hb dX4_readStatement_117 rfl ?_
    refine va_get (D := (dC, dI)) (ci := 4) (v := .int t_place) (C := RX4) (T := TX4) (N := 7) hx hb hts hinX4 hown hK hP 0 rfl rfl 2 (by decide) (hts (.fieldLink RX4 23 "PaperInBin$Text" "place" "I") (by decide +kernel)) (fun _ h9 => h9) rfl dX4_readStatement_118 ?_
    refine lv_iconst (v := 1) hx hb dX4_readStatement_121 (by decide) ?_
    refine lv_iadd hx hb dX4_readStatement_122 ?_
    refine va_put (D := (dC, dI)) (ci := 4) (v := .int (t_place + 1)) (ty := .int) (C := RX4) (T := TX4) (N := 7) hx hb hts hinX4 tyX4 tyX4_ok nmX4 hown hK hP hD hS 0 rfl rfl 2 (by decide) (hts (.fieldLink RX4 23 "PaperInBin$Text" "place" "I") (by decide +kernel)) (fun _ h9 => h9) rfl (tyX4_ok 2 (by decide)) rfl rfl (Nat.le_of_ble_eq_true rfl) dX4_readStatement_123 (fun H locs hP hD hS => ?_)
    have hP : va_P (dC, dI) vwCl [(a_t, .inr (4, [.ref a_letters, .int t_length, .int (t_place + 1), .int r1, .int t_first, .int t_second, .int t_third])), (a_letters, .inl (cI, 80, .inl lettersA))] H := hP
    have hD : va_D A [(a_t, .inr (4, [.ref a_letters, .int t_length, .int (t_place + 1), .int r1, .int t_first, .int t_second, .int t_third])), (a_letters, .inl (cI, 80, .inl lettersA))] := hD
    refine lv_aload_n hx hb dX4_readStatement_126 rfl (lv_at hl 0 rfl) ?_
    refine lv_iconst (v := 2) hx hb dX4_readStatement_127 (by decide) ?_
    obtain ⟨r3, w4, w5, hu6, hR⟩ := b3_s hR
    refine cl_ViT (As := [.int 2]) (rest := []) (wc := [(a_t, .inr (4, [.ref a_letters, .int t_length, .int (t_place + 1), .int r1, .int t_first, .int t_second, .int t_third])), (a_letters, .inl (cI, 80, .inl lettersA))]) (wr := []) ⟨hx, hb, hml, hown, hts⟩ (kX4_readFirst l dC dI cI a_t a_letters H.size 2 t_length (t_place + 1) r1 t_first t_second t_third lettersA (r3, w4, w5) hu6) (cwV 1 hts gX4_readStatement_X4_readFirst rfl rfl rfl (by decide +kernel) ⟨Nat.le_of_ble_eq_true rfl, Nat.le_of_ble_eq_true rfl⟩) hK hN hP hD hS hA (va_recv hK hP (ci := 4) (q0 := 0) rfl rfl) [0, 1] [] rfl rfl rfl rfl rfl (by decide) rfl hl.1 rfl (Nat.le_of_ble_eq_true rfl) dX4_readStatement_128 (fun H locs hP hD hS => ?_)
    have hP : va_P (dC, dI) vwCl [(a_t, .inr (4, [.ref a_letters, .int t_length, .int w4, .int r1, .int w5, .int t_second, .int t_third])), (a_letters, .inl (cI, 80, .inl lettersA))] H := hP
    have hD : va_D A [(a_t, .inr (4, [.ref a_letters, .int t_length, .int w4, .int r1, .int w5, .int t_second, .int t_third])), (a_letters, .inl (cI, 80, .inl lettersA))] := hD
    refine lv_if_eq (tgt := 163) hx hb dX4_readStatement_131 (by decide) (fun c131 => ?_) (fun c131 => ?_)
    · have hR := (if_pos c131).symm.trans hR
      refine lv_iconst (v := 0) hx hb dX4_readStatement_163 (by decide) ?_
      subst hQ
      subst hAe
      exact W.zret (ty := .boolean) (v := 0) hx hb hr rfl (fun t ht hW => ⟨⟨0, (w4, r1, w5, t_second, t_third), rfl, Option.some.inj hR, by rw [ht]; exact hP, hD⟩, hS.F ht⟩) hS.2.2 dX4_readStatement_164
    · have hR := (if_neg c131).symm.trans hR
      refine lv_aload_n hx hb dX4_readStatement_134 rfl (lv_at hl 0 rfl) ?_
      refine lv_bipush (v := 44) hx hb dX4_readStatement_135 (by decide) ?_
      obtain ⟨r7, w8, hu9, hR⟩ := b2_s hR
      refine cl_ViT (As := [.int 44]) (rest := []) (wc := [(a_t, .inr (4, [.ref a_letters, .int t_length, .int w4, .int r1, .int w5, .int t_second, .int t_third])), (a_letters, .inl (cI, 80, .inl lettersA))]) (wr := []) ⟨hx, hb, hml, hown, hts⟩ (kX4_passLetter l dC dI cI a_t a_letters H.size 44 t_length w4 r1 w5 t_second t_third lettersA (r7, w8) hu9) (cwV 1 hts gX4_readStatement_X4_passLetter rfl rfl rfl (by decide +kernel) ⟨Nat.le_of_ble_eq_true rfl, Nat.le_of_ble_eq_true rfl⟩) hK hN hP hD hS hA (va_recv hK hP (ci := 4) (q0 := 0) rfl rfl) [0, 1] [] rfl rfl rfl rfl rfl (by decide) rfl hl.1 rfl (Nat.le_of_ble_eq_true rfl) dX4_readStatement_137 (fun H locs hP hD hS => ?_)
      have hP : va_P (dC, dI) vwCl [(a_t, .inr (4, [.ref a_letters, .int t_length, .int w8, .int r1, .int w5, .int t_second, .int t_third])), (a_letters, .inl (cI, 80, .inl lettersA))] H := hP
      have hD : va_D A [(a_t, .inr (4, [.ref a_letters, .int t_length, .int w8, .int r1, .int w5, .int t_second, .int t_third])), (a_letters, .inl (cI, 80, .inl lettersA))] := hD
      refine lv_if_eq (tgt := 163) hx hb dX4_readStatement_140 (by decide) (fun c140 => ?_) (fun c140 => ?_)
      · have hR := (if_pos c140).symm.trans hR
        refine lv_iconst (v := 0) hx hb dX4_readStatement_163 (by decide) ?_
        subst hQ
        subst hAe
        exact W.zret (ty := .boolean) (v := 0) hx hb hr rfl (fun t ht hW => ⟨⟨0, (w8, r1, w5, t_second, t_third), rfl, Option.some.inj hR, by rw [ht]; exact hP, hD⟩, hS.F ht⟩) hS.2.2 dX4_readStatement_164
      · have hR := (if_neg c140).symm.trans hR
        refine lv_aload_n hx hb dX4_readStatement_143 rfl (lv_at hl 0 rfl) ?_
        obtain ⟨r10, w11, w12, w13, hu14, hR⟩ := b4_s hR
        refine cl_ViT (As := []) (rest := []) (wc := [(a_t, .inr (4, [.ref a_letters, .int t_length, .int w8, .int r1, .int w5, .int t_second, .int t_third])), (a_letters, .inl (cI, 80, .inl lettersA))]) (wr := []) ⟨hx, hb, hml, hown, hts⟩ (kX4_readTwoDigits l dC dI cI a_t a_letters H.size t_length w8 r1 w5 t_second t_third lettersA (r10, w11, w12, w13) hu14) (cwV 0 hts gX4_readStatement_X4_readTwoDigits rfl rfl rfl (by decide +kernel) ⟨Nat.le_of_ble_eq_true rfl, Nat.le_of_ble_eq_true rfl⟩) hK hN hP hD hS hA (va_recv hK hP (ci := 4) (q0 := 0) rfl rfl) [0, 1] [] rfl rfl rfl rfl rfl (by decide) rfl hl.1 rfl (Nat.le_of_ble_eq_true rfl) dX4_readStatement_144 (fun H locs hP hD hS => ?_)
        have hP : va_P (dC, dI) vwCl [(a_t, .inr (4, [.ref a_letters, .int t_length, .int w11, .int r1, .int w5, .int w12, .int w13])), (a_letters, .inl (cI, 80, .inl lettersA))] H := hP
        have hD : va_D A [(a_t, .inr (4, [.ref a_letters, .int t_length, .int w11, .int r1, .int w5, .int w12, .int w13])), (a_letters, .inl (cI, 80, .inl lettersA))] := hD
        refine lv_if_eq (tgt := 163) hx hb dX4_readStatement_147 (by decide) (fun c147 => ?_) (fun c147 => ?_)
        · have hR := (if_pos c147).symm.trans hR
          refine lv_iconst (v := 0) hx hb dX4_readStatement_163 (by decide) ?_
          subst hQ
          subst hAe
          exact W.zret (ty := .boolean) (v := 0) hx hb hr rfl (fun t ht hW => ⟨⟨0, (w11, r1, w5, w12, w13), rfl, Option.some.inj hR, by rw [ht]; exact hP, hD⟩, hS.F ht⟩) hS.2.2 dX4_readStatement_164
        · have hR := (if_neg c147).symm.trans hR
          refine lv_aload_n hx hb dX4_readStatement_150 rfl (lv_at hl 0 rfl) ?_
          refine lv_bipush (v := 59) hx hb dX4_readStatement_151 (by decide) ?_
          obtain ⟨r15, w16, hu17, hR⟩ := b2_s hR
          refine cl_ViT (As := [.int 59]) (rest := []) (wc := [(a_t, .inr (4, [.ref a_letters, .int t_length, .int w11, .int r1, .int w5, .int w12, .int w13])), (a_letters, .inl (cI, 80, .inl lettersA))]) (wr := []) ⟨hx, hb, hml, hown, hts⟩ (kX4_passLetter l dC dI cI a_t a_letters H.size 59 t_length w11 r1 w5 w12 w13 lettersA (r15, w16) hu17) (cwV 1 hts gX4_readStatement_X4_passLetter rfl rfl rfl (by decide +kernel) ⟨Nat.le_of_ble_eq_true rfl, Nat.le_of_ble_eq_true rfl⟩) hK hN hP hD hS hA (va_recv hK hP (ci := 4) (q0 := 0) rfl rfl) [0, 1] [] rfl rfl rfl rfl rfl (by decide) rfl hl.1 rfl (Nat.le_of_ble_eq_true rfl) dX4_readStatement_153 (fun H locs hP hD hS => ?_)
          have hP : va_P (dC, dI) vwCl [(a_t, .inr (4, [.ref a_letters, .int t_length, .int w16, .int r1, .int w5, .int w12, .int w13])), (a_letters, .inl (cI, 80, .inl lettersA))] H := hP
          have hD : va_D A [(a_t, .inr (4, [.ref a_letters, .int t_length, .int w16, .int r1, .int w5, .int w12, .int w13])), (a_letters, .inl (cI, 80, .inl lettersA))] := hD
          refine lv_if_eq (tgt := 163) hx hb dX4_readStatement_156 (by decide) (fun c156 => ?_) (fun c156 => ?_)
          · have hR := (if_pos c156).symm.trans hR
            refine lv_iconst (v := 0) hx hb dX4_readStatement_163 (by decide) ?_
            subst hQ
            subst hAe
            exact W.zret (ty := .boolean) (v := 0) hx hb hr rfl (fun t ht hW => ⟨⟨0, (w16, r1, w5, w12, w13), rfl, Option.some.inj hR, by rw [ht]; exact hP, hD⟩, hS.F ht⟩) hS.2.2 dX4_readStatement_164
          · have hR := (if_neg c156).symm.trans hR
            refine lv_iconst (v := 1) hx hb dX4_readStatement_159 (by decide) ?_
            refine lv_goto (tgt := 164) hx hb dX4_readStatement_160 (by decide) ?_
            subst hQ
            subst hAe
            exact W.zret (ty := .boolean) (v := 1) hx hb hr rfl (fun t ht hW => ⟨⟨1, (w16, r1, w5, w12, w13), rfl, Option.some.inj hR, by rw [ht]; exact hP, hD⟩, hS.F ht⟩) hS.2.2 dX4_readStatement_164
  have hR := (if_neg c12_0).symm.trans hR
  by_cases c12_1 : r1 = 99
  · have hR := (if_pos c12_1).symm.trans hR
    refine lv_tableIn (off := 153) (tgt := 165) hx hb dX4_readStatement_12 (by rw [c12_1]; decide) (by rw [c12_1]; decide) (by rw [c12_1]; rfl) (by decide) ?_
    refine lv_aload_n hx hb dX4_readStatement_165 rfl (lv_at hl 0 rfl) ?_
    refine lv_dup hx hb dX4_readStatement_166 rfl ?_
    refine va_get (D := (dC, dI)) (ci := 4) (v := .int t_place) (C := RX4) (T := TX4) (N := 7) hx hb hts hinX4 hown hK hP 0 rfl rfl 2 (by decide) (hts (.fieldLink RX4 23 "PaperInBin$Text" "place" "I") (by decide +kernel)) (fun _ h9 => h9) rfl dX4_readStatement_167 ?_
    refine lv_iconst (v := 1) hx hb dX4_readStatement_170 (by decide) ?_
    refine lv_iadd hx hb dX4_readStatement_171 ?_
    refine va_put (D := (dC, dI)) (ci := 4) (v := .int (t_place + 1)) (ty := .int) (C := RX4) (T := TX4) (N := 7) hx hb hts hinX4 tyX4 tyX4_ok nmX4 hown hK hP hD hS 0 rfl rfl 2 (by decide) (hts (.fieldLink RX4 23 "PaperInBin$Text" "place" "I") (by decide +kernel)) (fun _ h9 => h9) rfl (tyX4_ok 2 (by decide)) rfl rfl (Nat.le_of_ble_eq_true rfl) dX4_readStatement_172 (fun H locs hP hD hS => ?_)
    have hP : va_P (dC, dI) vwCl [(a_t, .inr (4, [.ref a_letters, .int t_length, .int (t_place + 1), .int r1, .int t_first, .int t_second, .int t_third])), (a_letters, .inl (cI, 80, .inl lettersA))] H := hP
    have hD : va_D A [(a_t, .inr (4, [.ref a_letters, .int t_length, .int (t_place + 1), .int r1, .int t_first, .int t_second, .int t_third])), (a_letters, .inl (cI, 80, .inl lettersA))] := hD
    refine lv_aload_n hx hb dX4_readStatement_175 rfl (lv_at hl 0 rfl) ?_
    refine lv_iconst (v := 2) hx hb dX4_readStatement_176 (by decide) ?_
    obtain ⟨r18, w19, w20, hu21, hR⟩ := b3_s hR
    refine cl_ViT (As := [.int 2]) (rest := []) (wc := [(a_t, .inr (4, [.ref a_letters, .int t_length, .int (t_place + 1), .int r1, .int t_first, .int t_second, .int t_third])), (a_letters, .inl (cI, 80, .inl lettersA))]) (wr := []) ⟨hx, hb, hml, hown, hts⟩ (kX4_readFirst l dC dI cI a_t a_letters H.size 2 t_length (t_place + 1) r1 t_first t_second t_third lettersA (r18, w19, w20) hu21) (cwV 1 hts gX4_readStatement_X4_readFirst rfl rfl rfl (by decide +kernel) ⟨Nat.le_of_ble_eq_true rfl, Nat.le_of_ble_eq_true rfl⟩) hK hN hP hD hS hA (va_recv hK hP (ci := 4) (q0 := 0) rfl rfl) [0, 1] [] rfl rfl rfl rfl rfl (by decide) rfl hl.1 rfl (Nat.le_of_ble_eq_true rfl) dX4_readStatement_177 (fun H locs hP hD hS => ?_)
    have hP : va_P (dC, dI) vwCl [(a_t, .inr (4, [.ref a_letters, .int t_length, .int w19, .int r1, .int w20, .int t_second, .int t_third])), (a_letters, .inl (cI, 80, .inl lettersA))] H := hP
    have hD : va_D A [(a_t, .inr (4, [.ref a_letters, .int t_length, .int w19, .int r1, .int w20, .int t_second, .int t_third])), (a_letters, .inl (cI, 80, .inl lettersA))] := hD
    refine lv_if_eq (tgt := 196) hx hb dX4_readStatement_180 (by decide) (fun c180 => ?_) (fun c180 => ?_)
    · have hR := (if_pos c180).symm.trans hR
      refine lv_iconst (v := 0) hx hb dX4_readStatement_196 (by decide) ?_
      subst hQ
      subst hAe
      exact W.zret (ty := .boolean) (v := 0) hx hb hr rfl (fun t ht hW => ⟨⟨0, (w19, r1, w20, t_second, t_third), rfl, Option.some.inj hR, by rw [ht]; exact hP, hD⟩, hS.F ht⟩) hS.2.2 dX4_readStatement_197
    · have hR := (if_neg c180).symm.trans hR
      refine lv_aload_n hx hb dX4_readStatement_183 rfl (lv_at hl 0 rfl) ?_
      refine lv_bipush (v := 59) hx hb dX4_readStatement_184 (by decide) ?_
      obtain ⟨r22, w23, hu24, hR⟩ := b2_s hR
      refine cl_ViT (As := [.int 59]) (rest := []) (wc := [(a_t, .inr (4, [.ref a_letters, .int t_length, .int w19, .int r1, .int w20, .int t_second, .int t_third])), (a_letters, .inl (cI, 80, .inl lettersA))]) (wr := []) ⟨hx, hb, hml, hown, hts⟩ (kX4_passLetter l dC dI cI a_t a_letters H.size 59 t_length w19 r1 w20 t_second t_third lettersA (r22, w23) hu24) (cwV 1 hts gX4_readStatement_X4_passLetter rfl rfl rfl (by decide +kernel) ⟨Nat.le_of_ble_eq_true rfl, Nat.le_of_ble_eq_true rfl⟩) hK hN hP hD hS hA (va_recv hK hP (ci := 4) (q0 := 0) rfl rfl) [0, 1] [] rfl rfl rfl rfl rfl (by decide) rfl hl.1 rfl (Nat.le_of_ble_eq_true rfl) dX4_readStatement_186 (fun H locs hP hD hS => ?_)
      have hP : va_P (dC, dI) vwCl [(a_t, .inr (4, [.ref a_letters, .int t_length, .int w23, .int r1, .int w20, .int t_second, .int t_third])), (a_letters, .inl (cI, 80, .inl lettersA))] H := hP
      have hD : va_D A [(a_t, .inr (4, [.ref a_letters, .int t_length, .int w23, .int r1, .int w20, .int t_second, .int t_third])), (a_letters, .inl (cI, 80, .inl lettersA))] := hD
      refine lv_if_eq (tgt := 196) hx hb dX4_readStatement_189 (by decide) (fun c189 => ?_) (fun c189 => ?_)
      · have hR := (if_pos c189).symm.trans hR
        refine lv_iconst (v := 0) hx hb dX4_readStatement_196 (by decide) ?_
        subst hQ
        subst hAe
        exact W.zret (ty := .boolean) (v := 0) hx hb hr rfl (fun t ht hW => ⟨⟨0, (w23, r1, w20, t_second, t_third), rfl, Option.some.inj hR, by rw [ht]; exact hP, hD⟩, hS.F ht⟩) hS.2.2 dX4_readStatement_197
      · have hR := (if_neg c189).symm.trans hR
        refine lv_iconst (v := 1) hx hb dX4_readStatement_192 (by decide) ?_
        refine lv_goto (tgt := 197) hx hb dX4_readStatement_193 (by decide) ?_
        subst hQ
        subst hAe
        exact W.zret (ty := .boolean) (v := 1) hx hb hr rfl (fun t ht hW => ⟨⟨1, (w23, r1, w20, t_second, t_third), rfl, Option.some.inj hR, by rw [ht]; exact hP, hD⟩, hS.F ht⟩) hS.2.2 dX4_readStatement_197
  have hR := (if_neg c12_1).symm.trans hR
  by_cases c12_2 : r1 = 102
  · have hR := (if_pos c12_2).symm.trans hR
    refine lv_tableIn (off := 219) (tgt := 231) hx hb dX4_readStatement_12 (by rw [c12_2]; decide) (by rw [c12_2]; decide) (by rw [c12_2]; rfl) (by decide) ?_
    refine lv_aload_n hx hb dX4_readStatement_231 rfl (lv_at hl 0 rfl) ?_
    refine lv_dup hx hb dX4_readStatement_232 rfl ?_
    refine va_get (D := (dC, dI)) (ci := 4) (v := .int t_place) (C := RX4) (T := TX4) (N := 7) hx hb hts hinX4 hown hK hP 0 rfl rfl 2 (by decide) (hts (.fieldLink RX4 23 "PaperInBin$Text" "place" "I") (by decide +kernel)) (fun _ h9 => h9) rfl dX4_readStatement_233 ?_
    refine lv_iconst (v := 1) hx hb dX4_readStatement_236 (by decide) ?_
    refine lv_iadd hx hb dX4_readStatement_237 ?_
    refine va_put (D := (dC, dI)) (ci := 4) (v := .int (t_place + 1)) (ty := .int) (C := RX4) (T := TX4) (N := 7) hx hb hts hinX4 tyX4 tyX4_ok nmX4 hown hK hP hD hS 0 rfl rfl 2 (by decide) (hts (.fieldLink RX4 23 "PaperInBin$Text" "place" "I") (by decide +kernel)) (fun _ h9 => h9) rfl (tyX4_ok 2 (by decide)) rfl rfl (Nat.le_of_ble_eq_true rfl) dX4_readStatement_238 (fun H locs hP hD hS => ?_)
    have hP : va_P (dC, dI) vwCl [(a_t, .inr (4, [.ref a_letters, .int t_length, .int (t_place + 1), .int r1, .int t_first, .int t_second, .int t_third])), (a_letters, .inl (cI, 80, .inl lettersA))] H := hP
    have hD : va_D A [(a_t, .inr (4, [.ref a_letters, .int t_length, .int (t_place + 1), .int r1, .int t_first, .int t_second, .int t_third])), (a_letters, .inl (cI, 80, .inl lettersA))] := hD
    refine lv_aload_n hx hb dX4_readStatement_241 rfl (lv_at hl 0 rfl) ?_
    obtain ⟨r25, w26, w27, w28, hu29, hR⟩ := b4_s hR
    refine cl_ViT (As := []) (rest := []) (wc := [(a_t, .inr (4, [.ref a_letters, .int t_length, .int (t_place + 1), .int r1, .int t_first, .int t_second, .int t_third])), (a_letters, .inl (cI, 80, .inl lettersA))]) (wr := []) ⟨hx, hb, hml, hown, hts⟩ (kX4_readFan l dC dI cI a_t a_letters H.size t_length (t_place + 1) r1 t_first t_second t_third lettersA (r25, w26, w27, w28) hu29) (cwV 0 hts gX4_readStatement_X4_readFan rfl rfl rfl (by decide +kernel) ⟨Nat.le_of_ble_eq_true rfl, Nat.le_of_ble_eq_true rfl⟩) hK hN hP hD hS hA (va_recv hK hP (ci := 4) (q0 := 0) rfl rfl) [0, 1] [] rfl rfl rfl rfl rfl (by decide) rfl hl.1 rfl (Nat.le_of_ble_eq_true rfl) dX4_readStatement_242 (fun H locs hP hD hS => ?_)
    have hP : va_P (dC, dI) vwCl [(a_t, .inr (4, [.ref a_letters, .int t_length, .int w26, .int r1, .int w27, .int w28, .int t_third])), (a_letters, .inl (cI, 80, .inl lettersA))] H := hP
    have hD : va_D A [(a_t, .inr (4, [.ref a_letters, .int t_length, .int w26, .int r1, .int w27, .int w28, .int t_third])), (a_letters, .inl (cI, 80, .inl lettersA))] := hD
    refine lv_if_eq (tgt := 261) hx hb dX4_readStatement_245 (by decide) (fun c245 => ?_) (fun c245 => ?_)
    · have hR := (if_pos c245).symm.trans hR
      refine lv_iconst (v := 0) hx hb dX4_readStatement_261 (by decide) ?_
      subst hQ
      subst hAe
      exact W.zret (ty := .boolean) (v := 0) hx hb hr rfl (fun t ht hW => ⟨⟨0, (w26, r1, w27, w28, t_third), rfl, Option.some.inj hR, by rw [ht]; exact hP, hD⟩, hS.F ht⟩) hS.2.2 dX4_readStatement_262
    · have hR := (if_neg c245).symm.trans hR
      refine lv_aload_n hx hb dX4_readStatement_248 rfl (lv_at hl 0 rfl) ?_
      refine lv_bipush (v := 59) hx hb dX4_readStatement_249 (by decide) ?_
      obtain ⟨r30, w31, hu32, hR⟩ := b2_s hR
      refine cl_ViT (As := [.int 59]) (rest := []) (wc := [(a_t, .inr (4, [.ref a_letters, .int t_length, .int w26, .int r1, .int w27, .int w28, .int t_third])), (a_letters, .inl (cI, 80, .inl lettersA))]) (wr := []) ⟨hx, hb, hml, hown, hts⟩ (kX4_passLetter l dC dI cI a_t a_letters H.size 59 t_length w26 r1 w27 w28 t_third lettersA (r30, w31) hu32) (cwV 1 hts gX4_readStatement_X4_passLetter rfl rfl rfl (by decide +kernel) ⟨Nat.le_of_ble_eq_true rfl, Nat.le_of_ble_eq_true rfl⟩) hK hN hP hD hS hA (va_recv hK hP (ci := 4) (q0 := 0) rfl rfl) [0, 1] [] rfl rfl rfl rfl rfl (by decide) rfl hl.1 rfl (Nat.le_of_ble_eq_true rfl) dX4_readStatement_251 (fun H locs hP hD hS => ?_)
      have hP : va_P (dC, dI) vwCl [(a_t, .inr (4, [.ref a_letters, .int t_length, .int w31, .int r1, .int w27, .int w28, .int t_third])), (a_letters, .inl (cI, 80, .inl lettersA))] H := hP
      have hD : va_D A [(a_t, .inr (4, [.ref a_letters, .int t_length, .int w31, .int r1, .int w27, .int w28, .int t_third])), (a_letters, .inl (cI, 80, .inl lettersA))] := hD
      refine lv_if_eq (tgt := 261) hx hb dX4_readStatement_254 (by decide) (fun c254 => ?_) (fun c254 => ?_)
      · have hR := (if_pos c254).symm.trans hR
        refine lv_iconst (v := 0) hx hb dX4_readStatement_261 (by decide) ?_
        subst hQ
        subst hAe
        exact W.zret (ty := .boolean) (v := 0) hx hb hr rfl (fun t ht hW => ⟨⟨0, (w31, r1, w27, w28, t_third), rfl, Option.some.inj hR, by rw [ht]; exact hP, hD⟩, hS.F ht⟩) hS.2.2 dX4_readStatement_262
      · have hR := (if_neg c254).symm.trans hR
        refine lv_iconst (v := 1) hx hb dX4_readStatement_257 (by decide) ?_
        refine lv_goto (tgt := 262) hx hb dX4_readStatement_258 (by decide) ?_
        subst hQ
        subst hAe
        exact W.zret (ty := .boolean) (v := 1) hx hb hr rfl (fun t ht hW => ⟨⟨1, (w31, r1, w27, w28, t_third), rfl, Option.some.inj hR, by rw [ht]; exact hP, hD⟩, hS.F ht⟩) hS.2.2 dX4_readStatement_262
  have hR := (if_neg c12_2).symm.trans hR
  by_cases c12_3 : r1 = 104
  · have hR := (if_pos c12_3).symm.trans hR
    refine lv_tableIn (off := 186) (tgt := 198) hx hb dX4_readStatement_12 (by rw [c12_3]; decide) (by rw [c12_3]; decide) (by rw [c12_3]; rfl) (by decide) ?_
    refine lv_aload_n hx hb dX4_readStatement_198 rfl (lv_at hl 0 rfl) ?_
    refine lv_dup hx hb dX4_readStatement_199 rfl ?_
    refine va_get (D := (dC, dI)) (ci := 4) (v := .int t_place) (C := RX4) (T := TX4) (N := 7) hx hb hts hinX4 hown hK hP 0 rfl rfl 2 (by decide) (hts (.fieldLink RX4 23 "PaperInBin$Text" "place" "I") (by decide +kernel)) (fun _ h9 => h9) rfl dX4_readStatement_200 ?_
    refine lv_iconst (v := 1) hx hb dX4_readStatement_203 (by decide) ?_
    refine lv_iadd hx hb dX4_readStatement_204 ?_
    refine va_put (D := (dC, dI)) (ci := 4) (v := .int (t_place + 1)) (ty := .int) (C := RX4) (T := TX4) (N := 7) hx hb hts hinX4 tyX4 tyX4_ok nmX4 hown hK hP hD hS 0 rfl rfl 2 (by decide) (hts (.fieldLink RX4 23 "PaperInBin$Text" "place" "I") (by decide +kernel)) (fun _ h9 => h9) rfl (tyX4_ok 2 (by decide)) rfl rfl (Nat.le_of_ble_eq_true rfl) dX4_readStatement_205 (fun H locs hP hD hS => ?_)
    have hP : va_P (dC, dI) vwCl [(a_t, .inr (4, [.ref a_letters, .int t_length, .int (t_place + 1), .int r1, .int t_first, .int t_second, .int t_third])), (a_letters, .inl (cI, 80, .inl lettersA))] H := hP
    have hD : va_D A [(a_t, .inr (4, [.ref a_letters, .int t_length, .int (t_place + 1), .int r1, .int t_first, .int t_second, .int t_third])), (a_letters, .inl (cI, 80, .inl lettersA))] := hD
    refine lv_aload_n hx hb dX4_readStatement_208 rfl (lv_at hl 0 rfl) ?_
    refine lv_iconst (v := 1) hx hb dX4_readStatement_209 (by decide) ?_
    obtain ⟨r33, w34, w35, hu36, hR⟩ := b3_s hR
    refine cl_ViT (As := [.int 1]) (rest := []) (wc := [(a_t, .inr (4, [.ref a_letters, .int t_length, .int (t_place + 1), .int r1, .int t_first, .int t_second, .int t_third])), (a_letters, .inl (cI, 80, .inl lettersA))]) (wr := []) ⟨hx, hb, hml, hown, hts⟩ (kX4_readFirst l dC dI cI a_t a_letters H.size 1 t_length (t_place + 1) r1 t_first t_second t_third lettersA (r33, w34, w35) hu36) (cwV 1 hts gX4_readStatement_X4_readFirst rfl rfl rfl (by decide +kernel) ⟨Nat.le_of_ble_eq_true rfl, Nat.le_of_ble_eq_true rfl⟩) hK hN hP hD hS hA (va_recv hK hP (ci := 4) (q0 := 0) rfl rfl) [0, 1] [] rfl rfl rfl rfl rfl (by decide) rfl hl.1 rfl (Nat.le_of_ble_eq_true rfl) dX4_readStatement_210 (fun H locs hP hD hS => ?_)
    have hP : va_P (dC, dI) vwCl [(a_t, .inr (4, [.ref a_letters, .int t_length, .int w34, .int r1, .int w35, .int t_second, .int t_third])), (a_letters, .inl (cI, 80, .inl lettersA))] H := hP
    have hD : va_D A [(a_t, .inr (4, [.ref a_letters, .int t_length, .int w34, .int r1, .int w35, .int t_second, .int t_third])), (a_letters, .inl (cI, 80, .inl lettersA))] := hD
    refine lv_if_eq (tgt := 229) hx hb dX4_readStatement_213 (by decide) (fun c213 => ?_) (fun c213 => ?_)
    · have hR := (if_pos c213).symm.trans hR
      refine lv_iconst (v := 0) hx hb dX4_readStatement_229 (by decide) ?_
      subst hQ
      subst hAe
      exact W.zret (ty := .boolean) (v := 0) hx hb hr rfl (fun t ht hW => ⟨⟨0, (w34, r1, w35, t_second, t_third), rfl, Option.some.inj hR, by rw [ht]; exact hP, hD⟩, hS.F ht⟩) hS.2.2 dX4_readStatement_230
    · have hR := (if_neg c213).symm.trans hR
      refine lv_aload_n hx hb dX4_readStatement_216 rfl (lv_at hl 0 rfl) ?_
      refine lv_bipush (v := 59) hx hb dX4_readStatement_217 (by decide) ?_
      obtain ⟨r37, w38, hu39, hR⟩ := b2_s hR
      refine cl_ViT (As := [.int 59]) (rest := []) (wc := [(a_t, .inr (4, [.ref a_letters, .int t_length, .int w34, .int r1, .int w35, .int t_second, .int t_third])), (a_letters, .inl (cI, 80, .inl lettersA))]) (wr := []) ⟨hx, hb, hml, hown, hts⟩ (kX4_passLetter l dC dI cI a_t a_letters H.size 59 t_length w34 r1 w35 t_second t_third lettersA (r37, w38) hu39) (cwV 1 hts gX4_readStatement_X4_passLetter rfl rfl rfl (by decide +kernel) ⟨Nat.le_of_ble_eq_true rfl, Nat.le_of_ble_eq_true rfl⟩) hK hN hP hD hS hA (va_recv hK hP (ci := 4) (q0 := 0) rfl rfl) [0, 1] [] rfl rfl rfl rfl rfl (by decide) rfl hl.1 rfl (Nat.le_of_ble_eq_true rfl) dX4_readStatement_219 (fun H locs hP hD hS => ?_)
      have hP : va_P (dC, dI) vwCl [(a_t, .inr (4, [.ref a_letters, .int t_length, .int w38, .int r1, .int w35, .int t_second, .int t_third])), (a_letters, .inl (cI, 80, .inl lettersA))] H := hP
      have hD : va_D A [(a_t, .inr (4, [.ref a_letters, .int t_length, .int w38, .int r1, .int w35, .int t_second, .int t_third])), (a_letters, .inl (cI, 80, .inl lettersA))] := hD
      refine lv_if_eq (tgt := 229) hx hb dX4_readStatement_222 (by decide) (fun c222 => ?_) (fun c222 => ?_)
      · have hR := (if_pos c222).symm.trans hR
        refine lv_iconst (v := 0) hx hb dX4_readStatement_229 (by decide) ?_
        subst hQ
        subst hAe
        exact W.zret (ty := .boolean) (v := 0) hx hb hr rfl (fun t ht hW => ⟨⟨0, (w38, r1, w35, t_second, t_third), rfl, Option.some.inj hR, by rw [ht]; exact hP, hD⟩, hS.F ht⟩) hS.2.2 dX4_readStatement_230
      · have hR := (if_neg c222).symm.trans hR
        refine lv_iconst (v := 1) hx hb dX4_readStatement_225 (by decide) ?_
        refine lv_goto (tgt := 230) hx hb dX4_readStatement_226 (by decide) ?_
        subst hQ
        subst hAe
        exact W.zret (ty := .boolean) (v := 1) hx hb hr rfl (fun t ht hW => ⟨⟨1, (w38, r1, w35, t_second, t_third), rfl, Option.some.inj hR, by rw [ht]; exact hP, hD⟩, hS.F ht⟩) hS.2.2 dX4_readStatement_230
  have hR := (if_neg c12_3).symm.trans hR
  by_cases c12_4 : r1 = 105
  · have hR := (if_pos c12_4).symm.trans hR
    refine lv_tableIn (off := 186) (tgt := 198) hx hb dX4_readStatement_12 (by rw [c12_4]; decide) (by rw [c12_4]; decide) (by rw [c12_4]; rfl) (by decide) ?_
    refine lv_aload_n hx hb dX4_readStatement_198 rfl (lv_at hl 0 rfl) ?_
    refine lv_dup hx hb dX4_readStatement_199 rfl ?_
    refine va_get (D := (dC, dI)) (ci := 4) (v := .int t_place) (C := RX4) (T := TX4) (N := 7) hx hb hts hinX4 hown hK hP 0 rfl rfl 2 (by decide) (hts (.fieldLink RX4 23 "PaperInBin$Text" "place" "I") (by decide +kernel)) (fun _ h9 => h9) rfl dX4_readStatement_200 ?_
    refine lv_iconst (v := 1) hx hb dX4_readStatement_203 (by decide) ?_
    refine lv_iadd hx hb dX4_readStatement_204 ?_
    refine va_put (D := (dC, dI)) (ci := 4) (v := .int (t_place + 1)) (ty := .int) (C := RX4) (T := TX4) (N := 7) hx hb hts hinX4 tyX4 tyX4_ok nmX4 hown hK hP hD hS 0 rfl rfl 2 (by decide) (hts (.fieldLink RX4 23 "PaperInBin$Text" "place" "I") (by decide +kernel)) (fun _ h9 => h9) rfl (tyX4_ok 2 (by decide)) rfl rfl (Nat.le_of_ble_eq_true rfl) dX4_readStatement_205 (fun H locs hP hD hS => ?_)
    have hP : va_P (dC, dI) vwCl [(a_t, .inr (4, [.ref a_letters, .int t_length, .int (t_place + 1), .int r1, .int t_first, .int t_second, .int t_third])), (a_letters, .inl (cI, 80, .inl lettersA))] H := hP
    have hD : va_D A [(a_t, .inr (4, [.ref a_letters, .int t_length, .int (t_place + 1), .int r1, .int t_first, .int t_second, .int t_third])), (a_letters, .inl (cI, 80, .inl lettersA))] := hD
    refine lv_aload_n hx hb dX4_readStatement_208 rfl (lv_at hl 0 rfl) ?_
    refine lv_iconst (v := 1) hx hb dX4_readStatement_209 (by decide) ?_
    obtain ⟨r40, w41, w42, hu43, hR⟩ := b3_s hR
    refine cl_ViT (As := [.int 1]) (rest := []) (wc := [(a_t, .inr (4, [.ref a_letters, .int t_length, .int (t_place + 1), .int r1, .int t_first, .int t_second, .int t_third])), (a_letters, .inl (cI, 80, .inl lettersA))]) (wr := []) ⟨hx, hb, hml, hown, hts⟩ (kX4_readFirst l dC dI cI a_t a_letters H.size 1 t_length (t_place + 1) r1 t_first t_second t_third lettersA (r40, w41, w42) hu43) (cwV 1 hts gX4_readStatement_X4_readFirst rfl rfl rfl (by decide +kernel) ⟨Nat.le_of_ble_eq_true rfl, Nat.le_of_ble_eq_true rfl⟩) hK hN hP hD hS hA (va_recv hK hP (ci := 4) (q0 := 0) rfl rfl) [0, 1] [] rfl rfl rfl rfl rfl (by decide) rfl hl.1 rfl (Nat.le_of_ble_eq_true rfl) dX4_readStatement_210 (fun H locs hP hD hS => ?_)
    have hP : va_P (dC, dI) vwCl [(a_t, .inr (4, [.ref a_letters, .int t_length, .int w41, .int r1, .int w42, .int t_second, .int t_third])), (a_letters, .inl (cI, 80, .inl lettersA))] H := hP
    have hD : va_D A [(a_t, .inr (4, [.ref a_letters, .int t_length, .int w41, .int r1, .int w42, .int t_second, .int t_third])), (a_letters, .inl (cI, 80, .inl lettersA))] := hD
    refine lv_if_eq (tgt := 229) hx hb dX4_readStatement_213 (by decide) (fun c213 => ?_) (fun c213 => ?_)
    · have hR := (if_pos c213).symm.trans hR
      refine lv_iconst (v := 0) hx hb dX4_readStatement_229 (by decide) ?_
      subst hQ
      subst hAe
      exact W.zret (ty := .boolean) (v := 0) hx hb hr rfl (fun t ht hW => ⟨⟨0, (w41, r1, w42, t_second, t_third), rfl, Option.some.inj hR, by rw [ht]; exact hP, hD⟩, hS.F ht⟩) hS.2.2 dX4_readStatement_230
    · have hR := (if_neg c213).symm.trans hR
      refine lv_aload_n hx hb dX4_readStatement_216 rfl (lv_at hl 0 rfl) ?_
      refine lv_bipush (v := 59) hx hb dX4_readStatement_217 (by decide) ?_
      obtain ⟨r44, w45, hu46, hR⟩ := b2_s hR
      refine cl_ViT (As := [.int 59]) (rest := []) (wc := [(a_t, .inr (4, [.ref a_letters, .int t_length, .int w41, .int r1, .int w42, .int t_second, .int t_third])), (a_letters, .inl (cI, 80, .inl lettersA))]) (wr := []) ⟨hx, hb, hml, hown, hts⟩ (kX4_passLetter l dC dI cI a_t a_letters H.size 59 t_length w41 r1 w42 t_second t_third lettersA (r44, w45) hu46) (cwV 1 hts gX4_readStatement_X4_passLetter rfl rfl rfl (by decide +kernel) ⟨Nat.le_of_ble_eq_true rfl, Nat.le_of_ble_eq_true rfl⟩) hK hN hP hD hS hA (va_recv hK hP (ci := 4) (q0 := 0) rfl rfl) [0, 1] [] rfl rfl rfl rfl rfl (by decide) rfl hl.1 rfl (Nat.le_of_ble_eq_true rfl) dX4_readStatement_219 (fun H locs hP hD hS => ?_)
      have hP : va_P (dC, dI) vwCl [(a_t, .inr (4, [.ref a_letters, .int t_length, .int w45, .int r1, .int w42, .int t_second, .int t_third])), (a_letters, .inl (cI, 80, .inl lettersA))] H := hP
      have hD : va_D A [(a_t, .inr (4, [.ref a_letters, .int t_length, .int w45, .int r1, .int w42, .int t_second, .int t_third])), (a_letters, .inl (cI, 80, .inl lettersA))] := hD
      refine lv_if_eq (tgt := 229) hx hb dX4_readStatement_222 (by decide) (fun c222 => ?_) (fun c222 => ?_)
      · have hR := (if_pos c222).symm.trans hR
        refine lv_iconst (v := 0) hx hb dX4_readStatement_229 (by decide) ?_
        subst hQ
        subst hAe
        exact W.zret (ty := .boolean) (v := 0) hx hb hr rfl (fun t ht hW => ⟨⟨0, (w45, r1, w42, t_second, t_third), rfl, Option.some.inj hR, by rw [ht]; exact hP, hD⟩, hS.F ht⟩) hS.2.2 dX4_readStatement_230
      · have hR := (if_neg c222).symm.trans hR
        refine lv_iconst (v := 1) hx hb dX4_readStatement_225 (by decide) ?_
        refine lv_goto (tgt := 230) hx hb dX4_readStatement_226 (by decide) ?_
        subst hQ
        subst hAe
        exact W.zret (ty := .boolean) (v := 1) hx hb hr rfl (fun t ht hW => ⟨⟨1, (w45, r1, w42, t_second, t_third), rfl, Option.some.inj hR, by rw [ht]; exact hP, hD⟩, hS.F ht⟩) hS.2.2 dX4_readStatement_230
  have hR := (if_neg c12_4).symm.trans hR
  by_cases c12_5 : r1 = 112
  · have hR := (if_pos c12_5).symm.trans hR
    refine lv_tableIn (off := 251) (tgt := 263) hx hb dX4_readStatement_12 (by rw [c12_5]; decide) (by rw [c12_5]; decide) (by rw [c12_5]; rfl) (by decide) ?_
    refine lv_aload_n hx hb dX4_readStatement_263 rfl (lv_at hl 0 rfl) ?_
    refine lv_dup hx hb dX4_readStatement_264 rfl ?_
    refine va_get (D := (dC, dI)) (ci := 4) (v := .int t_place) (C := RX4) (T := TX4) (N := 7) hx hb hts hinX4 hown hK hP 0 rfl rfl 2 (by decide) (hts (.fieldLink RX4 23 "PaperInBin$Text" "place" "I") (by decide +kernel)) (fun _ h9 => h9) rfl dX4_readStatement_265 ?_
    refine lv_iconst (v := 1) hx hb dX4_readStatement_268 (by decide) ?_
    refine lv_iadd hx hb dX4_readStatement_269 ?_
    refine va_put (D := (dC, dI)) (ci := 4) (v := .int (t_place + 1)) (ty := .int) (C := RX4) (T := TX4) (N := 7) hx hb hts hinX4 tyX4 tyX4_ok nmX4 hown hK hP hD hS 0 rfl rfl 2 (by decide) (hts (.fieldLink RX4 23 "PaperInBin$Text" "place" "I") (by decide +kernel)) (fun _ h9 => h9) rfl (tyX4_ok 2 (by decide)) rfl rfl (Nat.le_of_ble_eq_true rfl) dX4_readStatement_270 (fun H locs hP hD hS => ?_)
    have hP : va_P (dC, dI) vwCl [(a_t, .inr (4, [.ref a_letters, .int t_length, .int (t_place + 1), .int r1, .int t_first, .int t_second, .int t_third])), (a_letters, .inl (cI, 80, .inl lettersA))] H := hP
    have hD : va_D A [(a_t, .inr (4, [.ref a_letters, .int t_length, .int (t_place + 1), .int r1, .int t_first, .int t_second, .int t_third])), (a_letters, .inl (cI, 80, .inl lettersA))] := hD
    refine lv_aload_n hx hb dX4_readStatement_273 rfl (lv_at hl 0 rfl) ?_
    obtain ⟨r47, w48, w49, hu50, hR⟩ := b3_s hR
    refine cl_ViT (As := []) (rest := []) (wc := [(a_t, .inr (4, [.ref a_letters, .int t_length, .int (t_place + 1), .int r1, .int t_first, .int t_second, .int t_third])), (a_letters, .inl (cI, 80, .inl lettersA))]) (wr := []) ⟨hx, hb, hml, hown, hts⟩ (kX4_readKind l dC dI cI a_t a_letters H.size t_length (t_place + 1) r1 t_first t_second t_third lettersA (r47, w48, w49) hu50) (cwV 0 hts gX4_readStatement_X4_readKind rfl rfl rfl (by decide +kernel) ⟨Nat.le_of_ble_eq_true rfl, Nat.le_of_ble_eq_true rfl⟩) hK hN hP hD hS hA (va_recv hK hP (ci := 4) (q0 := 0) rfl rfl) [0, 1] [] rfl rfl rfl rfl rfl (by decide) rfl hl.1 rfl (Nat.le_of_ble_eq_true rfl) dX4_readStatement_274 (fun H locs hP hD hS => ?_)
    have hP : va_P (dC, dI) vwCl [(a_t, .inr (4, [.ref a_letters, .int t_length, .int w48, .int r1, .int w49, .int t_second, .int t_third])), (a_letters, .inl (cI, 80, .inl lettersA))] H := hP
    have hD : va_D A [(a_t, .inr (4, [.ref a_letters, .int t_length, .int w48, .int r1, .int w49, .int t_second, .int t_third])), (a_letters, .inl (cI, 80, .inl lettersA))] := hD
    refine lv_if_eq (tgt := 300) hx hb dX4_readStatement_277 (by decide) (fun c277 => ?_) (fun c277 => ?_)
    · have hR := (if_pos c277).symm.trans hR
      refine lv_iconst (v := 0) hx hb dX4_readStatement_300 (by decide) ?_
      subst hQ
      subst hAe
      exact W.zret (ty := .boolean) (v := 0) hx hb hr rfl (fun t ht hW => ⟨⟨0, (w48, r1, w49, t_second, t_third), rfl, Option.some.inj hR, by rw [ht]; exact hP, hD⟩, hS.F ht⟩) hS.2.2 dX4_readStatement_301
    · have hR := (if_neg c277).symm.trans hR
      refine lv_aload_n hx hb dX4_readStatement_280 rfl (lv_at hl 0 rfl) ?_
      obtain ⟨r51, w52, w53, w54, hu55, hR⟩ := b4_s hR
      refine cl_ViT (As := []) (rest := []) (wc := [(a_t, .inr (4, [.ref a_letters, .int t_length, .int w48, .int r1, .int w49, .int t_second, .int t_third])), (a_letters, .inl (cI, 80, .inl lettersA))]) (wr := []) ⟨hx, hb, hml, hown, hts⟩ (kX4_readTwoDigits l dC dI cI a_t a_letters H.size t_length w48 r1 w49 t_second t_third lettersA (r51, w52, w53, w54) hu55) (cwV 0 hts gX4_readStatement_X4_readTwoDigits rfl rfl rfl (by decide +kernel) ⟨Nat.le_of_ble_eq_true rfl, Nat.le_of_ble_eq_true rfl⟩) hK hN hP hD hS hA (va_recv hK hP (ci := 4) (q0 := 0) rfl rfl) [0, 1] [] rfl rfl rfl rfl rfl (by decide) rfl hl.1 rfl (Nat.le_of_ble_eq_true rfl) dX4_readStatement_281 (fun H locs hP hD hS => ?_)
      have hP : va_P (dC, dI) vwCl [(a_t, .inr (4, [.ref a_letters, .int t_length, .int w52, .int r1, .int w49, .int w53, .int w54])), (a_letters, .inl (cI, 80, .inl lettersA))] H := hP
      have hD : va_D A [(a_t, .inr (4, [.ref a_letters, .int t_length, .int w52, .int r1, .int w49, .int w53, .int w54])), (a_letters, .inl (cI, 80, .inl lettersA))] := hD
      refine lv_if_eq (tgt := 300) hx hb dX4_readStatement_284 (by decide) (fun c284 => ?_) (fun c284 => ?_)
      · have hR := (if_pos c284).symm.trans hR
        refine lv_iconst (v := 0) hx hb dX4_readStatement_300 (by decide) ?_
        subst hQ
        subst hAe
        exact W.zret (ty := .boolean) (v := 0) hx hb hr rfl (fun t ht hW => ⟨⟨0, (w52, r1, w49, w53, w54), rfl, Option.some.inj hR, by rw [ht]; exact hP, hD⟩, hS.F ht⟩) hS.2.2 dX4_readStatement_301
      · have hR := (if_neg c284).symm.trans hR
        refine lv_aload_n hx hb dX4_readStatement_287 rfl (lv_at hl 0 rfl) ?_
        refine lv_bipush (v := 59) hx hb dX4_readStatement_288 (by decide) ?_
        obtain ⟨r56, w57, hu58, hR⟩ := b2_s hR
        refine cl_ViT (As := [.int 59]) (rest := []) (wc := [(a_t, .inr (4, [.ref a_letters, .int t_length, .int w52, .int r1, .int w49, .int w53, .int w54])), (a_letters, .inl (cI, 80, .inl lettersA))]) (wr := []) ⟨hx, hb, hml, hown, hts⟩ (kX4_passLetter l dC dI cI a_t a_letters H.size 59 t_length w52 r1 w49 w53 w54 lettersA (r56, w57) hu58) (cwV 1 hts gX4_readStatement_X4_passLetter rfl rfl rfl (by decide +kernel) ⟨Nat.le_of_ble_eq_true rfl, Nat.le_of_ble_eq_true rfl⟩) hK hN hP hD hS hA (va_recv hK hP (ci := 4) (q0 := 0) rfl rfl) [0, 1] [] rfl rfl rfl rfl rfl (by decide) rfl hl.1 rfl (Nat.le_of_ble_eq_true rfl) dX4_readStatement_290 (fun H locs hP hD hS => ?_)
        have hP : va_P (dC, dI) vwCl [(a_t, .inr (4, [.ref a_letters, .int t_length, .int w57, .int r1, .int w49, .int w53, .int w54])), (a_letters, .inl (cI, 80, .inl lettersA))] H := hP
        have hD : va_D A [(a_t, .inr (4, [.ref a_letters, .int t_length, .int w57, .int r1, .int w49, .int w53, .int w54])), (a_letters, .inl (cI, 80, .inl lettersA))] := hD
        refine lv_if_eq (tgt := 300) hx hb dX4_readStatement_293 (by decide) (fun c293 => ?_) (fun c293 => ?_)
        · have hR := (if_pos c293).symm.trans hR
          refine lv_iconst (v := 0) hx hb dX4_readStatement_300 (by decide) ?_
          subst hQ
          subst hAe
          exact W.zret (ty := .boolean) (v := 0) hx hb hr rfl (fun t ht hW => ⟨⟨0, (w57, r1, w49, w53, w54), rfl, Option.some.inj hR, by rw [ht]; exact hP, hD⟩, hS.F ht⟩) hS.2.2 dX4_readStatement_301
        · have hR := (if_neg c293).symm.trans hR
          refine lv_iconst (v := 1) hx hb dX4_readStatement_296 (by decide) ?_
          refine lv_goto (tgt := 301) hx hb dX4_readStatement_297 (by decide) ?_
          subst hQ
          subst hAe
          exact W.zret (ty := .boolean) (v := 1) hx hb hr rfl (fun t ht hW => ⟨⟨1, (w57, r1, w49, w53, w54), rfl, Option.some.inj hR, by rw [ht]; exact hP, hD⟩, hS.F ht⟩) hS.2.2 dX4_readStatement_301
  have hR := (if_neg c12_5).symm.trans hR
  by_cases c12_6 : r1 = 119
  · have hR := (if_pos c12_6).symm.trans hR
    refine lv_tableIn (off := 153) (tgt := 165) hx hb dX4_readStatement_12 (by rw [c12_6]; decide) (by rw [c12_6]; decide) (by rw [c12_6]; rfl) (by decide) ?_
    refine lv_aload_n hx hb dX4_readStatement_165 rfl (lv_at hl 0 rfl) ?_
    refine lv_dup hx hb dX4_readStatement_166 rfl ?_
    refine va_get (D := (dC, dI)) (ci := 4) (v := .int t_place) (C := RX4) (T := TX4) (N := 7) hx hb hts hinX4 hown hK hP 0 rfl rfl 2 (by decide) (hts (.fieldLink RX4 23 "PaperInBin$Text" "place" "I") (by decide +kernel)) (fun _ h9 => h9) rfl dX4_readStatement_167 ?_
    refine lv_iconst (v := 1) hx hb dX4_readStatement_170 (by decide) ?_
    refine lv_iadd hx hb dX4_readStatement_171 ?_
    refine va_put (D := (dC, dI)) (ci := 4) (v := .int (t_place + 1)) (ty := .int) (C := RX4) (T := TX4) (N := 7) hx hb hts hinX4 tyX4 tyX4_ok nmX4 hown hK hP hD hS 0 rfl rfl 2 (by decide) (hts (.fieldLink RX4 23 "PaperInBin$Text" "place" "I") (by decide +kernel)) (fun _ h9 => h9) rfl (tyX4_ok 2 (by decide)) rfl rfl (Nat.le_of_ble_eq_true rfl) dX4_readStatement_172 (fun H locs hP hD hS => ?_)
    have hP : va_P (dC, dI) vwCl [(a_t, .inr (4, [.ref a_letters, .int t_length, .int (t_place + 1), .int r1, .int t_first, .int t_second, .int t_third])), (a_letters, .inl (cI, 80, .inl lettersA))] H := hP
    have hD : va_D A [(a_t, .inr (4, [.ref a_letters, .int t_length, .int (t_place + 1), .int r1, .int t_first, .int t_second, .int t_third])), (a_letters, .inl (cI, 80, .inl lettersA))] := hD
    refine lv_aload_n hx hb dX4_readStatement_175 rfl (lv_at hl 0 rfl) ?_
    refine lv_iconst (v := 2) hx hb dX4_readStatement_176 (by decide) ?_
    obtain ⟨r59, w60, w61, hu62, hR⟩ := b3_s hR
    refine cl_ViT (As := [.int 2]) (rest := []) (wc := [(a_t, .inr (4, [.ref a_letters, .int t_length, .int (t_place + 1), .int r1, .int t_first, .int t_second, .int t_third])), (a_letters, .inl (cI, 80, .inl lettersA))]) (wr := []) ⟨hx, hb, hml, hown, hts⟩ (kX4_readFirst l dC dI cI a_t a_letters H.size 2 t_length (t_place + 1) r1 t_first t_second t_third lettersA (r59, w60, w61) hu62) (cwV 1 hts gX4_readStatement_X4_readFirst rfl rfl rfl (by decide +kernel) ⟨Nat.le_of_ble_eq_true rfl, Nat.le_of_ble_eq_true rfl⟩) hK hN hP hD hS hA (va_recv hK hP (ci := 4) (q0 := 0) rfl rfl) [0, 1] [] rfl rfl rfl rfl rfl (by decide) rfl hl.1 rfl (Nat.le_of_ble_eq_true rfl) dX4_readStatement_177 (fun H locs hP hD hS => ?_)
    have hP : va_P (dC, dI) vwCl [(a_t, .inr (4, [.ref a_letters, .int t_length, .int w60, .int r1, .int w61, .int t_second, .int t_third])), (a_letters, .inl (cI, 80, .inl lettersA))] H := hP
    have hD : va_D A [(a_t, .inr (4, [.ref a_letters, .int t_length, .int w60, .int r1, .int w61, .int t_second, .int t_third])), (a_letters, .inl (cI, 80, .inl lettersA))] := hD
    refine lv_if_eq (tgt := 196) hx hb dX4_readStatement_180 (by decide) (fun c180 => ?_) (fun c180 => ?_)
    · have hR := (if_pos c180).symm.trans hR
      refine lv_iconst (v := 0) hx hb dX4_readStatement_196 (by decide) ?_
      subst hQ
      subst hAe
      exact W.zret (ty := .boolean) (v := 0) hx hb hr rfl (fun t ht hW => ⟨⟨0, (w60, r1, w61, t_second, t_third), rfl, Option.some.inj hR, by rw [ht]; exact hP, hD⟩, hS.F ht⟩) hS.2.2 dX4_readStatement_197
    · have hR := (if_neg c180).symm.trans hR
      refine lv_aload_n hx hb dX4_readStatement_183 rfl (lv_at hl 0 rfl) ?_
      refine lv_bipush (v := 59) hx hb dX4_readStatement_184 (by decide) ?_
      obtain ⟨r63, w64, hu65, hR⟩ := b2_s hR
      refine cl_ViT (As := [.int 59]) (rest := []) (wc := [(a_t, .inr (4, [.ref a_letters, .int t_length, .int w60, .int r1, .int w61, .int t_second, .int t_third])), (a_letters, .inl (cI, 80, .inl lettersA))]) (wr := []) ⟨hx, hb, hml, hown, hts⟩ (kX4_passLetter l dC dI cI a_t a_letters H.size 59 t_length w60 r1 w61 t_second t_third lettersA (r63, w64) hu65) (cwV 1 hts gX4_readStatement_X4_passLetter rfl rfl rfl (by decide +kernel) ⟨Nat.le_of_ble_eq_true rfl, Nat.le_of_ble_eq_true rfl⟩) hK hN hP hD hS hA (va_recv hK hP (ci := 4) (q0 := 0) rfl rfl) [0, 1] [] rfl rfl rfl rfl rfl (by decide) rfl hl.1 rfl (Nat.le_of_ble_eq_true rfl) dX4_readStatement_186 (fun H locs hP hD hS => ?_)
      have hP : va_P (dC, dI) vwCl [(a_t, .inr (4, [.ref a_letters, .int t_length, .int w64, .int r1, .int w61, .int t_second, .int t_third])), (a_letters, .inl (cI, 80, .inl lettersA))] H := hP
      have hD : va_D A [(a_t, .inr (4, [.ref a_letters, .int t_length, .int w64, .int r1, .int w61, .int t_second, .int t_third])), (a_letters, .inl (cI, 80, .inl lettersA))] := hD
      refine lv_if_eq (tgt := 196) hx hb dX4_readStatement_189 (by decide) (fun c189 => ?_) (fun c189 => ?_)
      · have hR := (if_pos c189).symm.trans hR
        refine lv_iconst (v := 0) hx hb dX4_readStatement_196 (by decide) ?_
        subst hQ
        subst hAe
        exact W.zret (ty := .boolean) (v := 0) hx hb hr rfl (fun t ht hW => ⟨⟨0, (w64, r1, w61, t_second, t_third), rfl, Option.some.inj hR, by rw [ht]; exact hP, hD⟩, hS.F ht⟩) hS.2.2 dX4_readStatement_197
      · have hR := (if_neg c189).symm.trans hR
        refine lv_iconst (v := 1) hx hb dX4_readStatement_192 (by decide) ?_
        refine lv_goto (tgt := 197) hx hb dX4_readStatement_193 (by decide) ?_
        subst hQ
        subst hAe
        exact W.zret (ty := .boolean) (v := 1) hx hb hr rfl (fun t ht hW => ⟨⟨1, (w64, r1, w61, t_second, t_third), rfl, Option.some.inj hR, by rw [ht]; exact hP, hD⟩, hS.F ht⟩) hS.2.2 dX4_readStatement_197
  have hR := (if_neg c12_6).symm.trans hR
  have tc12_0 := lv_neT (k := 98) (a := 98) c12_0 (by decide)
  have tc12_1 := lv_neT (k := 99) (a := 99) c12_1 (by decide)
  have tc12_2 := lv_neT (k := 102) (a := 102) c12_2 (by decide)
  have tc12_3 := lv_neT (k := 104) (a := 104) c12_3 (by decide)
  have tc12_4 := lv_neT (k := 105) (a := 105) c12_4 (by decide)
  have tc12_5 := lv_neT (k := 112) (a := 112) c12_5 (by decide)
  have tc12_6 := lv_neT (k := 119) (a := 119) c12_6 (by decide)
  refine lv_tableDef (tgt := 302) hx hb dX4_readStatement_12 (by
    rcases (by omega : (r1).toInt < 98 ∨ 119 < (r1).toInt ∨ (r1).toInt = 100 ∨ (r1).toInt = 101 ∨ (r1).toInt = 103 ∨ (r1).toInt = 106 ∨ (r1).toInt = 107 ∨ (r1).toInt = 108 ∨ (r1).toInt = 109 ∨ (r1).toInt = 110 ∨ (r1).toInt = 111 ∨ (r1).toInt = 113 ∨ (r1).toInt = 114 ∨ (r1).toInt = 115 ∨ (r1).toInt = 116 ∨ (r1).toInt = 117 ∨ (r1).toInt = 118) with hq|hq|hq|hq|hq|hq|hq|hq|hq|hq|hq|hq|hq|hq|hq|hq|hq
    · exact Or.inl (Or.inl hq)
    · exact Or.inl (Or.inr hq)
    all_goals (refine Or.inr ⟨by omega, by omega, ?_⟩; rw [hq]; rfl)) (by decide) ?_
  refine lv_iconst (v := 0) hx hb dX4_readStatement_302 (by decide) ?_
  subst hQ
  subst hAe
  exact W.zret (ty := .boolean) (v := 0) hx hb hr rfl (fun t ht hW => ⟨⟨0, (t_place, r1, t_first, t_second, t_third), rfl, Option.some.inj hR, by rw [ht]; exact hP, hD⟩, hS.F ht⟩) hS.2.2 dX4_readStatement_303
def lX4_countStatements_7 (t_length : Int32) (lettersA : Nat → Int32) : Nat → Int32 → Int32 → Int32 → Int32 → Int32 → Int32 → Option (Int32 × Int32 × Int32 × Int32 × Int32 × Int32)
  | 0, _, _, _, _, _, _ => none
  | n + 1, x1, t_place, t_word, t_first, t_second, t_third =>
    if 80 ≤ x1 then (
     some (x1, t_place, t_word, t_first, t_second, t_third))
    else (
    if t_length ≤ t_place then (
     some (x1, t_place, t_word, t_first, t_second, t_third))
    else (
    b6 (fX4_readStatement t_length t_place t_first t_second t_third lettersA) (fun r1 w2 w3 w4 w5 w6 =>
    if r1 = 0 then (
     some (0, w2, w3, w4, w5, w6))
    else (
    lX4_countStatements_7 t_length lettersA n (x1 + 1) w2 w3 w4 w5 w6))))
def fX4_countStatements (t_length : Int32) (t_word : Int32) (t_first : Int32) (t_second : Int32) (t_third : Int32) (lettersA : Nat → Int32) : Option (Int32 × Int32 × Int32 × Int32 × Int32 × Int32) :=
  lX4_countStatements_7 t_length lettersA (100) 0 0 t_word t_first t_second t_third
set_option maxHeartbeats 4000000 in
set_option maxRecDepth 100000 in
theorem kX4_countStatements (l : Launch) (dC : Nat → ClassId) (dI : Nat → Nat → Nat) (cI : ClassId) (a_t a_letters : Nat) (sz : Nat) (t_length : Int32) (t_place : Int32) (t_word : Int32) (t_first : Int32) (t_second : Int32) (t_third : Int32) (lettersA : Nat → Int32) (R : Int32 × Int32 × Int32 × Int32 × Int32 × Int32) (hR : fX4_countStatements t_length t_word t_first t_second t_third lettersA = some R) : Met l yX4_countStatements wsX4_countStatements ({ frames := 5, cells := 0, slots := 0, locals := 107 } : Room) (va_Pc [.ref a_t] (Wp (dC, dI) [(cI, .int)] [(a_t, .inr (4, [.ref a_letters, .int t_length, .int t_place, .int t_word, .int t_first, .int t_second, .int t_third])), (a_letters, .inl (cI, 80, .inl lettersA))] sz)) (va_Qi (fun (r : Int32) (u : Int32 × Int32 × Int32 × Int32 × Int32) => (r, u) = R) (Wq (dC, dI) [(a_t, .inr (4, [.ref a_letters, .int t_length, .int t_place, .int t_word, .int t_first, .int t_second, .int t_third])), (a_letters, .inl (cI, 80, .inl lettersA))] sz (fun (u : Int32 × Int32 × Int32 × Int32 × Int32) => ([(a_t, .inr (4, [.ref a_letters, .int t_length, .int u.1, .int u.2.1, .int u.2.2.1, .int u.2.2.2.1, .int u.2.2.2.2])), (a_letters, .inl (cI, 80, .inl lettersA))] : va_W))) (va_A [(a_t, .inr (4, [.ref a_letters, .int t_length, .int t_place, .int t_word, .int t_first, .int t_second, .int t_third])), (a_letters, .inl (cI, 80, .inl lettersA))] sz)) 0 0 (va_A [(a_t, .inr (4, [.ref a_letters, .int t_length, .int t_place, .int t_word, .int t_first, .int t_second, .int t_third])), (a_letters, .inl (cI, 80, .inl lettersA))] sz) := by
  refine Met.ofW (cc := cX4_countStatements) (maxL := 2) (ret := (some .int)) (by decide) rfl ?_
  intro p e s m args below meth c s₁ B hml hv
  obtain ⟨hargs, hsz, hP, hK, hD0, hN⟩ := hv
  have hx := B.exec
  have hb := B.bytes
  have hr := B.returns
  have hts := atoms_spec (ws := wsX4_countStatements) B.pre
  have hown : s.vm.findClass RX4 = some m.cls := findClass_of_methodNamed B.named
  have hlocks := B.notSynchronized
  subst hsz
  have hD := hD0.self (sz := s.heap.size)
  obtain ⟨A, hAe⟩ : ∃ A, A = va_A [(a_t, .inr (4, [.ref a_letters, .int t_length, .int t_place, .int t_word, .int t_first, .int t_second, .int t_third])), (a_letters, .inl (cI, 80, .inl lettersA))] s.heap.size := ⟨_, rfl⟩
  rw [← hAe] at hD
  have hA : ∀ q : Nat, s.heap.size ≤ q → A q := fun q h => by rw [hAe]; exact Or.inr h
  have hS : va_S A s.heap s.heap [] := va_S.rf
  have hl := lv_entry ([.ref a_t]) (n := 2) (Nat.le_of_ble_eq_true rfl)
  rw [e_of hargs, lg_entry_eq]
  generalize (lg_sl ([.ref a_t]) ++ List.replicate (2 - (lg_sl ([.ref a_t])).length) Slot.unset).toArray = ls at hl ⊢
  have hl : lv_has ls 2 [(0, .ref a_t)] := hl
  have hinX4 : ∀ w ∈ wsX40, w ∈ wsX4_countStatements := by decide +kernel
  refine w_q ({ frames := 5, cells := 0, slots := 0, locals := 107 } : Room) (fun Q0 hQ => ?_)
  have K7 : ∀ (n7 : Nat) (x1 : Int32) (t_place : Int32) (t_word : Int32) (t_first : Int32) (t_second : Int32) (t_third : Int32) (H : Heap) (locs : List Loc), va_P (dC, dI) vwCl [(a_t, .inr (4, [.ref a_letters, .int t_length, .int t_place, .int t_word, .int t_first, .int t_second, .int t_third])), (a_letters, .inl (cI, 80, .inl lettersA))] H → va_D A [(a_t, .inr (4, [.ref a_letters, .int t_length, .int t_place, .int t_word, .int t_first, .int t_second, .int t_third])), (a_letters, .inl (cI, 80, .inl lettersA))] → va_S A s.heap H locs → ∀ (ls : Array Slot), lv_has ls 2 [(0, .ref a_t), (1, .int x1)] → lX4_countStatements_7 t_length lettersA n7 x1 t_place t_word t_first t_second t_third = some R → W p l e ({ frames := 5, cells := 0, slots := 0, locals := 107 } : Room) s m args below meth c H locs 0 0 Q0 (F0 m 7 ls []) := by
    intro n7
    induction n7 with
    | zero =>
      intro x1 t_place t_word t_first t_second t_third H locs hP hD hS ls hl hR
      rw [lX4_countStatements_7] at hR
      cases hR
    | succ n7 ih7 =>
      intro x1 t_place t_word t_first t_second t_third H locs hP hD hS ls hl hR
      rw [lX4_countStatements_7] at hR
      refine lv_iload_n hx hb dX4_countStatements_7 rfl (lv_at hl 1 rfl) ?_
      refine lv_bipush (v := 80) hx hb dX4_countStatements_8 (by decide) ?_
      refine lv_icmp_ge (tgt := 39) hx hb dX4_countStatements_10 (by decide) (fun c10 => ?_) (fun c10 => ?_)
      · have hR := (if_pos c10).symm.trans hR
        refine lv_iload_n hx hb dX4_countStatements_39 rfl (lv_at hl 1 rfl) ?_
        subst hQ
        subst hAe
        exact W.iret (v := x1) hx hb hr (fun t ht hW => ⟨⟨x1, (t_place, t_word, t_first, t_second, t_third), rfl, Option.some.inj hR, by rw [ht]; exact hP, hD⟩, hS.F ht⟩) hS.2.2 dX4_countStatements_40
      · have hR := (if_neg c10).symm.trans hR
        refine lv_aload_n hx hb dX4_countStatements_13 rfl (lv_at hl 0 rfl) ?_
        refine va_get (D := (dC, dI)) (ci := 4) (v := .int t_place) (C := RX4) (T := TX4) (N := 7) hx hb hts hinX4 hown hK hP 0 rfl rfl 2 (by decide) (hts (.fieldLink RX4 23 "PaperInBin$Text" "place" "I") (by decide +kernel)) (fun _ h9 => h9) rfl dX4_countStatements_14 ?_
        refine lv_aload_n hx hb dX4_countStatements_17 rfl (lv_at hl 0 rfl) ?_
        refine va_get (D := (dC, dI)) (ci := 4) (v := .int t_length) (C := RX4) (T := TX4) (N := 7) hx hb hts hinX4 hown hK hP 0 rfl rfl 1 (by decide) (hts (.fieldLink RX4 15 "PaperInBin$Text" "length" "I") (by decide +kernel)) (fun _ h9 => h9) rfl dX4_countStatements_18 ?_
        refine lv_icmp_ge (tgt := 39) hx hb dX4_countStatements_21 (by decide) (fun c21 => ?_) (fun c21 => ?_)
        · have hR := (if_pos c21).symm.trans hR
          refine lv_iload_n hx hb dX4_countStatements_39 rfl (lv_at hl 1 rfl) ?_
          subst hQ
          subst hAe
          exact W.iret (v := x1) hx hb hr (fun t ht hW => ⟨⟨x1, (t_place, t_word, t_first, t_second, t_third), rfl, Option.some.inj hR, by rw [ht]; exact hP, hD⟩, hS.F ht⟩) hS.2.2 dX4_countStatements_40
        · have hR := (if_neg c21).symm.trans hR
          refine lv_aload_n hx hb dX4_countStatements_24 rfl (lv_at hl 0 rfl) ?_
          obtain ⟨r1, w2, w3, w4, w5, w6, hu7, hR⟩ := b6_s hR
          refine cl_ViT (As := []) (rest := []) (wc := [(a_t, .inr (4, [.ref a_letters, .int t_length, .int t_place, .int t_word, .int t_first, .int t_second, .int t_third])), (a_letters, .inl (cI, 80, .inl lettersA))]) (wr := []) ⟨hx, hb, hml, hown, hts⟩ (kX4_readStatement l dC dI cI a_t a_letters H.size t_length t_place t_word t_first t_second t_third lettersA (r1, w2, w3, w4, w5, w6) hu7) (cwV 0 hts gX4_countStatements_X4_readStatement rfl rfl rfl (by decide +kernel) ⟨Nat.le_of_ble_eq_true rfl, Nat.le_of_ble_eq_true rfl⟩) hK hN hP hD hS hA (va_recv hK hP (ci := 4) (q0 := 0) rfl rfl) [0, 1] [] rfl rfl rfl rfl rfl (by decide) rfl hl.1 rfl (Nat.le_of_ble_eq_true rfl) dX4_countStatements_25 (fun H locs hP hD hS => ?_)
          have hP : va_P (dC, dI) vwCl [(a_t, .inr (4, [.ref a_letters, .int t_length, .int w2, .int w3, .int w4, .int w5, .int w6])), (a_letters, .inl (cI, 80, .inl lettersA))] H := hP
          have hD : va_D A [(a_t, .inr (4, [.ref a_letters, .int t_length, .int w2, .int w3, .int w4, .int w5, .int w6])), (a_letters, .inl (cI, 80, .inl lettersA))] := hD
          refine lv_if_ne (tgt := 33) hx hb dX4_countStatements_28 (by decide) (fun c28 => ?_) (fun c28 => ?_)
          · have hR := (if_neg c28).symm.trans hR
            refine lv_iinc (v := (x1 + 1)) (lv' := [(1, .int (x1 + 1)), (0, .ref a_t)]) hx hb dX4_countStatements_33 hl (k := 1) rfl rfl (by decide) rfl (fun ls hl => ?_)
            refine lv_goto (tgt := 7) hx hb dX4_countStatements_36 (by decide) ?_
            exact ih7 (x1 + 1) w2 w3 w4 w5 w6 _ _ hP hD hS _ (lv_sub hl [1, 0] rfl) hR
          · have hR := (if_pos c28).symm.trans hR
            refine lv_iconst (v := 0) hx hb dX4_countStatements_31 (by decide) ?_
            subst hQ
            subst hAe
            exact W.iret (v := 0) hx hb hr (fun t ht hW => ⟨⟨0, (w2, w3, w4, w5, w6), rfl, Option.some.inj hR, by rw [ht]; exact hP, hD⟩, hS.F ht⟩) hS.2.2 dX4_countStatements_32
  rw [fX4_countStatements] at hR
  refine lv_aload_n hx hb dX4_countStatements_0 rfl (lv_at hl 0 rfl) ?_
  refine lv_iconst (v := 0) hx hb dX4_countStatements_1 (by decide) ?_
  refine va_put (D := (dC, dI)) (ci := 4) (v := .int 0) (ty := .int) (C := RX4) (T := TX4) (N := 7) hx hb hts hinX4 tyX4 tyX4_ok nmX4 hown hK hP hD hS 0 rfl rfl 2 (by decide) (hts (.fieldLink RX4 23 "PaperInBin$Text" "place" "I") (by decide +kernel)) (fun _ h9 => h9) rfl (tyX4_ok 2 (by decide)) rfl rfl (Nat.le_of_ble_eq_true rfl) dX4_countStatements_2 (fun H locs hP hD hS => ?_)
  have hP : va_P (dC, dI) vwCl [(a_t, .inr (4, [.ref a_letters, .int t_length, .int 0, .int t_word, .int t_first, .int t_second, .int t_third])), (a_letters, .inl (cI, 80, .inl lettersA))] H := hP
  have hD : va_D A [(a_t, .inr (4, [.ref a_letters, .int t_length, .int 0, .int t_word, .int t_first, .int t_second, .int t_third])), (a_letters, .inl (cI, 80, .inl lettersA))] := hD
  refine lv_iconst (v := 0) hx hb dX4_countStatements_5 (by decide) ?_
  refine lv_istore_n (lv' := [(1, .int 0), (0, .ref a_t)]) hx hb dX4_countStatements_6 rfl hl (by decide) rfl (fun ls hl => ?_)
  exact K7 (100) 0 0 t_word t_first t_second t_third _ _ hP hD hS _ (lv_sub hl [1, 0] rfl) hR
def fX4_tellStatement (t_word : Int32) (t_first : Int32) (t_second : Int32) (t_third : Int32) (p1_hand : Int32) (p1_at : Int32) (p1_wide : Int32) (p1_rim : Int32) (p1_fill : Int32) (p1_wall : Int32) (p1_ceiling : Int32) (p1_puff : Int32) (p1_period : Int32) (p1_ballCount : Int32) (p1_kindsA : Nat → Int32) (p1_sizesA : Nat → Int32) (p1_tightsA : Nat → Int32) : Option (Int32 × Int32 × Int32 × Int32 × Int32 × Int32 × Int32 × Int32 × Int32 × Int32 × Int32 × (Nat → Int32) × (Nat → Int32) × (Nat → Int32)) :=
  if t_word = 98 then (
   b4 (fX3_setBin t_first t_second t_third p1_at p1_wide p1_rim p1_wall) (fun r1 w2 w3 w4 =>
   g_b r1 (
   some (r1, p1_hand, w2, w3, w4, p1_fill, p1_wall, p1_ceiling, p1_puff, p1_period, p1_ballCount, p1_kindsA, p1_sizesA, p1_tightsA)))) else
  if t_word = 99 then (
   b2 (fX3_setCeiling t_first p1_ceiling) (fun r7 w8 =>
   g_b r7 (
   some (r7, p1_hand, p1_at, p1_wide, p1_rim, p1_fill, p1_wall, w8, p1_puff, p1_period, p1_ballCount, p1_kindsA, p1_sizesA, p1_tightsA)))) else
  if t_word = 102 then (
   b3 (fX3_setFan t_first t_second p1_puff p1_period) (fun r11 w12 w13 =>
   g_b r11 (
   some (r11, p1_hand, p1_at, p1_wide, p1_rim, p1_fill, p1_wall, p1_ceiling, w12, w13, p1_ballCount, p1_kindsA, p1_sizesA, p1_tightsA)))) else
  if t_word = 104 then (
   b2 (fX3_setHand t_first p1_hand) (fun r16 w17 =>
   g_b r16 (
   some (r16, w17, p1_at, p1_wide, p1_rim, p1_fill, p1_wall, p1_ceiling, p1_puff, p1_period, p1_ballCount, p1_kindsA, p1_sizesA, p1_tightsA)))) else
  if t_word = 105 then (
   b2 (fX3_setFill t_first p1_fill) (fun r20 w21 =>
   g_b r20 (
   some (r20, p1_hand, p1_at, p1_wide, p1_rim, w21, p1_wall, p1_ceiling, p1_puff, p1_period, p1_ballCount, p1_kindsA, p1_sizesA, p1_tightsA)))) else
  if t_word = 119 then (
   b2 (fX3_setWall t_first p1_at p1_wide p1_wall) (fun r24 w25 =>
   g_b r24 (
   some (r24, p1_hand, p1_at, p1_wide, p1_rim, p1_fill, w25, p1_ceiling, p1_puff, p1_period, p1_ballCount, p1_kindsA, p1_sizesA, p1_tightsA)))) else
  b5 (fX3_addBall t_first t_second t_third p1_ballCount p1_kindsA p1_sizesA p1_tightsA) (fun r28 w29 w30 w31 w32 =>
  g_b r28 (
  some (r28, p1_hand, p1_at, p1_wide, p1_rim, p1_fill, p1_wall, p1_ceiling, p1_puff, p1_period, w29, w30, w31, w32)))
set_option maxHeartbeats 4000000 in
set_option maxRecDepth 100000 in
theorem kX4_tellStatement (l : Launch) (dC : Nat → ClassId) (dI : Nat → Nat → Nat) (cI : ClassId) (a_t a_letters a_p1 a_p1_kinds a_p1_sizes a_p1_tights : Nat) (sz : Nat) (t_length : Int32) (t_place : Int32) (t_word : Int32) (t_first : Int32) (t_second : Int32) (t_third : Int32) (p1_hand : Int32) (p1_at : Int32) (p1_wide : Int32) (p1_rim : Int32) (p1_fill : Int32) (p1_wall : Int32) (p1_ceiling : Int32) (p1_puff : Int32) (p1_period : Int32) (p1_second : Int32) (p1_score : Int32) (p1_thrown : Int32) (p1_ballCount : Int32) (p1_kindsA : Nat → Int32) (p1_sizesA : Nat → Int32) (p1_tightsA : Nat → Int32) (R : Int32 × Int32 × Int32 × Int32 × Int32 × Int32 × Int32 × Int32 × Int32 × Int32 × Int32 × (Nat → Int32) × (Nat → Int32) × (Nat → Int32)) (hR : fX4_tellStatement t_word t_first t_second t_third p1_hand p1_at p1_wide p1_rim p1_fill p1_wall p1_ceiling p1_puff p1_period p1_ballCount p1_kindsA p1_sizesA p1_tightsA = some R) : Met l yX4_tellStatement wsX4_tellStatement ({ frames := 2, cells := 0, slots := 0, locals := 45 } : Room) (va_Pc [.ref a_t, .ref a_p1] (Wp (dC, dI) [(cI, .int)] [(a_t, .inr (4, [.ref a_letters, .int t_length, .int t_place, .int t_word, .int t_first, .int t_second, .int t_third])), (a_p1, .inr (3, [.int p1_hand, .int p1_at, .int p1_wide, .int p1_rim, .int p1_fill, .int p1_wall, .int p1_ceiling, .int p1_puff, .int p1_period, .int p1_second, .int p1_score, .int p1_thrown, .int p1_ballCount, .ref a_p1_kinds, .ref a_p1_sizes, .ref a_p1_tights])), (a_p1_kinds, .inl (cI, 5, .inl p1_kindsA)), (a_p1_sizes, .inl (cI, 5, .inl p1_sizesA)), (a_p1_tights, .inl (cI, 5, .inl p1_tightsA))] sz)) (va_Qi (fun (r : Int32) (u : Int32 × Int32 × Int32 × Int32 × Int32 × Int32 × Int32 × Int32 × Int32 × Int32 × (Nat → Int32) × (Nat → Int32) × (Nat → Int32)) => (r, u) = R) (Wq (dC, dI) [(a_t, .inr (4, [.ref a_letters, .int t_length, .int t_place, .int t_word, .int t_first, .int t_second, .int t_third])), (a_p1, .inr (3, [.int p1_hand, .int p1_at, .int p1_wide, .int p1_rim, .int p1_fill, .int p1_wall, .int p1_ceiling, .int p1_puff, .int p1_period, .int p1_second, .int p1_score, .int p1_thrown, .int p1_ballCount, .ref a_p1_kinds, .ref a_p1_sizes, .ref a_p1_tights])), (a_p1_kinds, .inl (cI, 5, .inl p1_kindsA)), (a_p1_sizes, .inl (cI, 5, .inl p1_sizesA)), (a_p1_tights, .inl (cI, 5, .inl p1_tightsA))] sz (fun (u : Int32 × Int32 × Int32 × Int32 × Int32 × Int32 × Int32 × Int32 × Int32 × Int32 × (Nat → Int32) × (Nat → Int32) × (Nat → Int32)) => ([(a_t, .inr (4, [.ref a_letters, .int t_length, .int t_place, .int t_word, .int t_first, .int t_second, .int t_third])), (a_p1, .inr (3, [.int u.1, .int u.2.1, .int u.2.2.1, .int u.2.2.2.1, .int u.2.2.2.2.1, .int u.2.2.2.2.2.1, .int u.2.2.2.2.2.2.1, .int u.2.2.2.2.2.2.2.1, .int u.2.2.2.2.2.2.2.2.1, .int p1_second, .int p1_score, .int p1_thrown, .int u.2.2.2.2.2.2.2.2.2.1, .ref a_p1_kinds, .ref a_p1_sizes, .ref a_p1_tights])), (a_p1_kinds, .inl (cI, 5, .inl u.2.2.2.2.2.2.2.2.2.2.1)), (a_p1_sizes, .inl (cI, 5, .inl u.2.2.2.2.2.2.2.2.2.2.2.1)), (a_p1_tights, .inl (cI, 5, .inl u.2.2.2.2.2.2.2.2.2.2.2.2))] : va_W))) (va_A [(a_t, .inr (4, [.ref a_letters, .int t_length, .int t_place, .int t_word, .int t_first, .int t_second, .int t_third])), (a_p1, .inr (3, [.int p1_hand, .int p1_at, .int p1_wide, .int p1_rim, .int p1_fill, .int p1_wall, .int p1_ceiling, .int p1_puff, .int p1_period, .int p1_second, .int p1_score, .int p1_thrown, .int p1_ballCount, .ref a_p1_kinds, .ref a_p1_sizes, .ref a_p1_tights])), (a_p1_kinds, .inl (cI, 5, .inl p1_kindsA)), (a_p1_sizes, .inl (cI, 5, .inl p1_sizesA)), (a_p1_tights, .inl (cI, 5, .inl p1_tightsA))] sz)) 0 0 (va_A [(a_t, .inr (4, [.ref a_letters, .int t_length, .int t_place, .int t_word, .int t_first, .int t_second, .int t_third])), (a_p1, .inr (3, [.int p1_hand, .int p1_at, .int p1_wide, .int p1_rim, .int p1_fill, .int p1_wall, .int p1_ceiling, .int p1_puff, .int p1_period, .int p1_second, .int p1_score, .int p1_thrown, .int p1_ballCount, .ref a_p1_kinds, .ref a_p1_sizes, .ref a_p1_tights])), (a_p1_kinds, .inl (cI, 5, .inl p1_kindsA)), (a_p1_sizes, .inl (cI, 5, .inl p1_sizesA)), (a_p1_tights, .inl (cI, 5, .inl p1_tightsA))] sz) := by
  refine Met.ofW (cc := cX4_tellStatement) (maxL := 2) (ret := (some .boolean)) (by decide) rfl ?_
  intro p e s m args below meth c s₁ B hml hv
  obtain ⟨hargs, hsz, hP, hK, hD0, hN⟩ := hv
  have hx := B.exec
  have hb := B.bytes
  have hr := B.returns
  have hts := atoms_spec (ws := wsX4_tellStatement) B.pre
  have hown : s.vm.findClass RX4 = some m.cls := findClass_of_methodNamed B.named
  have hlocks := B.notSynchronized
  subst hsz
  have hD := hD0.self (sz := s.heap.size)
  obtain ⟨A, hAe⟩ : ∃ A, A = va_A [(a_t, .inr (4, [.ref a_letters, .int t_length, .int t_place, .int t_word, .int t_first, .int t_second, .int t_third])), (a_p1, .inr (3, [.int p1_hand, .int p1_at, .int p1_wide, .int p1_rim, .int p1_fill, .int p1_wall, .int p1_ceiling, .int p1_puff, .int p1_period, .int p1_second, .int p1_score, .int p1_thrown, .int p1_ballCount, .ref a_p1_kinds, .ref a_p1_sizes, .ref a_p1_tights])), (a_p1_kinds, .inl (cI, 5, .inl p1_kindsA)), (a_p1_sizes, .inl (cI, 5, .inl p1_sizesA)), (a_p1_tights, .inl (cI, 5, .inl p1_tightsA))] s.heap.size := ⟨_, rfl⟩
  rw [← hAe] at hD
  have hA : ∀ q : Nat, s.heap.size ≤ q → A q := fun q h => by rw [hAe]; exact Or.inr h
  have hS : va_S A s.heap s.heap [] := va_S.rf
  have hl := lv_entry ([.ref a_t, .ref a_p1]) (n := 2) (Nat.le_of_ble_eq_true rfl)
  rw [e_of hargs, lg_entry_eq]
  generalize (lg_sl ([.ref a_t, .ref a_p1]) ++ List.replicate (2 - (lg_sl ([.ref a_t, .ref a_p1])).length) Slot.unset).toArray = ls at hl ⊢
  have hl : lv_has ls 2 [(0, .ref a_t), (1, .ref a_p1)] := hl
  have hinX4 : ∀ w ∈ wsX40, w ∈ wsX4_tellStatement := by decide +kernel
  refine w_q ({ frames := 2, cells := 0, slots := 0, locals := 45 } : Room) (fun Q0 hQ => ?_)
  rw [fX4_tellStatement] at hR
  refine lv_aload_n hx hb dX4_tellStatement_0 rfl (lv_at hl 0 rfl) ?_
  refine va_get (D := (dC, dI)) (ci := 4) (v := .int t_word) (C := RX4) (T := TX4) (N := 7) hx hb hts hinX4 hown hK hP 0 rfl rfl 3 (by decide) (hts (.fieldLink RX4 34 "PaperInBin$Text" "word" "I") (by decide +kernel)) (fun _ h9 => h9) rfl dX4_tellStatement_1 ?_
  by_cases c4_0 : t_word = 98
  · have hR := (if_pos c4_0).symm.trans hR
    refine lv_lookup (off := 60) (tgt := 64) hx hb dX4_tellStatement_4 (by decide) (by rw [c4_0]; decide) (by decide) ?_
    refine lv_aload_n hx hb dX4_tellStatement_64 rfl (lv_at hl 1 rfl) ?_
    refine lv_aload_n hx hb dX4_tellStatement_65 rfl (lv_at hl 0 rfl) ?_
    refine va_get (D := (dC, dI)) (ci := 4) (v := .int t_first) (C := RX4) (T := TX4) (N := 7) hx hb hts hinX4 hown hK hP 0 rfl rfl 4 (by decide) (hts (.fieldLink RX4 37 "PaperInBin$Text" "first" "I") (by decide +kernel)) (fun _ h9 => h9) rfl dX4_tellStatement_66 ?_
    refine lv_aload_n hx hb dX4_tellStatement_69 rfl (lv_at hl 0 rfl) ?_
    refine va_get (D := (dC, dI)) (ci := 4) (v := .int t_second) (C := RX4) (T := TX4) (N := 7) hx hb hts hinX4 hown hK hP 0 rfl rfl 5 (by decide) (hts (.fieldLink RX4 40 "PaperInBin$Text" "second" "I") (by decide +kernel)) (fun _ h9 => h9) rfl dX4_tellStatement_70 ?_
    refine lv_aload_n hx hb dX4_tellStatement_73 rfl (lv_at hl 0 rfl) ?_
    refine va_get (D := (dC, dI)) (ci := 4) (v := .int t_third) (C := RX4) (T := TX4) (N := 7) hx hb hts hinX4 hown hK hP 0 rfl rfl 6 (by decide) (hts (.fieldLink RX4 43 "PaperInBin$Text" "third" "I") (by decide +kernel)) (fun _ h9 => h9) rfl dX4_tellStatement_74 ?_
    obtain ⟨r1, w2, w3, w4, hu5, hR⟩ := b4_s hR
    refine cl_VNiT (As := [.int t_first, .int t_second, .int t_third]) (rest := []) (wc := [(a_p1, .inr (3, [.int p1_hand, .int p1_at, .int p1_wide, .int p1_rim, .int p1_fill, .int p1_wall, .int p1_ceiling, .int p1_puff, .int p1_period, .int p1_second, .int p1_score, .int p1_thrown, .int p1_ballCount, .ref a_p1_kinds, .ref a_p1_sizes, .ref a_p1_tights]))]) (wr := [(a_t, .inr (4, [.ref a_letters, .int t_length, .int t_place, .int t_word, .int t_first, .int t_second, .int t_third])), (a_p1_kinds, .inl (cI, 5, .inl p1_kindsA)), (a_p1_sizes, .inl (cI, 5, .inl p1_sizesA)), (a_p1_tights, .inl (cI, 5, .inl p1_tightsA))]) ⟨hx, hb, hml, hown, hts⟩ (kX3_setBin l dC dI cI a_p1 a_p1_kinds a_p1_sizes a_p1_tights s.heap.size t_first t_second t_third p1_hand p1_at p1_wide p1_rim p1_fill p1_wall p1_ceiling p1_puff p1_period p1_second p1_score p1_thrown p1_ballCount (r1, w2, w3, w4) hu5) ⟨va_cnB 3 hts gX4_tellStatement_X3_setBin_n46 rfl rfl rfl (nM_Text_46 hN) (hts (.initialized RX3) (by decide +kernel)) (by decide +kernel) ⟨Nat.le_of_ble_eq_true rfl, Nat.le_of_ble_eq_true rfl⟩, hts (.instanceMethod yX3_setBin) (by decide +kernel), hts (.selects RX3 yX3_setBin yX3_setBin) (by decide +kernel)⟩ hK hN hP hD hS hA (va_recv hK hP (ci := 3) (q0 := 1) rfl rfl) [1] [0, 2, 3, 4] rfl rfl rfl rfl rfl (by decide) rfl hl.1 rfl (Nat.le_of_ble_eq_true rfl) dX4_tellStatement_77 (fun H locs hP hD hS => ?_)
    have hP : va_P (dC, dI) vwCl [(a_t, .inr (4, [.ref a_letters, .int t_length, .int t_place, .int t_word, .int t_first, .int t_second, .int t_third])), (a_p1_kinds, .inl (cI, 5, .inl p1_kindsA)), (a_p1_sizes, .inl (cI, 5, .inl p1_sizesA)), (a_p1_tights, .inl (cI, 5, .inl p1_tightsA)), (a_p1, .inr (3, [.int p1_hand, .int w2, .int w3, .int w4, .int p1_fill, .int p1_wall, .int p1_ceiling, .int p1_puff, .int p1_period, .int p1_second, .int p1_score, .int p1_thrown, .int p1_ballCount, .ref a_p1_kinds, .ref a_p1_sizes, .ref a_p1_tights]))] H := hP
    have hD : va_D A [(a_t, .inr (4, [.ref a_letters, .int t_length, .int t_place, .int t_word, .int t_first, .int t_second, .int t_third])), (a_p1_kinds, .inl (cI, 5, .inl p1_kindsA)), (a_p1_sizes, .inl (cI, 5, .inl p1_sizesA)), (a_p1_tights, .inl (cI, 5, .inl p1_tightsA)), (a_p1, .inr (3, [.int p1_hand, .int w2, .int w3, .int w4, .int p1_fill, .int p1_wall, .int p1_ceiling, .int p1_puff, .int p1_period, .int p1_second, .int p1_score, .int p1_thrown, .int p1_ballCount, .ref a_p1_kinds, .ref a_p1_sizes, .ref a_p1_tights]))] := hD
    obtain ⟨g6, hR⟩ := g_b_s hR
    have hP := hP.sub (ws' := [(a_t, .inr (4, [.ref a_letters, .int t_length, .int t_place, .int t_word, .int t_first, .int t_second, .int t_third])), (a_p1, .inr (3, [.int p1_hand, .int w2, .int w3, .int w4, .int p1_fill, .int p1_wall, .int p1_ceiling, .int p1_puff, .int p1_period, .int p1_second, .int p1_score, .int p1_thrown, .int p1_ballCount, .ref a_p1_kinds, .ref a_p1_sizes, .ref a_p1_tights])), (a_p1_kinds, .inl (cI, 5, .inl p1_kindsA)), (a_p1_sizes, .inl (cI, 5, .inl p1_sizesA)), (a_p1_tights, .inl (cI, 5, .inl p1_tightsA))]) [0, 4, 1, 2, 3] rfl
    have hD := hD.sub (ws' := [(a_t, .inr (4, [.ref a_letters, .int t_length, .int t_place, .int t_word, .int t_first, .int t_second, .int t_third])), (a_p1, .inr (3, [.int p1_hand, .int w2, .int w3, .int w4, .int p1_fill, .int p1_wall, .int p1_ceiling, .int p1_puff, .int p1_period, .int p1_second, .int p1_score, .int p1_thrown, .int p1_ballCount, .ref a_p1_kinds, .ref a_p1_sizes, .ref a_p1_tights])), (a_p1_kinds, .inl (cI, 5, .inl p1_kindsA)), (a_p1_sizes, .inl (cI, 5, .inl p1_sizesA)), (a_p1_tights, .inl (cI, 5, .inl p1_tightsA))]) [0, 4, 1, 2, 3] (by decide) rfl
    subst hQ
    subst hAe
    exact W.zret (ty := .boolean) (v := r1) hx hb hr g6 (fun t ht hW => ⟨⟨r1, (p1_hand, w2, w3, w4, p1_fill, p1_wall, p1_ceiling, p1_puff, p1_period, p1_ballCount, p1_kindsA, p1_sizesA, p1_tightsA), rfl, Option.some.inj hR, by rw [ht]; exact hP, hD⟩, hS.F ht⟩) hS.2.2 dX4_tellStatement_80
  have hR := (if_neg c4_0).symm.trans hR
  by_cases c4_1 : t_word = 99
  · have hR := (if_pos c4_1).symm.trans hR
    refine lv_lookup (off := 86) (tgt := 90) hx hb dX4_tellStatement_4 (by decide) (by rw [c4_1]; decide) (by decide) ?_
    refine lv_aload_n hx hb dX4_tellStatement_90 rfl (lv_at hl 1 rfl) ?_
    refine lv_aload_n hx hb dX4_tellStatement_91 rfl (lv_at hl 0 rfl) ?_
    refine va_get (D := (dC, dI)) (ci := 4) (v := .int t_first) (C := RX4) (T := TX4) (N := 7) hx hb hts hinX4 hown hK hP 0 rfl rfl 4 (by decide) (hts (.fieldLink RX4 37 "PaperInBin$Text" "first" "I") (by decide +kernel)) (fun _ h9 => h9) rfl dX4_tellStatement_92 ?_
    obtain ⟨r7, w8, hu9, hR⟩ := b2_s hR
    refine cl_VNiT (As := [.int t_first]) (rest := []) (wc := [(a_p1, .inr (3, [.int p1_hand, .int p1_at, .int p1_wide, .int p1_rim, .int p1_fill, .int p1_wall, .int p1_ceiling, .int p1_puff, .int p1_period, .int p1_second, .int p1_score, .int p1_thrown, .int p1_ballCount, .ref a_p1_kinds, .ref a_p1_sizes, .ref a_p1_tights]))]) (wr := [(a_t, .inr (4, [.ref a_letters, .int t_length, .int t_place, .int t_word, .int t_first, .int t_second, .int t_third])), (a_p1_kinds, .inl (cI, 5, .inl p1_kindsA)), (a_p1_sizes, .inl (cI, 5, .inl p1_sizesA)), (a_p1_tights, .inl (cI, 5, .inl p1_tightsA))]) ⟨hx, hb, hml, hown, hts⟩ (kX3_setCeiling l dC dI cI a_p1 a_p1_kinds a_p1_sizes a_p1_tights s.heap.size t_first p1_hand p1_at p1_wide p1_rim p1_fill p1_wall p1_ceiling p1_puff p1_period p1_second p1_score p1_thrown p1_ballCount (r7, w8) hu9) ⟨va_cnB 1 hts gX4_tellStatement_X3_setCeiling_n56 rfl rfl rfl (nM_Text_56 hN) (hts (.initialized RX3) (by decide +kernel)) (by decide +kernel) ⟨Nat.le_of_ble_eq_true rfl, Nat.le_of_ble_eq_true rfl⟩, hts (.instanceMethod yX3_setCeiling) (by decide +kernel), hts (.selects RX3 yX3_setCeiling yX3_setCeiling) (by decide +kernel)⟩ hK hN hP hD hS hA (va_recv hK hP (ci := 3) (q0 := 1) rfl rfl) [1] [0, 2, 3, 4] rfl rfl rfl rfl rfl (by decide) rfl hl.1 rfl (Nat.le_of_ble_eq_true rfl) dX4_tellStatement_95 (fun H locs hP hD hS => ?_)
    have hP : va_P (dC, dI) vwCl [(a_t, .inr (4, [.ref a_letters, .int t_length, .int t_place, .int t_word, .int t_first, .int t_second, .int t_third])), (a_p1_kinds, .inl (cI, 5, .inl p1_kindsA)), (a_p1_sizes, .inl (cI, 5, .inl p1_sizesA)), (a_p1_tights, .inl (cI, 5, .inl p1_tightsA)), (a_p1, .inr (3, [.int p1_hand, .int p1_at, .int p1_wide, .int p1_rim, .int p1_fill, .int p1_wall, .int w8, .int p1_puff, .int p1_period, .int p1_second, .int p1_score, .int p1_thrown, .int p1_ballCount, .ref a_p1_kinds, .ref a_p1_sizes, .ref a_p1_tights]))] H := hP
    have hD : va_D A [(a_t, .inr (4, [.ref a_letters, .int t_length, .int t_place, .int t_word, .int t_first, .int t_second, .int t_third])), (a_p1_kinds, .inl (cI, 5, .inl p1_kindsA)), (a_p1_sizes, .inl (cI, 5, .inl p1_sizesA)), (a_p1_tights, .inl (cI, 5, .inl p1_tightsA)), (a_p1, .inr (3, [.int p1_hand, .int p1_at, .int p1_wide, .int p1_rim, .int p1_fill, .int p1_wall, .int w8, .int p1_puff, .int p1_period, .int p1_second, .int p1_score, .int p1_thrown, .int p1_ballCount, .ref a_p1_kinds, .ref a_p1_sizes, .ref a_p1_tights]))] := hD
    obtain ⟨g10, hR⟩ := g_b_s hR
    have hP := hP.sub (ws' := [(a_t, .inr (4, [.ref a_letters, .int t_length, .int t_place, .int t_word, .int t_first, .int t_second, .int t_third])), (a_p1, .inr (3, [.int p1_hand, .int p1_at, .int p1_wide, .int p1_rim, .int p1_fill, .int p1_wall, .int w8, .int p1_puff, .int p1_period, .int p1_second, .int p1_score, .int p1_thrown, .int p1_ballCount, .ref a_p1_kinds, .ref a_p1_sizes, .ref a_p1_tights])), (a_p1_kinds, .inl (cI, 5, .inl p1_kindsA)), (a_p1_sizes, .inl (cI, 5, .inl p1_sizesA)), (a_p1_tights, .inl (cI, 5, .inl p1_tightsA))]) [0, 4, 1, 2, 3] rfl
    have hD := hD.sub (ws' := [(a_t, .inr (4, [.ref a_letters, .int t_length, .int t_place, .int t_word, .int t_first, .int t_second, .int t_third])), (a_p1, .inr (3, [.int p1_hand, .int p1_at, .int p1_wide, .int p1_rim, .int p1_fill, .int p1_wall, .int w8, .int p1_puff, .int p1_period, .int p1_second, .int p1_score, .int p1_thrown, .int p1_ballCount, .ref a_p1_kinds, .ref a_p1_sizes, .ref a_p1_tights])), (a_p1_kinds, .inl (cI, 5, .inl p1_kindsA)), (a_p1_sizes, .inl (cI, 5, .inl p1_sizesA)), (a_p1_tights, .inl (cI, 5, .inl p1_tightsA))]) [0, 4, 1, 2, 3] (by decide) rfl
    subst hQ
    subst hAe
    exact W.zret (ty := .boolean) (v := r7) hx hb hr g10 (fun t ht hW => ⟨⟨r7, (p1_hand, p1_at, p1_wide, p1_rim, p1_fill, p1_wall, w8, p1_puff, p1_period, p1_ballCount, p1_kindsA, p1_sizesA, p1_tightsA), rfl, Option.some.inj hR, by rw [ht]; exact hP, hD⟩, hS.F ht⟩) hS.2.2 dX4_tellStatement_98
  have hR := (if_neg c4_1).symm.trans hR
  by_cases c4_2 : t_word = 102
  · have hR := (if_pos c4_2).symm.trans hR
    refine lv_lookup (off := 104) (tgt := 108) hx hb dX4_tellStatement_4 (by decide) (by rw [c4_2]; decide) (by decide) ?_
    refine lv_aload_n hx hb dX4_tellStatement_108 rfl (lv_at hl 1 rfl) ?_
    refine lv_aload_n hx hb dX4_tellStatement_109 rfl (lv_at hl 0 rfl) ?_
    refine va_get (D := (dC, dI)) (ci := 4) (v := .int t_first) (C := RX4) (T := TX4) (N := 7) hx hb hts hinX4 hown hK hP 0 rfl rfl 4 (by decide) (hts (.fieldLink RX4 37 "PaperInBin$Text" "first" "I") (by decide +kernel)) (fun _ h9 => h9) rfl dX4_tellStatement_110 ?_
    refine lv_aload_n hx hb dX4_tellStatement_113 rfl (lv_at hl 0 rfl) ?_
    refine va_get (D := (dC, dI)) (ci := 4) (v := .int t_second) (C := RX4) (T := TX4) (N := 7) hx hb hts hinX4 hown hK hP 0 rfl rfl 5 (by decide) (hts (.fieldLink RX4 40 "PaperInBin$Text" "second" "I") (by decide +kernel)) (fun _ h9 => h9) rfl dX4_tellStatement_114 ?_
    obtain ⟨r11, w12, w13, hu14, hR⟩ := b3_s hR
    refine cl_VNiT (As := [.int t_first, .int t_second]) (rest := []) (wc := [(a_p1, .inr (3, [.int p1_hand, .int p1_at, .int p1_wide, .int p1_rim, .int p1_fill, .int p1_wall, .int p1_ceiling, .int p1_puff, .int p1_period, .int p1_second, .int p1_score, .int p1_thrown, .int p1_ballCount, .ref a_p1_kinds, .ref a_p1_sizes, .ref a_p1_tights]))]) (wr := [(a_t, .inr (4, [.ref a_letters, .int t_length, .int t_place, .int t_word, .int t_first, .int t_second, .int t_third])), (a_p1_kinds, .inl (cI, 5, .inl p1_kindsA)), (a_p1_sizes, .inl (cI, 5, .inl p1_sizesA)), (a_p1_tights, .inl (cI, 5, .inl p1_tightsA))]) ⟨hx, hb, hml, hown, hts⟩ (kX3_setFan l dC dI cI a_p1 a_p1_kinds a_p1_sizes a_p1_tights s.heap.size t_first t_second p1_hand p1_at p1_wide p1_rim p1_fill p1_wall p1_ceiling p1_puff p1_period p1_second p1_score p1_thrown p1_ballCount (r11, w12, w13) hu14) ⟨va_cnB 2 hts gX4_tellStatement_X3_setFan_n62 rfl rfl rfl (nM_Text_62 hN) (hts (.initialized RX3) (by decide +kernel)) (by decide +kernel) ⟨Nat.le_of_ble_eq_true rfl, Nat.le_of_ble_eq_true rfl⟩, hts (.instanceMethod yX3_setFan) (by decide +kernel), hts (.selects RX3 yX3_setFan yX3_setFan) (by decide +kernel)⟩ hK hN hP hD hS hA (va_recv hK hP (ci := 3) (q0 := 1) rfl rfl) [1] [0, 2, 3, 4] rfl rfl rfl rfl rfl (by decide) rfl hl.1 rfl (Nat.le_of_ble_eq_true rfl) dX4_tellStatement_117 (fun H locs hP hD hS => ?_)
    have hP : va_P (dC, dI) vwCl [(a_t, .inr (4, [.ref a_letters, .int t_length, .int t_place, .int t_word, .int t_first, .int t_second, .int t_third])), (a_p1_kinds, .inl (cI, 5, .inl p1_kindsA)), (a_p1_sizes, .inl (cI, 5, .inl p1_sizesA)), (a_p1_tights, .inl (cI, 5, .inl p1_tightsA)), (a_p1, .inr (3, [.int p1_hand, .int p1_at, .int p1_wide, .int p1_rim, .int p1_fill, .int p1_wall, .int p1_ceiling, .int w12, .int w13, .int p1_second, .int p1_score, .int p1_thrown, .int p1_ballCount, .ref a_p1_kinds, .ref a_p1_sizes, .ref a_p1_tights]))] H := hP
    have hD : va_D A [(a_t, .inr (4, [.ref a_letters, .int t_length, .int t_place, .int t_word, .int t_first, .int t_second, .int t_third])), (a_p1_kinds, .inl (cI, 5, .inl p1_kindsA)), (a_p1_sizes, .inl (cI, 5, .inl p1_sizesA)), (a_p1_tights, .inl (cI, 5, .inl p1_tightsA)), (a_p1, .inr (3, [.int p1_hand, .int p1_at, .int p1_wide, .int p1_rim, .int p1_fill, .int p1_wall, .int p1_ceiling, .int w12, .int w13, .int p1_second, .int p1_score, .int p1_thrown, .int p1_ballCount, .ref a_p1_kinds, .ref a_p1_sizes, .ref a_p1_tights]))] := hD
    obtain ⟨g15, hR⟩ := g_b_s hR
    have hP := hP.sub (ws' := [(a_t, .inr (4, [.ref a_letters, .int t_length, .int t_place, .int t_word, .int t_first, .int t_second, .int t_third])), (a_p1, .inr (3, [.int p1_hand, .int p1_at, .int p1_wide, .int p1_rim, .int p1_fill, .int p1_wall, .int p1_ceiling, .int w12, .int w13, .int p1_second, .int p1_score, .int p1_thrown, .int p1_ballCount, .ref a_p1_kinds, .ref a_p1_sizes, .ref a_p1_tights])), (a_p1_kinds, .inl (cI, 5, .inl p1_kindsA)), (a_p1_sizes, .inl (cI, 5, .inl p1_sizesA)), (a_p1_tights, .inl (cI, 5, .inl p1_tightsA))]) [0, 4, 1, 2, 3] rfl
    have hD := hD.sub (ws' := [(a_t, .inr (4, [.ref a_letters, .int t_length, .int t_place, .int t_word, .int t_first, .int t_second, .int t_third])), (a_p1, .inr (3, [.int p1_hand, .int p1_at, .int p1_wide, .int p1_rim, .int p1_fill, .int p1_wall, .int p1_ceiling, .int w12, .int w13, .int p1_second, .int p1_score, .int p1_thrown, .int p1_ballCount, .ref a_p1_kinds, .ref a_p1_sizes, .ref a_p1_tights])), (a_p1_kinds, .inl (cI, 5, .inl p1_kindsA)), (a_p1_sizes, .inl (cI, 5, .inl p1_sizesA)), (a_p1_tights, .inl (cI, 5, .inl p1_tightsA))]) [0, 4, 1, 2, 3] (by decide) rfl
    subst hQ
    subst hAe
    exact W.zret (ty := .boolean) (v := r11) hx hb hr g15 (fun t ht hW => ⟨⟨r11, (p1_hand, p1_at, p1_wide, p1_rim, p1_fill, p1_wall, p1_ceiling, w12, w13, p1_ballCount, p1_kindsA, p1_sizesA, p1_tightsA), rfl, Option.some.inj hR, by rw [ht]; exact hP, hD⟩, hS.F ht⟩) hS.2.2 dX4_tellStatement_120
  have hR := (if_neg c4_2).symm.trans hR
  by_cases c4_3 : t_word = 104
  · have hR := (if_pos c4_3).symm.trans hR
    refine lv_lookup (off := 95) (tgt := 99) hx hb dX4_tellStatement_4 (by decide) (by rw [c4_3]; decide) (by decide) ?_
    refine lv_aload_n hx hb dX4_tellStatement_99 rfl (lv_at hl 1 rfl) ?_
    refine lv_aload_n hx hb dX4_tellStatement_100 rfl (lv_at hl 0 rfl) ?_
    refine va_get (D := (dC, dI)) (ci := 4) (v := .int t_first) (C := RX4) (T := TX4) (N := 7) hx hb hts hinX4 hown hK hP 0 rfl rfl 4 (by decide) (hts (.fieldLink RX4 37 "PaperInBin$Text" "first" "I") (by decide +kernel)) (fun _ h9 => h9) rfl dX4_tellStatement_101 ?_
    obtain ⟨r16, w17, hu18, hR⟩ := b2_s hR
    refine cl_VNiT (As := [.int t_first]) (rest := []) (wc := [(a_p1, .inr (3, [.int p1_hand, .int p1_at, .int p1_wide, .int p1_rim, .int p1_fill, .int p1_wall, .int p1_ceiling, .int p1_puff, .int p1_period, .int p1_second, .int p1_score, .int p1_thrown, .int p1_ballCount, .ref a_p1_kinds, .ref a_p1_sizes, .ref a_p1_tights]))]) (wr := [(a_t, .inr (4, [.ref a_letters, .int t_length, .int t_place, .int t_word, .int t_first, .int t_second, .int t_third])), (a_p1_kinds, .inl (cI, 5, .inl p1_kindsA)), (a_p1_sizes, .inl (cI, 5, .inl p1_sizesA)), (a_p1_tights, .inl (cI, 5, .inl p1_tightsA))]) ⟨hx, hb, hml, hown, hts⟩ (kX3_setHand l dC dI cI a_p1 a_p1_kinds a_p1_sizes a_p1_tights s.heap.size t_first p1_hand p1_at p1_wide p1_rim p1_fill p1_wall p1_ceiling p1_puff p1_period p1_second p1_score p1_thrown p1_ballCount (r16, w17) hu18) ⟨va_cnB 1 hts gX4_tellStatement_X3_setHand_n59 rfl rfl rfl (nM_Text_59 hN) (hts (.initialized RX3) (by decide +kernel)) (by decide +kernel) ⟨Nat.le_of_ble_eq_true rfl, Nat.le_of_ble_eq_true rfl⟩, hts (.instanceMethod yX3_setHand) (by decide +kernel), hts (.selects RX3 yX3_setHand yX3_setHand) (by decide +kernel)⟩ hK hN hP hD hS hA (va_recv hK hP (ci := 3) (q0 := 1) rfl rfl) [1] [0, 2, 3, 4] rfl rfl rfl rfl rfl (by decide) rfl hl.1 rfl (Nat.le_of_ble_eq_true rfl) dX4_tellStatement_104 (fun H locs hP hD hS => ?_)
    have hP : va_P (dC, dI) vwCl [(a_t, .inr (4, [.ref a_letters, .int t_length, .int t_place, .int t_word, .int t_first, .int t_second, .int t_third])), (a_p1_kinds, .inl (cI, 5, .inl p1_kindsA)), (a_p1_sizes, .inl (cI, 5, .inl p1_sizesA)), (a_p1_tights, .inl (cI, 5, .inl p1_tightsA)), (a_p1, .inr (3, [.int w17, .int p1_at, .int p1_wide, .int p1_rim, .int p1_fill, .int p1_wall, .int p1_ceiling, .int p1_puff, .int p1_period, .int p1_second, .int p1_score, .int p1_thrown, .int p1_ballCount, .ref a_p1_kinds, .ref a_p1_sizes, .ref a_p1_tights]))] H := hP
    have hD : va_D A [(a_t, .inr (4, [.ref a_letters, .int t_length, .int t_place, .int t_word, .int t_first, .int t_second, .int t_third])), (a_p1_kinds, .inl (cI, 5, .inl p1_kindsA)), (a_p1_sizes, .inl (cI, 5, .inl p1_sizesA)), (a_p1_tights, .inl (cI, 5, .inl p1_tightsA)), (a_p1, .inr (3, [.int w17, .int p1_at, .int p1_wide, .int p1_rim, .int p1_fill, .int p1_wall, .int p1_ceiling, .int p1_puff, .int p1_period, .int p1_second, .int p1_score, .int p1_thrown, .int p1_ballCount, .ref a_p1_kinds, .ref a_p1_sizes, .ref a_p1_tights]))] := hD
    obtain ⟨g19, hR⟩ := g_b_s hR
    have hP := hP.sub (ws' := [(a_t, .inr (4, [.ref a_letters, .int t_length, .int t_place, .int t_word, .int t_first, .int t_second, .int t_third])), (a_p1, .inr (3, [.int w17, .int p1_at, .int p1_wide, .int p1_rim, .int p1_fill, .int p1_wall, .int p1_ceiling, .int p1_puff, .int p1_period, .int p1_second, .int p1_score, .int p1_thrown, .int p1_ballCount, .ref a_p1_kinds, .ref a_p1_sizes, .ref a_p1_tights])), (a_p1_kinds, .inl (cI, 5, .inl p1_kindsA)), (a_p1_sizes, .inl (cI, 5, .inl p1_sizesA)), (a_p1_tights, .inl (cI, 5, .inl p1_tightsA))]) [0, 4, 1, 2, 3] rfl
    have hD := hD.sub (ws' := [(a_t, .inr (4, [.ref a_letters, .int t_length, .int t_place, .int t_word, .int t_first, .int t_second, .int t_third])), (a_p1, .inr (3, [.int w17, .int p1_at, .int p1_wide, .int p1_rim, .int p1_fill, .int p1_wall, .int p1_ceiling, .int p1_puff, .int p1_period, .int p1_second, .int p1_score, .int p1_thrown, .int p1_ballCount, .ref a_p1_kinds, .ref a_p1_sizes, .ref a_p1_tights])), (a_p1_kinds, .inl (cI, 5, .inl p1_kindsA)), (a_p1_sizes, .inl (cI, 5, .inl p1_sizesA)), (a_p1_tights, .inl (cI, 5, .inl p1_tightsA))]) [0, 4, 1, 2, 3] (by decide) rfl
    subst hQ
    subst hAe
    exact W.zret (ty := .boolean) (v := r16) hx hb hr g19 (fun t ht hW => ⟨⟨r16, (w17, p1_at, p1_wide, p1_rim, p1_fill, p1_wall, p1_ceiling, p1_puff, p1_period, p1_ballCount, p1_kindsA, p1_sizesA, p1_tightsA), rfl, Option.some.inj hR, by rw [ht]; exact hP, hD⟩, hS.F ht⟩) hS.2.2 dX4_tellStatement_107
  have hR := (if_neg c4_3).symm.trans hR
  by_cases c4_4 : t_word = 105
  · have hR := (if_pos c4_4).symm.trans hR
    refine lv_lookup (off := 117) (tgt := 121) hx hb dX4_tellStatement_4 (by decide) (by rw [c4_4]; decide) (by decide) ?_
    refine lv_aload_n hx hb dX4_tellStatement_121 rfl (lv_at hl 1 rfl) ?_
    refine lv_aload_n hx hb dX4_tellStatement_122 rfl (lv_at hl 0 rfl) ?_
    refine va_get (D := (dC, dI)) (ci := 4) (v := .int t_first) (C := RX4) (T := TX4) (N := 7) hx hb hts hinX4 hown hK hP 0 rfl rfl 4 (by decide) (hts (.fieldLink RX4 37 "PaperInBin$Text" "first" "I") (by decide +kernel)) (fun _ h9 => h9) rfl dX4_tellStatement_123 ?_
    obtain ⟨r20, w21, hu22, hR⟩ := b2_s hR
    refine cl_VNiT (As := [.int t_first]) (rest := []) (wc := [(a_p1, .inr (3, [.int p1_hand, .int p1_at, .int p1_wide, .int p1_rim, .int p1_fill, .int p1_wall, .int p1_ceiling, .int p1_puff, .int p1_period, .int p1_second, .int p1_score, .int p1_thrown, .int p1_ballCount, .ref a_p1_kinds, .ref a_p1_sizes, .ref a_p1_tights]))]) (wr := [(a_t, .inr (4, [.ref a_letters, .int t_length, .int t_place, .int t_word, .int t_first, .int t_second, .int t_third])), (a_p1_kinds, .inl (cI, 5, .inl p1_kindsA)), (a_p1_sizes, .inl (cI, 5, .inl p1_sizesA)), (a_p1_tights, .inl (cI, 5, .inl p1_tightsA))]) ⟨hx, hb, hml, hown, hts⟩ (kX3_setFill l dC dI cI a_p1 a_p1_kinds a_p1_sizes a_p1_tights s.heap.size t_first p1_hand p1_at p1_wide p1_rim p1_fill p1_wall p1_ceiling p1_puff p1_period p1_second p1_score p1_thrown p1_ballCount (r20, w21) hu22) ⟨va_cnB 1 hts gX4_tellStatement_X3_setFill_n66 rfl rfl rfl (nM_Text_66 hN) (hts (.initialized RX3) (by decide +kernel)) (by decide +kernel) ⟨Nat.le_of_ble_eq_true rfl, Nat.le_of_ble_eq_true rfl⟩, hts (.instanceMethod yX3_setFill) (by decide +kernel), hts (.selects RX3 yX3_setFill yX3_setFill) (by decide +kernel)⟩ hK hN hP hD hS hA (va_recv hK hP (ci := 3) (q0 := 1) rfl rfl) [1] [0, 2, 3, 4] rfl rfl rfl rfl rfl (by decide) rfl hl.1 rfl (Nat.le_of_ble_eq_true rfl) dX4_tellStatement_126 (fun H locs hP hD hS => ?_)
    have hP : va_P (dC, dI) vwCl [(a_t, .inr (4, [.ref a_letters, .int t_length, .int t_place, .int t_word, .int t_first, .int t_second, .int t_third])), (a_p1_kinds, .inl (cI, 5, .inl p1_kindsA)), (a_p1_sizes, .inl (cI, 5, .inl p1_sizesA)), (a_p1_tights, .inl (cI, 5, .inl p1_tightsA)), (a_p1, .inr (3, [.int p1_hand, .int p1_at, .int p1_wide, .int p1_rim, .int w21, .int p1_wall, .int p1_ceiling, .int p1_puff, .int p1_period, .int p1_second, .int p1_score, .int p1_thrown, .int p1_ballCount, .ref a_p1_kinds, .ref a_p1_sizes, .ref a_p1_tights]))] H := hP
    have hD : va_D A [(a_t, .inr (4, [.ref a_letters, .int t_length, .int t_place, .int t_word, .int t_first, .int t_second, .int t_third])), (a_p1_kinds, .inl (cI, 5, .inl p1_kindsA)), (a_p1_sizes, .inl (cI, 5, .inl p1_sizesA)), (a_p1_tights, .inl (cI, 5, .inl p1_tightsA)), (a_p1, .inr (3, [.int p1_hand, .int p1_at, .int p1_wide, .int p1_rim, .int w21, .int p1_wall, .int p1_ceiling, .int p1_puff, .int p1_period, .int p1_second, .int p1_score, .int p1_thrown, .int p1_ballCount, .ref a_p1_kinds, .ref a_p1_sizes, .ref a_p1_tights]))] := hD
    obtain ⟨g23, hR⟩ := g_b_s hR
    have hP := hP.sub (ws' := [(a_t, .inr (4, [.ref a_letters, .int t_length, .int t_place, .int t_word, .int t_first, .int t_second, .int t_third])), (a_p1, .inr (3, [.int p1_hand, .int p1_at, .int p1_wide, .int p1_rim, .int w21, .int p1_wall, .int p1_ceiling, .int p1_puff, .int p1_period, .int p1_second, .int p1_score, .int p1_thrown, .int p1_ballCount, .ref a_p1_kinds, .ref a_p1_sizes, .ref a_p1_tights])), (a_p1_kinds, .inl (cI, 5, .inl p1_kindsA)), (a_p1_sizes, .inl (cI, 5, .inl p1_sizesA)), (a_p1_tights, .inl (cI, 5, .inl p1_tightsA))]) [0, 4, 1, 2, 3] rfl
    have hD := hD.sub (ws' := [(a_t, .inr (4, [.ref a_letters, .int t_length, .int t_place, .int t_word, .int t_first, .int t_second, .int t_third])), (a_p1, .inr (3, [.int p1_hand, .int p1_at, .int p1_wide, .int p1_rim, .int w21, .int p1_wall, .int p1_ceiling, .int p1_puff, .int p1_period, .int p1_second, .int p1_score, .int p1_thrown, .int p1_ballCount, .ref a_p1_kinds, .ref a_p1_sizes, .ref a_p1_tights])), (a_p1_kinds, .inl (cI, 5, .inl p1_kindsA)), (a_p1_sizes, .inl (cI, 5, .inl p1_sizesA)), (a_p1_tights, .inl (cI, 5, .inl p1_tightsA))]) [0, 4, 1, 2, 3] (by decide) rfl
    subst hQ
    subst hAe
    exact W.zret (ty := .boolean) (v := r20) hx hb hr g23 (fun t ht hW => ⟨⟨r20, (p1_hand, p1_at, p1_wide, p1_rim, w21, p1_wall, p1_ceiling, p1_puff, p1_period, p1_ballCount, p1_kindsA, p1_sizesA, p1_tightsA), rfl, Option.some.inj hR, by rw [ht]; exact hP, hD⟩, hS.F ht⟩) hS.2.2 dX4_tellStatement_129
  have hR := (if_neg c4_4).symm.trans hR
  by_cases c4_5 : t_word = 119
  · have hR := (if_pos c4_5).symm.trans hR
    refine lv_lookup (off := 77) (tgt := 81) hx hb dX4_tellStatement_4 (by decide) (by rw [c4_5]; decide) (by decide) ?_
    refine lv_aload_n hx hb dX4_tellStatement_81 rfl (lv_at hl 1 rfl) ?_
    refine lv_aload_n hx hb dX4_tellStatement_82 rfl (lv_at hl 0 rfl) ?_
    refine va_get (D := (dC, dI)) (ci := 4) (v := .int t_first) (C := RX4) (T := TX4) (N := 7) hx hb hts hinX4 hown hK hP 0 rfl rfl 4 (by decide) (hts (.fieldLink RX4 37 "PaperInBin$Text" "first" "I") (by decide +kernel)) (fun _ h9 => h9) rfl dX4_tellStatement_83 ?_
    obtain ⟨r24, w25, hu26, hR⟩ := b2_s hR
    refine cl_VNiT (As := [.int t_first]) (rest := []) (wc := [(a_p1, .inr (3, [.int p1_hand, .int p1_at, .int p1_wide, .int p1_rim, .int p1_fill, .int p1_wall, .int p1_ceiling, .int p1_puff, .int p1_period, .int p1_second, .int p1_score, .int p1_thrown, .int p1_ballCount, .ref a_p1_kinds, .ref a_p1_sizes, .ref a_p1_tights]))]) (wr := [(a_t, .inr (4, [.ref a_letters, .int t_length, .int t_place, .int t_word, .int t_first, .int t_second, .int t_third])), (a_p1_kinds, .inl (cI, 5, .inl p1_kindsA)), (a_p1_sizes, .inl (cI, 5, .inl p1_sizesA)), (a_p1_tights, .inl (cI, 5, .inl p1_tightsA))]) ⟨hx, hb, hml, hown, hts⟩ (kX3_setWall l dC dI cI a_p1 a_p1_kinds a_p1_sizes a_p1_tights s.heap.size t_first p1_hand p1_at p1_wide p1_rim p1_fill p1_wall p1_ceiling p1_puff p1_period p1_second p1_score p1_thrown p1_ballCount (r24, w25) hu26) ⟨va_cnB 1 hts gX4_tellStatement_X3_setWall_n52 rfl rfl rfl (nM_Text_52 hN) (hts (.initialized RX3) (by decide +kernel)) (by decide +kernel) ⟨Nat.le_of_ble_eq_true rfl, Nat.le_of_ble_eq_true rfl⟩, hts (.instanceMethod yX3_setWall) (by decide +kernel), hts (.selects RX3 yX3_setWall yX3_setWall) (by decide +kernel)⟩ hK hN hP hD hS hA (va_recv hK hP (ci := 3) (q0 := 1) rfl rfl) [1] [0, 2, 3, 4] rfl rfl rfl rfl rfl (by decide) rfl hl.1 rfl (Nat.le_of_ble_eq_true rfl) dX4_tellStatement_86 (fun H locs hP hD hS => ?_)
    have hP : va_P (dC, dI) vwCl [(a_t, .inr (4, [.ref a_letters, .int t_length, .int t_place, .int t_word, .int t_first, .int t_second, .int t_third])), (a_p1_kinds, .inl (cI, 5, .inl p1_kindsA)), (a_p1_sizes, .inl (cI, 5, .inl p1_sizesA)), (a_p1_tights, .inl (cI, 5, .inl p1_tightsA)), (a_p1, .inr (3, [.int p1_hand, .int p1_at, .int p1_wide, .int p1_rim, .int p1_fill, .int w25, .int p1_ceiling, .int p1_puff, .int p1_period, .int p1_second, .int p1_score, .int p1_thrown, .int p1_ballCount, .ref a_p1_kinds, .ref a_p1_sizes, .ref a_p1_tights]))] H := hP
    have hD : va_D A [(a_t, .inr (4, [.ref a_letters, .int t_length, .int t_place, .int t_word, .int t_first, .int t_second, .int t_third])), (a_p1_kinds, .inl (cI, 5, .inl p1_kindsA)), (a_p1_sizes, .inl (cI, 5, .inl p1_sizesA)), (a_p1_tights, .inl (cI, 5, .inl p1_tightsA)), (a_p1, .inr (3, [.int p1_hand, .int p1_at, .int p1_wide, .int p1_rim, .int p1_fill, .int w25, .int p1_ceiling, .int p1_puff, .int p1_period, .int p1_second, .int p1_score, .int p1_thrown, .int p1_ballCount, .ref a_p1_kinds, .ref a_p1_sizes, .ref a_p1_tights]))] := hD
    obtain ⟨g27, hR⟩ := g_b_s hR
    have hP := hP.sub (ws' := [(a_t, .inr (4, [.ref a_letters, .int t_length, .int t_place, .int t_word, .int t_first, .int t_second, .int t_third])), (a_p1, .inr (3, [.int p1_hand, .int p1_at, .int p1_wide, .int p1_rim, .int p1_fill, .int w25, .int p1_ceiling, .int p1_puff, .int p1_period, .int p1_second, .int p1_score, .int p1_thrown, .int p1_ballCount, .ref a_p1_kinds, .ref a_p1_sizes, .ref a_p1_tights])), (a_p1_kinds, .inl (cI, 5, .inl p1_kindsA)), (a_p1_sizes, .inl (cI, 5, .inl p1_sizesA)), (a_p1_tights, .inl (cI, 5, .inl p1_tightsA))]) [0, 4, 1, 2, 3] rfl
    have hD := hD.sub (ws' := [(a_t, .inr (4, [.ref a_letters, .int t_length, .int t_place, .int t_word, .int t_first, .int t_second, .int t_third])), (a_p1, .inr (3, [.int p1_hand, .int p1_at, .int p1_wide, .int p1_rim, .int p1_fill, .int w25, .int p1_ceiling, .int p1_puff, .int p1_period, .int p1_second, .int p1_score, .int p1_thrown, .int p1_ballCount, .ref a_p1_kinds, .ref a_p1_sizes, .ref a_p1_tights])), (a_p1_kinds, .inl (cI, 5, .inl p1_kindsA)), (a_p1_sizes, .inl (cI, 5, .inl p1_sizesA)), (a_p1_tights, .inl (cI, 5, .inl p1_tightsA))]) [0, 4, 1, 2, 3] (by decide) rfl
    subst hQ
    subst hAe
    exact W.zret (ty := .boolean) (v := r24) hx hb hr g27 (fun t ht hW => ⟨⟨r24, (p1_hand, p1_at, p1_wide, p1_rim, p1_fill, w25, p1_ceiling, p1_puff, p1_period, p1_ballCount, p1_kindsA, p1_sizesA, p1_tightsA), rfl, Option.some.inj hR, by rw [ht]; exact hP, hD⟩, hS.F ht⟩) hS.2.2 dX4_tellStatement_89
  have hR := (if_neg c4_5).symm.trans hR
  refine lv_lookup (off := 126) (tgt := 130) hx hb dX4_tellStatement_4 (by decide) (by
    show Op.lookupswitch.offset [(98, 60), (99, 86), (102, 104), (104, 95), (105, 117), (119, 77)] 126 _ = 126
    rw [lv_osw (k := 98) c4_0 (by decide), lv_osw (k := 99) c4_1 (by decide), lv_osw (k := 102) c4_2 (by decide), lv_osw (k := 104) c4_3 (by decide), lv_osw (k := 105) c4_4 (by decide), lv_osw (k := 119) c4_5 (by decide)]
    rfl) (by decide) ?_
  refine lv_aload_n hx hb dX4_tellStatement_130 rfl (lv_at hl 1 rfl) ?_
  refine lv_aload_n hx hb dX4_tellStatement_131 rfl (lv_at hl 0 rfl) ?_
  refine va_get (D := (dC, dI)) (ci := 4) (v := .int t_first) (C := RX4) (T := TX4) (N := 7) hx hb hts hinX4 hown hK hP 0 rfl rfl 4 (by decide) (hts (.fieldLink RX4 37 "PaperInBin$Text" "first" "I") (by decide +kernel)) (fun _ h9 => h9) rfl dX4_tellStatement_132 ?_
  refine lv_aload_n hx hb dX4_tellStatement_135 rfl (lv_at hl 0 rfl) ?_
  refine va_get (D := (dC, dI)) (ci := 4) (v := .int t_second) (C := RX4) (T := TX4) (N := 7) hx hb hts hinX4 hown hK hP 0 rfl rfl 5 (by decide) (hts (.fieldLink RX4 40 "PaperInBin$Text" "second" "I") (by decide +kernel)) (fun _ h9 => h9) rfl dX4_tellStatement_136 ?_
  refine lv_aload_n hx hb dX4_tellStatement_139 rfl (lv_at hl 0 rfl) ?_
  refine va_get (D := (dC, dI)) (ci := 4) (v := .int t_third) (C := RX4) (T := TX4) (N := 7) hx hb hts hinX4 hown hK hP 0 rfl rfl 6 (by decide) (hts (.fieldLink RX4 43 "PaperInBin$Text" "third" "I") (by decide +kernel)) (fun _ h9 => h9) rfl dX4_tellStatement_140 ?_
  obtain ⟨r28, w29, w30, w31, w32, hu33, hR⟩ := b5_s hR
  refine cl_VNiT (As := [.int t_first, .int t_second, .int t_third]) (rest := []) (wc := [(a_p1, .inr (3, [.int p1_hand, .int p1_at, .int p1_wide, .int p1_rim, .int p1_fill, .int p1_wall, .int p1_ceiling, .int p1_puff, .int p1_period, .int p1_second, .int p1_score, .int p1_thrown, .int p1_ballCount, .ref a_p1_kinds, .ref a_p1_sizes, .ref a_p1_tights])), (a_p1_kinds, .inl (cI, 5, .inl p1_kindsA)), (a_p1_sizes, .inl (cI, 5, .inl p1_sizesA)), (a_p1_tights, .inl (cI, 5, .inl p1_tightsA))]) (wr := [(a_t, .inr (4, [.ref a_letters, .int t_length, .int t_place, .int t_word, .int t_first, .int t_second, .int t_third]))]) ⟨hx, hb, hml, hown, hts⟩ (kX3_addBall l dC dI cI a_p1 a_p1_kinds a_p1_sizes a_p1_tights s.heap.size t_first t_second t_third p1_hand p1_at p1_wide p1_rim p1_fill p1_wall p1_ceiling p1_puff p1_period p1_second p1_score p1_thrown p1_ballCount p1_kindsA p1_sizesA p1_tightsA (r28, w29, w30, w31, w32) hu33) ⟨va_cnB 3 hts gX4_tellStatement_X3_addBall_n69 rfl rfl rfl (nM_Text_69 hN) (hts (.initialized RX3) (by decide +kernel)) (by decide +kernel) ⟨Nat.le_of_ble_eq_true rfl, Nat.le_of_ble_eq_true rfl⟩, hts (.instanceMethod yX3_addBall) (by decide +kernel), hts (.selects RX3 yX3_addBall yX3_addBall) (by decide +kernel)⟩ hK hN hP hD hS hA (va_recv hK hP (ci := 3) (q0 := 1) rfl rfl) [1, 2, 3, 4] [0] rfl rfl rfl rfl rfl (by decide) rfl hl.1 rfl (Nat.le_of_ble_eq_true rfl) dX4_tellStatement_143 (fun H locs hP hD hS => ?_)
  have hP : va_P (dC, dI) vwCl [(a_t, .inr (4, [.ref a_letters, .int t_length, .int t_place, .int t_word, .int t_first, .int t_second, .int t_third])), (a_p1, .inr (3, [.int p1_hand, .int p1_at, .int p1_wide, .int p1_rim, .int p1_fill, .int p1_wall, .int p1_ceiling, .int p1_puff, .int p1_period, .int p1_second, .int p1_score, .int p1_thrown, .int w29, .ref a_p1_kinds, .ref a_p1_sizes, .ref a_p1_tights])), (a_p1_kinds, .inl (cI, 5, .inl w30)), (a_p1_sizes, .inl (cI, 5, .inl w31)), (a_p1_tights, .inl (cI, 5, .inl w32))] H := hP
  have hD : va_D A [(a_t, .inr (4, [.ref a_letters, .int t_length, .int t_place, .int t_word, .int t_first, .int t_second, .int t_third])), (a_p1, .inr (3, [.int p1_hand, .int p1_at, .int p1_wide, .int p1_rim, .int p1_fill, .int p1_wall, .int p1_ceiling, .int p1_puff, .int p1_period, .int p1_second, .int p1_score, .int p1_thrown, .int w29, .ref a_p1_kinds, .ref a_p1_sizes, .ref a_p1_tights])), (a_p1_kinds, .inl (cI, 5, .inl w30)), (a_p1_sizes, .inl (cI, 5, .inl w31)), (a_p1_tights, .inl (cI, 5, .inl w32))] := hD
  obtain ⟨g34, hR⟩ := g_b_s hR
  subst hQ
  subst hAe
  exact W.zret (ty := .boolean) (v := r28) hx hb hr g34 (fun t ht hW => ⟨⟨r28, (p1_hand, p1_at, p1_wide, p1_rim, p1_fill, p1_wall, p1_ceiling, p1_puff, p1_period, w29, w30, w31, w32), rfl, Option.some.inj hR, by rw [ht]; exact hP, hD⟩, hS.F ht⟩) hS.2.2 dX4_tellStatement_146
def lX4_tell_25 (t_length : Int32) (lettersA : Nat → Int32) : Nat → Int32 → Int32 → Int32 → Int32 → Int32 → Int32 → Int32 → Int32 → Int32 → Int32 → Int32 → Int32 → Int32 → Int32 → Int32 → Int32 → Int32 → (Nat → Int32) → (Nat → Int32) → (Nat → Int32) → Option (Int32 × Int32 × Int32 × Int32 × Int32 × Int32 × Int32 × Int32 × Int32 × Int32 × Int32 × Int32 × Int32 × Int32 × Int32 × Int32 × (Nat → Int32) × (Nat → Int32) × (Nat → Int32))
  | 0, _, _, _, _, _, _, _, _, _, _, _, _, _, _, _, _, _, _, _, _ => none
  | n + 1, x2, x3, t_place, t_word, t_first, t_second, t_third, p1_hand, p1_at, p1_wide, p1_rim, p1_fill, p1_wall, p1_ceiling, p1_puff, p1_period, p1_ballCount, p1_kindsA, p1_sizesA, p1_tightsA =>
    if x2 ≤ x3 then (
     some (x2, t_place, t_word, t_first, t_second, t_third, p1_hand, p1_at, p1_wide, p1_rim, p1_fill, p1_wall, p1_ceiling, p1_puff, p1_period, p1_ballCount, p1_kindsA, p1_sizesA, p1_tightsA))
    else (
    b6 (fX4_readStatement t_length t_place t_first t_second t_third lettersA) (fun r1 w2 w3 w4 w5 w6 =>
    if r1 = 0 then (
     some (((-2000) - t_place), w2, w3, w4, w5, w6, p1_hand, p1_at, p1_wide, p1_rim, p1_fill, p1_wall, p1_ceiling, p1_puff, p1_period, p1_ballCount, p1_kindsA, p1_sizesA, p1_tightsA))
    else (
    b14 (fX4_tellStatement w3 w4 w5 w6 p1_hand p1_at p1_wide p1_rim p1_fill p1_wall p1_ceiling p1_puff p1_period p1_ballCount p1_kindsA p1_sizesA p1_tightsA) (fun r8 w9 w10 w11 w12 w13 w14 w15 w16 w17 w18 w19 w20 w21 =>
    if r8 = 0 then (
     some (((-2000) - t_place), w2, w3, w4, w5, w6, w9, w10, w11, w12, w13, w14, w15, w16, w17, w18, w19, w20, w21))
    else (
    lX4_tell_25 t_length lettersA n x2 (x3 + 1) w2 w3 w4 w5 w6 w9 w10 w11 w12 w13 w14 w15 w16 w17 w18 w19 w20 w21)))))
def fX4_tell (t_length : Int32) (t_word : Int32) (t_first : Int32) (t_second : Int32) (t_third : Int32) (lettersA : Nat → Int32) (p1_hand : Int32) (p1_at : Int32) (p1_wide : Int32) (p1_rim : Int32) (p1_fill : Int32) (p1_wall : Int32) (p1_ceiling : Int32) (p1_puff : Int32) (p1_period : Int32) (p1_ballCount : Int32) (p1_kindsA : Nat → Int32) (p1_sizesA : Nat → Int32) (p1_tightsA : Nat → Int32) : Option (Int32 × Int32 × Int32 × Int32 × Int32 × Int32 × Int32 × Int32 × Int32 × Int32 × Int32 × Int32 × Int32 × Int32 × Int32 × Int32 × (Nat → Int32) × (Nat → Int32) × (Nat → Int32)) :=
  b6 (fX4_countStatements t_length t_word t_first t_second t_third lettersA) (fun r23 w24 w25 w26 w27 w28 =>
  if 0 < r23 then (
   lX4_tell_25 t_length lettersA (100) r23 0 0 w25 w26 w27 w28 p1_hand p1_at p1_wide p1_rim p1_fill p1_wall p1_ceiling p1_puff p1_period p1_ballCount p1_kindsA p1_sizesA p1_tightsA)
  else (
  some (((-1000) - w24), w24, w25, w26, w27, w28, p1_hand, p1_at, p1_wide, p1_rim, p1_fill, p1_wall, p1_ceiling, p1_puff, p1_period, p1_ballCount, p1_kindsA, p1_sizesA, p1_tightsA)))
set_option maxHeartbeats 4000000 in
set_option maxRecDepth 100000 in
theorem kX4_tell (l : Launch) (dC : Nat → ClassId) (dI : Nat → Nat → Nat) (cI : ClassId) (a_t a_letters a_p1 a_p1_kinds a_p1_sizes a_p1_tights : Nat) (sz : Nat) (t_length : Int32) (t_place : Int32) (t_word : Int32) (t_first : Int32) (t_second : Int32) (t_third : Int32) (lettersA : Nat → Int32) (p1_hand : Int32) (p1_at : Int32) (p1_wide : Int32) (p1_rim : Int32) (p1_fill : Int32) (p1_wall : Int32) (p1_ceiling : Int32) (p1_puff : Int32) (p1_period : Int32) (p1_second : Int32) (p1_score : Int32) (p1_thrown : Int32) (p1_ballCount : Int32) (p1_kindsA : Nat → Int32) (p1_sizesA : Nat → Int32) (p1_tightsA : Nat → Int32) (R : Int32 × Int32 × Int32 × Int32 × Int32 × Int32 × Int32 × Int32 × Int32 × Int32 × Int32 × Int32 × Int32 × Int32 × Int32 × Int32 × (Nat → Int32) × (Nat → Int32) × (Nat → Int32)) (hR : fX4_tell t_length t_word t_first t_second t_third lettersA p1_hand p1_at p1_wide p1_rim p1_fill p1_wall p1_ceiling p1_puff p1_period p1_ballCount p1_kindsA p1_sizesA p1_tightsA = some R) : Met l yX4_tell wsX4_tell ({ frames := 6, cells := 0, slots := 0, locals := 128 } : Room) (va_Pc [.ref a_t, .ref a_p1] (Wp (dC, dI) [(cI, .int)] [(a_t, .inr (4, [.ref a_letters, .int t_length, .int t_place, .int t_word, .int t_first, .int t_second, .int t_third])), (a_letters, .inl (cI, 80, .inl lettersA)), (a_p1, .inr (3, [.int p1_hand, .int p1_at, .int p1_wide, .int p1_rim, .int p1_fill, .int p1_wall, .int p1_ceiling, .int p1_puff, .int p1_period, .int p1_second, .int p1_score, .int p1_thrown, .int p1_ballCount, .ref a_p1_kinds, .ref a_p1_sizes, .ref a_p1_tights])), (a_p1_kinds, .inl (cI, 5, .inl p1_kindsA)), (a_p1_sizes, .inl (cI, 5, .inl p1_sizesA)), (a_p1_tights, .inl (cI, 5, .inl p1_tightsA))] sz)) (va_Qi (fun (r : Int32) (u : Int32 × Int32 × Int32 × Int32 × Int32 × Int32 × Int32 × Int32 × Int32 × Int32 × Int32 × Int32 × Int32 × Int32 × Int32 × (Nat → Int32) × (Nat → Int32) × (Nat → Int32)) => (r, u) = R) (Wq (dC, dI) [(a_t, .inr (4, [.ref a_letters, .int t_length, .int t_place, .int t_word, .int t_first, .int t_second, .int t_third])), (a_letters, .inl (cI, 80, .inl lettersA)), (a_p1, .inr (3, [.int p1_hand, .int p1_at, .int p1_wide, .int p1_rim, .int p1_fill, .int p1_wall, .int p1_ceiling, .int p1_puff, .int p1_period, .int p1_second, .int p1_score, .int p1_thrown, .int p1_ballCount, .ref a_p1_kinds, .ref a_p1_sizes, .ref a_p1_tights])), (a_p1_kinds, .inl (cI, 5, .inl p1_kindsA)), (a_p1_sizes, .inl (cI, 5, .inl p1_sizesA)), (a_p1_tights, .inl (cI, 5, .inl p1_tightsA))] sz (fun (u : Int32 × Int32 × Int32 × Int32 × Int32 × Int32 × Int32 × Int32 × Int32 × Int32 × Int32 × Int32 × Int32 × Int32 × Int32 × (Nat → Int32) × (Nat → Int32) × (Nat → Int32)) => ([(a_t, .inr (4, [.ref a_letters, .int t_length, .int u.1, .int u.2.1, .int u.2.2.1, .int u.2.2.2.1, .int u.2.2.2.2.1])), (a_letters, .inl (cI, 80, .inl lettersA)), (a_p1, .inr (3, [.int u.2.2.2.2.2.1, .int u.2.2.2.2.2.2.1, .int u.2.2.2.2.2.2.2.1, .int u.2.2.2.2.2.2.2.2.1, .int u.2.2.2.2.2.2.2.2.2.1, .int u.2.2.2.2.2.2.2.2.2.2.1, .int u.2.2.2.2.2.2.2.2.2.2.2.1, .int u.2.2.2.2.2.2.2.2.2.2.2.2.1, .int u.2.2.2.2.2.2.2.2.2.2.2.2.2.1, .int p1_second, .int p1_score, .int p1_thrown, .int u.2.2.2.2.2.2.2.2.2.2.2.2.2.2.1, .ref a_p1_kinds, .ref a_p1_sizes, .ref a_p1_tights])), (a_p1_kinds, .inl (cI, 5, .inl u.2.2.2.2.2.2.2.2.2.2.2.2.2.2.2.1)), (a_p1_sizes, .inl (cI, 5, .inl u.2.2.2.2.2.2.2.2.2.2.2.2.2.2.2.2.1)), (a_p1_tights, .inl (cI, 5, .inl u.2.2.2.2.2.2.2.2.2.2.2.2.2.2.2.2.2))] : va_W))) (va_A [(a_t, .inr (4, [.ref a_letters, .int t_length, .int t_place, .int t_word, .int t_first, .int t_second, .int t_third])), (a_letters, .inl (cI, 80, .inl lettersA)), (a_p1, .inr (3, [.int p1_hand, .int p1_at, .int p1_wide, .int p1_rim, .int p1_fill, .int p1_wall, .int p1_ceiling, .int p1_puff, .int p1_period, .int p1_second, .int p1_score, .int p1_thrown, .int p1_ballCount, .ref a_p1_kinds, .ref a_p1_sizes, .ref a_p1_tights])), (a_p1_kinds, .inl (cI, 5, .inl p1_kindsA)), (a_p1_sizes, .inl (cI, 5, .inl p1_sizesA)), (a_p1_tights, .inl (cI, 5, .inl p1_tightsA))] sz)) 0 0 (va_A [(a_t, .inr (4, [.ref a_letters, .int t_length, .int t_place, .int t_word, .int t_first, .int t_second, .int t_third])), (a_letters, .inl (cI, 80, .inl lettersA)), (a_p1, .inr (3, [.int p1_hand, .int p1_at, .int p1_wide, .int p1_rim, .int p1_fill, .int p1_wall, .int p1_ceiling, .int p1_puff, .int p1_period, .int p1_second, .int p1_score, .int p1_thrown, .int p1_ballCount, .ref a_p1_kinds, .ref a_p1_sizes, .ref a_p1_tights])), (a_p1_kinds, .inl (cI, 5, .inl p1_kindsA)), (a_p1_sizes, .inl (cI, 5, .inl p1_sizesA)), (a_p1_tights, .inl (cI, 5, .inl p1_tightsA))] sz) := by
  refine Met.ofW (cc := cX4_tell) (maxL := 5) (ret := (some .int)) (by decide) rfl ?_
  intro p e s m args below meth c s₁ B hml hv
  obtain ⟨hargs, hsz, hP, hK, hD0, hN⟩ := hv
  have hx := B.exec
  have hb := B.bytes
  have hr := B.returns
  have hts := atoms_spec (ws := wsX4_tell) B.pre
  have hown : s.vm.findClass RX4 = some m.cls := findClass_of_methodNamed B.named
  have hlocks := B.notSynchronized
  subst hsz
  have hD := hD0.self (sz := s.heap.size)
  obtain ⟨A, hAe⟩ : ∃ A, A = va_A [(a_t, .inr (4, [.ref a_letters, .int t_length, .int t_place, .int t_word, .int t_first, .int t_second, .int t_third])), (a_letters, .inl (cI, 80, .inl lettersA)), (a_p1, .inr (3, [.int p1_hand, .int p1_at, .int p1_wide, .int p1_rim, .int p1_fill, .int p1_wall, .int p1_ceiling, .int p1_puff, .int p1_period, .int p1_second, .int p1_score, .int p1_thrown, .int p1_ballCount, .ref a_p1_kinds, .ref a_p1_sizes, .ref a_p1_tights])), (a_p1_kinds, .inl (cI, 5, .inl p1_kindsA)), (a_p1_sizes, .inl (cI, 5, .inl p1_sizesA)), (a_p1_tights, .inl (cI, 5, .inl p1_tightsA))] s.heap.size := ⟨_, rfl⟩
  rw [← hAe] at hD
  have hA : ∀ q : Nat, s.heap.size ≤ q → A q := fun q h => by rw [hAe]; exact Or.inr h
  have hS : va_S A s.heap s.heap [] := va_S.rf
  have hl := lv_entry ([.ref a_t, .ref a_p1]) (n := 5) (Nat.le_of_ble_eq_true rfl)
  rw [e_of hargs, lg_entry_eq]
  generalize (lg_sl ([.ref a_t, .ref a_p1]) ++ List.replicate (5 - (lg_sl ([.ref a_t, .ref a_p1])).length) Slot.unset).toArray = ls at hl ⊢
  have hl : lv_has ls 5 [(0, .ref a_t), (1, .ref a_p1)] := hl
  have hinX4 : ∀ w ∈ wsX40, w ∈ wsX4_tell := by decide +kernel
  refine w_q ({ frames := 6, cells := 0, slots := 0, locals := 128 } : Room) (fun Q0 hQ => ?_)
  have K25 : ∀ (n25 : Nat) (x2 : Int32) (x3 : Int32) (t_place : Int32) (t_word : Int32) (t_first : Int32) (t_second : Int32) (t_third : Int32) (p1_hand : Int32) (p1_at : Int32) (p1_wide : Int32) (p1_rim : Int32) (p1_fill : Int32) (p1_wall : Int32) (p1_ceiling : Int32) (p1_puff : Int32) (p1_period : Int32) (p1_ballCount : Int32) (p1_kindsA : Nat → Int32) (p1_sizesA : Nat → Int32) (p1_tightsA : Nat → Int32) (H : Heap) (locs : List Loc), va_P (dC, dI) vwCl [(a_t, .inr (4, [.ref a_letters, .int t_length, .int t_place, .int t_word, .int t_first, .int t_second, .int t_third])), (a_letters, .inl (cI, 80, .inl lettersA)), (a_p1, .inr (3, [.int p1_hand, .int p1_at, .int p1_wide, .int p1_rim, .int p1_fill, .int p1_wall, .int p1_ceiling, .int p1_puff, .int p1_period, .int p1_second, .int p1_score, .int p1_thrown, .int p1_ballCount, .ref a_p1_kinds, .ref a_p1_sizes, .ref a_p1_tights])), (a_p1_kinds, .inl (cI, 5, .inl p1_kindsA)), (a_p1_sizes, .inl (cI, 5, .inl p1_sizesA)), (a_p1_tights, .inl (cI, 5, .inl p1_tightsA))] H → va_D A [(a_t, .inr (4, [.ref a_letters, .int t_length, .int t_place, .int t_word, .int t_first, .int t_second, .int t_third])), (a_letters, .inl (cI, 80, .inl lettersA)), (a_p1, .inr (3, [.int p1_hand, .int p1_at, .int p1_wide, .int p1_rim, .int p1_fill, .int p1_wall, .int p1_ceiling, .int p1_puff, .int p1_period, .int p1_second, .int p1_score, .int p1_thrown, .int p1_ballCount, .ref a_p1_kinds, .ref a_p1_sizes, .ref a_p1_tights])), (a_p1_kinds, .inl (cI, 5, .inl p1_kindsA)), (a_p1_sizes, .inl (cI, 5, .inl p1_sizesA)), (a_p1_tights, .inl (cI, 5, .inl p1_tightsA))] → va_S A s.heap H locs → ∀ (ls : Array Slot), lv_has ls 5 [(0, .ref a_t), (1, .ref a_p1), (2, .int x2), (3, .int x3)] → lX4_tell_25 t_length lettersA n25 x2 x3 t_place t_word t_first t_second t_third p1_hand p1_at p1_wide p1_rim p1_fill p1_wall p1_ceiling p1_puff p1_period p1_ballCount p1_kindsA p1_sizesA p1_tightsA = some R → W p l e ({ frames := 6, cells := 0, slots := 0, locals := 128 } : Room) s m args below meth c H locs 0 0 Q0 (F0 m 25 ls []) := by
    intro n25
    induction n25 with
    | zero =>
      intro x2 x3 t_place t_word t_first t_second t_third p1_hand p1_at p1_wide p1_rim p1_fill p1_wall p1_ceiling p1_puff p1_period p1_ballCount p1_kindsA p1_sizesA p1_tightsA H locs hP hD hS ls hl hR
      rw [lX4_tell_25] at hR
      cases hR
    | succ n25 ih25 =>
      intro x2 x3 t_place t_word t_first t_second t_third p1_hand p1_at p1_wide p1_rim p1_fill p1_wall p1_ceiling p1_puff p1_period p1_ballCount p1_kindsA p1_sizesA p1_tightsA H locs hP hD hS ls hl hR
      rw [lX4_tell_25] at hR
      refine lv_iload_n hx hb dX4_tell_25 rfl (lv_at hl 3 rfl) ?_
      refine lv_iload_n hx hb dX4_tell_26 rfl (lv_at hl 2 rfl) ?_
      refine lv_icmp_ge (tgt := 64) hx hb dX4_tell_27 (by decide) (fun c27 => ?_) (fun c27 => ?_)
      · have hR := (if_pos c27).symm.trans hR
        refine lv_iload_n hx hb dX4_tell_64 rfl (lv_at hl 2 rfl) ?_
        subst hQ
        subst hAe
        exact W.iret (v := x2) hx hb hr (fun t ht hW => ⟨⟨x2, (t_place, t_word, t_first, t_second, t_third, p1_hand, p1_at, p1_wide, p1_rim, p1_fill, p1_wall, p1_ceiling, p1_puff, p1_period, p1_ballCount, p1_kindsA, p1_sizesA, p1_tightsA), rfl, Option.some.inj hR, by rw [ht]; exact hP, hD⟩, hS.F ht⟩) hS.2.2 dX4_tell_65
      · have hR := (if_neg c27).symm.trans hR
        refine lv_aload_n hx hb dX4_tell_30 rfl (lv_at hl 0 rfl) ?_
        refine va_get (D := (dC, dI)) (ci := 4) (v := .int t_place) (C := RX4) (T := TX4) (N := 7) hx hb hts hinX4 hown hK hP 0 rfl rfl 2 (by decide) (hts (.fieldLink RX4 23 "PaperInBin$Text" "place" "I") (by decide +kernel)) (fun _ h9 => h9) rfl dX4_tell_31 ?_
        refine lv_istore (lv' := [(4, .int t_place), (0, .ref a_t), (1, .ref a_p1), (2, .int x2), (3, .int x3)]) hx hb dX4_tell_34 hl (by decide) rfl (fun ls hl => ?_)
        refine lv_aload_n hx hb dX4_tell_36 rfl (lv_at hl 1 rfl) ?_
        obtain ⟨r1, w2, w3, w4, w5, w6, hu7, hR⟩ := b6_s hR
        refine cl_ViT (As := []) (rest := []) (wc := [(a_t, .inr (4, [.ref a_letters, .int t_length, .int t_place, .int t_word, .int t_first, .int t_second, .int t_third])), (a_letters, .inl (cI, 80, .inl lettersA))]) (wr := [(a_p1, .inr (3, [.int p1_hand, .int p1_at, .int p1_wide, .int p1_rim, .int p1_fill, .int p1_wall, .int p1_ceiling, .int p1_puff, .int p1_period, .int p1_second, .int p1_score, .int p1_thrown, .int p1_ballCount, .ref a_p1_kinds, .ref a_p1_sizes, .ref a_p1_tights])), (a_p1_kinds, .inl (cI, 5, .inl p1_kindsA)), (a_p1_sizes, .inl (cI, 5, .inl p1_sizesA)), (a_p1_tights, .inl (cI, 5, .inl p1_tightsA))]) ⟨hx, hb, hml, hown, hts⟩ (kX4_readStatement l dC dI cI a_t a_letters H.size t_length t_place t_word t_first t_second t_third lettersA (r1, w2, w3, w4, w5, w6) hu7) (cwV 0 hts gX4_tell_X4_readStatement rfl rfl rfl (by decide +kernel) ⟨Nat.le_of_ble_eq_true rfl, Nat.le_of_ble_eq_true rfl⟩) hK hN hP hD hS hA (va_recv hK hP (ci := 4) (q0 := 0) rfl rfl) [0, 1] [2, 3, 4, 5] rfl rfl rfl rfl rfl (by decide) rfl hl.1 rfl (Nat.le_of_ble_eq_true rfl) dX4_tell_37 (fun H locs hP hD hS => ?_)
        have hP : va_P (dC, dI) vwCl [(a_p1, .inr (3, [.int p1_hand, .int p1_at, .int p1_wide, .int p1_rim, .int p1_fill, .int p1_wall, .int p1_ceiling, .int p1_puff, .int p1_period, .int p1_second, .int p1_score, .int p1_thrown, .int p1_ballCount, .ref a_p1_kinds, .ref a_p1_sizes, .ref a_p1_tights])), (a_p1_kinds, .inl (cI, 5, .inl p1_kindsA)), (a_p1_sizes, .inl (cI, 5, .inl p1_sizesA)), (a_p1_tights, .inl (cI, 5, .inl p1_tightsA)), (a_t, .inr (4, [.ref a_letters, .int t_length, .int w2, .int w3, .int w4, .int w5, .int w6])), (a_letters, .inl (cI, 80, .inl lettersA))] H := hP
        have hD : va_D A [(a_p1, .inr (3, [.int p1_hand, .int p1_at, .int p1_wide, .int p1_rim, .int p1_fill, .int p1_wall, .int p1_ceiling, .int p1_puff, .int p1_period, .int p1_second, .int p1_score, .int p1_thrown, .int p1_ballCount, .ref a_p1_kinds, .ref a_p1_sizes, .ref a_p1_tights])), (a_p1_kinds, .inl (cI, 5, .inl p1_kindsA)), (a_p1_sizes, .inl (cI, 5, .inl p1_sizesA)), (a_p1_tights, .inl (cI, 5, .inl p1_tightsA)), (a_t, .inr (4, [.ref a_letters, .int t_length, .int w2, .int w3, .int w4, .int w5, .int w6])), (a_letters, .inl (cI, 80, .inl lettersA))] := hD
        refine lv_if_eq (tgt := 51) hx hb dX4_tell_40 (by decide) (fun c40 => ?_) (fun c40 => ?_)
        · have hR := (if_pos c40).symm.trans hR
          refine lv_sipush (v := (-2000)) hx hb dX4_tell_51 (by decide) ?_
          refine lv_iload hx hb dX4_tell_54 (lv_at hl 0 rfl) ?_
          refine lv_isub hx hb dX4_tell_56 ?_
          have hP := hP.sub (ws' := [(a_t, .inr (4, [.ref a_letters, .int t_length, .int w2, .int w3, .int w4, .int w5, .int w6])), (a_letters, .inl (cI, 80, .inl lettersA)), (a_p1, .inr (3, [.int p1_hand, .int p1_at, .int p1_wide, .int p1_rim, .int p1_fill, .int p1_wall, .int p1_ceiling, .int p1_puff, .int p1_period, .int p1_second, .int p1_score, .int p1_thrown, .int p1_ballCount, .ref a_p1_kinds, .ref a_p1_sizes, .ref a_p1_tights])), (a_p1_kinds, .inl (cI, 5, .inl p1_kindsA)), (a_p1_sizes, .inl (cI, 5, .inl p1_sizesA)), (a_p1_tights, .inl (cI, 5, .inl p1_tightsA))]) [4, 5, 0, 1, 2, 3] rfl
          have hD := hD.sub (ws' := [(a_t, .inr (4, [.ref a_letters, .int t_length, .int w2, .int w3, .int w4, .int w5, .int w6])), (a_letters, .inl (cI, 80, .inl lettersA)), (a_p1, .inr (3, [.int p1_hand, .int p1_at, .int p1_wide, .int p1_rim, .int p1_fill, .int p1_wall, .int p1_ceiling, .int p1_puff, .int p1_period, .int p1_second, .int p1_score, .int p1_thrown, .int p1_ballCount, .ref a_p1_kinds, .ref a_p1_sizes, .ref a_p1_tights])), (a_p1_kinds, .inl (cI, 5, .inl p1_kindsA)), (a_p1_sizes, .inl (cI, 5, .inl p1_sizesA)), (a_p1_tights, .inl (cI, 5, .inl p1_tightsA))]) [4, 5, 0, 1, 2, 3] (by decide) rfl
          subst hQ
          subst hAe
          exact W.iret (v := ((-2000) - t_place)) hx hb hr (fun t ht hW => ⟨⟨((-2000) - t_place), (w2, w3, w4, w5, w6, p1_hand, p1_at, p1_wide, p1_rim, p1_fill, p1_wall, p1_ceiling, p1_puff, p1_period, p1_ballCount, p1_kindsA, p1_sizesA, p1_tightsA), rfl, Option.some.inj hR, by rw [ht]; exact hP, hD⟩, hS.F ht⟩) hS.2.2 dX4_tell_57
        · have hR := (if_neg c40).symm.trans hR
          refine lv_aload_n hx hb dX4_tell_43 rfl (lv_at hl 1 rfl) ?_
          refine lv_aload_n hx hb dX4_tell_44 rfl (lv_at hl 2 rfl) ?_
          obtain ⟨r8, w9, w10, w11, w12, w13, w14, w15, w16, w17, w18, w19, w20, w21, hu22, hR⟩ := b14_s hR
          refine cl_ViT (As := [.ref a_p1]) (rest := []) (wc := [(a_t, .inr (4, [.ref a_letters, .int t_length, .int w2, .int w3, .int w4, .int w5, .int w6])), (a_p1, .inr (3, [.int p1_hand, .int p1_at, .int p1_wide, .int p1_rim, .int p1_fill, .int p1_wall, .int p1_ceiling, .int p1_puff, .int p1_period, .int p1_second, .int p1_score, .int p1_thrown, .int p1_ballCount, .ref a_p1_kinds, .ref a_p1_sizes, .ref a_p1_tights])), (a_p1_kinds, .inl (cI, 5, .inl p1_kindsA)), (a_p1_sizes, .inl (cI, 5, .inl p1_sizesA)), (a_p1_tights, .inl (cI, 5, .inl p1_tightsA))]) (wr := [(a_letters, .inl (cI, 80, .inl lettersA))]) ⟨hx, hb, hml, hown, hts⟩ (kX4_tellStatement l dC dI cI a_t a_letters a_p1 a_p1_kinds a_p1_sizes a_p1_tights H.size t_length w2 w3 w4 w5 w6 p1_hand p1_at p1_wide p1_rim p1_fill p1_wall p1_ceiling p1_puff p1_period p1_second p1_score p1_thrown p1_ballCount p1_kindsA p1_sizesA p1_tightsA (r8, w9, w10, w11, w12, w13, w14, w15, w16, w17, w18, w19, w20, w21) hu22) (cwV 1 hts gX4_tell_X4_tellStatement rfl rfl rfl (by decide +kernel) ⟨Nat.le_of_ble_eq_true rfl, Nat.le_of_ble_eq_true rfl⟩) hK hN hP hD hS hA (va_recv hK hP (ci := 4) (q0 := 4) rfl rfl) [4, 0, 1, 2, 3] [5] rfl rfl rfl rfl rfl (by decide) rfl hl.1 rfl (Nat.le_of_ble_eq_true rfl) dX4_tell_45 (fun H locs hP hD hS => ?_)
          have hP : va_P (dC, dI) vwCl [(a_letters, .inl (cI, 80, .inl lettersA)), (a_t, .inr (4, [.ref a_letters, .int t_length, .int w2, .int w3, .int w4, .int w5, .int w6])), (a_p1, .inr (3, [.int w9, .int w10, .int w11, .int w12, .int w13, .int w14, .int w15, .int w16, .int w17, .int p1_second, .int p1_score, .int p1_thrown, .int w18, .ref a_p1_kinds, .ref a_p1_sizes, .ref a_p1_tights])), (a_p1_kinds, .inl (cI, 5, .inl w19)), (a_p1_sizes, .inl (cI, 5, .inl w20)), (a_p1_tights, .inl (cI, 5, .inl w21))] H := hP
          have hD : va_D A [(a_letters, .inl (cI, 80, .inl lettersA)), (a_t, .inr (4, [.ref a_letters, .int t_length, .int w2, .int w3, .int w4, .int w5, .int w6])), (a_p1, .inr (3, [.int w9, .int w10, .int w11, .int w12, .int w13, .int w14, .int w15, .int w16, .int w17, .int p1_second, .int p1_score, .int p1_thrown, .int w18, .ref a_p1_kinds, .ref a_p1_sizes, .ref a_p1_tights])), (a_p1_kinds, .inl (cI, 5, .inl w19)), (a_p1_sizes, .inl (cI, 5, .inl w20)), (a_p1_tights, .inl (cI, 5, .inl w21))] := hD
          refine lv_if_ne (tgt := 58) hx hb dX4_tell_48 (by decide) (fun c48 => ?_) (fun c48 => ?_)
          · have hR := (if_neg c48).symm.trans hR
            refine lv_iinc (v := (x3 + 1)) (lv' := [(3, .int (x3 + 1)), (4, .int t_place), (0, .ref a_t), (1, .ref a_p1), (2, .int x2)]) hx hb dX4_tell_58 hl (k := 4) rfl rfl (by decide) rfl (fun ls hl => ?_)
            refine lv_goto (tgt := 25) hx hb dX4_tell_61 (by decide) ?_
            have hP := hP.sub (ws' := [(a_t, .inr (4, [.ref a_letters, .int t_length, .int w2, .int w3, .int w4, .int w5, .int w6])), (a_letters, .inl (cI, 80, .inl lettersA)), (a_p1, .inr (3, [.int w9, .int w10, .int w11, .int w12, .int w13, .int w14, .int w15, .int w16, .int w17, .int p1_second, .int p1_score, .int p1_thrown, .int w18, .ref a_p1_kinds, .ref a_p1_sizes, .ref a_p1_tights])), (a_p1_kinds, .inl (cI, 5, .inl w19)), (a_p1_sizes, .inl (cI, 5, .inl w20)), (a_p1_tights, .inl (cI, 5, .inl w21))]) [1, 0, 2, 3, 4, 5] rfl
            have hD := hD.sub (ws' := [(a_t, .inr (4, [.ref a_letters, .int t_length, .int w2, .int w3, .int w4, .int w5, .int w6])), (a_letters, .inl (cI, 80, .inl lettersA)), (a_p1, .inr (3, [.int w9, .int w10, .int w11, .int w12, .int w13, .int w14, .int w15, .int w16, .int w17, .int p1_second, .int p1_score, .int p1_thrown, .int w18, .ref a_p1_kinds, .ref a_p1_sizes, .ref a_p1_tights])), (a_p1_kinds, .inl (cI, 5, .inl w19)), (a_p1_sizes, .inl (cI, 5, .inl w20)), (a_p1_tights, .inl (cI, 5, .inl w21))]) [1, 0, 2, 3, 4, 5] (by decide) rfl
            exact ih25 x2 (x3 + 1) w2 w3 w4 w5 w6 w9 w10 w11 w12 w13 w14 w15 w16 w17 w18 w19 w20 w21 _ _ hP hD hS _ (lv_sub hl [2, 3, 4, 0] rfl) hR
          · have hR := (if_pos c48).symm.trans hR
            refine lv_sipush (v := (-2000)) hx hb dX4_tell_51 (by decide) ?_
            refine lv_iload hx hb dX4_tell_54 (lv_at hl 0 rfl) ?_
            refine lv_isub hx hb dX4_tell_56 ?_
            have hP := hP.sub (ws' := [(a_t, .inr (4, [.ref a_letters, .int t_length, .int w2, .int w3, .int w4, .int w5, .int w6])), (a_letters, .inl (cI, 80, .inl lettersA)), (a_p1, .inr (3, [.int w9, .int w10, .int w11, .int w12, .int w13, .int w14, .int w15, .int w16, .int w17, .int p1_second, .int p1_score, .int p1_thrown, .int w18, .ref a_p1_kinds, .ref a_p1_sizes, .ref a_p1_tights])), (a_p1_kinds, .inl (cI, 5, .inl w19)), (a_p1_sizes, .inl (cI, 5, .inl w20)), (a_p1_tights, .inl (cI, 5, .inl w21))]) [1, 0, 2, 3, 4, 5] rfl
            have hD := hD.sub (ws' := [(a_t, .inr (4, [.ref a_letters, .int t_length, .int w2, .int w3, .int w4, .int w5, .int w6])), (a_letters, .inl (cI, 80, .inl lettersA)), (a_p1, .inr (3, [.int w9, .int w10, .int w11, .int w12, .int w13, .int w14, .int w15, .int w16, .int w17, .int p1_second, .int p1_score, .int p1_thrown, .int w18, .ref a_p1_kinds, .ref a_p1_sizes, .ref a_p1_tights])), (a_p1_kinds, .inl (cI, 5, .inl w19)), (a_p1_sizes, .inl (cI, 5, .inl w20)), (a_p1_tights, .inl (cI, 5, .inl w21))]) [1, 0, 2, 3, 4, 5] (by decide) rfl
            subst hQ
            subst hAe
            exact W.iret (v := ((-2000) - t_place)) hx hb hr (fun t ht hW => ⟨⟨((-2000) - t_place), (w2, w3, w4, w5, w6, w9, w10, w11, w12, w13, w14, w15, w16, w17, w18, w19, w20, w21), rfl, Option.some.inj hR, by rw [ht]; exact hP, hD⟩, hS.F ht⟩) hS.2.2 dX4_tell_57
  rw [fX4_tell] at hR
  refine lv_aload_n hx hb dX4_tell_0 rfl (lv_at hl 0 rfl) ?_
  obtain ⟨r23, w24, w25, w26, w27, w28, hu29, hR⟩ := b6_s hR
  refine cl_ViT (As := []) (rest := []) (wc := [(a_t, .inr (4, [.ref a_letters, .int t_length, .int t_place, .int t_word, .int t_first, .int t_second, .int t_third])), (a_letters, .inl (cI, 80, .inl lettersA))]) (wr := [(a_p1, .inr (3, [.int p1_hand, .int p1_at, .int p1_wide, .int p1_rim, .int p1_fill, .int p1_wall, .int p1_ceiling, .int p1_puff, .int p1_period, .int p1_second, .int p1_score, .int p1_thrown, .int p1_ballCount, .ref a_p1_kinds, .ref a_p1_sizes, .ref a_p1_tights])), (a_p1_kinds, .inl (cI, 5, .inl p1_kindsA)), (a_p1_sizes, .inl (cI, 5, .inl p1_sizesA)), (a_p1_tights, .inl (cI, 5, .inl p1_tightsA))]) ⟨hx, hb, hml, hown, hts⟩ (kX4_countStatements l dC dI cI a_t a_letters s.heap.size t_length t_place t_word t_first t_second t_third lettersA (r23, w24, w25, w26, w27, w28) hu29) (cwV 0 hts gX4_tell_X4_countStatements rfl rfl rfl (by decide +kernel) ⟨Nat.le_of_ble_eq_true rfl, Nat.le_of_ble_eq_true rfl⟩) hK hN hP hD hS hA (va_recv hK hP (ci := 4) (q0 := 0) rfl rfl) [0, 1] [2, 3, 4, 5] rfl rfl rfl rfl rfl (by decide) rfl hl.1 rfl (Nat.le_of_ble_eq_true rfl) dX4_tell_1 (fun H locs hP hD hS => ?_)
  have hP : va_P (dC, dI) vwCl [(a_p1, .inr (3, [.int p1_hand, .int p1_at, .int p1_wide, .int p1_rim, .int p1_fill, .int p1_wall, .int p1_ceiling, .int p1_puff, .int p1_period, .int p1_second, .int p1_score, .int p1_thrown, .int p1_ballCount, .ref a_p1_kinds, .ref a_p1_sizes, .ref a_p1_tights])), (a_p1_kinds, .inl (cI, 5, .inl p1_kindsA)), (a_p1_sizes, .inl (cI, 5, .inl p1_sizesA)), (a_p1_tights, .inl (cI, 5, .inl p1_tightsA)), (a_t, .inr (4, [.ref a_letters, .int t_length, .int w24, .int w25, .int w26, .int w27, .int w28])), (a_letters, .inl (cI, 80, .inl lettersA))] H := hP
  have hD : va_D A [(a_p1, .inr (3, [.int p1_hand, .int p1_at, .int p1_wide, .int p1_rim, .int p1_fill, .int p1_wall, .int p1_ceiling, .int p1_puff, .int p1_period, .int p1_second, .int p1_score, .int p1_thrown, .int p1_ballCount, .ref a_p1_kinds, .ref a_p1_sizes, .ref a_p1_tights])), (a_p1_kinds, .inl (cI, 5, .inl p1_kindsA)), (a_p1_sizes, .inl (cI, 5, .inl p1_sizesA)), (a_p1_tights, .inl (cI, 5, .inl p1_tightsA)), (a_t, .inr (4, [.ref a_letters, .int t_length, .int w24, .int w25, .int w26, .int w27, .int w28])), (a_letters, .inl (cI, 80, .inl lettersA))] := hD
  refine lv_istore_n (lv' := [(2, .int r23), (0, .ref a_t), (1, .ref a_p1)]) hx hb dX4_tell_4 rfl hl (by decide) rfl (fun ls hl => ?_)
  refine lv_iload_n hx hb dX4_tell_5 rfl (lv_at hl 0 rfl) ?_
  refine lv_if_gt (tgt := 18) hx hb dX4_tell_6 (by decide) (fun c6 => ?_) (fun c6 => ?_)
  · have hR := (if_pos c6).symm.trans hR
    refine lv_aload_n hx hb dX4_tell_18 rfl (lv_at hl 1 rfl) ?_
    refine lv_iconst (v := 0) hx hb dX4_tell_19 (by decide) ?_
    refine va_put (D := (dC, dI)) (ci := 4) (v := .int 0) (ty := .int) (C := RX4) (T := TX4) (N := 7) hx hb hts hinX4 tyX4 tyX4_ok nmX4 hown hK hP hD hS 4 rfl rfl 2 (by decide) (hts (.fieldLink RX4 23 "PaperInBin$Text" "place" "I") (by decide +kernel)) (fun _ h9 => h9) rfl (tyX4_ok 2 (by decide)) rfl rfl (Nat.le_of_ble_eq_true rfl) dX4_tell_20 (fun H locs hP hD hS => ?_)
    have hP : va_P (dC, dI) vwCl [(a_p1, .inr (3, [.int p1_hand, .int p1_at, .int p1_wide, .int p1_rim, .int p1_fill, .int p1_wall, .int p1_ceiling, .int p1_puff, .int p1_period, .int p1_second, .int p1_score, .int p1_thrown, .int p1_ballCount, .ref a_p1_kinds, .ref a_p1_sizes, .ref a_p1_tights])), (a_p1_kinds, .inl (cI, 5, .inl p1_kindsA)), (a_p1_sizes, .inl (cI, 5, .inl p1_sizesA)), (a_p1_tights, .inl (cI, 5, .inl p1_tightsA)), (a_t, .inr (4, [.ref a_letters, .int t_length, .int 0, .int w25, .int w26, .int w27, .int w28])), (a_letters, .inl (cI, 80, .inl lettersA))] H := hP
    have hD : va_D A [(a_p1, .inr (3, [.int p1_hand, .int p1_at, .int p1_wide, .int p1_rim, .int p1_fill, .int p1_wall, .int p1_ceiling, .int p1_puff, .int p1_period, .int p1_second, .int p1_score, .int p1_thrown, .int p1_ballCount, .ref a_p1_kinds, .ref a_p1_sizes, .ref a_p1_tights])), (a_p1_kinds, .inl (cI, 5, .inl p1_kindsA)), (a_p1_sizes, .inl (cI, 5, .inl p1_sizesA)), (a_p1_tights, .inl (cI, 5, .inl p1_tightsA)), (a_t, .inr (4, [.ref a_letters, .int t_length, .int 0, .int w25, .int w26, .int w27, .int w28])), (a_letters, .inl (cI, 80, .inl lettersA))] := hD
    refine lv_iconst (v := 0) hx hb dX4_tell_23 (by decide) ?_
    refine lv_istore_n (lv' := [(3, .int 0), (2, .int r23), (0, .ref a_t), (1, .ref a_p1)]) hx hb dX4_tell_24 rfl hl (by decide) rfl (fun ls hl => ?_)
    have hP := hP.sub (ws' := [(a_t, .inr (4, [.ref a_letters, .int t_length, .int 0, .int w25, .int w26, .int w27, .int w28])), (a_letters, .inl (cI, 80, .inl lettersA)), (a_p1, .inr (3, [.int p1_hand, .int p1_at, .int p1_wide, .int p1_rim, .int p1_fill, .int p1_wall, .int p1_ceiling, .int p1_puff, .int p1_period, .int p1_second, .int p1_score, .int p1_thrown, .int p1_ballCount, .ref a_p1_kinds, .ref a_p1_sizes, .ref a_p1_tights])), (a_p1_kinds, .inl (cI, 5, .inl p1_kindsA)), (a_p1_sizes, .inl (cI, 5, .inl p1_sizesA)), (a_p1_tights, .inl (cI, 5, .inl p1_tightsA))]) [4, 5, 0, 1, 2, 3] rfl
    have hD := hD.sub (ws' := [(a_t, .inr (4, [.ref a_letters, .int t_length, .int 0, .int w25, .int w26, .int w27, .int w28])), (a_letters, .inl (cI, 80, .inl lettersA)), (a_p1, .inr (3, [.int p1_hand, .int p1_at, .int p1_wide, .int p1_rim, .int p1_fill, .int p1_wall, .int p1_ceiling, .int p1_puff, .int p1_period, .int p1_second, .int p1_score, .int p1_thrown, .int p1_ballCount, .ref a_p1_kinds, .ref a_p1_sizes, .ref a_p1_tights])), (a_p1_kinds, .inl (cI, 5, .inl p1_kindsA)), (a_p1_sizes, .inl (cI, 5, .inl p1_sizesA)), (a_p1_tights, .inl (cI, 5, .inl p1_tightsA))]) [4, 5, 0, 1, 2, 3] (by decide) rfl
    exact K25 (100) r23 0 0 w25 w26 w27 w28 p1_hand p1_at p1_wide p1_rim p1_fill p1_wall p1_ceiling p1_puff p1_period p1_ballCount p1_kindsA p1_sizesA p1_tightsA _ _ hP hD hS _ (lv_sub hl [2, 3, 1, 0] rfl) hR
  · have hR := (if_neg c6).symm.trans hR
    refine lv_sipush (v := (-1000)) hx hb dX4_tell_9 (by decide) ?_
    refine lv_aload_n hx hb dX4_tell_12 rfl (lv_at hl 1 rfl) ?_
    refine va_get (D := (dC, dI)) (ci := 4) (v := .int w24) (C := RX4) (T := TX4) (N := 7) hx hb hts hinX4 hown hK hP 4 rfl rfl 2 (by decide) (hts (.fieldLink RX4 23 "PaperInBin$Text" "place" "I") (by decide +kernel)) (fun _ h9 => h9) rfl dX4_tell_13 ?_
    refine lv_isub hx hb dX4_tell_16 ?_
    have hP := hP.sub (ws' := [(a_t, .inr (4, [.ref a_letters, .int t_length, .int w24, .int w25, .int w26, .int w27, .int w28])), (a_letters, .inl (cI, 80, .inl lettersA)), (a_p1, .inr (3, [.int p1_hand, .int p1_at, .int p1_wide, .int p1_rim, .int p1_fill, .int p1_wall, .int p1_ceiling, .int p1_puff, .int p1_period, .int p1_second, .int p1_score, .int p1_thrown, .int p1_ballCount, .ref a_p1_kinds, .ref a_p1_sizes, .ref a_p1_tights])), (a_p1_kinds, .inl (cI, 5, .inl p1_kindsA)), (a_p1_sizes, .inl (cI, 5, .inl p1_sizesA)), (a_p1_tights, .inl (cI, 5, .inl p1_tightsA))]) [4, 5, 0, 1, 2, 3] rfl
    have hD := hD.sub (ws' := [(a_t, .inr (4, [.ref a_letters, .int t_length, .int w24, .int w25, .int w26, .int w27, .int w28])), (a_letters, .inl (cI, 80, .inl lettersA)), (a_p1, .inr (3, [.int p1_hand, .int p1_at, .int p1_wide, .int p1_rim, .int p1_fill, .int p1_wall, .int p1_ceiling, .int p1_puff, .int p1_period, .int p1_second, .int p1_score, .int p1_thrown, .int p1_ballCount, .ref a_p1_kinds, .ref a_p1_sizes, .ref a_p1_tights])), (a_p1_kinds, .inl (cI, 5, .inl p1_kindsA)), (a_p1_sizes, .inl (cI, 5, .inl p1_sizesA)), (a_p1_tights, .inl (cI, 5, .inl p1_tightsA))]) [4, 5, 0, 1, 2, 3] (by decide) rfl
    subst hQ
    subst hAe
    exact W.iret (v := ((-1000) - w24)) hx hb hr (fun t ht hW => ⟨⟨((-1000) - w24), (w24, w25, w26, w27, w28, p1_hand, p1_at, p1_wide, p1_rim, p1_fill, p1_wall, p1_ceiling, p1_puff, p1_period, p1_ballCount, p1_kindsA, p1_sizesA, p1_tightsA), rfl, Option.some.inj hR, by rw [ht]; exact hP, hD⟩, hS.F ht⟩) hS.2.2 dX4_tell_17
