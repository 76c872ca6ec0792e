def lX3_become_106 (p1_kindsA : Nat → Int32) (p1_sizesA : Nat → Int32) (p1_tightsA : Nat → Int32) : Nat → Int32 → Int32 → Int32 → Int32 → Int32 → Int32 → Int32 → Int32 → Int32 → Int32 → Int32 → Int32 → Int32 → Int32 → (Nat → Int32) → (Nat → Int32) → (Nat → Int32) → Option (Int32 × Int32 × Int32 × Int32 × Int32 × Int32 × Int32 × Int32 × Int32 × Int32 × Int32 × Int32 × Int32 × (Nat → Int32) × (Nat → Int32) × (Nat → Int32))
  | 0, _, _, _, _, _, _, _, _, _, _, _, _, _, _, _, _, _ => none
  | n + 1, x2, t_hand, t_at, t_wide, t_rim, t_fill, t_wall, t_ceiling, t_puff, t_period, t_second, t_score, t_thrown, t_ballCount, kindsA, sizesA, tightsA =>
    if 5 ≤ x2 then (
     some (t_hand, t_at, t_wide, t_rim, t_fill, t_wall, t_ceiling, t_puff, t_period, t_second, t_score, t_thrown, t_ballCount, kindsA, sizesA, tightsA))
    else (
    g_in x2 5 (
    g_in x2 5 (
    g_in x2 5 (
    g_in x2 5 (
    g_in x2 5 (
    g_in x2 5 (
    lX3_become_106 p1_kindsA p1_sizesA p1_tightsA n (x2 + 1) t_hand t_at t_wide t_rim t_fill t_wall t_ceiling t_puff t_period t_second t_score t_thrown t_ballCount (upd kindsA (x2).toNatClampNeg (p1_kindsA (x2).toNatClampNeg)) (upd sizesA (x2).toNatClampNeg (p1_sizesA (x2).toNatClampNeg)) (upd tightsA (x2).toNatClampNeg (p1_tightsA (x2).toNatClampNeg)))))))))
def fX3_become (p1_hand : Int32) (p1_at : Int32) (p1_wide : Int32) (p1_rim : Int32) (p1_fill : Int32) (p1_wall : Int32) (p1_ceiling : Int32) (p1_puff : Int32) (p1_period : Int32) (p1_second : Int32) (p1_score : Int32) (p1_thrown : Int32) (p1_ballCount : Int32) (p1_kindsA : Nat → Int32) (kindsA : Nat → Int32) (p1_sizesA : Nat → Int32) (sizesA : Nat → Int32) (p1_tightsA : Nat → Int32) (tightsA : Nat → Int32) : Option (Int32 × Int32 × Int32 × Int32 × Int32 × Int32 × Int32 × Int32 × Int32 × Int32 × Int32 × Int32 × Int32 × (Nat → Int32) × (Nat → Int32) × (Nat → Int32)) :=
  lX3_become_106 p1_kindsA p1_sizesA p1_tightsA (100) 0 p1_hand p1_at p1_wide p1_rim p1_fill p1_wall p1_ceiling p1_puff p1_period p1_second p1_score p1_thrown p1_ballCount kindsA sizesA tightsA
set_option maxHeartbeats 4000000 in
set_option maxRecDepth 100000 in
theorem kX3_become (l : Launch) (dC : Nat → ClassId) (dI : Nat → Nat → Nat) (cI : ClassId) (a_p1 a_p1_kinds a_p1_sizes a_p1_tights a_t a_kinds a_sizes a_tights : Nat) (sz : Nat) (p1_hand : Int32) (p1_at : Int32) (p1_wide : Int32) (p1_rim : Int32) (p1_fill : Int32) (p1_wall : Int32) (p1_ceiling : Int32) (p1_puff : Int32) (p1_period : Int32) (p1_second : Int32) (p1_score : Int32) (p1_thrown : Int32) (p1_ballCount : Int32) (t_hand : Int32) (t_at : Int32) (t_wide : Int32) (t_rim : Int32) (t_fill : Int32) (t_wall : Int32) (t_ceiling : Int32) (t_puff : Int32) (t_period : Int32) (t_second : Int32) (t_score : Int32) (t_thrown : Int32) (t_ballCount : Int32) (p1_kindsA : Nat → Int32) (kindsA : Nat → Int32) (p1_sizesA : Nat → Int32) (sizesA : Nat → Int32) (p1_tightsA : Nat → Int32) (tightsA : Nat → Int32) (R : Int32 × Int32 × Int32 × Int32 × Int32 × Int32 × Int32 × Int32 × Int32 × Int32 × Int32 × Int32 × Int32 × (Nat → Int32) × (Nat → Int32) × (Nat → Int32)) (hR : fX3_become p1_hand p1_at p1_wide p1_rim p1_fill p1_wall p1_ceiling p1_puff p1_period p1_second p1_score p1_thrown p1_ballCount p1_kindsA kindsA p1_sizesA sizesA p1_tightsA tightsA = some R) : Met l yX3_become wsX3_become ({ frames := 0, cells := 0, slots := 0, locals := 0 } : Room) (va_Pc [.ref a_t, .ref a_p1] (Wp (dC, dI) [(cI, .int)] [(a_p1, .inr (3, [.int p1_hand, .int p1_at, .int p1_wide, .int p1_rim, .int p1_fill, .int p1_wall, .int p1_ceiling, .int p1_puff, .int p1_period, .int p1_second, .int p1_score, .int p1_thrown, .int p1_ballCount, .ref a_p1_kinds, .ref a_p1_sizes, .ref a_p1_tights])), (a_t, .inr (3, [.int t_hand, .int t_at, .int t_wide, .int t_rim, .int t_fill, .int t_wall, .int t_ceiling, .int t_puff, .int t_period, .int t_second, .int t_score, .int t_thrown, .int t_ballCount, .ref a_kinds, .ref a_sizes, .ref a_tights])), (a_p1_kinds, .inl (cI, 5, .inl p1_kindsA)), (a_kinds, .inl (cI, 5, .inl kindsA)), (a_p1_sizes, .inl (cI, 5, .inl p1_sizesA)), (a_sizes, .inl (cI, 5, .inl sizesA)), (a_p1_tights, .inl (cI, 5, .inl p1_tightsA)), (a_tights, .inl (cI, 5, .inl tightsA))] sz)) (va_Qv (fun (u : Int32 × Int32 × Int32 × Int32 × Int32 × Int32 × Int32 × Int32 × Int32 × Int32 × Int32 × Int32 × Int32 × (Nat → Int32) × (Nat → Int32) × (Nat → Int32)) => u = R) (Wq (dC, dI) [(a_p1, .inr (3, [.int p1_hand, .int p1_at, .int p1_wide, .int p1_rim, .int p1_fill, .int p1_wall, .int p1_ceiling, .int p1_puff, .int p1_period, .int p1_second, .int p1_score, .int p1_thrown, .int p1_ballCount, .ref a_p1_kinds, .ref a_p1_sizes, .ref a_p1_tights])), (a_t, .inr (3, [.int t_hand, .int t_at, .int t_wide, .int t_rim, .int t_fill, .int t_wall, .int t_ceiling, .int t_puff, .int t_period, .int t_second, .int t_score, .int t_thrown, .int t_ballCount, .ref a_kinds, .ref a_sizes, .ref a_tights])), (a_p1_kinds, .inl (cI, 5, .inl p1_kindsA)), (a_kinds, .inl (cI, 5, .inl kindsA)), (a_p1_sizes, .inl (cI, 5, .inl p1_sizesA)), (a_sizes, .inl (cI, 5, .inl sizesA)), (a_p1_tights, .inl (cI, 5, .inl p1_tightsA)), (a_tights, .inl (cI, 5, .inl tightsA))] sz (fun (u : Int32 × Int32 × Int32 × Int32 × Int32 × Int32 × Int32 × Int32 × Int32 × Int32 × Int32 × Int32 × Int32 × (Nat → Int32) × (Nat → Int32) × (Nat → Int32)) => ([(a_p1, .inr (3, [.int p1_hand, .int p1_at, .int p1_wide, .int p1_rim, .int p1_fill, .int p1_wall, .int p1_ceiling, .int p1_puff, .int p1_period, .int p1_second, .int p1_score, .int p1_thrown, .int p1_ballCount, .ref a_p1_kinds, .ref a_p1_sizes, .ref a_p1_tights])), (a_t, .inr (3, [.int u.1, .int u.2.1, .int u.2.2.1, .int u.2.2.2.1, .int u.2.2.2.2.1, .int u.2.2.2.2.2.1, .int u.2.2.2.2.2.2.1, .int u.2.2.2.2.2.2.2.1, .int u.2.2.2.2.2.2.2.2.1, .int u.2.2.2.2.2.2.2.2.2.1, .int u.2.2.2.2.2.2.2.2.2.2.1, .int u.2.2.2.2.2.2.2.2.2.2.2.1, .int u.2.2.2.2.2.2.2.2.2.2.2.2.1, .ref a_kinds, .ref a_sizes, .ref a_tights])), (a_p1_kinds, .inl (cI, 5, .inl p1_kindsA)), (a_kinds, .inl (cI, 5, .inl u.2.2.2.2.2.2.2.2.2.2.2.2.2.1)), (a_p1_sizes, .inl (cI, 5, .inl p1_sizesA)), (a_sizes, .inl (cI, 5, .inl u.2.2.2.2.2.2.2.2.2.2.2.2.2.2.1)), (a_p1_tights, .inl (cI, 5, .inl p1_tightsA)), (a_tights, .inl (cI, 5, .inl u.2.2.2.2.2.2.2.2.2.2.2.2.2.2.2))] : va_W))) (va_A [(a_p1, .inr (3, [.int p1_hand, .int p1_at, .int p1_wide, .int p1_rim, .int p1_fill, .int p1_wall, .int p1_ceiling, .int p1_puff, .int p1_period, .int p1_second, .int p1_score, .int p1_thrown, .int p1_ballCount, .ref a_p1_kinds, .ref a_p1_sizes, .ref a_p1_tights])), (a_t, .inr (3, [.int t_hand, .int t_at, .int t_wide, .int t_rim, .int t_fill, .int t_wall, .int t_ceiling, .int t_puff, .int t_period, .int t_second, .int t_score, .int t_thrown, .int t_ballCount, .ref a_kinds, .ref a_sizes, .ref a_tights])), (a_p1_kinds, .inl (cI, 5, .inl p1_kindsA)), (a_kinds, .inl (cI, 5, .inl kindsA)), (a_p1_sizes, .inl (cI, 5, .inl p1_sizesA)), (a_sizes, .inl (cI, 5, .inl sizesA)), (a_p1_tights, .inl (cI, 5, .inl p1_tightsA)), (a_tights, .inl (cI, 5, .inl tightsA))] sz)) 0 0 (va_A [(a_p1, .inr (3, [.int p1_hand, .int p1_at, .int p1_wide, .int p1_rim, .int p1_fill, .int p1_wall, .int p1_ceiling, .int p1_puff, .int p1_period, .int p1_second, .int p1_score, .int p1_thrown, .int p1_ballCount, .ref a_p1_kinds, .ref a_p1_sizes, .ref a_p1_tights])), (a_t, .inr (3, [.int t_hand, .int t_at, .int t_wide, .int t_rim, .int t_fill, .int t_wall, .int t_ceiling, .int t_puff, .int t_period, .int t_second, .int t_score, .int t_thrown, .int t_ballCount, .ref a_kinds, .ref a_sizes, .ref a_tights])), (a_p1_kinds, .inl (cI, 5, .inl p1_kindsA)), (a_kinds, .inl (cI, 5, .inl kindsA)), (a_p1_sizes, .inl (cI, 5, .inl p1_sizesA)), (a_sizes, .inl (cI, 5, .inl sizesA)), (a_p1_tights, .inl (cI, 5, .inl p1_tightsA)), (a_tights, .inl (cI, 5, .inl tightsA))] sz) := by
  refine Met.ofW (cc := cX3_become) (maxL := 3) (ret := none) (by decide) rfl ?_
  intro p e s m args below meth c s₁ B hml hv
  obtain ⟨hargs, hsz, hP, hK, hD0, hN⟩ := hv
  have hx := B.exec
  have hb := B.bytes
  have hr := B.returns
  have hts := atoms_spec (ws := wsX3_become) B.pre
  have hown : s.vm.findClass RX3 = some m.cls := findClass_of_methodNamed B.named
  have hlocks := B.notSynchronized
  subst hsz
  have hD := hD0.self (sz := s.heap.size)
  obtain ⟨A, hAe⟩ : ∃ A, A = va_A [(a_p1, .inr (3, [.int p1_hand, .int p1_at, .int p1_wide, .int p1_rim, .int p1_fill, .int p1_wall, .int p1_ceiling, .int p1_puff, .int p1_period, .int p1_second, .int p1_score, .int p1_thrown, .int p1_ballCount, .ref a_p1_kinds, .ref a_p1_sizes, .ref a_p1_tights])), (a_t, .inr (3, [.int t_hand, .int t_at, .int t_wide, .int t_rim, .int t_fill, .int t_wall, .int t_ceiling, .int t_puff, .int t_period, .int t_second, .int t_score, .int t_thrown, .int t_ballCount, .ref a_kinds, .ref a_sizes, .ref a_tights])), (a_p1_kinds, .inl (cI, 5, .inl p1_kindsA)), (a_kinds, .inl (cI, 5, .inl kindsA)), (a_p1_sizes, .inl (cI, 5, .inl p1_sizesA)), (a_sizes, .inl (cI, 5, .inl sizesA)), (a_p1_tights, .inl (cI, 5, .inl p1_tightsA)), (a_tights, .inl (cI, 5, .inl tightsA))] s.heap.size := ⟨_, rfl⟩
  rw [← hAe] at hD
  have hA : ∀ q : Nat, s.heap.size ≤ q → A q := fun q h => by rw [hAe]; exact Or.inr h
  have hS : va_S A s.heap s.heap [] := va_S.rf
  have hl := lv_entry ([.ref a_t, .ref a_p1]) (n := 3) (Nat.le_of_ble_eq_true rfl)
  rw [e_of hargs, lg_entry_eq]
  generalize (lg_sl ([.ref a_t, .ref a_p1]) ++ List.replicate (3 - (lg_sl ([.ref a_t, .ref a_p1])).length) Slot.unset).toArray = ls at hl ⊢
  have hl : lv_has ls 3 [(0, .ref a_t), (1, .ref a_p1)] := hl
  have hinX3 : ∀ w ∈ wsX30, w ∈ wsX3_become := by decide +kernel
  refine w_q ({ frames := 0, cells := 0, slots := 0, locals := 0 } : Room) (fun Q0 hQ => ?_)
  have K106 : ∀ (n106 : Nat) (x2 : Int32) (t_hand : Int32) (t_at : Int32) (t_wide : Int32) (t_rim : Int32) (t_fill : Int32) (t_wall : Int32) (t_ceiling : Int32) (t_puff : Int32) (t_period : Int32) (t_second : Int32) (t_score : Int32) (t_thrown : Int32) (t_ballCount : Int32) (kindsA : Nat → Int32) (sizesA : Nat → Int32) (tightsA : Nat → Int32) (H : Heap) (locs : List Loc), va_P (dC, dI) vwCl [(a_p1, .inr (3, [.int p1_hand, .int p1_at, .int p1_wide, .int p1_rim, .int p1_fill, .int p1_wall, .int p1_ceiling, .int p1_puff, .int p1_period, .int p1_second, .int p1_score, .int p1_thrown, .int p1_ballCount, .ref a_p1_kinds, .ref a_p1_sizes, .ref a_p1_tights])), (a_t, .inr (3, [.int t_hand, .int t_at, .int t_wide, .int t_rim, .int t_fill, .int t_wall, .int t_ceiling, .int t_puff, .int t_period, .int t_second, .int t_score, .int t_thrown, .int t_ballCount, .ref a_kinds, .ref a_sizes, .ref a_tights])), (a_p1_kinds, .inl (cI, 5, .inl p1_kindsA)), (a_kinds, .inl (cI, 5, .inl kindsA)), (a_p1_sizes, .inl (cI, 5, .inl p1_sizesA)), (a_sizes, .inl (cI, 5, .inl sizesA)), (a_p1_tights, .inl (cI, 5, .inl p1_tightsA)), (a_tights, .inl (cI, 5, .inl tightsA))] H → va_D A [(a_p1, .inr (3, [.int p1_hand, .int p1_at, .int p1_wide, .int p1_rim, .int p1_fill, .int p1_wall, .int p1_ceiling, .int p1_puff, .int p1_period, .int p1_second, .int p1_score, .int p1_thrown, .int p1_ballCount, .ref a_p1_kinds, .ref a_p1_sizes, .ref a_p1_tights])), (a_t, .inr (3, [.int t_hand, .int t_at, .int t_wide, .int t_rim, .int t_fill, .int t_wall, .int t_ceiling, .int t_puff, .int t_period, .int t_second, .int t_score, .int t_thrown, .int t_ballCount, .ref a_kinds, .ref a_sizes, .ref a_tights])), (a_p1_kinds, .inl (cI, 5, .inl p1_kindsA)), (a_kinds, .inl (cI, 5, .inl kindsA)), (a_p1_sizes, .inl (cI, 5, .inl p1_sizesA)), (a_sizes, .inl (cI, 5, .inl sizesA)), (a_p1_tights, .inl (cI, 5, .inl p1_tightsA)), (a_tights, .inl (cI, 5, .inl tightsA))] → va_S A s.heap H locs → ∀ (ls : Array Slot), lv_has ls 3 [(0, .ref a_t), (1, .ref a_p1), (2, .int x2)] → lX3_become_106 p1_kindsA p1_sizesA p1_tightsA n106 x2 t_hand t_at t_wide t_rim t_fill t_wall t_ceiling t_puff t_period t_second t_score t_thrown t_ballCount kindsA sizesA tightsA = some R → W p l e ({ frames := 0, cells := 0, slots := 0, locals := 0 } : Room) s m args below meth c H locs 0 0 Q0 (F0 m 106 ls []) := by
    intro n106
    induction n106 with
    | zero =>
      intro x2 t_hand t_at t_wide t_rim t_fill t_wall t_ceiling t_puff t_period t_second t_score t_thrown t_ballCount kindsA sizesA tightsA H locs hP hD hS ls hl hR
      rw [lX3_become_106] at hR
      cases hR
    | succ n106 ih106 =>
      intro x2 t_hand t_at t_wide t_rim t_fill t_wall t_ceiling t_puff t_period t_second t_score t_thrown t_ballCount kindsA sizesA tightsA H locs hP hD hS ls hl hR
      rw [lX3_become_106] at hR
      refine lv_iload_n hx hb dX3_become_106 rfl (lv_at hl 2 rfl) ?_
      refine lv_iconst (v := 5) hx hb dX3_become_107 (by decide) ?_
      refine lv_icmp_ge (tgt := 153) hx hb dX3_become_108 (by decide) (fun c108 => ?_) (fun c108 => ?_)
      · have hR := (if_pos c108).symm.trans hR
        subst hQ
        subst hAe
        exact W.vret hx hb hr (fun t ht hW => ⟨⟨(t_hand, t_at, t_wide, t_rim, t_fill, t_wall, t_ceiling, t_puff, t_period, t_second, t_score, t_thrown, t_ballCount, kindsA, sizesA, tightsA), rfl, Option.some.inj hR, by rw [ht]; exact hP, hD⟩, hS.F ht⟩) hS.2.2 dX3_become_153
      · have hR := (if_neg c108).symm.trans hR
        refine lv_aload_n hx hb dX3_become_111 rfl (lv_at hl 0 rfl) ?_
        refine va_get (D := (dC, dI)) (ci := 3) (v := .ref a_kinds) (C := RX3) (T := TX3) (N := 16) hx hb hts hinX3 hown hK hP 1 rfl rfl 13 (by decide) (hts (.fieldLink RX3 51 "PaperInBin$Office" "kinds" "[I") (by decide +kernel)) (fun _ h9 => h9) rfl dX3_become_112 ?_
        refine lv_iload_n hx hb dX3_become_115 rfl (lv_at hl 2 rfl) ?_
        refine lv_aload_n hx hb dX3_become_116 rfl (lv_at hl 1 rfl) ?_
        refine va_get (D := (dC, dI)) (ci := 3) (v := .ref a_p1_kinds) (C := RX3) (T := TX3) (N := 16) hx hb hts hinX3 hown hK hP 0 rfl rfl 13 (by decide) (hts (.fieldLink RX3 51 "PaperInBin$Office" "kinds" "[I") (by decide +kernel)) (fun _ h9 => h9) rfl dX3_become_117 ?_
        refine lv_iload_n hx hb dX3_become_120 rfl (lv_at hl 2 rfl) ?_
        obtain ⟨g1, hR⟩ := g_in_s hR
        refine va_iald hx hb hK hP 2 0 rfl rfl g1 dX3_become_121 ?_
        obtain ⟨g2, hR⟩ := g_in_s hR
        refine va_iast hx hb hK hP hD hS 3 0 rfl rfl g2 dX3_become_122 (fun H locs hP hD hS => ?_)
        have hP : va_P (dC, dI) vwCl [(a_p1, .inr (3, [.int p1_hand, .int p1_at, .int p1_wide, .int p1_rim, .int p1_fill, .int p1_wall, .int p1_ceiling, .int p1_puff, .int p1_period, .int p1_second, .int p1_score, .int p1_thrown, .int p1_ballCount, .ref a_p1_kinds, .ref a_p1_sizes, .ref a_p1_tights])), (a_t, .inr (3, [.int t_hand, .int t_at, .int t_wide, .int t_rim, .int t_fill, .int t_wall, .int t_ceiling, .int t_puff, .int t_period, .int t_second, .int t_score, .int t_thrown, .int t_ballCount, .ref a_kinds, .ref a_sizes, .ref a_tights])), (a_p1_kinds, .inl (cI, 5, .inl p1_kindsA)), (a_kinds, .inl (cI, 5, .inl (upd kindsA (x2).toNatClampNeg (p1_kindsA (x2).toNatClampNeg)))), (a_p1_sizes, .inl (cI, 5, .inl p1_sizesA)), (a_sizes, .inl (cI, 5, .inl sizesA)), (a_p1_tights, .inl (cI, 5, .inl p1_tightsA)), (a_tights, .inl (cI, 5, .inl tightsA))] H := hP
        have hD : va_D A [(a_p1, .inr (3, [.int p1_hand, .int p1_at, .int p1_wide, .int p1_rim, .int p1_fill, .int p1_wall, .int p1_ceiling, .int p1_puff, .int p1_period, .int p1_second, .int p1_score, .int p1_thrown, .int p1_ballCount, .ref a_p1_kinds, .ref a_p1_sizes, .ref a_p1_tights])), (a_t, .inr (3, [.int t_hand, .int t_at, .int t_wide, .int t_rim, .int t_fill, .int t_wall, .int t_ceiling, .int t_puff, .int t_period, .int t_second, .int t_score, .int t_thrown, .int t_ballCount, .ref a_kinds, .ref a_sizes, .ref a_tights])), (a_p1_kinds, .inl (cI, 5, .inl p1_kindsA)), (a_kinds, .inl (cI, 5, .inl (upd kindsA (x2).toNatClampNeg (p1_kindsA (x2).toNatClampNeg)))), (a_p1_sizes, .inl (cI, 5, .inl p1_sizesA)), (a_sizes, .inl (cI, 5, .inl sizesA)), (a_p1_tights, .inl (cI, 5, .inl p1_tightsA)), (a_tights, .inl (cI, 5, .inl tightsA))] := hD
        refine lv_aload_n hx hb dX3_become_123 rfl (lv_at hl 0 rfl) ?_
        refine va_get (D := (dC, dI)) (ci := 3) (v := .ref a_sizes) (C := RX3) (T := TX3) (N := 16) hx hb hts hinX3 hown hK hP 1 rfl rfl 14 (by decide) (hts (.fieldLink RX3 55 "PaperInBin$Office" "sizes" "[I") (by decide +kernel)) (fun _ h9 => h9) rfl dX3_become_124 ?_
        refine lv_iload_n hx hb dX3_become_127 rfl (lv_at hl 2 rfl) ?_
        refine lv_aload_n hx hb dX3_become_128 rfl (lv_at hl 1 rfl) ?_
        refine va_get (D := (dC, dI)) (ci := 3) (v := .ref a_p1_sizes) (C := RX3) (T := TX3) (N := 16) hx hb hts hinX3 hown hK hP 0 rfl rfl 14 (by decide) (hts (.fieldLink RX3 55 "PaperInBin$Office" "sizes" "[I") (by decide +kernel)) (fun _ h9 => h9) rfl dX3_become_129 ?_
        refine lv_iload_n hx hb dX3_become_132 rfl (lv_at hl 2 rfl) ?_
        obtain ⟨g3, hR⟩ := g_in_s hR
        refine va_iald hx hb hK hP 4 0 rfl rfl g3 dX3_become_133 ?_
        obtain ⟨g4, hR⟩ := g_in_s hR
        refine va_iast hx hb hK hP hD hS 5 0 rfl rfl g4 dX3_become_134 (fun H locs hP hD hS => ?_)
        have hP : va_P (dC, dI) vwCl [(a_p1, .inr (3, [.int p1_hand, .int p1_at, .int p1_wide, .int p1_rim, .int p1_fill, .int p1_wall, .int p1_ceiling, .int p1_puff, .int p1_period, .int p1_second, .int p1_score, .int p1_thrown, .int p1_ballCount, .ref a_p1_kinds, .ref a_p1_sizes, .ref a_p1_tights])), (a_t, .inr (3, [.int t_hand, .int t_at, .int t_wide, .int t_rim, .int t_fill, .int t_wall, .int t_ceiling, .int t_puff, .int t_period, .int t_second, .int t_score, .int t_thrown, .int t_ballCount, .ref a_kinds, .ref a_sizes, .ref a_tights])), (a_p1_kinds, .inl (cI, 5, .inl p1_kindsA)), (a_kinds, .inl (cI, 5, .inl (upd kindsA (x2).toNatClampNeg (p1_kindsA (x2).toNatClampNeg)))), (a_p1_sizes, .inl (cI, 5, .inl p1_sizesA)), (a_sizes, .inl (cI, 5, .inl (upd sizesA (x2).toNatClampNeg (p1_sizesA (x2).toNatClampNeg)))), (a_p1_tights, .inl (cI, 5, .inl p1_tightsA)), (a_tights, .inl (cI, 5, .inl tightsA))] H := hP
        have hD : va_D A [(a_p1, .inr (3, [.int p1_hand, .int p1_at, .int p1_wide, .int p1_rim, .int p1_fill, .int p1_wall, .int p1_ceiling, .int p1_puff, .int p1_period, .int p1_second, .int p1_score, .int p1_thrown, .int p1_ballCount, .ref a_p1_kinds, .ref a_p1_sizes, .ref a_p1_tights])), (a_t, .inr (3, [.int t_hand, .int t_at, .int t_wide, .int t_rim, .int t_fill, .int t_wall, .int t_ceiling, .int t_puff, .int t_period, .int t_second, .int t_score, .int t_thrown, .int t_ballCount, .ref a_kinds, .ref a_sizes, .ref a_tights])), (a_p1_kinds, .inl (cI, 5, .inl p1_kindsA)), (a_kinds, .inl (cI, 5, .inl (upd kindsA (x2).toNatClampNeg (p1_kindsA (x2).toNatClampNeg)))), (a_p1_sizes, .inl (cI, 5, .inl p1_sizesA)), (a_sizes, .inl (cI, 5, .inl (upd sizesA (x2).toNatClampNeg (p1_sizesA (x2).toNatClampNeg)))), (a_p1_tights, .inl (cI, 5, .inl p1_tightsA)), (a_tights, .inl (cI, 5, .inl tightsA))] := hD
        refine lv_aload_n hx hb dX3_become_135 rfl (lv_at hl 0 rfl) ?_
        refine va_get (D := (dC, dI)) (ci := 3) (v := .ref a_tights) (C := RX3) (T := TX3) (N := 16) hx hb hts hinX3 hown hK hP 1 rfl rfl 15 (by decide) (hts (.fieldLink RX3 58 "PaperInBin$Office" "tights" "[I") (by decide +kernel)) (fun _ h9 => h9) rfl dX3_become_136 ?_
        refine lv_iload_n hx hb dX3_become_139 rfl (lv_at hl 2 rfl) ?_
        refine lv_aload_n hx hb dX3_become_140 rfl (lv_at hl 1 rfl) ?_
        refine va_get (D := (dC, dI)) (ci := 3) (v := .ref a_p1_tights) (C := RX3) (T := TX3) (N := 16) hx hb hts hinX3 hown hK hP 0 rfl rfl 15 (by decide) (hts (.fieldLink RX3 58 "PaperInBin$Office" "tights" "[I") (by decide +kernel)) (fun _ h9 => h9) rfl dX3_become_141 ?_
        refine lv_iload_n hx hb dX3_become_144 rfl (lv_at hl 2 rfl) ?_
        obtain ⟨g5, hR⟩ := g_in_s hR
        refine va_iald hx hb hK hP 6 0 rfl rfl g5 dX3_become_145 ?_
        obtain ⟨g6, hR⟩ := g_in_s hR
        refine va_iast hx hb hK hP hD hS 7 0 rfl rfl g6 dX3_become_146 (fun H locs hP hD hS => ?_)
        have hP : va_P (dC, dI) vwCl [(a_p1, .inr (3, [.int p1_hand, .int p1_at, .int p1_wide, .int p1_rim, .int p1_fill, .int p1_wall, .int p1_ceiling, .int p1_puff, .int p1_period, .int p1_second, .int p1_score, .int p1_thrown, .int p1_ballCount, .ref a_p1_kinds, .ref a_p1_sizes, .ref a_p1_tights])), (a_t, .inr (3, [.int t_hand, .int t_at, .int t_wide, .int t_rim, .int t_fill, .int t_wall, .int t_ceiling, .int t_puff, .int t_period, .int t_second, .int t_score, .int t_thrown, .int t_ballCount, .ref a_kinds, .ref a_sizes, .ref a_tights])), (a_p1_kinds, .inl (cI, 5, .inl p1_kindsA)), (a_kinds, .inl (cI, 5, .inl (upd kindsA (x2).toNatClampNeg (p1_kindsA (x2).toNatClampNeg)))), (a_p1_sizes, .inl (cI, 5, .inl p1_sizesA)), (a_sizes, .inl (cI, 5, .inl (upd sizesA (x2).toNatClampNeg (p1_sizesA (x2).toNatClampNeg)))), (a_p1_tights, .inl (cI, 5, .inl p1_tightsA)), (a_tights, .inl (cI, 5, .inl (upd tightsA (x2).toNatClampNeg (p1_tightsA (x2).toNatClampNeg))))] H := hP
        have hD : va_D A [(a_p1, .inr (3, [.int p1_hand, .int p1_at, .int p1_wide, .int p1_rim, .int p1_fill, .int p1_wall, .int p1_ceiling, .int p1_puff, .int p1_period, .int p1_second, .int p1_score, .int p1_thrown, .int p1_ballCount, .ref a_p1_kinds, .ref a_p1_sizes, .ref a_p1_tights])), (a_t, .inr (3, [.int t_hand, .int t_at, .int t_wide, .int t_rim, .int t_fill, .int t_wall, .int t_ceiling, .int t_puff, .int t_period, .int t_second, .int t_score, .int t_thrown, .int t_ballCount, .ref a_kinds, .ref a_sizes, .ref a_tights])), (a_p1_kinds, .inl (cI, 5, .inl p1_kindsA)), (a_kinds, .inl (cI, 5, .inl (upd kindsA (x2).toNatClampNeg (p1_kindsA (x2).toNatClampNeg)))), (a_p1_sizes, .inl (cI, 5, .inl p1_sizesA)), (a_sizes, .inl (cI, 5, .inl (upd sizesA (x2).toNatClampNeg (p1_sizesA (x2).toNatClampNeg)))), (a_p1_tights, .inl (cI, 5, .inl p1_tightsA)), (a_tights, .inl (cI, 5, .inl (upd tightsA (x2).toNatClampNeg (p1_tightsA (x2).toNatClampNeg))))] := hD
        refine lv_iinc (v := (x2 + 1)) (lv' := [(2, .int (x2 + 1)), (0, .ref a_t), (1, .ref a_p1)]) hx hb dX3_become_147 hl (k := 2) rfl rfl (by decide) rfl (fun ls hl => ?_)
        refine lv_goto (tgt := 106) hx hb dX3_become_150 (by decide) ?_
        exact ih106 (x2 + 1) t_hand t_at t_wide t_rim t_fill t_wall t_ceiling t_puff t_period t_second t_score t_thrown t_ballCount (upd kindsA (x2).toNatClampNeg (p1_kindsA (x2).toNatClampNeg)) (upd sizesA (x2).toNatClampNeg (p1_sizesA (x2).toNatClampNeg)) (upd tightsA (x2).toNatClampNeg (p1_tightsA (x2).toNatClampNeg)) _ _ hP hD hS _ (lv_sub hl [1, 2, 0] rfl) hR
  rw [fX3_become] at hR
  refine lv_aload_n hx hb dX3_become_0 rfl (lv_at hl 0 rfl) ?_
  refine lv_aload_n hx hb dX3_become_1 rfl (lv_at hl 1 rfl) ?_
  refine va_get (D := (dC, dI)) (ci := 3) (v := .int p1_hand) (C := RX3) (T := TX3) (N := 16) hx hb hts hinX3 hown hK hP 0 rfl rfl 0 (by decide) (hts (.fieldLink RX3 9 "PaperInBin$Office" "hand" "I") (by decide +kernel)) (fun _ h9 => h9) rfl dX3_become_2 ?_
  refine va_put (D := (dC, dI)) (ci := 3) (v := .int p1_hand) (ty := .int) (C := RX3) (T := TX3) (N := 16) hx hb hts hinX3 tyX3 tyX3_ok nmX3 hown hK hP hD hS 1 rfl rfl 0 (by decide) (hts (.fieldLink RX3 9 "PaperInBin$Office" "hand" "I") (by decide +kernel)) (fun _ h9 => h9) rfl (tyX3_ok 0 (by decide)) rfl rfl (Nat.le_of_ble_eq_true rfl) dX3_become_5 (fun H locs hP hD hS => ?_)
  have hP : va_P (dC, dI) vwCl [(a_p1, .inr (3, [.int p1_hand, .int p1_at, .int p1_wide, .int p1_rim, .int p1_fill, .int p1_wall, .int p1_ceiling, .int p1_puff, .int p1_period, .int p1_second, .int p1_score, .int p1_thrown, .int p1_ballCount, .ref a_p1_kinds, .ref a_p1_sizes, .ref a_p1_tights])), (a_t, .inr (3, [.int p1_hand, .int t_at, .int t_wide, .int t_rim, .int t_fill, .int t_wall, .int t_ceiling, .int t_puff, .int t_period, .int t_second, .int t_score, .int t_thrown, .int t_ballCount, .ref a_kinds, .ref a_sizes, .ref a_tights])), (a_p1_kinds, .inl (cI, 5, .inl p1_kindsA)), (a_kinds, .inl (cI, 5, .inl kindsA)), (a_p1_sizes, .inl (cI, 5, .inl p1_sizesA)), (a_sizes, .inl (cI, 5, .inl sizesA)), (a_p1_tights, .inl (cI, 5, .inl p1_tightsA)), (a_tights, .inl (cI, 5, .inl tightsA))] H := hP
  have hD : va_D A [(a_p1, .inr (3, [.int p1_hand, .int p1_at, .int p1_wide, .int p1_rim, .int p1_fill, .int p1_wall, .int p1_ceiling, .int p1_puff, .int p1_period, .int p1_second, .int p1_score, .int p1_thrown, .int p1_ballCount, .ref a_p1_kinds, .ref a_p1_sizes, .ref a_p1_tights])), (a_t, .inr (3, [.int p1_hand, .int t_at, .int t_wide, .int t_rim, .int t_fill, .int t_wall, .int t_ceiling, .int t_puff, .int t_period, .int t_second, .int t_score, .int t_thrown, .int t_ballCount, .ref a_kinds, .ref a_sizes, .ref a_tights])), (a_p1_kinds, .inl (cI, 5, .inl p1_kindsA)), (a_kinds, .inl (cI, 5, .inl kindsA)), (a_p1_sizes, .inl (cI, 5, .inl p1_sizesA)), (a_sizes, .inl (cI, 5, .inl sizesA)), (a_p1_tights, .inl (cI, 5, .inl p1_tightsA)), (a_tights, .inl (cI, 5, .inl tightsA))] := hD
  refine lv_aload_n hx hb dX3_become_8 rfl (lv_at hl 0 rfl) ?_
  refine lv_aload_n hx hb dX3_become_9 rfl (lv_at hl 1 rfl) ?_
  refine va_get (D := (dC, dI)) (ci := 3) (v := .int p1_at) (C := RX3) (T := TX3) (N := 16) hx hb hts hinX3 hown hK hP 0 rfl rfl 1 (by decide) (hts (.fieldLink RX3 15 "PaperInBin$Office" "at" "I") (by decide +kernel)) (fun _ h9 => h9) rfl dX3_become_10 ?_
  refine va_put (D := (dC, dI)) (ci := 3) (v := .int p1_at) (ty := .int) (C := RX3) (T := TX3) (N := 16) hx hb hts hinX3 tyX3 tyX3_ok nmX3 hown hK hP hD hS 1 rfl rfl 1 (by decide) (hts (.fieldLink RX3 15 "PaperInBin$Office" "at" "I") (by decide +kernel)) (fun _ h9 => h9) rfl (tyX3_ok 1 (by decide)) rfl rfl (Nat.le_of_ble_eq_true rfl) dX3_become_13 (fun H locs hP hD hS => ?_)
  have hP : va_P (dC, dI) vwCl [(a_p1, .inr (3, [.int p1_hand, .int p1_at, .int p1_wide, .int p1_rim, .int p1_fill, .int p1_wall, .int p1_ceiling, .int p1_puff, .int p1_period, .int p1_second, .int p1_score, .int p1_thrown, .int p1_ballCount, .ref a_p1_kinds, .ref a_p1_sizes, .ref a_p1_tights])), (a_t, .inr (3, [.int p1_hand, .int p1_at, .int t_wide, .int t_rim, .int t_fill, .int t_wall, .int t_ceiling, .int t_puff, .int t_period, .int t_second, .int t_score, .int t_thrown, .int t_ballCount, .ref a_kinds, .ref a_sizes, .ref a_tights])), (a_p1_kinds, .inl (cI, 5, .inl p1_kindsA)), (a_kinds, .inl (cI, 5, .inl kindsA)), (a_p1_sizes, .inl (cI, 5, .inl p1_sizesA)), (a_sizes, .inl (cI, 5, .inl sizesA)), (a_p1_tights, .inl (cI, 5, .inl p1_tightsA)), (a_tights, .inl (cI, 5, .inl tightsA))] H := hP
  have hD : va_D A [(a_p1, .inr (3, [.int p1_hand, .int p1_at, .int p1_wide, .int p1_rim, .int p1_fill, .int p1_wall, .int p1_ceiling, .int p1_puff, .int p1_period, .int p1_second, .int p1_score, .int p1_thrown, .int p1_ballCount, .ref a_p1_kinds, .ref a_p1_sizes, .ref a_p1_tights])), (a_t, .inr (3, [.int p1_hand, .int p1_at, .int t_wide, .int t_rim, .int t_fill, .int t_wall, .int t_ceiling, .int t_puff, .int t_period, .int t_second, .int t_score, .int t_thrown, .int t_ballCount, .ref a_kinds, .ref a_sizes, .ref a_tights])), (a_p1_kinds, .inl (cI, 5, .inl p1_kindsA)), (a_kinds, .inl (cI, 5, .inl kindsA)), (a_p1_sizes, .inl (cI, 5, .inl p1_sizesA)), (a_sizes, .inl (cI, 5, .inl sizesA)), (a_p1_tights, .inl (cI, 5, .inl p1_tightsA)), (a_tights, .inl (cI, 5, .inl tightsA))] := hD
  refine lv_aload_n hx hb dX3_become_16 rfl (lv_at hl 0 rfl) ?_
  refine lv_aload_n hx hb dX3_become_17 rfl (lv_at hl 1 rfl) ?_
  refine va_get (D := (dC, dI)) (ci := 3) (v := .int p1_wide) (C := RX3) (T := TX3) (N := 16) hx hb hts hinX3 hown hK hP 0 rfl rfl 2 (by decide) (hts (.fieldLink RX3 18 "PaperInBin$Office" "wide" "I") (by decide +kernel)) (fun _ h9 => h9) rfl dX3_become_18 ?_
  refine va_put (D := (dC, dI)) (ci := 3) (v := .int p1_wide) (ty := .int) (C := RX3) (T := TX3) (N := 16) hx hb hts hinX3 tyX3 tyX3_ok nmX3 hown hK hP hD hS 1 rfl rfl 2 (by decide) (hts (.fieldLink RX3 18 "PaperInBin$Office" "wide" "I") (by decide +kernel)) (fun _ h9 => h9) rfl (tyX3_ok 2 (by decide)) rfl rfl (Nat.le_of_ble_eq_true rfl) dX3_become_21 (fun H locs hP hD hS => ?_)
  have hP : va_P (dC, dI) vwCl [(a_p1, .inr (3, [.int p1_hand, .int p1_at, .int p1_wide, .int p1_rim, .int p1_fill, .int p1_wall, .int p1_ceiling, .int p1_puff, .int p1_period, .int p1_second, .int p1_score, .int p1_thrown, .int p1_ballCount, .ref a_p1_kinds, .ref a_p1_sizes, .ref a_p1_tights])), (a_t, .inr (3, [.int p1_hand, .int p1_at, .int p1_wide, .int t_rim, .int t_fill, .int t_wall, .int t_ceiling, .int t_puff, .int t_period, .int t_second, .int t_score, .int t_thrown, .int t_ballCount, .ref a_kinds, .ref a_sizes, .ref a_tights])), (a_p1_kinds, .inl (cI, 5, .inl p1_kindsA)), (a_kinds, .inl (cI, 5, .inl kindsA)), (a_p1_sizes, .inl (cI, 5, .inl p1_sizesA)), (a_sizes, .inl (cI, 5, .inl sizesA)), (a_p1_tights, .inl (cI, 5, .inl p1_tightsA)), (a_tights, .inl (cI, 5, .inl tightsA))] H := hP
  have hD : va_D A [(a_p1, .inr (3, [.int p1_hand, .int p1_at, .int p1_wide, .int p1_rim, .int p1_fill, .int p1_wall, .int p1_ceiling, .int p1_puff, .int p1_period, .int p1_second, .int p1_score, .int p1_thrown, .int p1_ballCount, .ref a_p1_kinds, .ref a_p1_sizes, .ref a_p1_tights])), (a_t, .inr (3, [.int p1_hand, .int p1_at, .int p1_wide, .int t_rim, .int t_fill, .int t_wall, .int t_ceiling, .int t_puff, .int t_period, .int t_second, .int t_score, .int t_thrown, .int t_ballCount, .ref a_kinds, .ref a_sizes, .ref a_tights])), (a_p1_kinds, .inl (cI, 5, .inl p1_kindsA)), (a_kinds, .inl (cI, 5, .inl kindsA)), (a_p1_sizes, .inl (cI, 5, .inl p1_sizesA)), (a_sizes, .inl (cI, 5, .inl sizesA)), (a_p1_tights, .inl (cI, 5, .inl p1_tightsA)), (a_tights, .inl (cI, 5, .inl tightsA))] := hD
  refine lv_aload_n hx hb dX3_become_24 rfl (lv_at hl 0 rfl) ?_
  refine lv_aload_n hx hb dX3_become_25 rfl (lv_at hl 1 rfl) ?_
  refine va_get (D := (dC, dI)) (ci := 3) (v := .int p1_rim) (C := RX3) (T := TX3) (N := 16) hx hb hts hinX3 hown hK hP 0 rfl rfl 3 (by decide) (hts (.fieldLink RX3 21 "PaperInBin$Office" "rim" "I") (by decide +kernel)) (fun _ h9 => h9) rfl dX3_become_26 ?_
  refine va_put (D := (dC, dI)) (ci := 3) (v := .int p1_rim) (ty := .int) (C := RX3) (T := TX3) (N := 16) hx hb hts hinX3 tyX3 tyX3_ok nmX3 hown hK hP hD hS 1 rfl rfl 3 (by decide) (hts (.fieldLink RX3 21 "PaperInBin$Office" "rim" "I") (by decide +kernel)) (fun _ h9 => h9) rfl (tyX3_ok 3 (by decide)) rfl rfl (Nat.le_of_ble_eq_true rfl) dX3_become_29 (fun H locs hP hD hS => ?_)
  have hP : va_P (dC, dI) vwCl [(a_p1, .inr (3, [.int p1_hand, .int p1_at, .int p1_wide, .int p1_rim, .int p1_fill, .int p1_wall, .int p1_ceiling, .int p1_puff, .int p1_period, .int p1_second, .int p1_score, .int p1_thrown, .int p1_ballCount, .ref a_p1_kinds, .ref a_p1_sizes, .ref a_p1_tights])), (a_t, .inr (3, [.int p1_hand, .int p1_at, .int p1_wide, .int p1_rim, .int t_fill, .int t_wall, .int t_ceiling, .int t_puff, .int t_period, .int t_second, .int t_score, .int t_thrown, .int t_ballCount, .ref a_kinds, .ref a_sizes, .ref a_tights])), (a_p1_kinds, .inl (cI, 5, .inl p1_kindsA)), (a_kinds, .inl (cI, 5, .inl kindsA)), (a_p1_sizes, .inl (cI, 5, .inl p1_sizesA)), (a_sizes, .inl (cI, 5, .inl sizesA)), (a_p1_tights, .inl (cI, 5, .inl p1_tightsA)), (a_tights, .inl (cI, 5, .inl tightsA))] H := hP
  have hD : va_D A [(a_p1, .inr (3, [.int p1_hand, .int p1_at, .int p1_wide, .int p1_rim, .int p1_fill, .int p1_wall, .int p1_ceiling, .int p1_puff, .int p1_period, .int p1_second, .int p1_score, .int p1_thrown, .int p1_ballCount, .ref a_p1_kinds, .ref a_p1_sizes, .ref a_p1_tights])), (a_t, .inr (3, [.int p1_hand, .int p1_at, .int p1_wide, .int p1_rim, .int t_fill, .int t_wall, .int t_ceiling, .int t_puff, .int t_period, .int t_second, .int t_score, .int t_thrown, .int t_ballCount, .ref a_kinds, .ref a_sizes, .ref a_tights])), (a_p1_kinds, .inl (cI, 5, .inl p1_kindsA)), (a_kinds, .inl (cI, 5, .inl kindsA)), (a_p1_sizes, .inl (cI, 5, .inl p1_sizesA)), (a_sizes, .inl (cI, 5, .inl sizesA)), (a_p1_tights, .inl (cI, 5, .inl p1_tightsA)), (a_tights, .inl (cI, 5, .inl tightsA))] := hD
  refine lv_aload_n hx hb dX3_become_32 rfl (lv_at hl 0 rfl) ?_
  refine lv_aload_n hx hb dX3_become_33 rfl (lv_at hl 1 rfl) ?_
  refine va_get (D := (dC, dI)) (ci := 3) (v := .int p1_fill) (C := RX3) (T := TX3) (N := 16) hx hb hts hinX3 hown hK hP 0 rfl rfl 4 (by decide) (hts (.fieldLink RX3 24 "PaperInBin$Office" "fill" "I") (by decide +kernel)) (fun _ h9 => h9) rfl dX3_become_34 ?_
  refine va_put (D := (dC, dI)) (ci := 3) (v := .int p1_fill) (ty := .int) (C := RX3) (T := TX3) (N := 16) hx hb hts hinX3 tyX3 tyX3_ok nmX3 hown hK hP hD hS 1 rfl rfl 4 (by decide) (hts (.fieldLink RX3 24 "PaperInBin$Office" "fill" "I") (by decide +kernel)) (fun _ h9 => h9) rfl (tyX3_ok 4 (by decide)) rfl rfl (Nat.le_of_ble_eq_true rfl) dX3_become_37 (fun H locs hP hD hS => ?_)
  have hP : va_P (dC, dI) vwCl [(a_p1, .inr (3, [.int p1_hand, .int p1_at, .int p1_wide, .int p1_rim, .int p1_fill, .int p1_wall, .int p1_ceiling, .int p1_puff, .int p1_period, .int p1_second, .int p1_score, .int p1_thrown, .int p1_ballCount, .ref a_p1_kinds, .ref a_p1_sizes, .ref a_p1_tights])), (a_t, .inr (3, [.int p1_hand, .int p1_at, .int p1_wide, .int p1_rim, .int p1_fill, .int t_wall, .int t_ceiling, .int t_puff, .int t_period, .int t_second, .int t_score, .int t_thrown, .int t_ballCount, .ref a_kinds, .ref a_sizes, .ref a_tights])), (a_p1_kinds, .inl (cI, 5, .inl p1_kindsA)), (a_kinds, .inl (cI, 5, .inl kindsA)), (a_p1_sizes, .inl (cI, 5, .inl p1_sizesA)), (a_sizes, .inl (cI, 5, .inl sizesA)), (a_p1_tights, .inl (cI, 5, .inl p1_tightsA)), (a_tights, .inl (cI, 5, .inl tightsA))] H := hP
  have hD : va_D A [(a_p1, .inr (3, [.int p1_hand, .int p1_at, .int p1_wide, .int p1_rim, .int p1_fill, .int p1_wall, .int p1_ceiling, .int p1_puff, .int p1_period, .int p1_second, .int p1_score, .int p1_thrown, .int p1_ballCount, .ref a_p1_kinds, .ref a_p1_sizes, .ref a_p1_tights])), (a_t, .inr (3, [.int p1_hand, .int p1_at, .int p1_wide, .int p1_rim, .int p1_fill, .int t_wall, .int t_ceiling, .int t_puff, .int t_period, .int t_second, .int t_score, .int t_thrown, .int t_ballCount, .ref a_kinds, .ref a_sizes, .ref a_tights])), (a_p1_kinds, .inl (cI, 5, .inl p1_kindsA)), (a_kinds, .inl (cI, 5, .inl kindsA)), (a_p1_sizes, .inl (cI, 5, .inl p1_sizesA)), (a_sizes, .inl (cI, 5, .inl sizesA)), (a_p1_tights, .inl (cI, 5, .inl p1_tightsA)), (a_tights, .inl (cI, 5, .inl tightsA))] := hD
  refine lv_aload_n hx hb dX3_become_40 rfl (lv_at hl 0 rfl) ?_
  refine lv_aload_n hx hb dX3_become_41 rfl (lv_at hl 1 rfl) ?_
  refine va_get (D := (dC, dI)) (ci := 3) (v := .int p1_wall) (C := RX3) (T := TX3) (N := 16) hx hb hts hinX3 hown hK hP 0 rfl rfl 5 (by decide) (hts (.fieldLink RX3 27 "PaperInBin$Office" "wall" "I") (by decide +kernel)) (fun _ h9 => h9) rfl dX3_become_42 ?_
  refine va_put (D := (dC, dI)) (ci := 3) (v := .int p1_wall) (ty := .int) (C := RX3) (T := TX3) (N := 16) hx hb hts hinX3 tyX3 tyX3_ok nmX3 hown hK hP hD hS 1 rfl rfl 5 (by decide) (hts (.fieldLink RX3 27 "PaperInBin$Office" "wall" "I") (by decide +kernel)) (fun _ h9 => h9) rfl (tyX3_ok 5 (by decide)) rfl rfl (Nat.le_of_ble_eq_true rfl) dX3_become_45 (fun H locs hP hD hS => ?_)
  have hP : va_P (dC, dI) vwCl [(a_p1, .inr (3, [.int p1_hand, .int p1_at, .int p1_wide, .int p1_rim, .int p1_fill, .int p1_wall, .int p1_ceiling, .int p1_puff, .int p1_period, .int p1_second, .int p1_score, .int p1_thrown, .int p1_ballCount, .ref a_p1_kinds, .ref a_p1_sizes, .ref a_p1_tights])), (a_t, .inr (3, [.int p1_hand, .int p1_at, .int p1_wide, .int p1_rim, .int p1_fill, .int p1_wall, .int t_ceiling, .int t_puff, .int t_period, .int t_second, .int t_score, .int t_thrown, .int t_ballCount, .ref a_kinds, .ref a_sizes, .ref a_tights])), (a_p1_kinds, .inl (cI, 5, .inl p1_kindsA)), (a_kinds, .inl (cI, 5, .inl kindsA)), (a_p1_sizes, .inl (cI, 5, .inl p1_sizesA)), (a_sizes, .inl (cI, 5, .inl sizesA)), (a_p1_tights, .inl (cI, 5, .inl p1_tightsA)), (a_tights, .inl (cI, 5, .inl tightsA))] H := hP
  have hD : va_D A [(a_p1, .inr (3, [.int p1_hand, .int p1_at, .int p1_wide, .int p1_rim, .int p1_fill, .int p1_wall, .int p1_ceiling, .int p1_puff, .int p1_period, .int p1_second, .int p1_score, .int p1_thrown, .int p1_ballCount, .ref a_p1_kinds, .ref a_p1_sizes, .ref a_p1_tights])), (a_t, .inr (3, [.int p1_hand, .int p1_at, .int p1_wide, .int p1_rim, .int p1_fill, .int p1_wall, .int t_ceiling, .int t_puff, .int t_period, .int t_second, .int t_score, .int t_thrown, .int t_ballCount, .ref a_kinds, .ref a_sizes, .ref a_tights])), (a_p1_kinds, .inl (cI, 5, .inl p1_kindsA)), (a_kinds, .inl (cI, 5, .inl kindsA)), (a_p1_sizes, .inl (cI, 5, .inl p1_sizesA)), (a_sizes, .inl (cI, 5, .inl sizesA)), (a_p1_tights, .inl (cI, 5, .inl p1_tightsA)), (a_tights, .inl (cI, 5, .inl tightsA))] := hD
  refine lv_aload_n hx hb dX3_become_48 rfl (lv_at hl 0 rfl) ?_
  refine lv_aload_n hx hb dX3_become_49 rfl (lv_at hl 1 rfl) ?_
  refine va_get (D := (dC, dI)) (ci := 3) (v := .int p1_ceiling) (C := RX3) (T := TX3) (N := 16) hx hb hts hinX3 hown hK hP 0 rfl rfl 6 (by decide) (hts (.fieldLink RX3 30 "PaperInBin$Office" "ceiling" "I") (by decide +kernel)) (fun _ h9 => h9) rfl dX3_become_50 ?_
  refine va_put (D := (dC, dI)) (ci := 3) (v := .int p1_ceiling) (ty := .int) (C := RX3) (T := TX3) (N := 16) hx hb hts hinX3 tyX3 tyX3_ok nmX3 hown hK hP hD hS 1 rfl rfl 6 (by decide) (hts (.fieldLink RX3 30 "PaperInBin$Office" "ceiling" "I") (by decide +kernel)) (fun _ h9 => h9) rfl (tyX3_ok 6 (by decide)) rfl rfl (Nat.le_of_ble_eq_true rfl) dX3_become_53 (fun H locs hP hD hS => ?_)
  have hP : va_P (dC, dI) vwCl [(a_p1, .inr (3, [.int p1_hand, .int p1_at, .int p1_wide, .int p1_rim, .int p1_fill, .int p1_wall, .int p1_ceiling, .int p1_puff, .int p1_period, .int p1_second, .int p1_score, .int p1_thrown, .int p1_ballCount, .ref a_p1_kinds, .ref a_p1_sizes, .ref a_p1_tights])), (a_t, .inr (3, [.int p1_hand, .int p1_at, .int p1_wide, .int p1_rim, .int p1_fill, .int p1_wall, .int p1_ceiling, .int t_puff, .int t_period, .int t_second, .int t_score, .int t_thrown, .int t_ballCount, .ref a_kinds, .ref a_sizes, .ref a_tights])), (a_p1_kinds, .inl (cI, 5, .inl p1_kindsA)), (a_kinds, .inl (cI, 5, .inl kindsA)), (a_p1_sizes, .inl (cI, 5, .inl p1_sizesA)), (a_sizes, .inl (cI, 5, .inl sizesA)), (a_p1_tights, .inl (cI, 5, .inl p1_tightsA)), (a_tights, .inl (cI, 5, .inl tightsA))] H := hP
  have hD : va_D A [(a_p1, .inr (3, [.int p1_hand, .int p1_at, .int p1_wide, .int p1_rim, .int p1_fill, .int p1_wall, .int p1_ceiling, .int p1_puff, .int p1_period, .int p1_second, .int p1_score, .int p1_thrown, .int p1_ballCount, .ref a_p1_kinds, .ref a_p1_sizes, .ref a_p1_tights])), (a_t, .inr (3, [.int p1_hand, .int p1_at, .int p1_wide, .int p1_rim, .int p1_fill, .int p1_wall, .int p1_ceiling, .int t_puff, .int t_period, .int t_second, .int t_score, .int t_thrown, .int t_ballCount, .ref a_kinds, .ref a_sizes, .ref a_tights])), (a_p1_kinds, .inl (cI, 5, .inl p1_kindsA)), (a_kinds, .inl (cI, 5, .inl kindsA)), (a_p1_sizes, .inl (cI, 5, .inl p1_sizesA)), (a_sizes, .inl (cI, 5, .inl sizesA)), (a_p1_tights, .inl (cI, 5, .inl p1_tightsA)), (a_tights, .inl (cI, 5, .inl tightsA))] := hD
  refine lv_aload_n hx hb dX3_become_56 rfl (lv_at hl 0 rfl) ?_
  refine lv_aload_n hx hb dX3_become_57 rfl (lv_at hl 1 rfl) ?_
  refine va_get (D := (dC, dI)) (ci := 3) (v := .int p1_puff) (C := RX3) (T := TX3) (N := 16) hx hb hts hinX3 hown hK hP 0 rfl rfl 7 (by decide) (hts (.fieldLink RX3 33 "PaperInBin$Office" "puff" "I") (by decide +kernel)) (fun _ h9 => h9) rfl dX3_become_58 ?_
  refine va_put (D := (dC, dI)) (ci := 3) (v := .int p1_puff) (ty := .int) (C := RX3) (T := TX3) (N := 16) hx hb hts hinX3 tyX3 tyX3_ok nmX3 hown hK hP hD hS 1 rfl rfl 7 (by decide) (hts (.fieldLink RX3 33 "PaperInBin$Office" "puff" "I") (by decide +kernel)) (fun _ h9 => h9) rfl (tyX3_ok 7 (by decide)) rfl rfl (Nat.le_of_ble_eq_true rfl) dX3_become_61 (fun H locs hP hD hS => ?_)
  have hP : va_P (dC, dI) vwCl [(a_p1, .inr (3, [.int p1_hand, .int p1_at, .int p1_wide, .int p1_rim, .int p1_fill, .int p1_wall, .int p1_ceiling, .int p1_puff, .int p1_period, .int p1_second, .int p1_score, .int p1_thrown, .int p1_ballCount, .ref a_p1_kinds, .ref a_p1_sizes, .ref a_p1_tights])), (a_t, .inr (3, [.int p1_hand, .int p1_at, .int p1_wide, .int p1_rim, .int p1_fill, .int p1_wall, .int p1_ceiling, .int p1_puff, .int t_period, .int t_second, .int t_score, .int t_thrown, .int t_ballCount, .ref a_kinds, .ref a_sizes, .ref a_tights])), (a_p1_kinds, .inl (cI, 5, .inl p1_kindsA)), (a_kinds, .inl (cI, 5, .inl kindsA)), (a_p1_sizes, .inl (cI, 5, .inl p1_sizesA)), (a_sizes, .inl (cI, 5, .inl sizesA)), (a_p1_tights, .inl (cI, 5, .inl p1_tightsA)), (a_tights, .inl (cI, 5, .inl tightsA))] H := hP
  have hD : va_D A [(a_p1, .inr (3, [.int p1_hand, .int p1_at, .int p1_wide, .int p1_rim, .int p1_fill, .int p1_wall, .int p1_ceiling, .int p1_puff, .int p1_period, .int p1_second, .int p1_score, .int p1_thrown, .int p1_ballCount, .ref a_p1_kinds, .ref a_p1_sizes, .ref a_p1_tights])), (a_t, .inr (3, [.int p1_hand, .int p1_at, .int p1_wide, .int p1_rim, .int p1_fill, .int p1_wall, .int p1_ceiling, .int p1_puff, .int t_period, .int t_second, .int t_score, .int t_thrown, .int t_ballCount, .ref a_kinds, .ref a_sizes, .ref a_tights])), (a_p1_kinds, .inl (cI, 5, .inl p1_kindsA)), (a_kinds, .inl (cI, 5, .inl kindsA)), (a_p1_sizes, .inl (cI, 5, .inl p1_sizesA)), (a_sizes, .inl (cI, 5, .inl sizesA)), (a_p1_tights, .inl (cI, 5, .inl p1_tightsA)), (a_tights, .inl (cI, 5, .inl tightsA))] := hD
  refine lv_aload_n hx hb dX3_become_64 rfl (lv_at hl 0 rfl) ?_
  refine lv_aload_n hx hb dX3_become_65 rfl (lv_at hl 1 rfl) ?_
  refine va_get (D := (dC, dI)) (ci := 3) (v := .int p1_period) (C := RX3) (T := TX3) (N := 16) hx hb hts hinX3 hown hK hP 0 rfl rfl 8 (by decide) (hts (.fieldLink RX3 36 "PaperInBin$Office" "period" "I") (by decide +kernel)) (fun _ h9 => h9) rfl dX3_become_66 ?_
  refine va_put (D := (dC, dI)) (ci := 3) (v := .int p1_period) (ty := .int) (C := RX3) (T := TX3) (N := 16) hx hb hts hinX3 tyX3 tyX3_ok nmX3 hown hK hP hD hS 1 rfl rfl 8 (by decide) (hts (.fieldLink RX3 36 "PaperInBin$Office" "period" "I") (by decide +kernel)) (fun _ h9 => h9) rfl (tyX3_ok 8 (by decide)) rfl rfl (Nat.le_of_ble_eq_true rfl) dX3_become_69 (fun H locs hP hD hS => ?_)
  have hP : va_P (dC, dI) vwCl [(a_p1, .inr (3, [.int p1_hand, .int p1_at, .int p1_wide, .int p1_rim, .int p1_fill, .int p1_wall, .int p1_ceiling, .int p1_puff, .int p1_period, .int p1_second, .int p1_score, .int p1_thrown, .int p1_ballCount, .ref a_p1_kinds, .ref a_p1_sizes, .ref a_p1_tights])), (a_t, .inr (3, [.int p1_hand, .int p1_at, .int p1_wide, .int p1_rim, .int p1_fill, .int p1_wall, .int p1_ceiling, .int p1_puff, .int p1_period, .int t_second, .int t_score, .int t_thrown, .int t_ballCount, .ref a_kinds, .ref a_sizes, .ref a_tights])), (a_p1_kinds, .inl (cI, 5, .inl p1_kindsA)), (a_kinds, .inl (cI, 5, .inl kindsA)), (a_p1_sizes, .inl (cI, 5, .inl p1_sizesA)), (a_sizes, .inl (cI, 5, .inl sizesA)), (a_p1_tights, .inl (cI, 5, .inl p1_tightsA)), (a_tights, .inl (cI, 5, .inl tightsA))] H := hP
  have hD : va_D A [(a_p1, .inr (3, [.int p1_hand, .int p1_at, .int p1_wide, .int p1_rim, .int p1_fill, .int p1_wall, .int p1_ceiling, .int p1_puff, .int p1_period, .int p1_second, .int p1_score, .int p1_thrown, .int p1_ballCount, .ref a_p1_kinds, .ref a_p1_sizes, .ref a_p1_tights])), (a_t, .inr (3, [.int p1_hand, .int p1_at, .int p1_wide, .int p1_rim, .int p1_fill, .int p1_wall, .int p1_ceiling, .int p1_puff, .int p1_period, .int t_second, .int t_score, .int t_thrown, .int t_ballCount, .ref a_kinds, .ref a_sizes, .ref a_tights])), (a_p1_kinds, .inl (cI, 5, .inl p1_kindsA)), (a_kinds, .inl (cI, 5, .inl kindsA)), (a_p1_sizes, .inl (cI, 5, .inl p1_sizesA)), (a_sizes, .inl (cI, 5, .inl sizesA)), (a_p1_tights, .inl (cI, 5, .inl p1_tightsA)), (a_tights, .inl (cI, 5, .inl tightsA))] := hD
  refine lv_aload_n hx hb dX3_become_72 rfl (lv_at hl 0 rfl) ?_
  refine lv_aload_n hx hb dX3_become_73 rfl (lv_at hl 1 rfl) ?_
  refine va_get (D := (dC, dI)) (ci := 3) (v := .int p1_second) (C := RX3) (T := TX3) (N := 16) hx hb hts hinX3 hown hK hP 0 rfl rfl 9 (by decide) (hts (.fieldLink RX3 39 "PaperInBin$Office" "second" "I") (by decide +kernel)) (fun _ h9 => h9) rfl dX3_become_74 ?_
  refine va_put (D := (dC, dI)) (ci := 3) (v := .int p1_second) (ty := .int) (C := RX3) (T := TX3) (N := 16) hx hb hts hinX3 tyX3 tyX3_ok nmX3 hown hK hP hD hS 1 rfl rfl 9 (by decide) (hts (.fieldLink RX3 39 "PaperInBin$Office" "second" "I") (by decide +kernel)) (fun _ h9 => h9) rfl (tyX3_ok 9 (by decide)) rfl rfl (Nat.le_of_ble_eq_true rfl) dX3_become_77 (fun H locs hP hD hS => ?_)
  have hP : va_P (dC, dI) vwCl [(a_p1, .inr (3, [.int p1_hand, .int p1_at, .int p1_wide, .int p1_rim, .int p1_fill, .int p1_wall, .int p1_ceiling, .int p1_puff, .int p1_period, .int p1_second, .int p1_score, .int p1_thrown, .int p1_ballCount, .ref a_p1_kinds, .ref a_p1_sizes, .ref a_p1_tights])), (a_t, .inr (3, [.int p1_hand, .int p1_at, .int p1_wide, .int p1_rim, .int p1_fill, .int p1_wall, .int p1_ceiling, .int p1_puff, .int p1_period, .int p1_second, .int t_score, .int t_thrown, .int t_ballCount, .ref a_kinds, .ref a_sizes, .ref a_tights])), (a_p1_kinds, .inl (cI, 5, .inl p1_kindsA)), (a_kinds, .inl (cI, 5, .inl kindsA)), (a_p1_sizes, .inl (cI, 5, .inl p1_sizesA)), (a_sizes, .inl (cI, 5, .inl sizesA)), (a_p1_tights, .inl (cI, 5, .inl p1_tightsA)), (a_tights, .inl (cI, 5, .inl tightsA))] H := hP
  have hD : va_D A [(a_p1, .inr (3, [.int p1_hand, .int p1_at, .int p1_wide, .int p1_rim, .int p1_fill, .int p1_wall, .int p1_ceiling, .int p1_puff, .int p1_period, .int p1_second, .int p1_score, .int p1_thrown, .int p1_ballCount, .ref a_p1_kinds, .ref a_p1_sizes, .ref a_p1_tights])), (a_t, .inr (3, [.int p1_hand, .int p1_at, .int p1_wide, .int p1_rim, .int p1_fill, .int p1_wall, .int p1_ceiling, .int p1_puff, .int p1_period, .int p1_second, .int t_score, .int t_thrown, .int t_ballCount, .ref a_kinds, .ref a_sizes, .ref a_tights])), (a_p1_kinds, .inl (cI, 5, .inl p1_kindsA)), (a_kinds, .inl (cI, 5, .inl kindsA)), (a_p1_sizes, .inl (cI, 5, .inl p1_sizesA)), (a_sizes, .inl (cI, 5, .inl sizesA)), (a_p1_tights, .inl (cI, 5, .inl p1_tightsA)), (a_tights, .inl (cI, 5, .inl tightsA))] := hD
  refine lv_aload_n hx hb dX3_become_80 rfl (lv_at hl 0 rfl) ?_
  refine lv_aload_n hx hb dX3_become_81 rfl (lv_at hl 1 rfl) ?_
  refine va_get (D := (dC, dI)) (ci := 3) (v := .int p1_score) (C := RX3) (T := TX3) (N := 16) hx hb hts hinX3 hown hK hP 0 rfl rfl 10 (by decide) (hts (.fieldLink RX3 42 "PaperInBin$Office" "score" "I") (by decide +kernel)) (fun _ h9 => h9) rfl dX3_become_82 ?_
  refine va_put (D := (dC, dI)) (ci := 3) (v := .int p1_score) (ty := .int) (C := RX3) (T := TX3) (N := 16) hx hb hts hinX3 tyX3 tyX3_ok nmX3 hown hK hP hD hS 1 rfl rfl 10 (by decide) (hts (.fieldLink RX3 42 "PaperInBin$Office" "score" "I") (by decide +kernel)) (fun _ h9 => h9) rfl (tyX3_ok 10 (by decide)) rfl rfl (Nat.le_of_ble_eq_true rfl) dX3_become_85 (fun H locs hP hD hS => ?_)
  have hP : va_P (dC, dI) vwCl [(a_p1, .inr (3, [.int p1_hand, .int p1_at, .int p1_wide, .int p1_rim, .int p1_fill, .int p1_wall, .int p1_ceiling, .int p1_puff, .int p1_period, .int p1_second, .int p1_score, .int p1_thrown, .int p1_ballCount, .ref a_p1_kinds, .ref a_p1_sizes, .ref a_p1_tights])), (a_t, .inr (3, [.int p1_hand, .int p1_at, .int p1_wide, .int p1_rim, .int p1_fill, .int p1_wall, .int p1_ceiling, .int p1_puff, .int p1_period, .int p1_second, .int p1_score, .int t_thrown, .int t_ballCount, .ref a_kinds, .ref a_sizes, .ref a_tights])), (a_p1_kinds, .inl (cI, 5, .inl p1_kindsA)), (a_kinds, .inl (cI, 5, .inl kindsA)), (a_p1_sizes, .inl (cI, 5, .inl p1_sizesA)), (a_sizes, .inl (cI, 5, .inl sizesA)), (a_p1_tights, .inl (cI, 5, .inl p1_tightsA)), (a_tights, .inl (cI, 5, .inl tightsA))] H := hP
  have hD : va_D A [(a_p1, .inr (3, [.int p1_hand, .int p1_at, .int p1_wide, .int p1_rim, .int p1_fill, .int p1_wall, .int p1_ceiling, .int p1_puff, .int p1_period, .int p1_second, .int p1_score, .int p1_thrown, .int p1_ballCount, .ref a_p1_kinds, .ref a_p1_sizes, .ref a_p1_tights])), (a_t, .inr (3, [.int p1_hand, .int p1_at, .int p1_wide, .int p1_rim, .int p1_fill, .int p1_wall, .int p1_ceiling, .int p1_puff, .int p1_period, .int p1_second, .int p1_score, .int t_thrown, .int t_ballCount, .ref a_kinds, .ref a_sizes, .ref a_tights])), (a_p1_kinds, .inl (cI, 5, .inl p1_kindsA)), (a_kinds, .inl (cI, 5, .inl kindsA)), (a_p1_sizes, .inl (cI, 5, .inl p1_sizesA)), (a_sizes, .inl (cI, 5, .inl sizesA)), (a_p1_tights, .inl (cI, 5, .inl p1_tightsA)), (a_tights, .inl (cI, 5, .inl tightsA))] := hD
  refine lv_aload_n hx hb dX3_become_88 rfl (lv_at hl 0 rfl) ?_
  refine lv_aload_n hx hb dX3_become_89 rfl (lv_at hl 1 rfl) ?_
  refine va_get (D := (dC, dI)) (ci := 3) (v := .int p1_thrown) (C := RX3) (T := TX3) (N := 16) hx hb hts hinX3 hown hK hP 0 rfl rfl 11 (by decide) (hts (.fieldLink RX3 45 "PaperInBin$Office" "thrown" "I") (by decide +kernel)) (fun _ h9 => h9) rfl dX3_become_90 ?_
  refine va_put (D := (dC, dI)) (ci := 3) (v := .int p1_thrown) (ty := .int) (C := RX3) (T := TX3) (N := 16) hx hb hts hinX3 tyX3 tyX3_ok nmX3 hown hK hP hD hS 1 rfl rfl 11 (by decide) (hts (.fieldLink RX3 45 "PaperInBin$Office" "thrown" "I") (by decide +kernel)) (fun _ h9 => h9) rfl (tyX3_ok 11 (by decide)) rfl rfl (Nat.le_of_ble_eq_true rfl) dX3_become_93 (fun H locs hP hD hS => ?_)
  have hP : va_P (dC, dI) vwCl [(a_p1, .inr (3, [.int p1_hand, .int p1_at, .int p1_wide, .int p1_rim, .int p1_fill, .int p1_wall, .int p1_ceiling, .int p1_puff, .int p1_period, .int p1_second, .int p1_score, .int p1_thrown, .int p1_ballCount, .ref a_p1_kinds, .ref a_p1_sizes, .ref a_p1_tights])), (a_t, .inr (3, [.int p1_hand, .int p1_at, .int p1_wide, .int p1_rim, .int p1_fill, .int p1_wall, .int p1_ceiling, .int p1_puff, .int p1_period, .int p1_second, .int p1_score, .int p1_thrown, .int t_ballCount, .ref a_kinds, .ref a_sizes, .ref a_tights])), (a_p1_kinds, .inl (cI, 5, .inl p1_kindsA)), (a_kinds, .inl (cI, 5, .inl kindsA)), (a_p1_sizes, .inl (cI, 5, .inl p1_sizesA)), (a_sizes, .inl (cI, 5, .inl sizesA)), (a_p1_tights, .inl (cI, 5, .inl p1_tightsA)), (a_tights, .inl (cI, 5, .inl tightsA))] H := hP
  have hD : va_D A [(a_p1, .inr (3, [.int p1_hand, .int p1_at, .int p1_wide, .int p1_rim, .int p1_fill, .int p1_wall, .int p1_ceiling, .int p1_puff, .int p1_period, .int p1_second, .int p1_score, .int p1_thrown, .int p1_ballCount, .ref a_p1_kinds, .ref a_p1_sizes, .ref a_p1_tights])), (a_t, .inr (3, [.int p1_hand, .int p1_at, .int p1_wide, .int p1_rim, .int p1_fill, .int p1_wall, .int p1_ceiling, .int p1_puff, .int p1_period, .int p1_second, .int p1_score, .int p1_thrown, .int t_ballCount, .ref a_kinds, .ref a_sizes, .ref a_tights])), (a_p1_kinds, .inl (cI, 5, .inl p1_kindsA)), (a_kinds, .inl (cI, 5, .inl kindsA)), (a_p1_sizes, .inl (cI, 5, .inl p1_sizesA)), (a_sizes, .inl (cI, 5, .inl sizesA)), (a_p1_tights, .inl (cI, 5, .inl p1_tightsA)), (a_tights, .inl (cI, 5, .inl tightsA))] := hD
  refine lv_aload_n hx hb dX3_become_96 rfl (lv_at hl 0 rfl) ?_
  refine lv_aload_n hx hb dX3_become_97 rfl (lv_at hl 1 rfl) ?_
  refine va_get (D := (dC, dI)) (ci := 3) (v := .int p1_ballCount) (C := RX3) (T := TX3) (N := 16) hx hb hts hinX3 hown hK hP 0 rfl rfl 12 (by decide) (hts (.fieldLink RX3 48 "PaperInBin$Office" "ballCount" "I") (by decide +kernel)) (fun _ h9 => h9) rfl dX3_become_98 ?_
  refine va_put (D := (dC, dI)) (ci := 3) (v := .int p1_ballCount) (ty := .int) (C := RX3) (T := TX3) (N := 16) hx hb hts hinX3 tyX3 tyX3_ok nmX3 hown hK hP hD hS 1 rfl rfl 12 (by decide) (hts (.fieldLink RX3 48 "PaperInBin$Office" "ballCount" "I") (by decide +kernel)) (fun _ h9 => h9) rfl (tyX3_ok 12 (by decide)) rfl rfl (Nat.le_of_ble_eq_true rfl) dX3_become_101 (fun H locs hP hD hS => ?_)
  have hP : va_P (dC, dI) vwCl [(a_p1, .inr (3, [.int p1_hand, .int p1_at, .int p1_wide, .int p1_rim, .int p1_fill, .int p1_wall, .int p1_ceiling, .int p1_puff, .int p1_period, .int p1_second, .int p1_score, .int p1_thrown, .int p1_ballCount, .ref a_p1_kinds, .ref a_p1_sizes, .ref a_p1_tights])), (a_t, .inr (3, [.int p1_hand, .int p1_at, .int p1_wide, .int p1_rim, .int p1_fill, .int p1_wall, .int p1_ceiling, .int p1_puff, .int p1_period, .int p1_second, .int p1_score, .int p1_thrown, .int p1_ballCount, .ref a_kinds, .ref a_sizes, .ref a_tights])), (a_p1_kinds, .inl (cI, 5, .inl p1_kindsA)), (a_kinds, .inl (cI, 5, .inl kindsA)), (a_p1_sizes, .inl (cI, 5, .inl p1_sizesA)), (a_sizes, .inl (cI, 5, .inl sizesA)), (a_p1_tights, .inl (cI, 5, .inl p1_tightsA)), (a_tights, .inl (cI, 5, .inl tightsA))] H := hP
  have hD : va_D A [(a_p1, .inr (3, [.int p1_hand, .int p1_at, .int p1_wide, .int p1_rim, .int p1_fill, .int p1_wall, .int p1_ceiling, .int p1_puff, .int p1_period, .int p1_second, .int p1_score, .int p1_thrown, .int p1_ballCount, .ref a_p1_kinds, .ref a_p1_sizes, .ref a_p1_tights])), (a_t, .inr (3, [.int p1_hand, .int p1_at, .int p1_wide, .int p1_rim, .int p1_fill, .int p1_wall, .int p1_ceiling, .int p1_puff, .int p1_period, .int p1_second, .int p1_score, .int p1_thrown, .int p1_ballCount, .ref a_kinds, .ref a_sizes, .ref a_tights])), (a_p1_kinds, .inl (cI, 5, .inl p1_kindsA)), (a_kinds, .inl (cI, 5, .inl kindsA)), (a_p1_sizes, .inl (cI, 5, .inl p1_sizesA)), (a_sizes, .inl (cI, 5, .inl sizesA)), (a_p1_tights, .inl (cI, 5, .inl p1_tightsA)), (a_tights, .inl (cI, 5, .inl tightsA))] := hD
  refine lv_iconst (v := 0) hx hb dX3_become_104 (by decide) ?_
  refine lv_istore_n (lv' := [(2, .int 0), (0, .ref a_t), (1, .ref a_p1)]) hx hb dX3_become_105 rfl hl (by decide) rfl (fun ls hl => ?_)
  exact K106 (100) 0 p1_hand p1_at p1_wide p1_rim p1_fill p1_wall p1_ceiling p1_puff p1_period p1_second p1_score p1_thrown p1_ballCount kindsA sizesA tightsA _ _ hP hD hS _ (lv_sub hl [1, 2, 0] rfl) hR
def fX3_hasBall (x1 : Int32) (t_ballCount : Int32) : Option (Int32) :=
  if x1 < 0 then (
   some (0))
  else (
  if t_ballCount ≤ x1 then (
   some (0))
  else (
  if 5 ≤ x1 then (
   some (0))
  else (
  some (1))))
set_option maxHeartbeats 4000000 in
set_option maxRecDepth 100000 in
theorem kX3_hasBall (l : Launch) (dC : Nat → ClassId) (dI : Nat → Nat → Nat) (cI : ClassId) (a_t a_kinds a_sizes a_tights : Nat) (sz : Nat) (x1 : Int32) (t_hand : Int32) (t_at : Int32) (t_wide : Int32) (t_rim : Int32) (t_fill : Int32) (t_wall : Int32) (t_ceiling : Int32) (t_puff : Int32) (t_period : Int32) (t_second : Int32) (t_score : Int32) (t_thrown : Int32) (t_ballCount : Int32) (R : Int32) (hR : fX3_hasBall x1 t_ballCount = some R) : Met l yX3_hasBall wsX3_hasBall ({ frames := 0, cells := 0, slots := 0, locals := 0 } : Room) (va_Pc [.ref a_t, .int x1] (Wp (dC, dI) [(cI, .int)] [(a_t, .inr (3, [.int t_hand, .int t_at, .int t_wide, .int t_rim, .int t_fill, .int t_wall, .int t_ceiling, .int t_puff, .int t_period, .int t_second, .int t_score, .int t_thrown, .int t_ballCount, .ref a_kinds, .ref a_sizes, .ref a_tights]))] sz)) (va_Qi (fun (r : Int32) (_ : Unit) => r = R) (Wq (dC, dI) [(a_t, .inr (3, [.int t_hand, .int t_at, .int t_wide, .int t_rim, .int t_fill, .int t_wall, .int t_ceiling, .int t_puff, .int t_period, .int t_second, .int t_score, .int t_thrown, .int t_ballCount, .ref a_kinds, .ref a_sizes, .ref a_tights]))] sz (fun (_ : Unit) => ([(a_t, .inr (3, [.int t_hand, .int t_at, .int t_wide, .int t_rim, .int t_fill, .int t_wall, .int t_ceiling, .int t_puff, .int t_period, .int t_second, .int t_score, .int t_thrown, .int t_ballCount, .ref a_kinds, .ref a_sizes, .ref a_tights]))] : va_W))) (va_A [(a_t, .inr (3, [.int t_hand, .int t_at, .int t_wide, .int t_rim, .int t_fill, .int t_wall, .int t_ceiling, .int t_puff, .int t_period, .int t_second, .int t_score, .int t_thrown, .int t_ballCount, .ref a_kinds, .ref a_sizes, .ref a_tights]))] sz)) 0 0 (va_A [(a_t, .inr (3, [.int t_hand, .int t_at, .int t_wide, .int t_rim, .int t_fill, .int t_wall, .int t_ceiling, .int t_puff, .int t_period, .int t_second, .int t_score, .int t_thrown, .int t_ballCount, .ref a_kinds, .ref a_sizes, .ref a_tights]))] sz) := by
  refine Met.ofW (cc := cX3_hasBall) (maxL := 2) (ret := (some .boolean)) (by decide) rfl ?_
  intro p e s m args below meth c s₁ B hml hv
  obtain ⟨hargs, hsz, hP, hK, hD0, hN⟩ := hv
  have hx := B.exec
  have hb := B.bytes
  have hr := B.returns
  have hts := atoms_spec (ws := wsX3_hasBall) B.pre
  have hown : s.vm.findClass RX3 = some m.cls := findClass_of_methodNamed B.named
  have hlocks := B.notSynchronized
  subst hsz
  have hD := hD0.self (sz := s.heap.size)
  obtain ⟨A, hAe⟩ : ∃ A, A = va_A [(a_t, .inr (3, [.int t_hand, .int t_at, .int t_wide, .int t_rim, .int t_fill, .int t_wall, .int t_ceiling, .int t_puff, .int t_period, .int t_second, .int t_score, .int t_thrown, .int t_ballCount, .ref a_kinds, .ref a_sizes, .ref a_tights]))] s.heap.size := ⟨_, rfl⟩
  rw [← hAe] at hD
  have hA : ∀ q : Nat, s.heap.size ≤ q → A q := fun q h => by rw [hAe]; exact Or.inr h
  have hS : va_S A s.heap s.heap [] := va_S.rf
  have hl := lv_entry ([.ref a_t, .int x1]) (n := 2) (Nat.le_of_ble_eq_true rfl)
  rw [e_of hargs, lg_entry_eq]
  generalize (lg_sl ([.ref a_t, .int x1]) ++ List.replicate (2 - (lg_sl ([.ref a_t, .int x1])).length) Slot.unset).toArray = ls at hl ⊢
  have hl : lv_has ls 2 [(0, .ref a_t), (1, .int x1)] := hl
  have hinX3 : ∀ w ∈ wsX30, w ∈ wsX3_hasBall := by decide +kernel
  refine w_q ({ frames := 0, cells := 0, slots := 0, locals := 0 } : Room) (fun Q0 hQ => ?_)
  rw [fX3_hasBall] at hR
  refine lv_iload_n hx hb dX3_hasBall_0 rfl (lv_at hl 1 rfl) ?_
  refine lv_if_lt (tgt := 21) hx hb dX3_hasBall_1 (by decide) (fun c1 => ?_) (fun c1 => ?_)
  · have hR := (if_pos c1).symm.trans hR
    refine lv_iconst (v := 0) hx hb dX3_hasBall_21 (by decide) ?_
    subst hQ
    subst hAe
    exact W.zret (ty := .boolean) (v := 0) hx hb hr rfl (fun t ht hW => ⟨⟨0, (), rfl, Option.some.inj hR, by rw [ht]; exact hP, hD⟩, hS.F ht⟩) hS.2.2 dX3_hasBall_22
  · have hR := (if_neg c1).symm.trans hR
    refine lv_iload_n hx hb dX3_hasBall_4 rfl (lv_at hl 1 rfl) ?_
    refine lv_aload_n hx hb dX3_hasBall_5 rfl (lv_at hl 0 rfl) ?_
    refine va_get (D := (dC, dI)) (ci := 3) (v := .int t_ballCount) (C := RX3) (T := TX3) (N := 16) hx hb hts hinX3 hown hK hP 0 rfl rfl 12 (by decide) (hts (.fieldLink RX3 48 "PaperInBin$Office" "ballCount" "I") (by decide +kernel)) (fun _ h9 => h9) rfl dX3_hasBall_6 ?_
    refine lv_icmp_ge (tgt := 21) hx hb dX3_hasBall_9 (by decide) (fun c9 => ?_) (fun c9 => ?_)
    · have hR := (if_pos c9).symm.trans hR
      refine lv_iconst (v := 0) hx hb dX3_hasBall_21 (by decide) ?_
      subst hQ
      subst hAe
      exact W.zret (ty := .boolean) (v := 0) hx hb hr rfl (fun t ht hW => ⟨⟨0, (), rfl, Option.some.inj hR, by rw [ht]; exact hP, hD⟩, hS.F ht⟩) hS.2.2 dX3_hasBall_22
    · have hR := (if_neg c9).symm.trans hR
      refine lv_iload_n hx hb dX3_hasBall_12 rfl (lv_at hl 1 rfl) ?_
      refine lv_iconst (v := 5) hx hb dX3_hasBall_13 (by decide) ?_
      refine lv_icmp_ge (tgt := 21) hx hb dX3_hasBall_14 (by decide) (fun c14 => ?_) (fun c14 => ?_)
      · have hR := (if_pos c14).symm.trans hR
        refine lv_iconst (v := 0) hx hb dX3_hasBall_21 (by decide) ?_
        subst hQ
        subst hAe
        exact W.zret (ty := .boolean) (v := 0) hx hb hr rfl (fun t ht hW => ⟨⟨0, (), rfl, Option.some.inj hR, by rw [ht]; exact hP, hD⟩, hS.F ht⟩) hS.2.2 dX3_hasBall_22
      · have hR := (if_neg c14).symm.trans hR
        refine lv_iconst (v := 1) hx hb dX3_hasBall_17 (by decide) ?_
        refine lv_goto (tgt := 22) hx hb dX3_hasBall_18 (by decide) ?_
        subst hQ
        subst hAe
        exact W.zret (ty := .boolean) (v := 1) hx hb hr rfl (fun t ht hW => ⟨⟨1, (), rfl, Option.some.inj hR, by rw [ht]; exact hP, hD⟩, hS.F ht⟩) hS.2.2 dX3_hasBall_22
def fX3_kindOf (x1 : Int32) (t_ballCount : Int32) (kindsA : Nat → Int32) : Option (Int32) :=
  b1 (fX3_hasBall x1 t_ballCount) (fun r1 =>
  if r1 = 0 then (
   some (0))
  else (
  g_in x1 5 (
  some ((kindsA (x1).toNatClampNeg)))))
set_option maxHeartbeats 4000000 in
set_option maxRecDepth 100000 in
theorem kX3_kindOf (l : Launch) (dC : Nat → ClassId) (dI : Nat → Nat → Nat) (cI : ClassId) (a_t a_kinds a_sizes a_tights : Nat) (sz : Nat) (x1 : Int32) (t_hand : Int32) (t_at : Int32) (t_wide : Int32) (t_rim : Int32) (t_fill : Int32) (t_wall : Int32) (t_ceiling : Int32) (t_puff : Int32) (t_period : Int32) (t_second : Int32) (t_score : Int32) (t_thrown : Int32) (t_ballCount : Int32) (kindsA : Nat → Int32) (R : Int32) (hR : fX3_kindOf x1 t_ballCount kindsA = some R) : Met l yX3_kindOf wsX3_kindOf ({ frames := 1, cells := 0, slots := 0, locals := 21 } : Room) (va_Pc [.ref a_t, .int x1] (Wp (dC, dI) [(cI, .int)] [(a_t, .inr (3, [.int t_hand, .int t_at, .int t_wide, .int t_rim, .int t_fill, .int t_wall, .int t_ceiling, .int t_puff, .int t_period, .int t_second, .int t_score, .int t_thrown, .int t_ballCount, .ref a_kinds, .ref a_sizes, .ref a_tights])), (a_kinds, .inl (cI, 5, .inl kindsA))] sz)) (va_Qi (fun (r : Int32) (_ : Unit) => r = R) (Wq (dC, dI) [(a_t, .inr (3, [.int t_hand, .int t_at, .int t_wide, .int t_rim, .int t_fill, .int t_wall, .int t_ceiling, .int t_puff, .int t_period, .int t_second, .int t_score, .int t_thrown, .int t_ballCount, .ref a_kinds, .ref a_sizes, .ref a_tights])), (a_kinds, .inl (cI, 5, .inl kindsA))] sz (fun (_ : Unit) => ([(a_t, .inr (3, [.int t_hand, .int t_at, .int t_wide, .int t_rim, .int t_fill, .int t_wall, .int t_ceiling, .int t_puff, .int t_period, .int t_second, .int t_score, .int t_thrown, .int t_ballCount, .ref a_kinds, .ref a_sizes, .ref a_tights])), (a_kinds, .inl (cI, 5, .inl kindsA))] : va_W))) (va_A [(a_t, .inr (3, [.int t_hand, .int t_at, .int t_wide, .int t_rim, .int t_fill, .int t_wall, .int t_ceiling, .int t_puff, .int t_period, .int t_second, .int t_score, .int t_thrown, .int t_ballCount, .ref a_kinds, .ref a_sizes, .ref a_tights])), (a_kinds, .inl (cI, 5, .inl kindsA))] sz)) 0 0 (va_A [(a_t, .inr (3, [.int t_hand, .int t_at, .int t_wide, .int t_rim, .int t_fill, .int t_wall, .int t_ceiling, .int t_puff, .int t_period, .int t_second, .int t_score, .int t_thrown, .int t_ballCount, .ref a_kinds, .ref a_sizes, .ref a_tights])), (a_kinds, .inl (cI, 5, .inl kindsA))] sz) := by
  refine Met.ofW (cc := cX3_kindOf) (maxL := 2) (ret := (some .int)) (by decide) rfl ?_
  intro p e s m args below meth c s₁ B hml hv
  obtain ⟨hargs, hsz, hP, hK, hD0, hN⟩ := hv
  have hx := B.exec
  have hb := B.bytes
  have hr := B.returns
  have hts := atoms_spec (ws := wsX3_kindOf) B.pre
  have hown : s.vm.findClass RX3 = some m.cls := findClass_of_methodNamed B.named
  have hlocks := B.notSynchronized
  subst hsz
  have hD := hD0.self (sz := s.heap.size)
  obtain ⟨A, hAe⟩ : ∃ A, A = va_A [(a_t, .inr (3, [.int t_hand, .int t_at, .int t_wide, .int t_rim, .int t_fill, .int t_wall, .int t_ceiling, .int t_puff, .int t_period, .int t_second, .int t_score, .int t_thrown, .int t_ballCount, .ref a_kinds, .ref a_sizes, .ref a_tights])), (a_kinds, .inl (cI, 5, .inl kindsA))] s.heap.size := ⟨_, rfl⟩
  rw [← hAe] at hD
  have hA : ∀ q : Nat, s.heap.size ≤ q → A q := fun q h => by rw [hAe]; exact Or.inr h
  have hS : va_S A s.heap s.heap [] := va_S.rf
  have hl := lv_entry ([.ref a_t, .int x1]) (n := 2) (Nat.le_of_ble_eq_true rfl)
  rw [e_of hargs, lg_entry_eq]
  generalize (lg_sl ([.ref a_t, .int x1]) ++ List.replicate (2 - (lg_sl ([.ref a_t, .int x1])).length) Slot.unset).toArray = ls at hl ⊢
  have hl : lv_has ls 2 [(0, .ref a_t), (1, .int x1)] := hl
  have hinX3 : ∀ w ∈ wsX30, w ∈ wsX3_kindOf := by decide +kernel
  refine w_q ({ frames := 1, cells := 0, slots := 0, locals := 21 } : Room) (fun Q0 hQ => ?_)
  rw [fX3_kindOf] at hR
  refine lv_aload_n hx hb dX3_kindOf_0 rfl (lv_at hl 0 rfl) ?_
  refine lv_iload_n hx hb dX3_kindOf_1 rfl (lv_at hl 1 rfl) ?_
  obtain ⟨r1, hu2, hR⟩ := b1_s hR
  refine cl_ViN (As := [.int x1]) (rest := []) (wc := [(a_t, .inr (3, [.int t_hand, .int t_at, .int t_wide, .int t_rim, .int t_fill, .int t_wall, .int t_ceiling, .int t_puff, .int t_period, .int t_second, .int t_score, .int t_thrown, .int t_ballCount, .ref a_kinds, .ref a_sizes, .ref a_tights]))]) (wr := [(a_kinds, .inl (cI, 5, .inl kindsA))]) ⟨hx, hb, hml, hown, hts⟩ (kX3_hasBall l dC dI cI a_t a_kinds a_sizes a_tights s.heap.size x1 t_hand t_at t_wide t_rim t_fill t_wall t_ceiling t_puff t_period t_second t_score t_thrown t_ballCount r1 hu2) (cwV 1 hts gX3_kindOf_X3_hasBall rfl rfl rfl (by decide +kernel) ⟨Nat.le_of_ble_eq_true rfl, Nat.le_of_ble_eq_true rfl⟩) hK hN hP hD hS hA (va_recv hK hP (ci := 3) (q0 := 0) rfl rfl) [0] [1] rfl rfl rfl rfl rfl (by decide) rfl hl.1 rfl (Nat.le_of_ble_eq_true rfl) dX3_kindOf_2 (fun H locs hP hD hS => ?_)
  have hP : va_P (dC, dI) vwCl [(a_kinds, .inl (cI, 5, .inl kindsA)), (a_t, .inr (3, [.int t_hand, .int t_at, .int t_wide, .int t_rim, .int t_fill, .int t_wall, .int t_ceiling, .int t_puff, .int t_period, .int t_second, .int t_score, .int t_thrown, .int t_ballCount, .ref a_kinds, .ref a_sizes, .ref a_tights]))] H := hP
  have hD : va_D A [(a_kinds, .inl (cI, 5, .inl kindsA)), (a_t, .inr (3, [.int t_hand, .int t_at, .int t_wide, .int t_rim, .int t_fill, .int t_wall, .int t_ceiling, .int t_puff, .int t_period, .int t_second, .int t_score, .int t_thrown, .int t_ballCount, .ref a_kinds, .ref a_sizes, .ref a_tights]))] := hD
  refine lv_if_eq (tgt := 17) hx hb dX3_kindOf_5 (by decide) (fun c5 => ?_) (fun c5 => ?_)
  · have hR := (if_pos c5).symm.trans hR
    refine lv_iconst (v := 0) hx hb dX3_kindOf_17 (by decide) ?_
    have hP := hP.sub (ws' := [(a_t, .inr (3, [.int t_hand, .int t_at, .int t_wide, .int t_rim, .int t_fill, .int t_wall, .int t_ceiling, .int t_puff, .int t_period, .int t_second, .int t_score, .int t_thrown, .int t_ballCount, .ref a_kinds, .ref a_sizes, .ref a_tights])), (a_kinds, .inl (cI, 5, .inl kindsA))]) [1, 0] rfl
    have hD := hD.sub (ws' := [(a_t, .inr (3, [.int t_hand, .int t_at, .int t_wide, .int t_rim, .int t_fill, .int t_wall, .int t_ceiling, .int t_puff, .int t_period, .int t_second, .int t_score, .int t_thrown, .int t_ballCount, .ref a_kinds, .ref a_sizes, .ref a_tights])), (a_kinds, .inl (cI, 5, .inl kindsA))]) [1, 0] (by decide) rfl
    subst hQ
    subst hAe
    exact W.iret (v := 0) hx hb hr (fun t ht hW => ⟨⟨0, (), rfl, Option.some.inj hR, by rw [ht]; exact hP, hD⟩, hS.F ht⟩) hS.2.2 dX3_kindOf_18
  · have hR := (if_neg c5).symm.trans hR
    refine lv_aload_n hx hb dX3_kindOf_8 rfl (lv_at hl 0 rfl) ?_
    refine va_get (D := (dC, dI)) (ci := 3) (v := .ref a_kinds) (C := RX3) (T := TX3) (N := 16) hx hb hts hinX3 hown hK hP 1 rfl rfl 13 (by decide) (hts (.fieldLink RX3 51 "PaperInBin$Office" "kinds" "[I") (by decide +kernel)) (fun _ h9 => h9) rfl dX3_kindOf_9 ?_
    refine lv_iload_n hx hb dX3_kindOf_12 rfl (lv_at hl 1 rfl) ?_
    obtain ⟨g3, hR⟩ := g_in_s hR
    refine va_iald hx hb hK hP 0 0 rfl rfl g3 dX3_kindOf_13 ?_
    refine lv_goto (tgt := 18) hx hb dX3_kindOf_14 (by decide) ?_
    have hP := hP.sub (ws' := [(a_t, .inr (3, [.int t_hand, .int t_at, .int t_wide, .int t_rim, .int t_fill, .int t_wall, .int t_ceiling, .int t_puff, .int t_period, .int t_second, .int t_score, .int t_thrown, .int t_ballCount, .ref a_kinds, .ref a_sizes, .ref a_tights])), (a_kinds, .inl (cI, 5, .inl kindsA))]) [1, 0] rfl
    have hD := hD.sub (ws' := [(a_t, .inr (3, [.int t_hand, .int t_at, .int t_wide, .int t_rim, .int t_fill, .int t_wall, .int t_ceiling, .int t_puff, .int t_period, .int t_second, .int t_score, .int t_thrown, .int t_ballCount, .ref a_kinds, .ref a_sizes, .ref a_tights])), (a_kinds, .inl (cI, 5, .inl kindsA))]) [1, 0] (by decide) rfl
    subst hQ
    subst hAe
    exact W.iret (v := (kindsA (x1).toNatClampNeg)) hx hb hr (fun t ht hW => ⟨⟨(kindsA (x1).toNatClampNeg), (), rfl, Option.some.inj hR, by rw [ht]; exact hP, hD⟩, hS.F ht⟩) hS.2.2 dX3_kindOf_18
def fX3_sizeOf (x1 : Int32) (t_ballCount : Int32) (sizesA : Nat → Int32) : Option (Int32) :=
  b1 (fX3_hasBall x1 t_ballCount) (fun r1 =>
  if r1 = 0 then (
   some (0))
  else (
  g_in x1 5 (
  some ((sizesA (x1).toNatClampNeg)))))
set_option maxHeartbeats 4000000 in
set_option maxRecDepth 100000 in
theorem kX3_sizeOf (l : Launch) (dC : Nat → ClassId) (dI : Nat → Nat → Nat) (cI : ClassId) (a_t a_kinds a_sizes a_tights : Nat) (sz : Nat) (x1 : Int32) (t_hand : Int32) (t_at : Int32) (t_wide : Int32) (t_rim : Int32) (t_fill : Int32) (t_wall : Int32) (t_ceiling : Int32) (t_puff : Int32) (t_period : Int32) (t_second : Int32) (t_score : Int32) (t_thrown : Int32) (t_ballCount : Int32) (sizesA : Nat → Int32) (R : Int32) (hR : fX3_sizeOf x1 t_ballCount sizesA = some R) : Met l yX3_sizeOf wsX3_sizeOf ({ frames := 1, cells := 0, slots := 0, locals := 21 } : Room) (va_Pc [.ref a_t, .int x1] (Wp (dC, dI) [(cI, .int)] [(a_t, .inr (3, [.int t_hand, .int t_at, .int t_wide, .int t_rim, .int t_fill, .int t_wall, .int t_ceiling, .int t_puff, .int t_period, .int t_second, .int t_score, .int t_thrown, .int t_ballCount, .ref a_kinds, .ref a_sizes, .ref a_tights])), (a_sizes, .inl (cI, 5, .inl sizesA))] sz)) (va_Qi (fun (r : Int32) (_ : Unit) => r = R) (Wq (dC, dI) [(a_t, .inr (3, [.int t_hand, .int t_at, .int t_wide, .int t_rim, .int t_fill, .int t_wall, .int t_ceiling, .int t_puff, .int t_period, .int t_second, .int t_score, .int t_thrown, .int t_ballCount, .ref a_kinds, .ref a_sizes, .ref a_tights])), (a_sizes, .inl (cI, 5, .inl sizesA))] sz (fun (_ : Unit) => ([(a_t, .inr (3, [.int t_hand, .int t_at, .int t_wide, .int t_rim, .int t_fill, .int t_wall, .int t_ceiling, .int t_puff, .int t_period, .int t_second, .int t_score, .int t_thrown, .int t_ballCount, .ref a_kinds, .ref a_sizes, .ref a_tights])), (a_sizes, .inl (cI, 5, .inl sizesA))] : va_W))) (va_A [(a_t, .inr (3, [.int t_hand, .int t_at, .int t_wide, .int t_rim, .int t_fill, .int t_wall, .int t_ceiling, .int t_puff, .int t_period, .int t_second, .int t_score, .int t_thrown, .int t_ballCount, .ref a_kinds, .ref a_sizes, .ref a_tights])), (a_sizes, .inl (cI, 5, .inl sizesA))] sz)) 0 0 (va_A [(a_t, .inr (3, [.int t_hand, .int t_at, .int t_wide, .int t_rim, .int t_fill, .int t_wall, .int t_ceiling, .int t_puff, .int t_period, .int t_second, .int t_score, .int t_thrown, .int t_ballCount, .ref a_kinds, .ref a_sizes, .ref a_tights])), (a_sizes, .inl (cI, 5, .inl sizesA))] sz) := by
  refine Met.ofW (cc := cX3_sizeOf) (maxL := 2) (ret := (some .int)) (by decide) rfl ?_
  intro p e s m args below meth c s₁ B hml hv
  obtain ⟨hargs, hsz, hP, hK, hD0, hN⟩ := hv
  have hx := B.exec
  have hb := B.bytes
  have hr := B.returns
  have hts := atoms_spec (ws := wsX3_sizeOf) B.pre
  have hown : s.vm.findClass RX3 = some m.cls := findClass_of_methodNamed B.named
  have hlocks := B.notSynchronized
  subst hsz
  have hD := hD0.self (sz := s.heap.size)
  obtain ⟨A, hAe⟩ : ∃ A, A = va_A [(a_t, .inr (3, [.int t_hand, .int t_at, .int t_wide, .int t_rim, .int t_fill, .int t_wall, .int t_ceiling, .int t_puff, .int t_period, .int t_second, .int t_score, .int t_thrown, .int t_ballCount, .ref a_kinds, .ref a_sizes, .ref a_tights])), (a_sizes, .inl (cI, 5, .inl sizesA))] s.heap.size := ⟨_, rfl⟩
  rw [← hAe] at hD
  have hA : ∀ q : Nat, s.heap.size ≤ q → A q := fun q h => by rw [hAe]; exact Or.inr h
  have hS : va_S A s.heap s.heap [] := va_S.rf
  have hl := lv_entry ([.ref a_t, .int x1]) (n := 2) (Nat.le_of_ble_eq_true rfl)
  rw [e_of hargs, lg_entry_eq]
  generalize (lg_sl ([.ref a_t, .int x1]) ++ List.replicate (2 - (lg_sl ([.ref a_t, .int x1])).length) Slot.unset).toArray = ls at hl ⊢
  have hl : lv_has ls 2 [(0, .ref a_t), (1, .int x1)] := hl
  have hinX3 : ∀ w ∈ wsX30, w ∈ wsX3_sizeOf := by decide +kernel
  refine w_q ({ frames := 1, cells := 0, slots := 0, locals := 21 } : Room) (fun Q0 hQ => ?_)
  rw [fX3_sizeOf] at hR
  refine lv_aload_n hx hb dX3_sizeOf_0 rfl (lv_at hl 0 rfl) ?_
  refine lv_iload_n hx hb dX3_sizeOf_1 rfl (lv_at hl 1 rfl) ?_
  obtain ⟨r1, hu2, hR⟩ := b1_s hR
  refine cl_ViN (As := [.int x1]) (rest := []) (wc := [(a_t, .inr (3, [.int t_hand, .int t_at, .int t_wide, .int t_rim, .int t_fill, .int t_wall, .int t_ceiling, .int t_puff, .int t_period, .int t_second, .int t_score, .int t_thrown, .int t_ballCount, .ref a_kinds, .ref a_sizes, .ref a_tights]))]) (wr := [(a_sizes, .inl (cI, 5, .inl sizesA))]) ⟨hx, hb, hml, hown, hts⟩ (kX3_hasBall l dC dI cI a_t a_kinds a_sizes a_tights s.heap.size x1 t_hand t_at t_wide t_rim t_fill t_wall t_ceiling t_puff t_period t_second t_score t_thrown t_ballCount r1 hu2) (cwV 1 hts gX3_sizeOf_X3_hasBall rfl rfl rfl (by decide +kernel) ⟨Nat.le_of_ble_eq_true rfl, Nat.le_of_ble_eq_true rfl⟩) hK hN hP hD hS hA (va_recv hK hP (ci := 3) (q0 := 0) rfl rfl) [0] [1] rfl rfl rfl rfl rfl (by decide) rfl hl.1 rfl (Nat.le_of_ble_eq_true rfl) dX3_sizeOf_2 (fun H locs hP hD hS => ?_)
  have hP : va_P (dC, dI) vwCl [(a_sizes, .inl (cI, 5, .inl sizesA)), (a_t, .inr (3, [.int t_hand, .int t_at, .int t_wide, .int t_rim, .int t_fill, .int t_wall, .int t_ceiling, .int t_puff, .int t_period, .int t_second, .int t_score, .int t_thrown, .int t_ballCount, .ref a_kinds, .ref a_sizes, .ref a_tights]))] H := hP
  have hD : va_D A [(a_sizes, .inl (cI, 5, .inl sizesA)), (a_t, .inr (3, [.int t_hand, .int t_at, .int t_wide, .int t_rim, .int t_fill, .int t_wall, .int t_ceiling, .int t_puff, .int t_period, .int t_second, .int t_score, .int t_thrown, .int t_ballCount, .ref a_kinds, .ref a_sizes, .ref a_tights]))] := hD
  refine lv_if_eq (tgt := 17) hx hb dX3_sizeOf_5 (by decide) (fun c5 => ?_) (fun c5 => ?_)
  · have hR := (if_pos c5).symm.trans hR
    refine lv_iconst (v := 0) hx hb dX3_sizeOf_17 (by decide) ?_
    have hP := hP.sub (ws' := [(a_t, .inr (3, [.int t_hand, .int t_at, .int t_wide, .int t_rim, .int t_fill, .int t_wall, .int t_ceiling, .int t_puff, .int t_period, .int t_second, .int t_score, .int t_thrown, .int t_ballCount, .ref a_kinds, .ref a_sizes, .ref a_tights])), (a_sizes, .inl (cI, 5, .inl sizesA))]) [1, 0] rfl
    have hD := hD.sub (ws' := [(a_t, .inr (3, [.int t_hand, .int t_at, .int t_wide, .int t_rim, .int t_fill, .int t_wall, .int t_ceiling, .int t_puff, .int t_period, .int t_second, .int t_score, .int t_thrown, .int t_ballCount, .ref a_kinds, .ref a_sizes, .ref a_tights])), (a_sizes, .inl (cI, 5, .inl sizesA))]) [1, 0] (by decide) rfl
    subst hQ
    subst hAe
    exact W.iret (v := 0) hx hb hr (fun t ht hW => ⟨⟨0, (), rfl, Option.some.inj hR, by rw [ht]; exact hP, hD⟩, hS.F ht⟩) hS.2.2 dX3_sizeOf_18
  · have hR := (if_neg c5).symm.trans hR
    refine lv_aload_n hx hb dX3_sizeOf_8 rfl (lv_at hl 0 rfl) ?_
    refine va_get (D := (dC, dI)) (ci := 3) (v := .ref a_sizes) (C := RX3) (T := TX3) (N := 16) hx hb hts hinX3 hown hK hP 1 rfl rfl 14 (by decide) (hts (.fieldLink RX3 55 "PaperInBin$Office" "sizes" "[I") (by decide +kernel)) (fun _ h9 => h9) rfl dX3_sizeOf_9 ?_
    refine lv_iload_n hx hb dX3_sizeOf_12 rfl (lv_at hl 1 rfl) ?_
    obtain ⟨g3, hR⟩ := g_in_s hR
    refine va_iald hx hb hK hP 0 0 rfl rfl g3 dX3_sizeOf_13 ?_
    refine lv_goto (tgt := 18) hx hb dX3_sizeOf_14 (by decide) ?_
    have hP := hP.sub (ws' := [(a_t, .inr (3, [.int t_hand, .int t_at, .int t_wide, .int t_rim, .int t_fill, .int t_wall, .int t_ceiling, .int t_puff, .int t_period, .int t_second, .int t_score, .int t_thrown, .int t_ballCount, .ref a_kinds, .ref a_sizes, .ref a_tights])), (a_sizes, .inl (cI, 5, .inl sizesA))]) [1, 0] rfl
    have hD := hD.sub (ws' := [(a_t, .inr (3, [.int t_hand, .int t_at, .int t_wide, .int t_rim, .int t_fill, .int t_wall, .int t_ceiling, .int t_puff, .int t_period, .int t_second, .int t_score, .int t_thrown, .int t_ballCount, .ref a_kinds, .ref a_sizes, .ref a_tights])), (a_sizes, .inl (cI, 5, .inl sizesA))]) [1, 0] (by decide) rfl
    subst hQ
    subst hAe
    exact W.iret (v := (sizesA (x1).toNatClampNeg)) hx hb hr (fun t ht hW => ⟨⟨(sizesA (x1).toNatClampNeg), (), rfl, Option.some.inj hR, by rw [ht]; exact hP, hD⟩, hS.F ht⟩) hS.2.2 dX3_sizeOf_18
def fX3_tightOf (x1 : Int32) (t_ballCount : Int32) (tightsA : Nat → Int32) : Option (Int32) :=
  b1 (fX3_hasBall x1 t_ballCount) (fun r1 =>
  if r1 = 0 then (
   some (0))
  else (
  g_in x1 5 (
  some ((tightsA (x1).toNatClampNeg)))))
set_option maxHeartbeats 4000000 in
set_option maxRecDepth 100000 in
theorem kX3_tightOf (l : Launch) (dC : Nat → ClassId) (dI : Nat → Nat → Nat) (cI : ClassId) (a_t a_kinds a_sizes a_tights : Nat) (sz : Nat) (x1 : Int32) (t_hand : Int32) (t_at : Int32) (t_wide : Int32) (t_rim : Int32) (t_fill : Int32) (t_wall : Int32) (t_ceiling : Int32) (t_puff : Int32) (t_period : Int32) (t_second : Int32) (t_score : Int32) (t_thrown : Int32) (t_ballCount : Int32) (tightsA : Nat → Int32) (R : Int32) (hR : fX3_tightOf x1 t_ballCount tightsA = some R) : Met l yX3_tightOf wsX3_tightOf ({ frames := 1, cells := 0, slots := 0, locals := 21 } : Room) (va_Pc [.ref a_t, .int x1] (Wp (dC, dI) [(cI, .int)] [(a_t, .inr (3, [.int t_hand, .int t_at, .int t_wide, .int t_rim, .int t_fill, .int t_wall, .int t_ceiling, .int t_puff, .int t_period, .int t_second, .int t_score, .int t_thrown, .int t_ballCount, .ref a_kinds, .ref a_sizes, .ref a_tights])), (a_tights, .inl (cI, 5, .inl tightsA))] sz)) (va_Qi (fun (r : Int32) (_ : Unit) => r = R) (Wq (dC, dI) [(a_t, .inr (3, [.int t_hand, .int t_at, .int t_wide, .int t_rim, .int t_fill, .int t_wall, .int t_ceiling, .int t_puff, .int t_period, .int t_second, .int t_score, .int t_thrown, .int t_ballCount, .ref a_kinds, .ref a_sizes, .ref a_tights])), (a_tights, .inl (cI, 5, .inl tightsA))] sz (fun (_ : Unit) => ([(a_t, .inr (3, [.int t_hand, .int t_at, .int t_wide, .int t_rim, .int t_fill, .int t_wall, .int t_ceiling, .int t_puff, .int t_period, .int t_second, .int t_score, .int t_thrown, .int t_ballCount, .ref a_kinds, .ref a_sizes, .ref a_tights])), (a_tights, .inl (cI, 5, .inl tightsA))] : va_W))) (va_A [(a_t, .inr (3, [.int t_hand, .int t_at, .int t_wide, .int t_rim, .int t_fill, .int t_wall, .int t_ceiling, .int t_puff, .int t_period, .int t_second, .int t_score, .int t_thrown, .int t_ballCount, .ref a_kinds, .ref a_sizes, .ref a_tights])), (a_tights, .inl (cI, 5, .inl tightsA))] sz)) 0 0 (va_A [(a_t, .inr (3, [.int t_hand, .int t_at, .int t_wide, .int t_rim, .int t_fill, .int t_wall, .int t_ceiling, .int t_puff, .int t_period, .int t_second, .int t_score, .int t_thrown, .int t_ballCount, .ref a_kinds, .ref a_sizes, .ref a_tights])), (a_tights, .inl (cI, 5, .inl tightsA))] sz) := by
  refine Met.ofW (cc := cX3_tightOf) (maxL := 2) (ret := (some .int)) (by decide) rfl ?_
  intro p e s m args below meth c s₁ B hml hv
  obtain ⟨hargs, hsz, hP, hK, hD0, hN⟩ := hv
  have hx := B.exec
  have hb := B.bytes
  have hr := B.returns
  have hts := atoms_spec (ws := wsX3_tightOf) B.pre
  have hown : s.vm.findClass RX3 = some m.cls := findClass_of_methodNamed B.named
  have hlocks := B.notSynchronized
  subst hsz
  have hD := hD0.self (sz := s.heap.size)
  obtain ⟨A, hAe⟩ : ∃ A, A = va_A [(a_t, .inr (3, [.int t_hand, .int t_at, .int t_wide, .int t_rim, .int t_fill, .int t_wall, .int t_ceiling, .int t_puff, .int t_period, .int t_second, .int t_score, .int t_thrown, .int t_ballCount, .ref a_kinds, .ref a_sizes, .ref a_tights])), (a_tights, .inl (cI, 5, .inl tightsA))] s.heap.size := ⟨_, rfl⟩
  rw [← hAe] at hD
  have hA : ∀ q : Nat, s.heap.size ≤ q → A q := fun q h => by rw [hAe]; exact Or.inr h
  have hS : va_S A s.heap s.heap [] := va_S.rf
  have hl := lv_entry ([.ref a_t, .int x1]) (n := 2) (Nat.le_of_ble_eq_true rfl)
  rw [e_of hargs, lg_entry_eq]
  generalize (lg_sl ([.ref a_t, .int x1]) ++ List.replicate (2 - (lg_sl ([.ref a_t, .int x1])).length) Slot.unset).toArray = ls at hl ⊢
  have hl : lv_has ls 2 [(0, .ref a_t), (1, .int x1)] := hl
  have hinX3 : ∀ w ∈ wsX30, w ∈ wsX3_tightOf := by decide +kernel
  refine w_q ({ frames := 1, cells := 0, slots := 0, locals := 21 } : Room) (fun Q0 hQ => ?_)
  rw [fX3_tightOf] at hR
  refine lv_aload_n hx hb dX3_tightOf_0 rfl (lv_at hl 0 rfl) ?_
  refine lv_iload_n hx hb dX3_tightOf_1 rfl (lv_at hl 1 rfl) ?_
  obtain ⟨r1, hu2, hR⟩ := b1_s hR
  refine cl_ViN (As := [.int x1]) (rest := []) (wc := [(a_t, .inr (3, [.int t_hand, .int t_at, .int t_wide, .int t_rim, .int t_fill, .int t_wall, .int t_ceiling, .int t_puff, .int t_period, .int t_second, .int t_score, .int t_thrown, .int t_ballCount, .ref a_kinds, .ref a_sizes, .ref a_tights]))]) (wr := [(a_tights, .inl (cI, 5, .inl tightsA))]) ⟨hx, hb, hml, hown, hts⟩ (kX3_hasBall l dC dI cI a_t a_kinds a_sizes a_tights s.heap.size x1 t_hand t_at t_wide t_rim t_fill t_wall t_ceiling t_puff t_period t_second t_score t_thrown t_ballCount r1 hu2) (cwV 1 hts gX3_tightOf_X3_hasBall rfl rfl rfl (by decide +kernel) ⟨Nat.le_of_ble_eq_true rfl, Nat.le_of_ble_eq_true rfl⟩) hK hN hP hD hS hA (va_recv hK hP (ci := 3) (q0 := 0) rfl rfl) [0] [1] rfl rfl rfl rfl rfl (by decide) rfl hl.1 rfl (Nat.le_of_ble_eq_true rfl) dX3_tightOf_2 (fun H locs hP hD hS => ?_)
  have hP : va_P (dC, dI) vwCl [(a_tights, .inl (cI, 5, .inl tightsA)), (a_t, .inr (3, [.int t_hand, .int t_at, .int t_wide, .int t_rim, .int t_fill, .int t_wall, .int t_ceiling, .int t_puff, .int t_period, .int t_second, .int t_score, .int t_thrown, .int t_ballCount, .ref a_kinds, .ref a_sizes, .ref a_tights]))] H := hP
  have hD : va_D A [(a_tights, .inl (cI, 5, .inl tightsA)), (a_t, .inr (3, [.int t_hand, .int t_at, .int t_wide, .int t_rim, .int t_fill, .int t_wall, .int t_ceiling, .int t_puff, .int t_period, .int t_second, .int t_score, .int t_thrown, .int t_ballCount, .ref a_kinds, .ref a_sizes, .ref a_tights]))] := hD
  refine lv_if_eq (tgt := 17) hx hb dX3_tightOf_5 (by decide) (fun c5 => ?_) (fun c5 => ?_)
  · have hR := (if_pos c5).symm.trans hR
    refine lv_iconst (v := 0) hx hb dX3_tightOf_17 (by decide) ?_
    have hP := hP.sub (ws' := [(a_t, .inr (3, [.int t_hand, .int t_at, .int t_wide, .int t_rim, .int t_fill, .int t_wall, .int t_ceiling, .int t_puff, .int t_period, .int t_second, .int t_score, .int t_thrown, .int t_ballCount, .ref a_kinds, .ref a_sizes, .ref a_tights])), (a_tights, .inl (cI, 5, .inl tightsA))]) [1, 0] rfl
    have hD := hD.sub (ws' := [(a_t, .inr (3, [.int t_hand, .int t_at, .int t_wide, .int t_rim, .int t_fill, .int t_wall, .int t_ceiling, .int t_puff, .int t_period, .int t_second, .int t_score, .int t_thrown, .int t_ballCount, .ref a_kinds, .ref a_sizes, .ref a_tights])), (a_tights, .inl (cI, 5, .inl tightsA))]) [1, 0] (by decide) rfl
    subst hQ
    subst hAe
    exact W.iret (v := 0) hx hb hr (fun t ht hW => ⟨⟨0, (), rfl, Option.some.inj hR, by rw [ht]; exact hP, hD⟩, hS.F ht⟩) hS.2.2 dX3_tightOf_18
  · have hR := (if_neg c5).symm.trans hR
    refine lv_aload_n hx hb dX3_tightOf_8 rfl (lv_at hl 0 rfl) ?_
    refine va_get (D := (dC, dI)) (ci := 3) (v := .ref a_tights) (C := RX3) (T := TX3) (N := 16) hx hb hts hinX3 hown hK hP 1 rfl rfl 15 (by decide) (hts (.fieldLink RX3 58 "PaperInBin$Office" "tights" "[I") (by decide +kernel)) (fun _ h9 => h9) rfl dX3_tightOf_9 ?_
    refine lv_iload_n hx hb dX3_tightOf_12 rfl (lv_at hl 1 rfl) ?_
    obtain ⟨g3, hR⟩ := g_in_s hR
    refine va_iald hx hb hK hP 0 0 rfl rfl g3 dX3_tightOf_13 ?_
    refine lv_goto (tgt := 18) hx hb dX3_tightOf_14 (by decide) ?_
    have hP := hP.sub (ws' := [(a_t, .inr (3, [.int t_hand, .int t_at, .int t_wide, .int t_rim, .int t_fill, .int t_wall, .int t_ceiling, .int t_puff, .int t_period, .int t_second, .int t_score, .int t_thrown, .int t_ballCount, .ref a_kinds, .ref a_sizes, .ref a_tights])), (a_tights, .inl (cI, 5, .inl tightsA))]) [1, 0] rfl
    have hD := hD.sub (ws' := [(a_t, .inr (3, [.int t_hand, .int t_at, .int t_wide, .int t_rim, .int t_fill, .int t_wall, .int t_ceiling, .int t_puff, .int t_period, .int t_second, .int t_score, .int t_thrown, .int t_ballCount, .ref a_kinds, .ref a_sizes, .ref a_tights])), (a_tights, .inl (cI, 5, .inl tightsA))]) [1, 0] (by decide) rfl
    subst hQ
    subst hAe
    exact W.iret (v := (tightsA (x1).toNatClampNeg)) hx hb hr (fun t ht hW => ⟨⟨(tightsA (x1).toNatClampNeg), (), rfl, Option.some.inj hR, by rw [ht]; exact hP, hD⟩, hS.F ht⟩) hS.2.2 dX3_tightOf_18
def fX3_setTight (x1 : Int32) (x2 : Int32) (t_ballCount : Int32) (tightsA : Nat → Int32) : Option ((Nat → Int32)) :=
  b1 (fX3_hasBall x1 t_ballCount) (fun r1 =>
  if r1 = 0 then (
   some (tightsA))
  else (
  g_in x1 5 (
  some ((upd tightsA (x1).toNatClampNeg x2)))))
set_option maxHeartbeats 4000000 in
set_option maxRecDepth 100000 in
theorem kX3_setTight (l : Launch) (dC : Nat → ClassId) (dI : Nat → Nat → Nat) (cI : ClassId) (a_t a_kinds a_sizes a_tights : Nat) (sz : Nat) (x1 : Int32) (x2 : Int32) (t_hand : Int32) (t_at : Int32) (t_wide : Int32) (t_rim : Int32) (t_fill : Int32) (t_wall : Int32) (t_ceiling : Int32) (t_puff : Int32) (t_period : Int32) (t_second : Int32) (t_score : Int32) (t_thrown : Int32) (t_ballCount : Int32) (tightsA : Nat → Int32) (R : (Nat → Int32)) (hR : fX3_setTight x1 x2 t_ballCount tightsA = some R) : Met l yX3_setTight wsX3_setTight ({ frames := 1, cells := 0, slots := 0, locals := 21 } : Room) (va_Pc [.ref a_t, .int x1, .int x2] (Wp (dC, dI) [(cI, .int)] [(a_t, .inr (3, [.int t_hand, .int t_at, .int t_wide, .int t_rim, .int t_fill, .int t_wall, .int t_ceiling, .int t_puff, .int t_period, .int t_second, .int t_score, .int t_thrown, .int t_ballCount, .ref a_kinds, .ref a_sizes, .ref a_tights])), (a_tights, .inl (cI, 5, .inl tightsA))] sz)) (va_Qv (fun (u : (Nat → Int32)) => u = R) (Wq (dC, dI) [(a_t, .inr (3, [.int t_hand, .int t_at, .int t_wide, .int t_rim, .int t_fill, .int t_wall, .int t_ceiling, .int t_puff, .int t_period, .int t_second, .int t_score, .int t_thrown, .int t_ballCount, .ref a_kinds, .ref a_sizes, .ref a_tights])), (a_tights, .inl (cI, 5, .inl tightsA))] sz (fun (u : (Nat → Int32)) => ([(a_t, .inr (3, [.int t_hand, .int t_at, .int t_wide, .int t_rim, .int t_fill, .int t_wall, .int t_ceiling, .int t_puff, .int t_period, .int t_second, .int t_score, .int t_thrown, .int t_ballCount, .ref a_kinds, .ref a_sizes, .ref a_tights])), (a_tights, .inl (cI, 5, .inl u))] : va_W))) (va_A [(a_t, .inr (3, [.int t_hand, .int t_at, .int t_wide, .int t_rim, .int t_fill, .int t_wall, .int t_ceiling, .int t_puff, .int t_period, .int t_second, .int t_score, .int t_thrown, .int t_ballCount, .ref a_kinds, .ref a_sizes, .ref a_tights])), (a_tights, .inl (cI, 5, .inl tightsA))] sz)) 0 0 (va_A [(a_t, .inr (3, [.int t_hand, .int t_at, .int t_wide, .int t_rim, .int t_fill, .int t_wall, .int t_ceiling, .int t_puff, .int t_period, .int t_second, .int t_score, .int t_thrown, .int t_ballCount, .ref a_kinds, .ref a_sizes, .ref a_tights])), (a_tights, .inl (cI, 5, .inl tightsA))] sz) := by
  refine Met.ofW (cc := cX3_setTight) (maxL := 3) (ret := none) (by decide) rfl ?_
  intro p e s m args below meth c s₁ B hml hv
  obtain ⟨hargs, hsz, hP, hK, hD0, hN⟩ := hv
  have hx := B.exec
  have hb := B.bytes
  have hr := B.returns
  have hts := atoms_spec (ws := wsX3_setTight) B.pre
  have hown : s.vm.findClass RX3 = some m.cls := findClass_of_methodNamed B.named
  have hlocks := B.notSynchronized
  subst hsz
  have hD := hD0.self (sz := s.heap.size)
  obtain ⟨A, hAe⟩ : ∃ A, A = va_A [(a_t, .inr (3, [.int t_hand, .int t_at, .int t_wide, .int t_rim, .int t_fill, .int t_wall, .int t_ceiling, .int t_puff, .int t_period, .int t_second, .int t_score, .int t_thrown, .int t_ballCount, .ref a_kinds, .ref a_sizes, .ref a_tights])), (a_tights, .inl (cI, 5, .inl tightsA))] s.heap.size := ⟨_, rfl⟩
  rw [← hAe] at hD
  have hA : ∀ q : Nat, s.heap.size ≤ q → A q := fun q h => by rw [hAe]; exact Or.inr h
  have hS : va_S A s.heap s.heap [] := va_S.rf
  have hl := lv_entry ([.ref a_t, .int x1, .int x2]) (n := 3) (Nat.le_of_ble_eq_true rfl)
  rw [e_of hargs, lg_entry_eq]
  generalize (lg_sl ([.ref a_t, .int x1, .int x2]) ++ List.replicate (3 - (lg_sl ([.ref a_t, .int x1, .int x2])).length) Slot.unset).toArray = ls at hl ⊢
  have hl : lv_has ls 3 [(0, .ref a_t), (1, .int x1), (2, .int x2)] := hl
  have hinX3 : ∀ w ∈ wsX30, w ∈ wsX3_setTight := by decide +kernel
  refine w_q ({ frames := 1, cells := 0, slots := 0, locals := 21 } : Room) (fun Q0 hQ => ?_)
  rw [fX3_setTight] at hR
  refine lv_aload_n hx hb dX3_setTight_0 rfl (lv_at hl 0 rfl) ?_
  refine lv_iload_n hx hb dX3_setTight_1 rfl (lv_at hl 1 rfl) ?_
  obtain ⟨r1, hu2, hR⟩ := b1_s hR
  refine cl_ViN (As := [.int x1]) (rest := []) (wc := [(a_t, .inr (3, [.int t_hand, .int t_at, .int t_wide, .int t_rim, .int t_fill, .int t_wall, .int t_ceiling, .int t_puff, .int t_period, .int t_second, .int t_score, .int t_thrown, .int t_ballCount, .ref a_kinds, .ref a_sizes, .ref a_tights]))]) (wr := [(a_tights, .inl (cI, 5, .inl tightsA))]) ⟨hx, hb, hml, hown, hts⟩ (kX3_hasBall l dC dI cI a_t a_kinds a_sizes a_tights s.heap.size x1 t_hand t_at t_wide t_rim t_fill t_wall t_ceiling t_puff t_period t_second t_score t_thrown t_ballCount r1 hu2) (cwV 1 hts gX3_setTight_X3_hasBall rfl rfl rfl (by decide +kernel) ⟨Nat.le_of_ble_eq_true rfl, Nat.le_of_ble_eq_true rfl⟩) hK hN hP hD hS hA (va_recv hK hP (ci := 3) (q0 := 0) rfl rfl) [0] [1] rfl rfl rfl rfl rfl (by decide) rfl hl.1 rfl (Nat.le_of_ble_eq_true rfl) dX3_setTight_2 (fun H locs hP hD hS => ?_)
  have hP : va_P (dC, dI) vwCl [(a_tights, .inl (cI, 5, .inl tightsA)), (a_t, .inr (3, [.int t_hand, .int t_at, .int t_wide, .int t_rim, .int t_fill, .int t_wall, .int t_ceiling, .int t_puff, .int t_period, .int t_second, .int t_score, .int t_thrown, .int t_ballCount, .ref a_kinds, .ref a_sizes, .ref a_tights]))] H := hP
  have hD : va_D A [(a_tights, .inl (cI, 5, .inl tightsA)), (a_t, .inr (3, [.int t_hand, .int t_at, .int t_wide, .int t_rim, .int t_fill, .int t_wall, .int t_ceiling, .int t_puff, .int t_period, .int t_second, .int t_score, .int t_thrown, .int t_ballCount, .ref a_kinds, .ref a_sizes, .ref a_tights]))] := hD
  refine lv_if_eq (tgt := 15) hx hb dX3_setTight_5 (by decide) (fun c5 => ?_) (fun c5 => ?_)
  · have hR := (if_pos c5).symm.trans hR
    have hP := hP.sub (ws' := [(a_t, .inr (3, [.int t_hand, .int t_at, .int t_wide, .int t_rim, .int t_fill, .int t_wall, .int t_ceiling, .int t_puff, .int t_period, .int t_second, .int t_score, .int t_thrown, .int t_ballCount, .ref a_kinds, .ref a_sizes, .ref a_tights])), (a_tights, .inl (cI, 5, .inl tightsA))]) [1, 0] rfl
    have hD := hD.sub (ws' := [(a_t, .inr (3, [.int t_hand, .int t_at, .int t_wide, .int t_rim, .int t_fill, .int t_wall, .int t_ceiling, .int t_puff, .int t_period, .int t_second, .int t_score, .int t_thrown, .int t_ballCount, .ref a_kinds, .ref a_sizes, .ref a_tights])), (a_tights, .inl (cI, 5, .inl tightsA))]) [1, 0] (by decide) rfl
    subst hQ
    subst hAe
    exact W.vret hx hb hr (fun t ht hW => ⟨⟨(tightsA), rfl, Option.some.inj hR, by rw [ht]; exact hP, hD⟩, hS.F ht⟩) hS.2.2 dX3_setTight_15
  · have hR := (if_neg c5).symm.trans hR
    refine lv_aload_n hx hb dX3_setTight_8 rfl (lv_at hl 0 rfl) ?_
    refine va_get (D := (dC, dI)) (ci := 3) (v := .ref a_tights) (C := RX3) (T := TX3) (N := 16) hx hb hts hinX3 hown hK hP 1 rfl rfl 15 (by decide) (hts (.fieldLink RX3 58 "PaperInBin$Office" "tights" "[I") (by decide +kernel)) (fun _ h9 => h9) rfl dX3_setTight_9 ?_
    refine lv_iload_n hx hb dX3_setTight_12 rfl (lv_at hl 1 rfl) ?_
    refine lv_iload_n hx hb dX3_setTight_13 rfl (lv_at hl 2 rfl) ?_
    obtain ⟨g3, hR⟩ := g_in_s hR
    refine va_iast hx hb hK hP hD hS 0 0 rfl rfl g3 dX3_setTight_14 (fun H locs hP hD hS => ?_)
    have hP : va_P (dC, dI) vwCl [(a_tights, .inl (cI, 5, .inl (upd tightsA (x1).toNatClampNeg x2))), (a_t, .inr (3, [.int t_hand, .int t_at, .int t_wide, .int t_rim, .int t_fill, .int t_wall, .int t_ceiling, .int t_puff, .int t_period, .int t_second, .int t_score, .int t_thrown, .int t_ballCount, .ref a_kinds, .ref a_sizes, .ref a_tights]))] H := hP
    have hD : va_D A [(a_tights, .inl (cI, 5, .inl (upd tightsA (x1).toNatClampNeg x2))), (a_t, .inr (3, [.int t_hand, .int t_at, .int t_wide, .int t_rim, .int t_fill, .int t_wall, .int t_ceiling, .int t_puff, .int t_period, .int t_second, .int t_score, .int t_thrown, .int t_ballCount, .ref a_kinds, .ref a_sizes, .ref a_tights]))] := hD
    have hP := hP.sub (ws' := [(a_t, .inr (3, [.int t_hand, .int t_at, .int t_wide, .int t_rim, .int t_fill, .int t_wall, .int t_ceiling, .int t_puff, .int t_period, .int t_second, .int t_score, .int t_thrown, .int t_ballCount, .ref a_kinds, .ref a_sizes, .ref a_tights])), (a_tights, .inl (cI, 5, .inl (upd tightsA (x1).toNatClampNeg x2)))]) [1, 0] rfl
    have hD := hD.sub (ws' := [(a_t, .inr (3, [.int t_hand, .int t_at, .int t_wide, .int t_rim, .int t_fill, .int t_wall, .int t_ceiling, .int t_puff, .int t_period, .int t_second, .int t_score, .int t_thrown, .int t_ballCount, .ref a_kinds, .ref a_sizes, .ref a_tights])), (a_tights, .inl (cI, 5, .inl (upd tightsA (x1).toNatClampNeg x2)))]) [1, 0] (by decide) rfl
    subst hQ
    subst hAe
    exact W.vret hx hb hr (fun t ht hW => ⟨⟨((upd tightsA (x1).toNatClampNeg x2)), rfl, Option.some.inj hR, by rw [ht]; exact hP, hD⟩, hS.F ht⟩) hS.2.2 dX3_setTight_15
def fX3_dragOf (x1 : Int32) (t_ballCount : Int32) (sizesA : Nat → Int32) (tightsA : Nat → Int32) (kindsA : Nat → Int32) : Option (Int32) :=
  b1 (fX3_sizeOf x1 t_ballCount sizesA) (fun r1 =>
  b1 (fX3_tightOf x1 t_ballCount tightsA) (fun r3 =>
  b1 (fX3_kindOf x1 t_ballCount kindsA) (fun r5 =>
  if r5 = 1 then (
   some (((if (0 : Int32) < ((r1 / 3) - (r3 / 4)) then ((r1 / 3) - (r3 / 4)) else (0 : Int32)) / 2))) else
  if r5 = 2 then (
   some (0)) else
  if r5 = 3 then (
   some (((if (0 : Int32) < ((r1 / 3) - (r3 / 4)) then ((r1 / 3) - (r3 / 4)) else (0 : Int32)) + 1))) else
  if r5 = 4 then (
   some (((if (0 : Int32) < ((r1 / 3) - (r3 / 4)) then ((r1 / 3) - (r3 / 4)) else (0 : Int32)) + 2))) else
  if r5 = 5 then (
   some (0)) else
  some ((if (0 : Int32) < ((r1 / 3) - (r3 / 4)) then ((r1 / 3) - (r3 / 4)) else (0 : Int32))))))
set_option maxHeartbeats 4000000 in
set_option maxRecDepth 100000 in
theorem kX3_dragOf (l : Launch) (dC : Nat → ClassId) (dI : Nat → Nat → Nat) (cI : ClassId) (a_t a_kinds a_sizes a_tights : Nat) (sz : Nat) (x1 : Int32) (t_hand : Int32) (t_at : Int32) (t_wide : Int32) (t_rim : Int32) (t_fill : Int32) (t_wall : Int32) (t_ceiling : Int32) (t_puff : Int32) (t_period : Int32) (t_second : Int32) (t_score : Int32) (t_thrown : Int32) (t_ballCount : Int32) (sizesA : Nat → Int32) (tightsA : Nat → Int32) (kindsA : Nat → Int32) (R : Int32) (hR : fX3_dragOf x1 t_ballCount sizesA tightsA kindsA = some R) : Met l yX3_dragOf wsX3_dragOf ({ frames := 2, cells := 0, slots := 0, locals := 42 } : Room) (va_Pc [.ref a_t, .int x1] (Wp (dC, dI) [(cI, .int)] [(a_t, .inr (3, [.int t_hand, .int t_at, .int t_wide, .int t_rim, .int t_fill, .int t_wall, .int t_ceiling, .int t_puff, .int t_period, .int t_second, .int t_score, .int t_thrown, .int t_ballCount, .ref a_kinds, .ref a_sizes, .ref a_tights])), (a_sizes, .inl (cI, 5, .inl sizesA)), (a_tights, .inl (cI, 5, .inl tightsA)), (a_kinds, .inl (cI, 5, .inl kindsA))] sz)) (va_Qi (fun (r : Int32) (_ : Unit) => r = R) (Wq (dC, dI) [(a_t, .inr (3, [.int t_hand, .int t_at, .int t_wide, .int t_rim, .int t_fill, .int t_wall, .int t_ceiling, .int t_puff, .int t_period, .int t_second, .int t_score, .int t_thrown, .int t_ballCount, .ref a_kinds, .ref a_sizes, .ref a_tights])), (a_sizes, .inl (cI, 5, .inl sizesA)), (a_tights, .inl (cI, 5, .inl tightsA)), (a_kinds, .inl (cI, 5, .inl kindsA))] sz (fun (_ : Unit) => ([(a_t, .inr (3, [.int t_hand, .int t_at, .int t_wide, .int t_rim, .int t_fill, .int t_wall, .int t_ceiling, .int t_puff, .int t_period, .int t_second, .int t_score, .int t_thrown, .int t_ballCount, .ref a_kinds, .ref a_sizes, .ref a_tights])), (a_sizes, .inl (cI, 5, .inl sizesA)), (a_tights, .inl (cI, 5, .inl tightsA)), (a_kinds, .inl (cI, 5, .inl kindsA))] : va_W))) (va_A [(a_t, .inr (3, [.int t_hand, .int t_at, .int t_wide, .int t_rim, .int t_fill, .int t_wall, .int t_ceiling, .int t_puff, .int t_period, .int t_second, .int t_score, .int t_thrown, .int t_ballCount, .ref a_kinds, .ref a_sizes, .ref a_tights])), (a_sizes, .inl (cI, 5, .inl sizesA)), (a_tights, .inl (cI, 5, .inl tightsA)), (a_kinds, .inl (cI, 5, .inl kindsA))] sz)) 0 0 (va_A [(a_t, .inr (3, [.int t_hand, .int t_at, .int t_wide, .int t_rim, .int t_fill, .int t_wall, .int t_ceiling, .int t_puff, .int t_period, .int t_second, .int t_score, .int t_thrown, .int t_ballCount, .ref a_kinds, .ref a_sizes, .ref a_tights])), (a_sizes, .inl (cI, 5, .inl sizesA)), (a_tights, .inl (cI, 5, .inl tightsA)), (a_kinds, .inl (cI, 5, .inl kindsA))] sz) := by
  refine Met.ofW (cc := cX3_dragOf) (maxL := 3) (ret := (some .int)) (by decide) rfl ?_
  intro p e s m args below meth c s₁ B hml hv
  obtain ⟨hargs, hsz, hP, hK, hD0, hN⟩ := hv
  have hx := B.exec
  have hb := B.bytes
  have hr := B.returns
  have hts := atoms_spec (ws := wsX3_dragOf) B.pre
  have hown : s.vm.findClass RX3 = some m.cls := findClass_of_methodNamed B.named
  have hlocks := B.notSynchronized
  subst hsz
  have hD := hD0.self (sz := s.heap.size)
  obtain ⟨A, hAe⟩ : ∃ A, A = va_A [(a_t, .inr (3, [.int t_hand, .int t_at, .int t_wide, .int t_rim, .int t_fill, .int t_wall, .int t_ceiling, .int t_puff, .int t_period, .int t_second, .int t_score, .int t_thrown, .int t_ballCount, .ref a_kinds, .ref a_sizes, .ref a_tights])), (a_sizes, .inl (cI, 5, .inl sizesA)), (a_tights, .inl (cI, 5, .inl tightsA)), (a_kinds, .inl (cI, 5, .inl kindsA))] s.heap.size := ⟨_, rfl⟩
  rw [← hAe] at hD
  have hA : ∀ q : Nat, s.heap.size ≤ q → A q := fun q h => by rw [hAe]; exact Or.inr h
  have hS : va_S A s.heap s.heap [] := va_S.rf
  have hl := lv_entry ([.ref a_t, .int x1]) (n := 3) (Nat.le_of_ble_eq_true rfl)
  rw [e_of hargs, lg_entry_eq]
  generalize (lg_sl ([.ref a_t, .int x1]) ++ List.replicate (3 - (lg_sl ([.ref a_t, .int x1])).length) Slot.unset).toArray = ls at hl ⊢
  have hl : lv_has ls 3 [(0, .ref a_t), (1, .int x1)] := hl
  refine w_q ({ frames := 2, cells := 0, slots := 0, locals := 42 } : Room) (fun Q0 hQ => ?_)
  rw [fX3_dragOf] at hR
  refine lv_iconst (v := 0) hx hb dX3_dragOf_0 (by decide) ?_
  refine lv_aload_n hx hb dX3_dragOf_1 rfl (lv_at hl 0 rfl) ?_
  refine lv_iload_n hx hb dX3_dragOf_2 rfl (lv_at hl 1 rfl) ?_
  obtain ⟨r1, hu2, hR⟩ := b1_s hR
  refine cl_ViN (As := [.int x1]) (rest := [.int 0]) (wc := [(a_t, .inr (3, [.int t_hand, .int t_at, .int t_wide, .int t_rim, .int t_fill, .int t_wall, .int t_ceiling, .int t_puff, .int t_period, .int t_second, .int t_score, .int t_thrown, .int t_ballCount, .ref a_kinds, .ref a_sizes, .ref a_tights])), (a_sizes, .inl (cI, 5, .inl sizesA))]) (wr := [(a_tights, .inl (cI, 5, .inl tightsA)), (a_kinds, .inl (cI, 5, .inl kindsA))]) ⟨hx, hb, hml, hown, hts⟩ (kX3_sizeOf l dC dI cI a_t a_kinds a_sizes a_tights s.heap.size x1 t_hand t_at t_wide t_rim t_fill t_wall t_ceiling t_puff t_period t_second t_score t_thrown t_ballCount sizesA r1 hu2) (cwV 1 hts gX3_dragOf_X3_sizeOf rfl rfl rfl (by decide +kernel) ⟨Nat.le_of_ble_eq_true rfl, Nat.le_of_ble_eq_true rfl⟩) hK hN hP hD hS hA (va_recv hK hP (ci := 3) (q0 := 0) rfl rfl) [0, 1] [2, 3] rfl rfl rfl rfl rfl (by decide) rfl hl.1 rfl (Nat.le_of_ble_eq_true rfl) dX3_dragOf_3 (fun H locs hP hD hS => ?_)
  have hP : va_P (dC, dI) vwCl [(a_tights, .inl (cI, 5, .inl tightsA)), (a_kinds, .inl (cI, 5, .inl kindsA)), (a_t, .inr (3, [.int t_hand, .int t_at, .int t_wide, .int t_rim, .int t_fill, .int t_wall, .int t_ceiling, .int t_puff, .int t_period, .int t_second, .int t_score, .int t_thrown, .int t_ballCount, .ref a_kinds, .ref a_sizes, .ref a_tights])), (a_sizes, .inl (cI, 5, .inl sizesA))] H := hP
  have hD : va_D A [(a_tights, .inl (cI, 5, .inl tightsA)), (a_kinds, .inl (cI, 5, .inl kindsA)), (a_t, .inr (3, [.int t_hand, .int t_at, .int t_wide, .int t_rim, .int t_fill, .int t_wall, .int t_ceiling, .int t_puff, .int t_period, .int t_second, .int t_score, .int t_thrown, .int t_ballCount, .ref a_kinds, .ref a_sizes, .ref a_tights])), (a_sizes, .inl (cI, 5, .inl sizesA))] := hD
  refine lv_iconst (v := 3) hx hb dX3_dragOf_6 (by decide) ?_
  refine lv_idiv hx hb dX3_dragOf_7 (by decide) ?_
  refine lv_aload_n hx hb dX3_dragOf_8 rfl (lv_at hl 0 rfl) ?_
  refine lv_iload_n hx hb dX3_dragOf_9 rfl (lv_at hl 1 rfl) ?_
  obtain ⟨r3, hu4, hR⟩ := b1_s hR
  refine cl_ViN (As := [.int x1]) (rest := [.int (r1 / 3), .int 0]) (wc := [(a_t, .inr (3, [.int t_hand, .int t_at, .int t_wide, .int t_rim, .int t_fill, .int t_wall, .int t_ceiling, .int t_puff, .int t_period, .int t_second, .int t_score, .int t_thrown, .int t_ballCount, .ref a_kinds, .ref a_sizes, .ref a_tights])), (a_tights, .inl (cI, 5, .inl tightsA))]) (wr := [(a_kinds, .inl (cI, 5, .inl kindsA)), (a_sizes, .inl (cI, 5, .inl sizesA))]) ⟨hx, hb, hml, hown, hts⟩ (kX3_tightOf l dC dI cI a_t a_kinds a_sizes a_tights H.size x1 t_hand t_at t_wide t_rim t_fill t_wall t_ceiling t_puff t_period t_second t_score t_thrown t_ballCount tightsA r3 hu4) (cwV 1 hts gX3_dragOf_X3_tightOf rfl rfl rfl (by decide +kernel) ⟨Nat.le_of_ble_eq_true rfl, Nat.le_of_ble_eq_true rfl⟩) hK hN hP hD hS hA (va_recv hK hP (ci := 3) (q0 := 2) rfl rfl) [2, 0] [1, 3] rfl rfl rfl rfl rfl (by decide) rfl hl.1 rfl (Nat.le_of_ble_eq_true rfl) dX3_dragOf_10 (fun H locs hP hD hS => ?_)
  have hP : va_P (dC, dI) vwCl [(a_kinds, .inl (cI, 5, .inl kindsA)), (a_sizes, .inl (cI, 5, .inl sizesA)), (a_t, .inr (3, [.int t_hand, .int t_at, .int t_wide, .int t_rim, .int t_fill, .int t_wall, .int t_ceiling, .int t_puff, .int t_period, .int t_second, .int t_score, .int t_thrown, .int t_ballCount, .ref a_kinds, .ref a_sizes, .ref a_tights])), (a_tights, .inl (cI, 5, .inl tightsA))] H := hP
  have hD : va_D A [(a_kinds, .inl (cI, 5, .inl kindsA)), (a_sizes, .inl (cI, 5, .inl sizesA)), (a_t, .inr (3, [.int t_hand, .int t_at, .int t_wide, .int t_rim, .int t_fill, .int t_wall, .int t_ceiling, .int t_puff, .int t_period, .int t_second, .int t_score, .int t_thrown, .int t_ballCount, .ref a_kinds, .ref a_sizes, .ref a_tights])), (a_tights, .inl (cI, 5, .inl tightsA))] := hD
  refine lv_iconst (v := 4) hx hb dX3_dragOf_13 (by decide) ?_
  refine lv_idiv hx hb dX3_dragOf_14 (by decide) ?_
  refine lv_isub hx hb dX3_dragOf_15 ?_
  refine va_mmax hx hb (hml.trans hl.1.symm) hown (hts (.methodLink RX3 72 Lib.Math.max.name) (by decide +kernel)) (hts (.static Lib.Math.max.name) (by decide +kernel)) (hts (.initialized "java/lang/Math") (by decide +kernel)) (hts (.code Lib.Math.max.name Lib.Math.max.code 2 (some .int)) (by decide +kernel)) (Nat.le_of_ble_eq_true rfl) (Nat.le_of_ble_eq_true rfl) (Nat.zero_le _) (Nat.zero_le _) dX3_dragOf_16 ?_
  refine lv_istore_n (lv' := [(2, .int (if (0 : Int32) < ((r1 / 3) - (r3 / 4)) then ((r1 / 3) - (r3 / 4)) else (0 : Int32))), (0, .ref a_t), (1, .int x1)]) hx hb dX3_dragOf_19 rfl hl (by decide) rfl (fun ls hl => ?_)
  refine lv_aload_n hx hb dX3_dragOf_20 rfl (lv_at hl 1 rfl) ?_
  refine lv_iload_n hx hb dX3_dragOf_21 rfl (lv_at hl 2 rfl) ?_
  obtain ⟨r5, hu6, hR⟩ := b1_s hR
  refine cl_ViN (As := [.int x1]) (rest := []) (wc := [(a_t, .inr (3, [.int t_hand, .int t_at, .int t_wide, .int t_rim, .int t_fill, .int t_wall, .int t_ceiling, .int t_puff, .int t_period, .int t_second, .int t_score, .int t_thrown, .int t_ballCount, .ref a_kinds, .ref a_sizes, .ref a_tights])), (a_kinds, .inl (cI, 5, .inl kindsA))]) (wr := [(a_sizes, .inl (cI, 5, .inl sizesA)), (a_tights, .inl (cI, 5, .inl tightsA))]) ⟨hx, hb, hml, hown, hts⟩ (kX3_kindOf l dC dI cI a_t a_kinds a_sizes a_tights H.size x1 t_hand t_at t_wide t_rim t_fill t_wall t_ceiling t_puff t_period t_second t_score t_thrown t_ballCount kindsA r5 hu6) (cwV 1 hts gX3_dragOf_X3_kindOf rfl rfl rfl (by decide +kernel) ⟨Nat.le_of_ble_eq_true rfl, Nat.le_of_ble_eq_true rfl⟩) hK hN hP hD hS hA (va_recv hK hP (ci := 3) (q0 := 2) rfl rfl) [2, 0] [1, 3] rfl rfl rfl rfl rfl (by decide) rfl hl.1 rfl (Nat.le_of_ble_eq_true rfl) dX3_dragOf_22 (fun H locs hP hD hS => ?_)
  have hP : va_P (dC, dI) vwCl [(a_sizes, .inl (cI, 5, .inl sizesA)), (a_tights, .inl (cI, 5, .inl tightsA)), (a_t, .inr (3, [.int t_hand, .int t_at, .int t_wide, .int t_rim, .int t_fill, .int t_wall, .int t_ceiling, .int t_puff, .int t_period, .int t_second, .int t_score, .int t_thrown, .int t_ballCount, .ref a_kinds, .ref a_sizes, .ref a_tights])), (a_kinds, .inl (cI, 5, .inl kindsA))] H := hP
  have hD : va_D A [(a_sizes, .inl (cI, 5, .inl sizesA)), (a_tights, .inl (cI, 5, .inl tightsA)), (a_t, .inr (3, [.int t_hand, .int t_at, .int t_wide, .int t_rim, .int t_fill, .int t_wall, .int t_ceiling, .int t_puff, .int t_period, .int t_second, .int t_score, .int t_thrown, .int t_ballCount, .ref a_kinds, .ref a_sizes, .ref a_tights])), (a_kinds, .inl (cI, 5, .inl kindsA))] := hD
  by_cases c25_0 : r5 = 1
  · have hR := (if_pos c25_0).symm.trans hR
    refine lv_tableIn (off := 35) (tgt := 60) hx hb dX3_dragOf_25 (by rw [c25_0]; decide) (by rw [c25_0]; decide) (by rw [c25_0]; rfl) (by decide) ?_
    refine lv_iload_n hx hb dX3_dragOf_60 rfl (lv_at hl 0 rfl) ?_
    refine lv_iconst (v := 2) hx hb dX3_dragOf_61 (by decide) ?_
    refine lv_idiv hx hb dX3_dragOf_62 (by decide) ?_
    have hP := hP.sub (ws' := [(a_t, .inr (3, [.int t_hand, .int t_at, .int t_wide, .int t_rim, .int t_fill, .int t_wall, .int t_ceiling, .int t_puff, .int t_period, .int t_second, .int t_score, .int t_thrown, .int t_ballCount, .ref a_kinds, .ref a_sizes, .ref a_tights])), (a_sizes, .inl (cI, 5, .inl sizesA)), (a_tights, .inl (cI, 5, .inl tightsA)), (a_kinds, .inl (cI, 5, .inl kindsA))]) [2, 0, 1, 3] rfl
    have hD := hD.sub (ws' := [(a_t, .inr (3, [.int t_hand, .int t_at, .int t_wide, .int t_rim, .int t_fill, .int t_wall, .int t_ceiling, .int t_puff, .int t_period, .int t_second, .int t_score, .int t_thrown, .int t_ballCount, .ref a_kinds, .ref a_sizes, .ref a_tights])), (a_sizes, .inl (cI, 5, .inl sizesA)), (a_tights, .inl (cI, 5, .inl tightsA)), (a_kinds, .inl (cI, 5, .inl kindsA))]) [2, 0, 1, 3] (by decide) rfl
    subst hQ
    subst hAe
    exact W.iret (v := ((if (0 : Int32) < ((r1 / 3) - (r3 / 4)) then ((r1 / 3) - (r3 / 4)) else (0 : Int32)) / 2)) hx hb hr (fun t ht hW => ⟨⟨((if (0 : Int32) < ((r1 / 3) - (r3 / 4)) then ((r1 / 3) - (r3 / 4)) else (0 : Int32)) / 2), (), rfl, Option.some.inj hR, by rw [ht]; exact hP, hD⟩, hS.F ht⟩) hS.2.2 dX3_dragOf_63
  have hR := (if_neg c25_0).symm.trans hR
  by_cases c25_1 : r5 = 2
  · have hR := (if_pos c25_1).symm.trans hR
    refine lv_tableIn (off := 47) (tgt := 72) hx hb dX3_dragOf_25 (by rw [c25_1]; decide) (by rw [c25_1]; decide) (by rw [c25_1]; rfl) (by decide) ?_
    refine lv_iconst (v := 0) hx hb dX3_dragOf_72 (by decide) ?_
    have hP := hP.sub (ws' := [(a_t, .inr (3, [.int t_hand, .int t_at, .int t_wide, .int t_rim, .int t_fill, .int t_wall, .int t_ceiling, .int t_puff, .int t_period, .int t_second, .int t_score, .int t_thrown, .int t_ballCount, .ref a_kinds, .ref a_sizes, .ref a_tights])), (a_sizes, .inl (cI, 5, .inl sizesA)), (a_tights, .inl (cI, 5, .inl tightsA)), (a_kinds, .inl (cI, 5, .inl kindsA))]) [2, 0, 1, 3] rfl
    have hD := hD.sub (ws' := [(a_t, .inr (3, [.int t_hand, .int t_at, .int t_wide, .int t_rim, .int t_fill, .int t_wall, .int t_ceiling, .int t_puff, .int t_period, .int t_second, .int t_score, .int t_thrown, .int t_ballCount, .ref a_kinds, .ref a_sizes, .ref a_tights])), (a_sizes, .inl (cI, 5, .inl sizesA)), (a_tights, .inl (cI, 5, .inl tightsA)), (a_kinds, .inl (cI, 5, .inl kindsA))]) [2, 0, 1, 3] (by decide) rfl
    subst hQ
    subst hAe
    exact W.iret (v := 0) hx hb hr (fun t ht hW => ⟨⟨0, (), rfl, Option.some.inj hR, by rw [ht]; exact hP, hD⟩, hS.F ht⟩) hS.2.2 dX3_dragOf_73
  have hR := (if_neg c25_1).symm.trans hR
  by_cases c25_2 : r5 = 3
  · have hR := (if_pos c25_2).symm.trans hR
    refine lv_tableIn (off := 39) (tgt := 64) hx hb dX3_dragOf_25 (by rw [c25_2]; decide) (by rw [c25_2]; decide) (by rw [c25_2]; rfl) (by decide) ?_
    refine lv_iload_n hx hb dX3_dragOf_64 rfl (lv_at hl 0 rfl) ?_
    refine lv_iconst (v := 1) hx hb dX3_dragOf_65 (by decide) ?_
    refine lv_iadd hx hb dX3_dragOf_66 ?_
    have hP := hP.sub (ws' := [(a_t, .inr (3, [.int t_hand, .int t_at, .int t_wide, .int t_rim, .int t_fill, .int t_wall, .int t_ceiling, .int t_puff, .int t_period, .int t_second, .int t_score, .int t_thrown, .int t_ballCount, .ref a_kinds, .ref a_sizes, .ref a_tights])), (a_sizes, .inl (cI, 5, .inl sizesA)), (a_tights, .inl (cI, 5, .inl tightsA)), (a_kinds, .inl (cI, 5, .inl kindsA))]) [2, 0, 1, 3] rfl
    have hD := hD.sub (ws' := [(a_t, .inr (3, [.int t_hand, .int t_at, .int t_wide, .int t_rim, .int t_fill, .int t_wall, .int t_ceiling, .int t_puff, .int t_period, .int t_second, .int t_score, .int t_thrown, .int t_ballCount, .ref a_kinds, .ref a_sizes, .ref a_tights])), (a_sizes, .inl (cI, 5, .inl sizesA)), (a_tights, .inl (cI, 5, .inl tightsA)), (a_kinds, .inl (cI, 5, .inl kindsA))]) [2, 0, 1, 3] (by decide) rfl
    subst hQ
    subst hAe
    exact W.iret (v := ((if (0 : Int32) < ((r1 / 3) - (r3 / 4)) then ((r1 / 3) - (r3 / 4)) else (0 : Int32)) + 1)) hx hb hr (fun t ht hW => ⟨⟨((if (0 : Int32) < ((r1 / 3) - (r3 / 4)) then ((r1 / 3) - (r3 / 4)) else (0 : Int32)) + 1), (), rfl, Option.some.inj hR, by rw [ht]; exact hP, hD⟩, hS.F ht⟩) hS.2.2 dX3_dragOf_67
  have hR := (if_neg c25_2).symm.trans hR
  by_cases c25_3 : r5 = 4
  · have hR := (if_pos c25_3).symm.trans hR
    refine lv_tableIn (off := 43) (tgt := 68) hx hb dX3_dragOf_25 (by rw [c25_3]; decide) (by rw [c25_3]; decide) (by rw [c25_3]; rfl) (by decide) ?_
    refine lv_iload_n hx hb dX3_dragOf_68 rfl (lv_at hl 0 rfl) ?_
    refine lv_iconst (v := 2) hx hb dX3_dragOf_69 (by decide) ?_
    refine lv_iadd hx hb dX3_dragOf_70 ?_
    have hP := hP.sub (ws' := [(a_t, .inr (3, [.int t_hand, .int t_at, .int t_wide, .int t_rim, .int t_fill, .int t_wall, .int t_ceiling, .int t_puff, .int t_period, .int t_second, .int t_score, .int t_thrown, .int t_ballCount, .ref a_kinds, .ref a_sizes, .ref a_tights])), (a_sizes, .inl (cI, 5, .inl sizesA)), (a_tights, .inl (cI, 5, .inl tightsA)), (a_kinds, .inl (cI, 5, .inl kindsA))]) [2, 0, 1, 3] rfl
    have hD := hD.sub (ws' := [(a_t, .inr (3, [.int t_hand, .int t_at, .int t_wide, .int t_rim, .int t_fill, .int t_wall, .int t_ceiling, .int t_puff, .int t_period, .int t_second, .int t_score, .int t_thrown, .int t_ballCount, .ref a_kinds, .ref a_sizes, .ref a_tights])), (a_sizes, .inl (cI, 5, .inl sizesA)), (a_tights, .inl (cI, 5, .inl tightsA)), (a_kinds, .inl (cI, 5, .inl kindsA))]) [2, 0, 1, 3] (by decide) rfl
    subst hQ
    subst hAe
    exact W.iret (v := ((if (0 : Int32) < ((r1 / 3) - (r3 / 4)) then ((r1 / 3) - (r3 / 4)) else (0 : Int32)) + 2)) hx hb hr (fun t ht hW => ⟨⟨((if (0 : Int32) < ((r1 / 3) - (r3 / 4)) then ((r1 / 3) - (r3 / 4)) else (0 : Int32)) + 2), (), rfl, Option.some.inj hR, by rw [ht]; exact hP, hD⟩, hS.F ht⟩) hS.2.2 dX3_dragOf_71
  have hR := (if_neg c25_3).symm.trans hR
  by_cases c25_4 : r5 = 5
  · have hR := (if_pos c25_4).symm.trans hR
    refine lv_tableIn (off := 47) (tgt := 72) hx hb dX3_dragOf_25 (by rw [c25_4]; decide) (by rw [c25_4]; decide) (by rw [c25_4]; rfl) (by decide) ?_
    refine lv_iconst (v := 0) hx hb dX3_dragOf_72 (by decide) ?_
    have hP := hP.sub (ws' := [(a_t, .inr (3, [.int t_hand, .int t_at, .int t_wide, .int t_rim, .int t_fill, .int t_wall, .int t_ceiling, .int t_puff, .int t_period, .int t_second, .int t_score, .int t_thrown, .int t_ballCount, .ref a_kinds, .ref a_sizes, .ref a_tights])), (a_sizes, .inl (cI, 5, .inl sizesA)), (a_tights, .inl (cI, 5, .inl tightsA)), (a_kinds, .inl (cI, 5, .inl kindsA))]) [2, 0, 1, 3] rfl
    have hD := hD.sub (ws' := [(a_t, .inr (3, [.int t_hand, .int t_at, .int t_wide, .int t_rim, .int t_fill, .int t_wall, .int t_ceiling, .int t_puff, .int t_period, .int t_second, .int t_score, .int t_thrown, .int t_ballCount, .ref a_kinds, .ref a_sizes, .ref a_tights])), (a_sizes, .inl (cI, 5, .inl sizesA)), (a_tights, .inl (cI, 5, .inl tightsA)), (a_kinds, .inl (cI, 5, .inl kindsA))]) [2, 0, 1, 3] (by decide) rfl
    subst hQ
    subst hAe
    exact W.iret (v := 0) hx hb hr (fun t ht hW => ⟨⟨0, (), rfl, Option.some.inj hR, by rw [ht]; exact hP, hD⟩, hS.F ht⟩) hS.2.2 dX3_dragOf_73
  have hR := (if_neg c25_4).symm.trans hR
  have tc25_0 := lv_neT (k := 1) (a := 1) c25_0 (by decide)
  have tc25_1 := lv_neT (k := 2) (a := 2) c25_1 (by decide)
  have tc25_2 := lv_neT (k := 3) (a := 3) c25_2 (by decide)
  have tc25_3 := lv_neT (k := 4) (a := 4) c25_3 (by decide)
  have tc25_4 := lv_neT (k := 5) (a := 5) c25_4 (by decide)
  refine lv_tableOut (tgt := 74) hx hb dX3_dragOf_25 (by omega) (by decide) ?_
  refine lv_iload_n hx hb dX3_dragOf_74 rfl (lv_at hl 0 rfl) ?_
  have hP := hP.sub (ws' := [(a_t, .inr (3, [.int t_hand, .int t_at, .int t_wide, .int t_rim, .int t_fill, .int t_wall, .int t_ceiling, .int t_puff, .int t_period, .int t_second, .int t_score, .int t_thrown, .int t_ballCount, .ref a_kinds, .ref a_sizes, .ref a_tights])), (a_sizes, .inl (cI, 5, .inl sizesA)), (a_tights, .inl (cI, 5, .inl tightsA)), (a_kinds, .inl (cI, 5, .inl kindsA))]) [2, 0, 1, 3] rfl
  have hD := hD.sub (ws' := [(a_t, .inr (3, [.int t_hand, .int t_at, .int t_wide, .int t_rim, .int t_fill, .int t_wall, .int t_ceiling, .int t_puff, .int t_period, .int t_second, .int t_score, .int t_thrown, .int t_ballCount, .ref a_kinds, .ref a_sizes, .ref a_tights])), (a_sizes, .inl (cI, 5, .inl sizesA)), (a_tights, .inl (cI, 5, .inl tightsA)), (a_kinds, .inl (cI, 5, .inl kindsA))]) [2, 0, 1, 3] (by decide) rfl
  subst hQ
  subst hAe
  exact W.iret (v := (if (0 : Int32) < ((r1 / 3) - (r3 / 4)) then ((r1 / 3) - (r3 / 4)) else (0 : Int32))) hx hb hr (fun t ht hW => ⟨⟨(if (0 : Int32) < ((r1 / 3) - (r3 / 4)) then ((r1 / 3) - (r3 / 4)) else (0 : Int32)), (), rfl, Option.some.inj hR, by rw [ht]; exact hP, hD⟩, hS.F ht⟩) hS.2.2 dX3_dragOf_75
def fX3_fallOf (x1 : Int32) (t_ballCount : Int32) (kindsA : Nat → Int32) : Option (Int32) :=
  b1 (fX3_kindOf x1 t_ballCount kindsA) (fun r1 =>
  if r1 = 2 then (
   some (2)) else
  if r1 = 5 then (
   some (3)) else
  some (1))
set_option maxHeartbeats 4000000 in
set_option maxRecDepth 100000 in
theorem kX3_fallOf (l : Launch) (dC : Nat → ClassId) (dI : Nat → Nat → Nat) (cI : ClassId) (a_t a_kinds a_sizes a_tights : Nat) (sz : Nat) (x1 : Int32) (t_hand : Int32) (t_at : Int32) (t_wide : Int32) (t_rim : Int32) (t_fill : Int32) (t_wall : Int32) (t_ceiling : Int32) (t_puff : Int32) (t_period : Int32) (t_second : Int32) (t_score : Int32) (t_thrown : Int32) (t_ballCount : Int32) (kindsA : Nat → Int32) (R : Int32) (hR : fX3_fallOf x1 t_ballCount kindsA = some R) : Met l yX3_fallOf wsX3_fallOf ({ frames := 2, cells := 0, slots := 0, locals := 42 } : Room) (va_Pc [.ref a_t, .int x1] (Wp (dC, dI) [(cI, .int)] [(a_t, .inr (3, [.int t_hand, .int t_at, .int t_wide, .int t_rim, .int t_fill, .int t_wall, .int t_ceiling, .int t_puff, .int t_period, .int t_second, .int t_score, .int t_thrown, .int t_ballCount, .ref a_kinds, .ref a_sizes, .ref a_tights])), (a_kinds, .inl (cI, 5, .inl kindsA))] sz)) (va_Qi (fun (r : Int32) (_ : Unit) => r = R) (Wq (dC, dI) [(a_t, .inr (3, [.int t_hand, .int t_at, .int t_wide, .int t_rim, .int t_fill, .int t_wall, .int t_ceiling, .int t_puff, .int t_period, .int t_second, .int t_score, .int t_thrown, .int t_ballCount, .ref a_kinds, .ref a_sizes, .ref a_tights])), (a_kinds, .inl (cI, 5, .inl kindsA))] sz (fun (_ : Unit) => ([(a_t, .inr (3, [.int t_hand, .int t_at, .int t_wide, .int t_rim, .int t_fill, .int t_wall, .int t_ceiling, .int t_puff, .int t_period, .int t_second, .int t_score, .int t_thrown, .int t_ballCount, .ref a_kinds, .ref a_sizes, .ref a_tights])), (a_kinds, .inl (cI, 5, .inl kindsA))] : va_W))) (va_A [(a_t, .inr (3, [.int t_hand, .int t_at, .int t_wide, .int t_rim, .int t_fill, .int t_wall, .int t_ceiling, .int t_puff, .int t_period, .int t_second, .int t_score, .int t_thrown, .int t_ballCount, .ref a_kinds, .ref a_sizes, .ref a_tights])), (a_kinds, .inl (cI, 5, .inl kindsA))] sz)) 0 0 (va_A [(a_t, .inr (3, [.int t_hand, .int t_at, .int t_wide, .int t_rim, .int t_fill, .int t_wall, .int t_ceiling, .int t_puff, .int t_period, .int t_second, .int t_score, .int t_thrown, .int t_ballCount, .ref a_kinds, .ref a_sizes, .ref a_tights])), (a_kinds, .inl (cI, 5, .inl kindsA))] sz) := by
  refine Met.ofW (cc := cX3_fallOf) (maxL := 2) (ret := (some .int)) (by decide) rfl ?_
  intro p e s m args below meth c s₁ B hml hv
  obtain ⟨hargs, hsz, hP, hK, hD0, hN⟩ := hv
  have hx := B.exec
  have hb := B.bytes
  have hr := B.returns
  have hts := atoms_spec (ws := wsX3_fallOf) B.pre
  have hown : s.vm.findClass RX3 = some m.cls := findClass_of_methodNamed B.named
  have hlocks := B.notSynchronized
  subst hsz
  have hD := hD0.self (sz := s.heap.size)
  obtain ⟨A, hAe⟩ : ∃ A, A = va_A [(a_t, .inr (3, [.int t_hand, .int t_at, .int t_wide, .int t_rim, .int t_fill, .int t_wall, .int t_ceiling, .int t_puff, .int t_period, .int t_second, .int t_score, .int t_thrown, .int t_ballCount, .ref a_kinds, .ref a_sizes, .ref a_tights])), (a_kinds, .inl (cI, 5, .inl kindsA))] s.heap.size := ⟨_, rfl⟩
  rw [← hAe] at hD
  have hA : ∀ q : Nat, s.heap.size ≤ q → A q := fun q h => by rw [hAe]; exact Or.inr h
  have hS : va_S A s.heap s.heap [] := va_S.rf
  have hl := lv_entry ([.ref a_t, .int x1]) (n := 2) (Nat.le_of_ble_eq_true rfl)
  rw [e_of hargs, lg_entry_eq]
  generalize (lg_sl ([.ref a_t, .int x1]) ++ List.replicate (2 - (lg_sl ([.ref a_t, .int x1])).length) Slot.unset).toArray = ls at hl ⊢
  have hl : lv_has ls 2 [(0, .ref a_t), (1, .int x1)] := hl
  refine w_q ({ frames := 2, cells := 0, slots := 0, locals := 42 } : Room) (fun Q0 hQ => ?_)
  rw [fX3_fallOf] at hR
  refine lv_aload_n hx hb dX3_fallOf_0 rfl (lv_at hl 0 rfl) ?_
  refine lv_iload_n hx hb dX3_fallOf_1 rfl (lv_at hl 1 rfl) ?_
  obtain ⟨r1, hu2, hR⟩ := b1_s hR
  refine cl_ViN (As := [.int x1]) (rest := []) (wc := [(a_t, .inr (3, [.int t_hand, .int t_at, .int t_wide, .int t_rim, .int t_fill, .int t_wall, .int t_ceiling, .int t_puff, .int t_period, .int t_second, .int t_score, .int t_thrown, .int t_ballCount, .ref a_kinds, .ref a_sizes, .ref a_tights])), (a_kinds, .inl (cI, 5, .inl kindsA))]) (wr := []) ⟨hx, hb, hml, hown, hts⟩ (kX3_kindOf l dC dI cI a_t a_kinds a_sizes a_tights s.heap.size x1 t_hand t_at t_wide t_rim t_fill t_wall t_ceiling t_puff t_period t_second t_score t_thrown t_ballCount kindsA r1 hu2) (cwV 1 hts gX3_fallOf_X3_kindOf rfl rfl rfl (by decide +kernel) ⟨Nat.le_of_ble_eq_true rfl, Nat.le_of_ble_eq_true rfl⟩) hK hN hP hD hS hA (va_recv hK hP (ci := 3) (q0 := 0) rfl rfl) [0, 1] [] rfl rfl rfl rfl rfl (by decide) rfl hl.1 rfl (Nat.le_of_ble_eq_true rfl) dX3_fallOf_2 (fun H locs hP hD hS => ?_)
  have hP : va_P (dC, dI) vwCl [(a_t, .inr (3, [.int t_hand, .int t_at, .int t_wide, .int t_rim, .int t_fill, .int t_wall, .int t_ceiling, .int t_puff, .int t_period, .int t_second, .int t_score, .int t_thrown, .int t_ballCount, .ref a_kinds, .ref a_sizes, .ref a_tights])), (a_kinds, .inl (cI, 5, .inl kindsA))] H := hP
  have hD : va_D A [(a_t, .inr (3, [.int t_hand, .int t_at, .int t_wide, .int t_rim, .int t_fill, .int t_wall, .int t_ceiling, .int t_puff, .int t_period, .int t_second, .int t_score, .int t_thrown, .int t_ballCount, .ref a_kinds, .ref a_sizes, .ref a_tights])), (a_kinds, .inl (cI, 5, .inl kindsA))] := hD
  by_cases c5_0 : r1 = 2
  · have hR := (if_pos c5_0).symm.trans hR
    refine lv_lookup (off := 27) (tgt := 32) hx hb dX3_fallOf_5 (by decide) (by rw [c5_0]; decide) (by decide) ?_
    refine lv_iconst (v := 2) hx hb dX3_fallOf_32 (by decide) ?_
    subst hQ
    subst hAe
    exact W.iret (v := 2) hx hb hr (fun t ht hW => ⟨⟨2, (), rfl, Option.some.inj hR, by rw [ht]; exact hP, hD⟩, hS.F ht⟩) hS.2.2 dX3_fallOf_33
  have hR := (if_neg c5_0).symm.trans hR
  by_cases c5_1 : r1 = 5
  · have hR := (if_pos c5_1).symm.trans hR
    refine lv_lookup (off := 29) (tgt := 34) hx hb dX3_fallOf_5 (by decide) (by rw [c5_1]; decide) (by decide) ?_
    refine lv_iconst (v := 3) hx hb dX3_fallOf_34 (by decide) ?_
    subst hQ
    subst hAe
    exact W.iret (v := 3) hx hb hr (fun t ht hW => ⟨⟨3, (), rfl, Option.some.inj hR, by rw [ht]; exact hP, hD⟩, hS.F ht⟩) hS.2.2 dX3_fallOf_35
  have hR := (if_neg c5_1).symm.trans hR
  refine lv_lookup (off := 31) (tgt := 36) hx hb dX3_fallOf_5 (by decide) (by
    show Op.lookupswitch.offset [(2, 27), (5, 29)] 31 _ = 31
    rw [lv_osw (k := 2) c5_0 (by decide), lv_osw (k := 5) c5_1 (by decide)]
    rfl) (by decide) ?_
  refine lv_iconst (v := 1) hx hb dX3_fallOf_36 (by decide) ?_
  subst hQ
  subst hAe
  exact W.iret (v := 1) hx hb hr (fun t ht hW => ⟨⟨1, (), rfl, Option.some.inj hR, by rw [ht]; exact hP, hD⟩, hS.F ht⟩) hS.2.2 dX3_fallOf_37
def fX3_fanOf (x1 : Int32) (t_puff : Int32) (t_ballCount : Int32) (kindsA : Nat → Int32) : Option (Int32) :=
  b1 (fX3_kindOf x1 t_ballCount kindsA) (fun r1 =>
  if r1 = 2 then (
   some ((t_puff / 2))) else
  if r1 = 3 then (
   some ((2 * t_puff))) else
  if r1 = 4 then (
   some ((2 * t_puff))) else
  if r1 = 5 then (
   some (0)) else
  some (t_puff))
set_option maxHeartbeats 4000000 in
set_option maxRecDepth 100000 in
theorem kX3_fanOf (l : Launch) (dC : Nat → ClassId) (dI : Nat → Nat → Nat) (cI : ClassId) (a_t a_kinds a_sizes a_tights : Nat) (sz : Nat) (x1 : Int32) (t_hand : Int32) (t_at : Int32) (t_wide : Int32) (t_rim : Int32) (t_fill : Int32) (t_wall : Int32) (t_ceiling : Int32) (t_puff : Int32) (t_period : Int32) (t_second : Int32) (t_score : Int32) (t_thrown : Int32) (t_ballCount : Int32) (kindsA : Nat → Int32) (R : Int32) (hR : fX3_fanOf x1 t_puff t_ballCount kindsA = some R) : Met l yX3_fanOf wsX3_fanOf ({ frames := 2, cells := 0, slots := 0, locals := 42 } : Room) (va_Pc [.ref a_t, .int x1] (Wp (dC, dI) [(cI, .int)] [(a_t, .inr (3, [.int t_hand, .int t_at, .int t_wide, .int t_rim, .int t_fill, .int t_wall, .int t_ceiling, .int t_puff, .int t_period, .int t_second, .int t_score, .int t_thrown, .int t_ballCount, .ref a_kinds, .ref a_sizes, .ref a_tights])), (a_kinds, .inl (cI, 5, .inl kindsA))] sz)) (va_Qi (fun (r : Int32) (_ : Unit) => r = R) (Wq (dC, dI) [(a_t, .inr (3, [.int t_hand, .int t_at, .int t_wide, .int t_rim, .int t_fill, .int t_wall, .int t_ceiling, .int t_puff, .int t_period, .int t_second, .int t_score, .int t_thrown, .int t_ballCount, .ref a_kinds, .ref a_sizes, .ref a_tights])), (a_kinds, .inl (cI, 5, .inl kindsA))] sz (fun (_ : Unit) => ([(a_t, .inr (3, [.int t_hand, .int t_at, .int t_wide, .int t_rim, .int t_fill, .int t_wall, .int t_ceiling, .int t_puff, .int t_period, .int t_second, .int t_score, .int t_thrown, .int t_ballCount, .ref a_kinds, .ref a_sizes, .ref a_tights])), (a_kinds, .inl (cI, 5, .inl kindsA))] : va_W))) (va_A [(a_t, .inr (3, [.int t_hand, .int t_at, .int t_wide, .int t_rim, .int t_fill, .int t_wall, .int t_ceiling, .int t_puff, .int t_period, .int t_second, .int t_score, .int t_thrown, .int t_ballCount, .ref a_kinds, .ref a_sizes, .ref a_tights])), (a_kinds, .inl (cI, 5, .inl kindsA))] sz)) 0 0 (va_A [(a_t, .inr (3, [.int t_hand, .int t_at, .int t_wide, .int t_rim, .int t_fill, .int t_wall, .int t_ceiling, .int t_puff, .int t_period, .int t_second, .int t_score, .int t_thrown, .int t_ballCount, .ref a_kinds, .ref a_sizes, .ref a_tights])), (a_kinds, .inl (cI, 5, .inl kindsA))] sz) := by
  refine Met.ofW (cc := cX3_fanOf) (maxL := 2) (ret := (some .int)) (by decide) rfl ?_
  intro p e s m args below meth c s₁ B hml hv
  obtain ⟨hargs, hsz, hP, hK, hD0, hN⟩ := hv
  have hx := B.exec
  have hb := B.bytes
  have hr := B.returns
  have hts := atoms_spec (ws := wsX3_fanOf) B.pre
  have hown : s.vm.findClass RX3 = some m.cls := findClass_of_methodNamed B.named
  have hlocks := B.notSynchronized
  subst hsz
  have hD := hD0.self (sz := s.heap.size)
  obtain ⟨A, hAe⟩ : ∃ A, A = va_A [(a_t, .inr (3, [.int t_hand, .int t_at, .int t_wide, .int t_rim, .int t_fill, .int t_wall, .int t_ceiling, .int t_puff, .int t_period, .int t_second, .int t_score, .int t_thrown, .int t_ballCount, .ref a_kinds, .ref a_sizes, .ref a_tights])), (a_kinds, .inl (cI, 5, .inl kindsA))] s.heap.size := ⟨_, rfl⟩
  rw [← hAe] at hD
  have hA : ∀ q : Nat, s.heap.size ≤ q → A q := fun q h => by rw [hAe]; exact Or.inr h
  have hS : va_S A s.heap s.heap [] := va_S.rf
  have hl := lv_entry ([.ref a_t, .int x1]) (n := 2) (Nat.le_of_ble_eq_true rfl)
  rw [e_of hargs, lg_entry_eq]
  generalize (lg_sl ([.ref a_t, .int x1]) ++ List.replicate (2 - (lg_sl ([.ref a_t, .int x1])).length) Slot.unset).toArray = ls at hl ⊢
  have hl : lv_has ls 2 [(0, .ref a_t), (1, .int x1)] := hl
  have hinX3 : ∀ w ∈ wsX30, w ∈ wsX3_fanOf := by decide +kernel
  refine w_q ({ frames := 2, cells := 0, slots := 0, locals := 42 } : Room) (fun Q0 hQ => ?_)
  rw [fX3_fanOf] at hR
  refine lv_aload_n hx hb dX3_fanOf_0 rfl (lv_at hl 0 rfl) ?_
  refine lv_iload_n hx hb dX3_fanOf_1 rfl (lv_at hl 1 rfl) ?_
  obtain ⟨r1, hu2, hR⟩ := b1_s hR
  refine cl_ViN (As := [.int x1]) (rest := []) (wc := [(a_t, .inr (3, [.int t_hand, .int t_at, .int t_wide, .int t_rim, .int t_fill, .int t_wall, .int t_ceiling, .int t_puff, .int t_period, .int t_second, .int t_score, .int t_thrown, .int t_ballCount, .ref a_kinds, .ref a_sizes, .ref a_tights])), (a_kinds, .inl (cI, 5, .inl kindsA))]) (wr := []) ⟨hx, hb, hml, hown, hts⟩ (kX3_kindOf l dC dI cI a_t a_kinds a_sizes a_tights s.heap.size x1 t_hand t_at t_wide t_rim t_fill t_wall t_ceiling t_puff t_period t_second t_score t_thrown t_ballCount kindsA r1 hu2) (cwV 1 hts gX3_fanOf_X3_kindOf rfl rfl rfl (by decide +kernel) ⟨Nat.le_of_ble_eq_true rfl, Nat.le_of_ble_eq_true rfl⟩) hK hN hP hD hS hA (va_recv hK hP (ci := 3) (q0 := 0) rfl rfl) [0, 1] [] rfl rfl rfl rfl rfl (by decide) rfl hl.1 rfl (Nat.le_of_ble_eq_true rfl) dX3_fanOf_2 (fun H locs hP hD hS => ?_)
  have hP : va_P (dC, dI) vwCl [(a_t, .inr (3, [.int t_hand, .int t_at, .int t_wide, .int t_rim, .int t_fill, .int t_wall, .int t_ceiling, .int t_puff, .int t_period, .int t_second, .int t_score, .int t_thrown, .int t_ballCount, .ref a_kinds, .ref a_sizes, .ref a_tights])), (a_kinds, .inl (cI, 5, .inl kindsA))] H := hP
  have hD : va_D A [(a_t, .inr (3, [.int t_hand, .int t_at, .int t_wide, .int t_rim, .int t_fill, .int t_wall, .int t_ceiling, .int t_puff, .int t_period, .int t_second, .int t_score, .int t_thrown, .int t_ballCount, .ref a_kinds, .ref a_sizes, .ref a_tights])), (a_kinds, .inl (cI, 5, .inl kindsA))] := hD
  by_cases c5_0 : r1 = 2
  · have hR := (if_pos c5_0).symm.trans hR
    refine lv_tableIn (off := 31) (tgt := 36) hx hb dX3_fanOf_5 (by rw [c5_0]; decide) (by rw [c5_0]; decide) (by rw [c5_0]; rfl) (by decide) ?_
    refine lv_aload_n hx hb dX3_fanOf_36 rfl (lv_at hl 0 rfl) ?_
    refine va_get (D := (dC, dI)) (ci := 3) (v := .int t_puff) (C := RX3) (T := TX3) (N := 16) hx hb hts hinX3 hown hK hP 0 rfl rfl 7 (by decide) (hts (.fieldLink RX3 33 "PaperInBin$Office" "puff" "I") (by decide +kernel)) (fun _ h9 => h9) rfl dX3_fanOf_37 ?_
    refine lv_iconst (v := 2) hx hb dX3_fanOf_40 (by decide) ?_
    refine lv_idiv hx hb dX3_fanOf_41 (by decide) ?_
    subst hQ
    subst hAe
    exact W.iret (v := (t_puff / 2)) hx hb hr (fun t ht hW => ⟨⟨(t_puff / 2), (), rfl, Option.some.inj hR, by rw [ht]; exact hP, hD⟩, hS.F ht⟩) hS.2.2 dX3_fanOf_42
  have hR := (if_neg c5_0).symm.trans hR
  by_cases c5_1 : r1 = 3
  · have hR := (if_pos c5_1).symm.trans hR
    refine lv_tableIn (off := 38) (tgt := 43) hx hb dX3_fanOf_5 (by rw [c5_1]; decide) (by rw [c5_1]; decide) (by rw [c5_1]; rfl) (by decide) ?_
    refine lv_iconst (v := 2) hx hb dX3_fanOf_43 (by decide) ?_
    refine lv_aload_n hx hb dX3_fanOf_44 rfl (lv_at hl 0 rfl) ?_
    refine va_get (D := (dC, dI)) (ci := 3) (v := .int t_puff) (C := RX3) (T := TX3) (N := 16) hx hb hts hinX3 hown hK hP 0 rfl rfl 7 (by decide) (hts (.fieldLink RX3 33 "PaperInBin$Office" "puff" "I") (by decide +kernel)) (fun _ h9 => h9) rfl dX3_fanOf_45 ?_
    refine lv_imul hx hb dX3_fanOf_48 ?_
    subst hQ
    subst hAe
    exact W.iret (v := (2 * t_puff)) hx hb hr (fun t ht hW => ⟨⟨(2 * t_puff), (), rfl, Option.some.inj hR, by rw [ht]; exact hP, hD⟩, hS.F ht⟩) hS.2.2 dX3_fanOf_49
  have hR := (if_neg c5_1).symm.trans hR
  by_cases c5_2 : r1 = 4
  · have hR := (if_pos c5_2).symm.trans hR
    refine lv_tableIn (off := 38) (tgt := 43) hx hb dX3_fanOf_5 (by rw [c5_2]; decide) (by rw [c5_2]; decide) (by rw [c5_2]; rfl) (by decide) ?_
    refine lv_iconst (v := 2) hx hb dX3_fanOf_43 (by decide) ?_
    refine lv_aload_n hx hb dX3_fanOf_44 rfl (lv_at hl 0 rfl) ?_
    refine va_get (D := (dC, dI)) (ci := 3) (v := .int t_puff) (C := RX3) (T := TX3) (N := 16) hx hb hts hinX3 hown hK hP 0 rfl rfl 7 (by decide) (hts (.fieldLink RX3 33 "PaperInBin$Office" "puff" "I") (by decide +kernel)) (fun _ h9 => h9) rfl dX3_fanOf_45 ?_
    refine lv_imul hx hb dX3_fanOf_48 ?_
    subst hQ
    subst hAe
    exact W.iret (v := (2 * t_puff)) hx hb hr (fun t ht hW => ⟨⟨(2 * t_puff), (), rfl, Option.some.inj hR, by rw [ht]; exact hP, hD⟩, hS.F ht⟩) hS.2.2 dX3_fanOf_49
  have hR := (if_neg c5_2).symm.trans hR
  by_cases c5_3 : r1 = 5
  · have hR := (if_pos c5_3).symm.trans hR
    refine lv_tableIn (off := 45) (tgt := 50) hx hb dX3_fanOf_5 (by rw [c5_3]; decide) (by rw [c5_3]; decide) (by rw [c5_3]; rfl) (by decide) ?_
    refine lv_iconst (v := 0) hx hb dX3_fanOf_50 (by decide) ?_
    subst hQ
    subst hAe
    exact W.iret (v := 0) hx hb hr (fun t ht hW => ⟨⟨0, (), rfl, Option.some.inj hR, by rw [ht]; exact hP, hD⟩, hS.F ht⟩) hS.2.2 dX3_fanOf_51
  have hR := (if_neg c5_3).symm.trans hR
  have tc5_0 := lv_neT (k := 2) (a := 2) c5_0 (by decide)
  have tc5_1 := lv_neT (k := 3) (a := 3) c5_1 (by decide)
  have tc5_2 := lv_neT (k := 4) (a := 4) c5_2 (by decide)
  have tc5_3 := lv_neT (k := 5) (a := 5) c5_3 (by decide)
  refine lv_tableOut (tgt := 52) hx hb dX3_fanOf_5 (by omega) (by decide) ?_
  refine lv_aload_n hx hb dX3_fanOf_52 rfl (lv_at hl 0 rfl) ?_
  refine va_get (D := (dC, dI)) (ci := 3) (v := .int t_puff) (C := RX3) (T := TX3) (N := 16) hx hb hts hinX3 hown hK hP 0 rfl rfl 7 (by decide) (hts (.fieldLink RX3 33 "PaperInBin$Office" "puff" "I") (by decide +kernel)) (fun _ h9 => h9) rfl dX3_fanOf_53 ?_
  subst hQ
  subst hAe
  exact W.iret (v := t_puff) hx hb hr (fun t ht hW => ⟨⟨t_puff, (), rfl, Option.some.inj hR, by rw [ht]; exact hP, hD⟩, hS.F ht⟩) hS.2.2 dX3_fanOf_56
def fX3_blowsIn (x1 : Int32) (t_period : Int32) : Option (Int32) :=
  if t_period ≤ 0 then (
   some (0))
  else (
  g_nz t_period (
  if (x1 - x1 / t_period * t_period) = 0 then (
   some (1))
  else (
  some (0))))
set_option maxHeartbeats 4000000 in
set_option maxRecDepth 100000 in
theorem kX3_blowsIn (l : Launch) (dC : Nat → ClassId) (dI : Nat → Nat → Nat) (cI : ClassId) (a_t a_kinds a_sizes a_tights : Nat) (sz : Nat) (x1 : Int32) (t_hand : Int32) (t_at : Int32) (t_wide : Int32) (t_rim : Int32) (t_fill : Int32) (t_wall : Int32) (t_ceiling : Int32) (t_puff : Int32) (t_period : Int32) (t_second : Int32) (t_score : Int32) (t_thrown : Int32) (t_ballCount : Int32) (R : Int32) (hR : fX3_blowsIn x1 t_period = some R) : Met l yX3_blowsIn wsX3_blowsIn ({ frames := 0, cells := 0, slots := 0, locals := 0 } : Room) (va_Pc [.ref a_t, .int x1] (Wp (dC, dI) [(cI, .int)] [(a_t, .inr (3, [.int t_hand, .int t_at, .int t_wide, .int t_rim, .int t_fill, .int t_wall, .int t_ceiling, .int t_puff, .int t_period, .int t_second, .int t_score, .int t_thrown, .int t_ballCount, .ref a_kinds, .ref a_sizes, .ref a_tights]))] sz)) (va_Qi (fun (r : Int32) (_ : Unit) => r = R) (Wq (dC, dI) [(a_t, .inr (3, [.int t_hand, .int t_at, .int t_wide, .int t_rim, .int t_fill, .int t_wall, .int t_ceiling, .int t_puff, .int t_period, .int t_second, .int t_score, .int t_thrown, .int t_ballCount, .ref a_kinds, .ref a_sizes, .ref a_tights]))] sz (fun (_ : Unit) => ([(a_t, .inr (3, [.int t_hand, .int t_at, .int t_wide, .int t_rim, .int t_fill, .int t_wall, .int t_ceiling, .int t_puff, .int t_period, .int t_second, .int t_score, .int t_thrown, .int t_ballCount, .ref a_kinds, .ref a_sizes, .ref a_tights]))] : va_W))) (va_A [(a_t, .inr (3, [.int t_hand, .int t_at, .int t_wide, .int t_rim, .int t_fill, .int t_wall, .int t_ceiling, .int t_puff, .int t_period, .int t_second, .int t_score, .int t_thrown, .int t_ballCount, .ref a_kinds, .ref a_sizes, .ref a_tights]))] sz)) 0 0 (va_A [(a_t, .inr (3, [.int t_hand, .int t_at, .int t_wide, .int t_rim, .int t_fill, .int t_wall, .int t_ceiling, .int t_puff, .int t_period, .int t_second, .int t_score, .int t_thrown, .int t_ballCount, .ref a_kinds, .ref a_sizes, .ref a_tights]))] sz) := by
  refine Met.ofW (cc := cX3_blowsIn) (maxL := 2) (ret := (some .boolean)) (by decide) rfl ?_
  intro p e s m args below meth c s₁ B hml hv
  obtain ⟨hargs, hsz, hP, hK, hD0, hN⟩ := hv
  have hx := B.exec
  have hb := B.bytes
  have hr := B.returns
  have hts := atoms_spec (ws := wsX3_blowsIn) B.pre
  have hown : s.vm.findClass RX3 = some m.cls := findClass_of_methodNamed B.named
  have hlocks := B.notSynchronized
  subst hsz
  have hD := hD0.self (sz := s.heap.size)
  obtain ⟨A, hAe⟩ : ∃ A, A = va_A [(a_t, .inr (3, [.int t_hand, .int t_at, .int t_wide, .int t_rim, .int t_fill, .int t_wall, .int t_ceiling, .int t_puff, .int t_period, .int t_second, .int t_score, .int t_thrown, .int t_ballCount, .ref a_kinds, .ref a_sizes, .ref a_tights]))] s.heap.size := ⟨_, rfl⟩
  rw [← hAe] at hD
  have hA : ∀ q : Nat, s.heap.size ≤ q → A q := fun q h => by rw [hAe]; exact Or.inr h
  have hS : va_S A s.heap s.heap [] := va_S.rf
  have hl := lv_entry ([.ref a_t, .int x1]) (n := 2) (Nat.le_of_ble_eq_true rfl)
  rw [e_of hargs, lg_entry_eq]
  generalize (lg_sl ([.ref a_t, .int x1]) ++ List.replicate (2 - (lg_sl ([.ref a_t, .int x1])).length) Slot.unset).toArray = ls at hl ⊢
  have hl : lv_has ls 2 [(0, .ref a_t), (1, .int x1)] := hl
  have hinX3 : ∀ w ∈ wsX30, w ∈ wsX3_blowsIn := by decide +kernel
  refine w_q ({ frames := 0, cells := 0, slots := 0, locals := 0 } : Room) (fun Q0 hQ => ?_)
  rw [fX3_blowsIn] at hR
  refine lv_aload_n hx hb dX3_blowsIn_0 rfl (lv_at hl 0 rfl) ?_
  refine va_get (D := (dC, dI)) (ci := 3) (v := .int t_period) (C := RX3) (T := TX3) (N := 16) hx hb hts hinX3 hown hK hP 0 rfl rfl 8 (by decide) (hts (.fieldLink RX3 36 "PaperInBin$Office" "period" "I") (by decide +kernel)) (fun _ h9 => h9) rfl dX3_blowsIn_1 ?_
  refine lv_if_le (tgt := 20) hx hb dX3_blowsIn_4 (by decide) (fun c4 => ?_) (fun c4 => ?_)
  · have hR := (if_pos c4).symm.trans hR
    refine lv_iconst (v := 0) hx hb dX3_blowsIn_20 (by decide) ?_
    subst hQ
    subst hAe
    exact W.zret (ty := .boolean) (v := 0) hx hb hr rfl (fun t ht hW => ⟨⟨0, (), rfl, Option.some.inj hR, by rw [ht]; exact hP, hD⟩, hS.F ht⟩) hS.2.2 dX3_blowsIn_21
  · have hR := (if_neg c4).symm.trans hR
    refine lv_iload_n hx hb dX3_blowsIn_7 rfl (lv_at hl 1 rfl) ?_
    refine lv_aload_n hx hb dX3_blowsIn_8 rfl (lv_at hl 0 rfl) ?_
    refine va_get (D := (dC, dI)) (ci := 3) (v := .int t_period) (C := RX3) (T := TX3) (N := 16) hx hb hts hinX3 hown hK hP 0 rfl rfl 8 (by decide) (hts (.fieldLink RX3 36 "PaperInBin$Office" "period" "I") (by decide +kernel)) (fun _ h9 => h9) rfl dX3_blowsIn_9 ?_
    obtain ⟨g1, hR⟩ := g_nz_s hR
    refine lv_irem hx hb dX3_blowsIn_12 g1 ?_
    refine lv_if_ne (tgt := 20) hx hb dX3_blowsIn_13 (by decide) (fun c13 => ?_) (fun c13 => ?_)
    · have hR := (if_neg c13).symm.trans hR
      refine lv_iconst (v := 0) hx hb dX3_blowsIn_20 (by decide) ?_
      subst hQ
      subst hAe
      exact W.zret (ty := .boolean) (v := 0) hx hb hr rfl (fun t ht hW => ⟨⟨0, (), rfl, Option.some.inj hR, by rw [ht]; exact hP, hD⟩, hS.F ht⟩) hS.2.2 dX3_blowsIn_21
    · have hR := (if_pos c13).symm.trans hR
      refine lv_iconst (v := 1) hx hb dX3_blowsIn_16 (by decide) ?_
      refine lv_goto (tgt := 21) hx hb dX3_blowsIn_17 (by decide) ?_
      subst hQ
      subst hAe
      exact W.zret (ty := .boolean) (v := 1) hx hb hr rfl (fun t ht hW => ⟨⟨1, (), rfl, Option.some.inj hR, by rw [ht]; exact hP, hD⟩, hS.F ht⟩) hS.2.2 dX3_blowsIn_21
def fX3_isOverBin (x1 : Int32) (t_at : Int32) (t_wide : Int32) : Option (Int32) :=
  if x1 < t_at then (
   some (0))
  else (
  if (t_at + t_wide) ≤ x1 then (
   some (0))
  else (
  some (1)))
set_option maxHeartbeats 4000000 in
set_option maxRecDepth 100000 in
theorem kX3_isOverBin (l : Launch) (dC : Nat → ClassId) (dI : Nat → Nat → Nat) (cI : ClassId) (a_t a_kinds a_sizes a_tights : Nat) (sz : Nat) (x1 : Int32) (t_hand : Int32) (t_at : Int32) (t_wide : Int32) (t_rim : Int32) (t_fill : Int32) (t_wall : Int32) (t_ceiling : Int32) (t_puff : Int32) (t_period : Int32) (t_second : Int32) (t_score : Int32) (t_thrown : Int32) (t_ballCount : Int32) (R : Int32) (hR : fX3_isOverBin x1 t_at t_wide = some R) : Met l yX3_isOverBin wsX3_isOverBin ({ frames := 0, cells := 0, slots := 0, locals := 0 } : Room) (va_Pc [.ref a_t, .int x1] (Wp (dC, dI) [(cI, .int)] [(a_t, .inr (3, [.int t_hand, .int t_at, .int t_wide, .int t_rim, .int t_fill, .int t_wall, .int t_ceiling, .int t_puff, .int t_period, .int t_second, .int t_score, .int t_thrown, .int t_ballCount, .ref a_kinds, .ref a_sizes, .ref a_tights]))] sz)) (va_Qi (fun (r : Int32) (_ : Unit) => r = R) (Wq (dC, dI) [(a_t, .inr (3, [.int t_hand, .int t_at, .int t_wide, .int t_rim, .int t_fill, .int t_wall, .int t_ceiling, .int t_puff, .int t_period, .int t_second, .int t_score, .int t_thrown, .int t_ballCount, .ref a_kinds, .ref a_sizes, .ref a_tights]))] sz (fun (_ : Unit) => ([(a_t, .inr (3, [.int t_hand, .int t_at, .int t_wide, .int t_rim, .int t_fill, .int t_wall, .int t_ceiling, .int t_puff, .int t_period, .int t_second, .int t_score, .int t_thrown, .int t_ballCount, .ref a_kinds, .ref a_sizes, .ref a_tights]))] : va_W))) (va_A [(a_t, .inr (3, [.int t_hand, .int t_at, .int t_wide, .int t_rim, .int t_fill, .int t_wall, .int t_ceiling, .int t_puff, .int t_period, .int t_second, .int t_score, .int t_thrown, .int t_ballCount, .ref a_kinds, .ref a_sizes, .ref a_tights]))] sz)) 0 0 (va_A [(a_t, .inr (3, [.int t_hand, .int t_at, .int t_wide, .int t_rim, .int t_fill, .int t_wall, .int t_ceiling, .int t_puff, .int t_period, .int t_second, .int t_score, .int t_thrown, .int t_ballCount, .ref a_kinds, .ref a_sizes, .ref a_tights]))] sz) := by
  refine Met.ofW (cc := cX3_isOverBin) (maxL := 2) (ret := (some .boolean)) (by decide) rfl ?_
  intro p e s m args below meth c s₁ B hml hv
  obtain ⟨hargs, hsz, hP, hK, hD0, hN⟩ := hv
  have hx := B.exec
  have hb := B.bytes
  have hr := B.returns
  have hts := atoms_spec (ws := wsX3_isOverBin) B.pre
  have hown : s.vm.findClass RX3 = some m.cls := findClass_of_methodNamed B.named
  have hlocks := B.notSynchronized
  subst hsz
  have hD := hD0.self (sz := s.heap.size)
  obtain ⟨A, hAe⟩ : ∃ A, A = va_A [(a_t, .inr (3, [.int t_hand, .int t_at, .int t_wide, .int t_rim, .int t_fill, .int t_wall, .int t_ceiling, .int t_puff, .int t_period, .int t_second, .int t_score, .int t_thrown, .int t_ballCount, .ref a_kinds, .ref a_sizes, .ref a_tights]))] s.heap.size := ⟨_, rfl⟩
  rw [← hAe] at hD
  have hA : ∀ q : Nat, s.heap.size ≤ q → A q := fun q h => by rw [hAe]; exact Or.inr h
  have hS : va_S A s.heap s.heap [] := va_S.rf
  have hl := lv_entry ([.ref a_t, .int x1]) (n := 2) (Nat.le_of_ble_eq_true rfl)
  rw [e_of hargs, lg_entry_eq]
  generalize (lg_sl ([.ref a_t, .int x1]) ++ List.replicate (2 - (lg_sl ([.ref a_t, .int x1])).length) Slot.unset).toArray = ls at hl ⊢
  have hl : lv_has ls 2 [(0, .ref a_t), (1, .int x1)] := hl
  have hinX3 : ∀ w ∈ wsX30, w ∈ wsX3_isOverBin := by decide +kernel
  refine w_q ({ frames := 0, cells := 0, slots := 0, locals := 0 } : Room) (fun Q0 hQ => ?_)
  rw [fX3_isOverBin] at hR
  refine lv_iload_n hx hb dX3_isOverBin_0 rfl (lv_at hl 1 rfl) ?_
  refine lv_aload_n hx hb dX3_isOverBin_1 rfl (lv_at hl 0 rfl) ?_
  refine va_get (D := (dC, dI)) (ci := 3) (v := .int t_at) (C := RX3) (T := TX3) (N := 16) hx hb hts hinX3 hown hK hP 0 rfl rfl 1 (by decide) (hts (.fieldLink RX3 15 "PaperInBin$Office" "at" "I") (by decide +kernel)) (fun _ h9 => h9) rfl dX3_isOverBin_2 ?_
  refine lv_icmp_lt (tgt := 25) hx hb dX3_isOverBin_5 (by decide) (fun c5 => ?_) (fun c5 => ?_)
  · have hR := (if_pos c5).symm.trans hR
    refine lv_iconst (v := 0) hx hb dX3_isOverBin_25 (by decide) ?_
    subst hQ
    subst hAe
    exact W.zret (ty := .boolean) (v := 0) hx hb hr rfl (fun t ht hW => ⟨⟨0, (), rfl, Option.some.inj hR, by rw [ht]; exact hP, hD⟩, hS.F ht⟩) hS.2.2 dX3_isOverBin_26
  · have hR := (if_neg c5).symm.trans hR
    refine lv_iload_n hx hb dX3_isOverBin_8 rfl (lv_at hl 1 rfl) ?_
    refine lv_aload_n hx hb dX3_isOverBin_9 rfl (lv_at hl 0 rfl) ?_
    refine va_get (D := (dC, dI)) (ci := 3) (v := .int t_at) (C := RX3) (T := TX3) (N := 16) hx hb hts hinX3 hown hK hP 0 rfl rfl 1 (by decide) (hts (.fieldLink RX3 15 "PaperInBin$Office" "at" "I") (by decide +kernel)) (fun _ h9 => h9) rfl dX3_isOverBin_10 ?_
    refine lv_aload_n hx hb dX3_isOverBin_13 rfl (lv_at hl 0 rfl) ?_
    refine va_get (D := (dC, dI)) (ci := 3) (v := .int t_wide) (C := RX3) (T := TX3) (N := 16) hx hb hts hinX3 hown hK hP 0 rfl rfl 2 (by decide) (hts (.fieldLink RX3 18 "PaperInBin$Office" "wide" "I") (by decide +kernel)) (fun _ h9 => h9) rfl dX3_isOverBin_14 ?_
    refine lv_iadd hx hb dX3_isOverBin_17 ?_
    refine lv_icmp_ge (tgt := 25) hx hb dX3_isOverBin_18 (by decide) (fun c18 => ?_) (fun c18 => ?_)
    · have hR := (if_pos c18).symm.trans hR
      refine lv_iconst (v := 0) hx hb dX3_isOverBin_25 (by decide) ?_
      subst hQ
      subst hAe
      exact W.zret (ty := .boolean) (v := 0) hx hb hr rfl (fun t ht hW => ⟨⟨0, (), rfl, Option.some.inj hR, by rw [ht]; exact hP, hD⟩, hS.F ht⟩) hS.2.2 dX3_isOverBin_26
    · have hR := (if_neg c18).symm.trans hR
      refine lv_iconst (v := 1) hx hb dX3_isOverBin_21 (by decide) ?_
      refine lv_goto (tgt := 26) hx hb dX3_isOverBin_22 (by decide) ?_
      subst hQ
      subst hAe
      exact W.zret (ty := .boolean) (v := 1) hx hb hr rfl (fun t ht hW => ⟨⟨1, (), rfl, Option.some.inj hR, by rw [ht]; exact hP, hD⟩, hS.F ht⟩) hS.2.2 dX3_isOverBin_26
def fX3_isBesideBin (x1 : Int32) (t_at : Int32) (t_wide : Int32) : Option (Int32) :=
  if x1 = (t_at - 1) then (
   some (1))
  else (
  if x1 = (t_at + t_wide) then (
   some (1))
  else (
  some (0)))
set_option maxHeartbeats 4000000 in
set_option maxRecDepth 100000 in
theorem kX3_isBesideBin (l : Launch) (dC : Nat → ClassId) (dI : Nat → Nat → Nat) (cI : ClassId) (a_t a_kinds a_sizes a_tights : Nat) (sz : Nat) (x1 : Int32) (t_hand : Int32) (t_at : Int32) (t_wide : Int32) (t_rim : Int32) (t_fill : Int32) (t_wall : Int32) (t_ceiling : Int32) (t_puff : Int32) (t_period : Int32) (t_second : Int32) (t_score : Int32) (t_thrown : Int32) (t_ballCount : Int32) (R : Int32) (hR : fX3_isBesideBin x1 t_at t_wide = some R) : Met l yX3_isBesideBin wsX3_isBesideBin ({ frames := 0, cells := 0, slots := 0, locals := 0 } : Room) (va_Pc [.ref a_t, .int x1] (Wp (dC, dI) [(cI, .int)] [(a_t, .inr (3, [.int t_hand, .int t_at, .int t_wide, .int t_rim, .int t_fill, .int t_wall, .int t_ceiling, .int t_puff, .int t_period, .int t_second, .int t_score, .int t_thrown, .int t_ballCount, .ref a_kinds, .ref a_sizes, .ref a_tights]))] sz)) (va_Qi (fun (r : Int32) (_ : Unit) => r = R) (Wq (dC, dI) [(a_t, .inr (3, [.int t_hand, .int t_at, .int t_wide, .int t_rim, .int t_fill, .int t_wall, .int t_ceiling, .int t_puff, .int t_period, .int t_second, .int t_score, .int t_thrown, .int t_ballCount, .ref a_kinds, .ref a_sizes, .ref a_tights]))] sz (fun (_ : Unit) => ([(a_t, .inr (3, [.int t_hand, .int t_at, .int t_wide, .int t_rim, .int t_fill, .int t_wall, .int t_ceiling, .int t_puff, .int t_period, .int t_second, .int t_score, .int t_thrown, .int t_ballCount, .ref a_kinds, .ref a_sizes, .ref a_tights]))] : va_W))) (va_A [(a_t, .inr (3, [.int t_hand, .int t_at, .int t_wide, .int t_rim, .int t_fill, .int t_wall, .int t_ceiling, .int t_puff, .int t_period, .int t_second, .int t_score, .int t_thrown, .int t_ballCount, .ref a_kinds, .ref a_sizes, .ref a_tights]))] sz)) 0 0 (va_A [(a_t, .inr (3, [.int t_hand, .int t_at, .int t_wide, .int t_rim, .int t_fill, .int t_wall, .int t_ceiling, .int t_puff, .int t_period, .int t_second, .int t_score, .int t_thrown, .int t_ballCount, .ref a_kinds, .ref a_sizes, .ref a_tights]))] sz) := by
  refine Met.ofW (cc := cX3_isBesideBin) (maxL := 2) (ret := (some .boolean)) (by decide) rfl ?_
  intro p e s m args below meth c s₁ B hml hv
  obtain ⟨hargs, hsz, hP, hK, hD0, hN⟩ := hv
  have hx := B.exec
  have hb := B.bytes
  have hr := B.returns
  have hts := atoms_spec (ws := wsX3_isBesideBin) B.pre
  have hown : s.vm.findClass RX3 = some m.cls := findClass_of_methodNamed B.named
  have hlocks := B.notSynchronized
  subst hsz
  have hD := hD0.self (sz := s.heap.size)
  obtain ⟨A, hAe⟩ : ∃ A, A = va_A [(a_t, .inr (3, [.int t_hand, .int t_at, .int t_wide, .int t_rim, .int t_fill, .int t_wall, .int t_ceiling, .int t_puff, .int t_period, .int t_second, .int t_score, .int t_thrown, .int t_ballCount, .ref a_kinds, .ref a_sizes, .ref a_tights]))] s.heap.size := ⟨_, rfl⟩
  rw [← hAe] at hD
  have hA : ∀ q : Nat, s.heap.size ≤ q → A q := fun q h => by rw [hAe]; exact Or.inr h
  have hS : va_S A s.heap s.heap [] := va_S.rf
  have hl := lv_entry ([.ref a_t, .int x1]) (n := 2) (Nat.le_of_ble_eq_true rfl)
  rw [e_of hargs, lg_entry_eq]
  generalize (lg_sl ([.ref a_t, .int x1]) ++ List.replicate (2 - (lg_sl ([.ref a_t, .int x1])).length) Slot.unset).toArray = ls at hl ⊢
  have hl : lv_has ls 2 [(0, .ref a_t), (1, .int x1)] := hl
  have hinX3 : ∀ w ∈ wsX30, w ∈ wsX3_isBesideBin := by decide +kernel
  refine w_q ({ frames := 0, cells := 0, slots := 0, locals := 0 } : Room) (fun Q0 hQ => ?_)
  rw [fX3_isBesideBin] at hR
  refine lv_iload_n hx hb dX3_isBesideBin_0 rfl (lv_at hl 1 rfl) ?_
  refine lv_aload_n hx hb dX3_isBesideBin_1 rfl (lv_at hl 0 rfl) ?_
  refine va_get (D := (dC, dI)) (ci := 3) (v := .int t_at) (C := RX3) (T := TX3) (N := 16) hx hb hts hinX3 hown hK hP 0 rfl rfl 1 (by decide) (hts (.fieldLink RX3 15 "PaperInBin$Office" "at" "I") (by decide +kernel)) (fun _ h9 => h9) rfl dX3_isBesideBin_2 ?_
  refine lv_iconst (v := 1) hx hb dX3_isBesideBin_5 (by decide) ?_
  refine lv_isub hx hb dX3_isBesideBin_6 ?_
  refine lv_icmp_eq (tgt := 23) hx hb dX3_isBesideBin_7 (by decide) (fun c7 => ?_) (fun c7 => ?_)
  · have hR := (if_pos c7).symm.trans hR
    refine lv_iconst (v := 1) hx hb dX3_isBesideBin_23 (by decide) ?_
    refine lv_goto (tgt := 28) hx hb dX3_isBesideBin_24 (by decide) ?_
    subst hQ
    subst hAe
    exact W.zret (ty := .boolean) (v := 1) hx hb hr rfl (fun t ht hW => ⟨⟨1, (), rfl, Option.some.inj hR, by rw [ht]; exact hP, hD⟩, hS.F ht⟩) hS.2.2 dX3_isBesideBin_28
  · have hR := (if_neg c7).symm.trans hR
    refine lv_iload_n hx hb dX3_isBesideBin_10 rfl (lv_at hl 1 rfl) ?_
    refine lv_aload_n hx hb dX3_isBesideBin_11 rfl (lv_at hl 0 rfl) ?_
    refine va_get (D := (dC, dI)) (ci := 3) (v := .int t_at) (C := RX3) (T := TX3) (N := 16) hx hb hts hinX3 hown hK hP 0 rfl rfl 1 (by decide) (hts (.fieldLink RX3 15 "PaperInBin$Office" "at" "I") (by decide +kernel)) (fun _ h9 => h9) rfl dX3_isBesideBin_12 ?_
    refine lv_aload_n hx hb dX3_isBesideBin_15 rfl (lv_at hl 0 rfl) ?_
    refine va_get (D := (dC, dI)) (ci := 3) (v := .int t_wide) (C := RX3) (T := TX3) (N := 16) hx hb hts hinX3 hown hK hP 0 rfl rfl 2 (by decide) (hts (.fieldLink RX3 18 "PaperInBin$Office" "wide" "I") (by decide +kernel)) (fun _ h9 => h9) rfl dX3_isBesideBin_16 ?_
    refine lv_iadd hx hb dX3_isBesideBin_19 ?_
    refine lv_icmp_ne (tgt := 27) hx hb dX3_isBesideBin_20 (by decide) (fun c20 => ?_) (fun c20 => ?_)
    · have hR := (if_neg c20).symm.trans hR
      refine lv_iconst (v := 0) hx hb dX3_isBesideBin_27 (by decide) ?_
      subst hQ
      subst hAe
      exact W.zret (ty := .boolean) (v := 0) hx hb hr rfl (fun t ht hW => ⟨⟨0, (), rfl, Option.some.inj hR, by rw [ht]; exact hP, hD⟩, hS.F ht⟩) hS.2.2 dX3_isBesideBin_28
    · have hR := (if_pos c20).symm.trans hR
      refine lv_iconst (v := 1) hx hb dX3_isBesideBin_23 (by decide) ?_
      refine lv_goto (tgt := 28) hx hb dX3_isBesideBin_24 (by decide) ?_
      subst hQ
      subst hAe
      exact W.zret (ty := .boolean) (v := 1) hx hb hr rfl (fun t ht hW => ⟨⟨1, (), rfl, Option.some.inj hR, by rw [ht]; exact hP, hD⟩, hS.F ht⟩) hS.2.2 dX3_isBesideBin_28
def fX3_noteThrow (x1 : Int32) (t_fill : Int32) (t_second : Int32) (t_score : Int32) (t_thrown : Int32) : Option (Int32 × Int32 × Int32 × Int32) :=
  if x1 = 0 then (
   some ((t_fill + 1), (t_second + 1), (t_score + 1), (t_thrown + 1)))
  else (
  some (t_fill, (t_second + 1), t_score, (t_thrown + 1)))
set_option maxHeartbeats 4000000 in
set_option maxRecDepth 100000 in
theorem kX3_noteThrow (l : Launch) (dC : Nat → ClassId) (dI : Nat → Nat → Nat) (cI : ClassId) (a_t a_kinds a_sizes a_tights : Nat) (sz : Nat) (x1 : Int32) (t_hand : Int32) (t_at : Int32) (t_wide : Int32) (t_rim : Int32) (t_fill : Int32) (t_wall : Int32) (t_ceiling : Int32) (t_puff : Int32) (t_period : Int32) (t_second : Int32) (t_score : Int32) (t_thrown : Int32) (t_ballCount : Int32) (R : Int32 × Int32 × Int32 × Int32) (hR : fX3_noteThrow x1 t_fill t_second t_score t_thrown = some R) : Met l yX3_noteThrow wsX3_noteThrow ({ frames := 0, cells := 0, slots := 0, locals := 0 } : Room) (va_Pc [.ref a_t, .int x1] (Wp (dC, dI) [(cI, .int)] [(a_t, .inr (3, [.int t_hand, .int t_at, .int t_wide, .int t_rim, .int t_fill, .int t_wall, .int t_ceiling, .int t_puff, .int t_period, .int t_second, .int t_score, .int t_thrown, .int t_ballCount, .ref a_kinds, .ref a_sizes, .ref a_tights]))] sz)) (va_Qv (fun (u : Int32 × Int32 × Int32 × Int32) => u = R) (Wq (dC, dI) [(a_t, .inr (3, [.int t_hand, .int t_at, .int t_wide, .int t_rim, .int t_fill, .int t_wall, .int t_ceiling, .int t_puff, .int t_period, .int t_second, .int t_score, .int t_thrown, .int t_ballCount, .ref a_kinds, .ref a_sizes, .ref a_tights]))] sz (fun (u : Int32 × Int32 × Int32 × Int32) => ([(a_t, .inr (3, [.int t_hand, .int t_at, .int t_wide, .int t_rim, .int u.1, .int t_wall, .int t_ceiling, .int t_puff, .int t_period, .int u.2.1, .int u.2.2.1, .int u.2.2.2, .int t_ballCount, .ref a_kinds, .ref a_sizes, .ref a_tights]))] : va_W))) (va_A [(a_t, .inr (3, [.int t_hand, .int t_at, .int t_wide, .int t_rim, .int t_fill, .int t_wall, .int t_ceiling, .int t_puff, .int t_period, .int t_second, .int t_score, .int t_thrown, .int t_ballCount, .ref a_kinds, .ref a_sizes, .ref a_tights]))] sz)) 0 0 (va_A [(a_t, .inr (3, [.int t_hand, .int t_at, .int t_wide, .int t_rim, .int t_fill, .int t_wall, .int t_ceiling, .int t_puff, .int t_period, .int t_second, .int t_score, .int t_thrown, .int t_ballCount, .ref a_kinds, .ref a_sizes, .ref a_tights]))] sz) := by
  refine Met.ofW (cc := cX3_noteThrow) (maxL := 2) (ret := none) (by decide) rfl ?_
  intro p e s m args below meth c s₁ B hml hv
  obtain ⟨hargs, hsz, hP, hK, hD0, hN⟩ := hv
  have hx := B.exec
  have hb := B.bytes
  have hr := B.returns
  have hts := atoms_spec (ws := wsX3_noteThrow) B.pre
  have hown : s.vm.findClass RX3 = some m.cls := findClass_of_methodNamed B.named
  have hlocks := B.notSynchronized
  subst hsz
  have hD := hD0.self (sz := s.heap.size)
  obtain ⟨A, hAe⟩ : ∃ A, A = va_A [(a_t, .inr (3, [.int t_hand, .int t_at, .int t_wide, .int t_rim, .int t_fill, .int t_wall, .int t_ceiling, .int t_puff, .int t_period, .int t_second, .int t_score, .int t_thrown, .int t_ballCount, .ref a_kinds, .ref a_sizes, .ref a_tights]))] s.heap.size := ⟨_, rfl⟩
  rw [← hAe] at hD
  have hA : ∀ q : Nat, s.heap.size ≤ q → A q := fun q h => by rw [hAe]; exact Or.inr h
  have hS : va_S A s.heap s.heap [] := va_S.rf
  have hl := lv_entry ([.ref a_t, .int x1]) (n := 2) (Nat.le_of_ble_eq_true rfl)
  rw [e_of hargs, lg_entry_eq]
  generalize (lg_sl ([.ref a_t, .int x1]) ++ List.replicate (2 - (lg_sl ([.ref a_t, .int x1])).length) Slot.unset).toArray = ls at hl ⊢
  have hl : lv_has ls 2 [(0, .ref a_t), (1, .int x1)] := hl
  have hinX3 : ∀ w ∈ wsX30, w ∈ wsX3_noteThrow := by decide +kernel
  refine w_q ({ frames := 0, cells := 0, slots := 0, locals := 0 } : Room) (fun Q0 hQ => ?_)
  rw [fX3_noteThrow] at hR
  refine lv_aload_n hx hb dX3_noteThrow_0 rfl (lv_at hl 0 rfl) ?_
  refine lv_dup hx hb dX3_noteThrow_1 rfl ?_
  refine va_get (D := (dC, dI)) (ci := 3) (v := .int t_second) (C := RX3) (T := TX3) (N := 16) hx hb hts hinX3 hown hK hP 0 rfl rfl 9 (by decide) (hts (.fieldLink RX3 39 "PaperInBin$Office" "second" "I") (by decide +kernel)) (fun _ h9 => h9) rfl dX3_noteThrow_2 ?_
  refine lv_iconst (v := 1) hx hb dX3_noteThrow_5 (by decide) ?_
  refine lv_iadd hx hb dX3_noteThrow_6 ?_
  refine va_put (D := (dC, dI)) (ci := 3) (v := .int (t_second + 1)) (ty := .int) (C := RX3) (T := TX3) (N := 16) hx hb hts hinX3 tyX3 tyX3_ok nmX3 hown hK hP hD hS 0 rfl rfl 9 (by decide) (hts (.fieldLink RX3 39 "PaperInBin$Office" "second" "I") (by decide +kernel)) (fun _ h9 => h9) rfl (tyX3_ok 9 (by decide)) rfl rfl (Nat.le_of_ble_eq_true rfl) dX3_noteThrow_7 (fun H locs hP hD hS => ?_)
  have hP : va_P (dC, dI) vwCl [(a_t, .inr (3, [.int t_hand, .int t_at, .int t_wide, .int t_rim, .int t_fill, .int t_wall, .int t_ceiling, .int t_puff, .int t_period, .int (t_second + 1), .int t_score, .int t_thrown, .int t_ballCount, .ref a_kinds, .ref a_sizes, .ref a_tights]))] H := hP
  have hD : va_D A [(a_t, .inr (3, [.int t_hand, .int t_at, .int t_wide, .int t_rim, .int t_fill, .int t_wall, .int t_ceiling, .int t_puff, .int t_period, .int (t_second + 1), .int t_score, .int t_thrown, .int t_ballCount, .ref a_kinds, .ref a_sizes, .ref a_tights]))] := hD
  refine lv_aload_n hx hb dX3_noteThrow_10 rfl (lv_at hl 0 rfl) ?_
  refine lv_dup hx hb dX3_noteThrow_11 rfl ?_
  refine va_get (D := (dC, dI)) (ci := 3) (v := .int t_thrown) (C := RX3) (T := TX3) (N := 16) hx hb hts hinX3 hown hK hP 0 rfl rfl 11 (by decide) (hts (.fieldLink RX3 45 "PaperInBin$Office" "thrown" "I") (by decide +kernel)) (fun _ h9 => h9) rfl dX3_noteThrow_12 ?_
  refine lv_iconst (v := 1) hx hb dX3_noteThrow_15 (by decide) ?_
  refine lv_iadd hx hb dX3_noteThrow_16 ?_
  refine va_put (D := (dC, dI)) (ci := 3) (v := .int (t_thrown + 1)) (ty := .int) (C := RX3) (T := TX3) (N := 16) hx hb hts hinX3 tyX3 tyX3_ok nmX3 hown hK hP hD hS 0 rfl rfl 11 (by decide) (hts (.fieldLink RX3 45 "PaperInBin$Office" "thrown" "I") (by decide +kernel)) (fun _ h9 => h9) rfl (tyX3_ok 11 (by decide)) rfl rfl (Nat.le_of_ble_eq_true rfl) dX3_noteThrow_17 (fun H locs hP hD hS => ?_)
  have hP : va_P (dC, dI) vwCl [(a_t, .inr (3, [.int t_hand, .int t_at, .int t_wide, .int t_rim, .int t_fill, .int t_wall, .int t_ceiling, .int t_puff, .int t_period, .int (t_second + 1), .int t_score, .int (t_thrown + 1), .int t_ballCount, .ref a_kinds, .ref a_sizes, .ref a_tights]))] H := hP
  have hD : va_D A [(a_t, .inr (3, [.int t_hand, .int t_at, .int t_wide, .int t_rim, .int t_fill, .int t_wall, .int t_ceiling, .int t_puff, .int t_period, .int (t_second + 1), .int t_score, .int (t_thrown + 1), .int t_ballCount, .ref a_kinds, .ref a_sizes, .ref a_tights]))] := hD
  refine lv_iload_n hx hb dX3_noteThrow_20 rfl (lv_at hl 1 rfl) ?_
  refine lv_if_ne (tgt := 44) hx hb dX3_noteThrow_21 (by decide) (fun c21 => ?_) (fun c21 => ?_)
  · have hR := (if_neg c21).symm.trans hR
    subst hQ
    subst hAe
    exact W.vret hx hb hr (fun t ht hW => ⟨⟨(t_fill, (t_second + 1), t_score, (t_thrown + 1)), rfl, Option.some.inj hR, by rw [ht]; exact hP, hD⟩, hS.F ht⟩) hS.2.2 dX3_noteThrow_44
  · have hR := (if_pos c21).symm.trans hR
    refine lv_aload_n hx hb dX3_noteThrow_24 rfl (lv_at hl 0 rfl) ?_
    refine lv_dup hx hb dX3_noteThrow_25 rfl ?_
    refine va_get (D := (dC, dI)) (ci := 3) (v := .int t_score) (C := RX3) (T := TX3) (N := 16) hx hb hts hinX3 hown hK hP 0 rfl rfl 10 (by decide) (hts (.fieldLink RX3 42 "PaperInBin$Office" "score" "I") (by decide +kernel)) (fun _ h9 => h9) rfl dX3_noteThrow_26 ?_
    refine lv_iconst (v := 1) hx hb dX3_noteThrow_29 (by decide) ?_
    refine lv_iadd hx hb dX3_noteThrow_30 ?_
    refine va_put (D := (dC, dI)) (ci := 3) (v := .int (t_score + 1)) (ty := .int) (C := RX3) (T := TX3) (N := 16) hx hb hts hinX3 tyX3 tyX3_ok nmX3 hown hK hP hD hS 0 rfl rfl 10 (by decide) (hts (.fieldLink RX3 42 "PaperInBin$Office" "score" "I") (by decide +kernel)) (fun _ h9 => h9) rfl (tyX3_ok 10 (by decide)) rfl rfl (Nat.le_of_ble_eq_true rfl) dX3_noteThrow_31 (fun H locs hP hD hS => ?_)
    have hP : va_P (dC, dI) vwCl [(a_t, .inr (3, [.int t_hand, .int t_at, .int t_wide, .int t_rim, .int t_fill, .int t_wall, .int t_ceiling, .int t_puff, .int t_period, .int (t_second + 1), .int (t_score + 1), .int (t_thrown + 1), .int t_ballCount, .ref a_kinds, .ref a_sizes, .ref a_tights]))] H := hP
    have hD : va_D A [(a_t, .inr (3, [.int t_hand, .int t_at, .int t_wide, .int t_rim, .int t_fill, .int t_wall, .int t_ceiling, .int t_puff, .int t_period, .int (t_second + 1), .int (t_score + 1), .int (t_thrown + 1), .int t_ballCount, .ref a_kinds, .ref a_sizes, .ref a_tights]))] := hD
    refine lv_aload_n hx hb dX3_noteThrow_34 rfl (lv_at hl 0 rfl) ?_
    refine lv_dup hx hb dX3_noteThrow_35 rfl ?_
    refine va_get (D := (dC, dI)) (ci := 3) (v := .int t_fill) (C := RX3) (T := TX3) (N := 16) hx hb hts hinX3 hown hK hP 0 rfl rfl 4 (by decide) (hts (.fieldLink RX3 24 "PaperInBin$Office" "fill" "I") (by decide +kernel)) (fun _ h9 => h9) rfl dX3_noteThrow_36 ?_
    refine lv_iconst (v := 1) hx hb dX3_noteThrow_39 (by decide) ?_
    refine lv_iadd hx hb dX3_noteThrow_40 ?_
    refine va_put (D := (dC, dI)) (ci := 3) (v := .int (t_fill + 1)) (ty := .int) (C := RX3) (T := TX3) (N := 16) hx hb hts hinX3 tyX3 tyX3_ok nmX3 hown hK hP hD hS 0 rfl rfl 4 (by decide) (hts (.fieldLink RX3 24 "PaperInBin$Office" "fill" "I") (by decide +kernel)) (fun _ h9 => h9) rfl (tyX3_ok 4 (by decide)) rfl rfl (Nat.le_of_ble_eq_true rfl) dX3_noteThrow_41 (fun H locs hP hD hS => ?_)
    have hP : va_P (dC, dI) vwCl [(a_t, .inr (3, [.int t_hand, .int t_at, .int t_wide, .int t_rim, .int (t_fill + 1), .int t_wall, .int t_ceiling, .int t_puff, .int t_period, .int (t_second + 1), .int (t_score + 1), .int (t_thrown + 1), .int t_ballCount, .ref a_kinds, .ref a_sizes, .ref a_tights]))] H := hP
    have hD : va_D A [(a_t, .inr (3, [.int t_hand, .int t_at, .int t_wide, .int t_rim, .int (t_fill + 1), .int t_wall, .int t_ceiling, .int t_puff, .int t_period, .int (t_second + 1), .int (t_score + 1), .int (t_thrown + 1), .int t_ballCount, .ref a_kinds, .ref a_sizes, .ref a_tights]))] := hD
    subst hQ
    subst hAe
    exact W.vret hx hb hr (fun t ht hW => ⟨⟨((t_fill + 1), (t_second + 1), (t_score + 1), (t_thrown + 1)), rfl, Option.some.inj hR, by rw [ht]; exact hP, hD⟩, hS.F ht⟩) hS.2.2 dX3_noteThrow_44
def fX3_isWithin (x0 : Int32) (x1 : Int32) (x2 : Int32) : Option (Int32) :=
  if x0 < x1 then (
   some (0))
  else (
  if x2 < x0 then (
   some (0))
  else (
  some (1)))
set_option maxHeartbeats 4000000 in
set_option maxRecDepth 100000 in
theorem kX3_isWithin (l : Launch) (dC : Nat → ClassId) (dI : Nat → Nat → Nat) (cI : ClassId) (sz : Nat) (x0 : Int32) (x1 : Int32) (x2 : Int32) (R : Int32) (hR : fX3_isWithin x0 x1 x2 = some R) : Met l yX3_isWithin wsX3_isWithin ({ frames := 0, cells := 0, slots := 0, locals := 0 } : Room) (va_Pc [.int x0, .int x1, .int x2] (Wp (dC, dI) [(cI, .int)] [] sz)) (va_Qi (fun (r : Int32) (_ : Unit) => r = R) (Wq (dC, dI) [] sz (fun (_ : Unit) => ([] : va_W))) (va_A [] sz)) 0 0 (va_A [] sz) := by
  refine Met.ofW (cc := cX3_isWithin) (maxL := 3) (ret := (some .boolean)) (by decide) rfl ?_
  intro p e s m args below meth c s₁ B hml hv
  obtain ⟨hargs, hsz, hP, hK, hD0, hN⟩ := hv
  have hx := B.exec
  have hb := B.bytes
  have hr := B.returns
  have hts := atoms_spec (ws := wsX3_isWithin) B.pre
  have hown : s.vm.findClass RX3 = some m.cls := findClass_of_methodNamed B.named
  have hlocks := B.notSynchronized
  subst hsz
  have hD := hD0.self (sz := s.heap.size)
  obtain ⟨A, hAe⟩ : ∃ A, A = va_A [] s.heap.size := ⟨_, rfl⟩
  rw [← hAe] at hD
  have hA : ∀ q : Nat, s.heap.size ≤ q → A q := fun q h => by rw [hAe]; exact Or.inr h
  have hS : va_S A s.heap s.heap [] := va_S.rf
  have hl := lv_entry ([.int x0, .int x1, .int x2]) (n := 3) (Nat.le_of_ble_eq_true rfl)
  rw [e_of hargs, lg_entry_eq]
  generalize (lg_sl ([.int x0, .int x1, .int x2]) ++ List.replicate (3 - (lg_sl ([.int x0, .int x1, .int x2])).length) Slot.unset).toArray = ls at hl ⊢
  have hl : lv_has ls 3 [(0, .int x0), (1, .int x1), (2, .int x2)] := hl
  refine w_q ({ frames := 0, cells := 0, slots := 0, locals := 0 } : Room) (fun Q0 hQ => ?_)
  rw [fX3_isWithin] at hR
  refine lv_iload_n hx hb dX3_isWithin_0 rfl (lv_at hl 0 rfl) ?_
  refine lv_iload_n hx hb dX3_isWithin_1 rfl (lv_at hl 1 rfl) ?_
  refine lv_icmp_lt (tgt := 14) hx hb dX3_isWithin_2 (by decide) (fun c2 => ?_) (fun c2 => ?_)
  · have hR := (if_pos c2).symm.trans hR
    refine lv_iconst (v := 0) hx hb dX3_isWithin_14 (by decide) ?_
    subst hQ
    subst hAe
    exact W.zret (ty := .boolean) (v := 0) hx hb hr rfl (fun t ht hW => ⟨⟨0, (), rfl, Option.some.inj hR, by rw [ht]; exact hP, hD⟩, hS.F ht⟩) hS.2.2 dX3_isWithin_15
  · have hR := (if_neg c2).symm.trans hR
    refine lv_iload_n hx hb dX3_isWithin_5 rfl (lv_at hl 0 rfl) ?_
    refine lv_iload_n hx hb dX3_isWithin_6 rfl (lv_at hl 2 rfl) ?_
    refine lv_icmp_gt (tgt := 14) hx hb dX3_isWithin_7 (by decide) (fun c7 => ?_) (fun c7 => ?_)
    · have hR := (if_pos c7).symm.trans hR
      refine lv_iconst (v := 0) hx hb dX3_isWithin_14 (by decide) ?_
      subst hQ
      subst hAe
      exact W.zret (ty := .boolean) (v := 0) hx hb hr rfl (fun t ht hW => ⟨⟨0, (), rfl, Option.some.inj hR, by rw [ht]; exact hP, hD⟩, hS.F ht⟩) hS.2.2 dX3_isWithin_15
    · have hR := (if_neg c7).symm.trans hR
      refine lv_iconst (v := 1) hx hb dX3_isWithin_10 (by decide) ?_
      refine lv_goto (tgt := 15) hx hb dX3_isWithin_11 (by decide) ?_
      subst hQ
      subst hAe
      exact W.zret (ty := .boolean) (v := 1) hx hb hr rfl (fun t ht hW => ⟨⟨1, (), rfl, Option.some.inj hR, by rw [ht]; exact hP, hD⟩, hS.F ht⟩) hS.2.2 dX3_isWithin_15
def fX3_setBin (x1 : Int32) (x2 : Int32) (x3 : Int32) (t_at : Int32) (t_wide : Int32) (t_rim : Int32) (t_wall : Int32) : Option (Int32 × Int32 × Int32 × Int32) :=
  b1 (fX3_isWithin x1 1 40) (fun r1 =>
  if r1 = 0 then (
   some (0, t_at, t_wide, t_rim))
  else (
  b1 (fX3_isWithin x2 1 5) (fun r3 =>
  if r3 = 0 then (
   some (0, t_at, t_wide, t_rim))
  else (
  b1 (fX3_isWithin x3 1 9) (fun r5 =>
  if r5 = 0 then (
   some (0, t_at, t_wide, t_rim))
  else (
  if (x1 + x2) ≤ t_wall then (
   some (1, x1, x2, x3))
  else (
  some (0, t_at, t_wide, t_rim))))))))
set_option maxHeartbeats 4000000 in
set_option maxRecDepth 100000 in
theorem kX3_setBin (l : Launch) (dC : Nat → ClassId) (dI : Nat → Nat → Nat) (cI : ClassId) (a_t a_kinds a_sizes a_tights : Nat) (sz : Nat) (x1 : Int32) (x2 : Int32) (x3 : Int32) (t_hand : Int32) (t_at : Int32) (t_wide : Int32) (t_rim : Int32) (t_fill : Int32) (t_wall : Int32) (t_ceiling : Int32) (t_puff : Int32) (t_period : Int32) (t_second : Int32) (t_score : Int32) (t_thrown : Int32) (t_ballCount : Int32) (R : Int32 × Int32 × Int32 × Int32) (hR : fX3_setBin x1 x2 x3 t_at t_wide t_rim t_wall = some R) : Met l yX3_setBin wsX3_setBin ({ frames := 1, cells := 0, slots := 0, locals := 22 } : Room) (va_Pc [.ref a_t, .int x1, .int x2, .int x3] (Wp (dC, dI) [(cI, .int)] [(a_t, .inr (3, [.int t_hand, .int t_at, .int t_wide, .int t_rim, .int t_fill, .int t_wall, .int t_ceiling, .int t_puff, .int t_period, .int t_second, .int t_score, .int t_thrown, .int t_ballCount, .ref a_kinds, .ref a_sizes, .ref a_tights]))] sz)) (va_Qi (fun (r : Int32) (u : Int32 × Int32 × Int32) => (r, u) = R) (Wq (dC, dI) [(a_t, .inr (3, [.int t_hand, .int t_at, .int t_wide, .int t_rim, .int t_fill, .int t_wall, .int t_ceiling, .int t_puff, .int t_period, .int t_second, .int t_score, .int t_thrown, .int t_ballCount, .ref a_kinds, .ref a_sizes, .ref a_tights]))] sz (fun (u : Int32 × Int32 × Int32) => ([(a_t, .inr (3, [.int t_hand, .int u.1, .int u.2.1, .int u.2.2, .int t_fill, .int t_wall, .int t_ceiling, .int t_puff, .int t_period, .int t_second, .int t_score, .int t_thrown, .int t_ballCount, .ref a_kinds, .ref a_sizes, .ref a_tights]))] : va_W))) (va_A [(a_t, .inr (3, [.int t_hand, .int t_at, .int t_wide, .int t_rim, .int t_fill, .int t_wall, .int t_ceiling, .int t_puff, .int t_period, .int t_second, .int t_score, .int t_thrown, .int t_ballCount, .ref a_kinds, .ref a_sizes, .ref a_tights]))] sz)) 0 0 (va_A [(a_t, .inr (3, [.int t_hand, .int t_at, .int t_wide, .int t_rim, .int t_fill, .int t_wall, .int t_ceiling, .int t_puff, .int t_period, .int t_second, .int t_score, .int t_thrown, .int t_ballCount, .ref a_kinds, .ref a_sizes, .ref a_tights]))] sz) := by
  refine Met.ofW (cc := cX3_setBin) (maxL := 4) (ret := (some .boolean)) (by decide) rfl ?_
  intro p e s m args below meth c s₁ B hml hv
  obtain ⟨hargs, hsz, hP, hK, hD0, hN⟩ := hv
  have hx := B.exec
  have hb := B.bytes
  have hr := B.returns
  have hts := atoms_spec (ws := wsX3_setBin) B.pre
  have hown : s.vm.findClass RX3 = some m.cls := findClass_of_methodNamed B.named
  have hlocks := B.notSynchronized
  subst hsz
  have hD := hD0.self (sz := s.heap.size)
  obtain ⟨A, hAe⟩ : ∃ A, A = va_A [(a_t, .inr (3, [.int t_hand, .int t_at, .int t_wide, .int t_rim, .int t_fill, .int t_wall, .int t_ceiling, .int t_puff, .int t_period, .int t_second, .int t_score, .int t_thrown, .int t_ballCount, .ref a_kinds, .ref a_sizes, .ref a_tights]))] s.heap.size := ⟨_, rfl⟩
  rw [← hAe] at hD
  have hA : ∀ q : Nat, s.heap.size ≤ q → A q := fun q h => by rw [hAe]; exact Or.inr h
  have hS : va_S A s.heap s.heap [] := va_S.rf
  have hl := lv_entry ([.ref a_t, .int x1, .int x2, .int x3]) (n := 4) (Nat.le_of_ble_eq_true rfl)
  rw [e_of hargs, lg_entry_eq]
  generalize (lg_sl ([.ref a_t, .int x1, .int x2, .int x3]) ++ List.replicate (4 - (lg_sl ([.ref a_t, .int x1, .int x2, .int x3])).length) Slot.unset).toArray = ls at hl ⊢
  have hl : lv_has ls 4 [(0, .ref a_t), (1, .int x1), (2, .int x2), (3, .int x3)] := hl
  have hinX3 : ∀ w ∈ wsX30, w ∈ wsX3_setBin := by decide +kernel
  refine w_q ({ frames := 1, cells := 0, slots := 0, locals := 22 } : Room) (fun Q0 hQ => ?_)
  rw [fX3_setBin] at hR
  refine lv_iload_n hx hb dX3_setBin_0 rfl (lv_at hl 1 rfl) ?_
  refine lv_iconst (v := 1) hx hb dX3_setBin_1 (by decide) ?_
  refine lv_bipush (v := 40) hx hb dX3_setBin_2 (by decide) ?_
  obtain ⟨r1, hu2, hR⟩ := b1_s hR
  refine cl_SiN (As := [.int x1, .int 1, .int 40]) (rest := []) (wc := []) (wr := [(a_t, .inr (3, [.int t_hand, .int t_at, .int t_wide, .int t_rim, .int t_fill, .int t_wall, .int t_ceiling, .int t_puff, .int t_period, .int t_second, .int t_score, .int t_thrown, .int t_ballCount, .ref a_kinds, .ref a_sizes, .ref a_tights]))]) ⟨hx, hb, hml, hown, hts⟩ (kX3_isWithin l dC dI cI s.heap.size x1 1 40 r1 hu2) (cwS 3 hts gX3_setBin_X3_isWithin rfl rfl rfl (by decide +kernel) ⟨Nat.le_of_ble_eq_true rfl, Nat.le_of_ble_eq_true rfl⟩) hK hN hP hD hS hA [] [0] rfl rfl rfl rfl rfl (by decide) rfl hl.1 rfl (Nat.le_of_ble_eq_true rfl) dX3_setBin_4 (fun H locs hP hD hS => ?_)
  have hP : va_P (dC, dI) vwCl [(a_t, .inr (3, [.int t_hand, .int t_at, .int t_wide, .int t_rim, .int t_fill, .int t_wall, .int t_ceiling, .int t_puff, .int t_period, .int t_second, .int t_score, .int t_thrown, .int t_ballCount, .ref a_kinds, .ref a_sizes, .ref a_tights]))] H := hP
  have hD : va_D A [(a_t, .inr (3, [.int t_hand, .int t_at, .int t_wide, .int t_rim, .int t_fill, .int t_wall, .int t_ceiling, .int t_puff, .int t_period, .int t_second, .int t_score, .int t_thrown, .int t_ballCount, .ref a_kinds, .ref a_sizes, .ref a_tights]))] := hD
  refine lv_if_eq (tgt := 39) hx hb dX3_setBin_7 (by decide) (fun c7 => ?_) (fun c7 => ?_)
  · have hR := (if_pos c7).symm.trans hR
    refine lv_iconst (v := 0) hx hb dX3_setBin_39 (by decide) ?_
    subst hQ
    subst hAe
    exact W.zret (ty := .boolean) (v := 0) hx hb hr rfl (fun t ht hW => ⟨⟨0, (t_at, t_wide, t_rim), rfl, Option.some.inj hR, by rw [ht]; exact hP, hD⟩, hS.F ht⟩) hS.2.2 dX3_setBin_40
  · have hR := (if_neg c7).symm.trans hR
    refine lv_iload_n hx hb dX3_setBin_10 rfl (lv_at hl 2 rfl) ?_
    refine lv_iconst (v := 1) hx hb dX3_setBin_11 (by decide) ?_
    refine lv_iconst (v := 5) hx hb dX3_setBin_12 (by decide) ?_
    obtain ⟨r3, hu4, hR⟩ := b1_s hR
    refine cl_SiN (As := [.int x2, .int 1, .int 5]) (rest := []) (wc := []) (wr := [(a_t, .inr (3, [.int t_hand, .int t_at, .int t_wide, .int t_rim, .int t_fill, .int t_wall, .int t_ceiling, .int t_puff, .int t_period, .int t_second, .int t_score, .int t_thrown, .int t_ballCount, .ref a_kinds, .ref a_sizes, .ref a_tights]))]) ⟨hx, hb, hml, hown, hts⟩ (kX3_isWithin l dC dI cI H.size x2 1 5 r3 hu4) (cwS 3 hts gX3_setBin_X3_isWithin rfl rfl rfl (by decide +kernel) ⟨Nat.le_of_ble_eq_true rfl, Nat.le_of_ble_eq_true rfl⟩) hK hN hP hD hS hA [] [0] rfl rfl rfl rfl rfl (by decide) rfl hl.1 rfl (Nat.le_of_ble_eq_true rfl) dX3_setBin_13 (fun H locs hP hD hS => ?_)
    have hP : va_P (dC, dI) vwCl [(a_t, .inr (3, [.int t_hand, .int t_at, .int t_wide, .int t_rim, .int t_fill, .int t_wall, .int t_ceiling, .int t_puff, .int t_period, .int t_second, .int t_score, .int t_thrown, .int t_ballCount, .ref a_kinds, .ref a_sizes, .ref a_tights]))] H := hP
    have hD : va_D A [(a_t, .inr (3, [.int t_hand, .int t_at, .int t_wide, .int t_rim, .int t_fill, .int t_wall, .int t_ceiling, .int t_puff, .int t_period, .int t_second, .int t_score, .int t_thrown, .int t_ballCount, .ref a_kinds, .ref a_sizes, .ref a_tights]))] := hD
    refine lv_if_eq (tgt := 39) hx hb dX3_setBin_16 (by decide) (fun c16 => ?_) (fun c16 => ?_)
    · have hR := (if_pos c16).symm.trans hR
      refine lv_iconst (v := 0) hx hb dX3_setBin_39 (by decide) ?_
      subst hQ
      subst hAe
      exact W.zret (ty := .boolean) (v := 0) hx hb hr rfl (fun t ht hW => ⟨⟨0, (t_at, t_wide, t_rim), rfl, Option.some.inj hR, by rw [ht]; exact hP, hD⟩, hS.F ht⟩) hS.2.2 dX3_setBin_40
    · have hR := (if_neg c16).symm.trans hR
      refine lv_iload_n hx hb dX3_setBin_19 rfl (lv_at hl 3 rfl) ?_
      refine lv_iconst (v := 1) hx hb dX3_setBin_20 (by decide) ?_
      refine lv_bipush (v := 9) hx hb dX3_setBin_21 (by decide) ?_
      obtain ⟨r5, hu6, hR⟩ := b1_s hR
      refine cl_SiN (As := [.int x3, .int 1, .int 9]) (rest := []) (wc := []) (wr := [(a_t, .inr (3, [.int t_hand, .int t_at, .int t_wide, .int t_rim, .int t_fill, .int t_wall, .int t_ceiling, .int t_puff, .int t_period, .int t_second, .int t_score, .int t_thrown, .int t_ballCount, .ref a_kinds, .ref a_sizes, .ref a_tights]))]) ⟨hx, hb, hml, hown, hts⟩ (kX3_isWithin l dC dI cI H.size x3 1 9 r5 hu6) (cwS 3 hts gX3_setBin_X3_isWithin rfl rfl rfl (by decide +kernel) ⟨Nat.le_of_ble_eq_true rfl, Nat.le_of_ble_eq_true rfl⟩) hK hN hP hD hS hA [] [0] rfl rfl rfl rfl rfl (by decide) rfl hl.1 rfl (Nat.le_of_ble_eq_true rfl) dX3_setBin_23 (fun H locs hP hD hS => ?_)
      have hP : va_P (dC, dI) vwCl [(a_t, .inr (3, [.int t_hand, .int t_at, .int t_wide, .int t_rim, .int t_fill, .int t_wall, .int t_ceiling, .int t_puff, .int t_period, .int t_second, .int t_score, .int t_thrown, .int t_ballCount, .ref a_kinds, .ref a_sizes, .ref a_tights]))] H := hP
      have hD : va_D A [(a_t, .inr (3, [.int t_hand, .int t_at, .int t_wide, .int t_rim, .int t_fill, .int t_wall, .int t_ceiling, .int t_puff, .int t_period, .int t_second, .int t_score, .int t_thrown, .int t_ballCount, .ref a_kinds, .ref a_sizes, .ref a_tights]))] := hD
      refine lv_if_eq (tgt := 39) hx hb dX3_setBin_26 (by decide) (fun c26 => ?_) (fun c26 => ?_)
      · have hR := (if_pos c26).symm.trans hR
        refine lv_iconst (v := 0) hx hb dX3_setBin_39 (by decide) ?_
        subst hQ
        subst hAe
        exact W.zret (ty := .boolean) (v := 0) hx hb hr rfl (fun t ht hW => ⟨⟨0, (t_at, t_wide, t_rim), rfl, Option.some.inj hR, by rw [ht]; exact hP, hD⟩, hS.F ht⟩) hS.2.2 dX3_setBin_40
      · have hR := (if_neg c26).symm.trans hR
        refine lv_aload_n hx hb dX3_setBin_29 rfl (lv_at hl 0 rfl) ?_
        refine va_get (D := (dC, dI)) (ci := 3) (v := .int t_wall) (C := RX3) (T := TX3) (N := 16) hx hb hts hinX3 hown hK hP 0 rfl rfl 5 (by decide) (hts (.fieldLink RX3 27 "PaperInBin$Office" "wall" "I") (by decide +kernel)) (fun _ h9 => h9) rfl dX3_setBin_30 ?_
        refine lv_iload_n hx hb dX3_setBin_33 rfl (lv_at hl 1 rfl) ?_
        refine lv_iload_n hx hb dX3_setBin_34 rfl (lv_at hl 2 rfl) ?_
        refine lv_iadd hx hb dX3_setBin_35 ?_
        refine lv_icmp_ge (tgt := 41) hx hb dX3_setBin_36 (by decide) (fun c36 => ?_) (fun c36 => ?_)
        · have hR := (if_pos c36).symm.trans hR
          refine lv_aload_n hx hb dX3_setBin_41 rfl (lv_at hl 0 rfl) ?_
          refine lv_iload_n hx hb dX3_setBin_42 rfl (lv_at hl 1 rfl) ?_
          refine va_put (D := (dC, dI)) (ci := 3) (v := .int x1) (ty := .int) (C := RX3) (T := TX3) (N := 16) hx hb hts hinX3 tyX3 tyX3_ok nmX3 hown hK hP hD hS 0 rfl rfl 1 (by decide) (hts (.fieldLink RX3 15 "PaperInBin$Office" "at" "I") (by decide +kernel)) (fun _ h9 => h9) rfl (tyX3_ok 1 (by decide)) rfl rfl (Nat.le_of_ble_eq_true rfl) dX3_setBin_43 (fun H locs hP hD hS => ?_)
          have hP : va_P (dC, dI) vwCl [(a_t, .inr (3, [.int t_hand, .int x1, .int t_wide, .int t_rim, .int t_fill, .int t_wall, .int t_ceiling, .int t_puff, .int t_period, .int t_second, .int t_score, .int t_thrown, .int t_ballCount, .ref a_kinds, .ref a_sizes, .ref a_tights]))] H := hP
          have hD : va_D A [(a_t, .inr (3, [.int t_hand, .int x1, .int t_wide, .int t_rim, .int t_fill, .int t_wall, .int t_ceiling, .int t_puff, .int t_period, .int t_second, .int t_score, .int t_thrown, .int t_ballCount, .ref a_kinds, .ref a_sizes, .ref a_tights]))] := hD
          refine lv_aload_n hx hb dX3_setBin_46 rfl (lv_at hl 0 rfl) ?_
          refine lv_iload_n hx hb dX3_setBin_47 rfl (lv_at hl 2 rfl) ?_
          refine va_put (D := (dC, dI)) (ci := 3) (v := .int x2) (ty := .int) (C := RX3) (T := TX3) (N := 16) hx hb hts hinX3 tyX3 tyX3_ok nmX3 hown hK hP hD hS 0 rfl rfl 2 (by decide) (hts (.fieldLink RX3 18 "PaperInBin$Office" "wide" "I") (by decide +kernel)) (fun _ h9 => h9) rfl (tyX3_ok 2 (by decide)) rfl rfl (Nat.le_of_ble_eq_true rfl) dX3_setBin_48 (fun H locs hP hD hS => ?_)
          have hP : va_P (dC, dI) vwCl [(a_t, .inr (3, [.int t_hand, .int x1, .int x2, .int t_rim, .int t_fill, .int t_wall, .int t_ceiling, .int t_puff, .int t_period, .int t_second, .int t_score, .int t_thrown, .int t_ballCount, .ref a_kinds, .ref a_sizes, .ref a_tights]))] H := hP
          have hD : va_D A [(a_t, .inr (3, [.int t_hand, .int x1, .int x2, .int t_rim, .int t_fill, .int t_wall, .int t_ceiling, .int t_puff, .int t_period, .int t_second, .int t_score, .int t_thrown, .int t_ballCount, .ref a_kinds, .ref a_sizes, .ref a_tights]))] := hD
          refine lv_aload_n hx hb dX3_setBin_51 rfl (lv_at hl 0 rfl) ?_
          refine lv_iload_n hx hb dX3_setBin_52 rfl (lv_at hl 3 rfl) ?_
          refine va_put (D := (dC, dI)) (ci := 3) (v := .int x3) (ty := .int) (C := RX3) (T := TX3) (N := 16) hx hb hts hinX3 tyX3 tyX3_ok nmX3 hown hK hP hD hS 0 rfl rfl 3 (by decide) (hts (.fieldLink RX3 21 "PaperInBin$Office" "rim" "I") (by decide +kernel)) (fun _ h9 => h9) rfl (tyX3_ok 3 (by decide)) rfl rfl (Nat.le_of_ble_eq_true rfl) dX3_setBin_53 (fun H locs hP hD hS => ?_)
          have hP : va_P (dC, dI) vwCl [(a_t, .inr (3, [.int t_hand, .int x1, .int x2, .int x3, .int t_fill, .int t_wall, .int t_ceiling, .int t_puff, .int t_period, .int t_second, .int t_score, .int t_thrown, .int t_ballCount, .ref a_kinds, .ref a_sizes, .ref a_tights]))] H := hP
          have hD : va_D A [(a_t, .inr (3, [.int t_hand, .int x1, .int x2, .int x3, .int t_fill, .int t_wall, .int t_ceiling, .int t_puff, .int t_period, .int t_second, .int t_score, .int t_thrown, .int t_ballCount, .ref a_kinds, .ref a_sizes, .ref a_tights]))] := hD
          refine lv_iconst (v := 1) hx hb dX3_setBin_56 (by decide) ?_
          subst hQ
          subst hAe
          exact W.zret (ty := .boolean) (v := 1) hx hb hr rfl (fun t ht hW => ⟨⟨1, (x1, x2, x3), rfl, Option.some.inj hR, by rw [ht]; exact hP, hD⟩, hS.F ht⟩) hS.2.2 dX3_setBin_57
        · have hR := (if_neg c36).symm.trans hR
          refine lv_iconst (v := 0) hx hb dX3_setBin_39 (by decide) ?_
          subst hQ
          subst hAe
          exact W.zret (ty := .boolean) (v := 0) hx hb hr rfl (fun t ht hW => ⟨⟨0, (t_at, t_wide, t_rim), rfl, Option.some.inj hR, by rw [ht]; exact hP, hD⟩, hS.F ht⟩) hS.2.2 dX3_setBin_40
def fX3_setWall (x1 : Int32) (t_at : Int32) (t_wide : Int32) (t_wall : Int32) : Option (Int32 × Int32) :=
  b1 (fX3_isWithin x1 5 60) (fun r1 =>
  if r1 = 0 then (
   some (0, t_wall))
  else (
  if (t_at + t_wide) ≤ x1 then (
   some (1, x1))
  else (
  some (0, t_wall))))
set_option maxHeartbeats 4000000 in
set_option maxRecDepth 100000 in
theorem kX3_setWall (l : Launch) (dC : Nat → ClassId) (dI : Nat → Nat → Nat) (cI : ClassId) (a_t a_kinds a_sizes a_tights : Nat) (sz : Nat) (x1 : Int32) (t_hand : Int32) (t_at : Int32) (t_wide : Int32) (t_rim : Int32) (t_fill : Int32) (t_wall : Int32) (t_ceiling : Int32) (t_puff : Int32) (t_period : Int32) (t_second : Int32) (t_score : Int32) (t_thrown : Int32) (t_ballCount : Int32) (R : Int32 × Int32) (hR : fX3_setWall x1 t_at t_wide t_wall = some R) : Met l yX3_setWall wsX3_setWall ({ frames := 1, cells := 0, slots := 0, locals := 22 } : Room) (va_Pc [.ref a_t, .int x1] (Wp (dC, dI) [(cI, .int)] [(a_t, .inr (3, [.int t_hand, .int t_at, .int t_wide, .int t_rim, .int t_fill, .int t_wall, .int t_ceiling, .int t_puff, .int t_period, .int t_second, .int t_score, .int t_thrown, .int t_ballCount, .ref a_kinds, .ref a_sizes, .ref a_tights]))] sz)) (va_Qi (fun (r : Int32) (u : Int32) => (r, u) = R) (Wq (dC, dI) [(a_t, .inr (3, [.int t_hand, .int t_at, .int t_wide, .int t_rim, .int t_fill, .int t_wall, .int t_ceiling, .int t_puff, .int t_period, .int t_second, .int t_score, .int t_thrown, .int t_ballCount, .ref a_kinds, .ref a_sizes, .ref a_tights]))] sz (fun (u : Int32) => ([(a_t, .inr (3, [.int t_hand, .int t_at, .int t_wide, .int t_rim, .int t_fill, .int u, .int t_ceiling, .int t_puff, .int t_period, .int t_second, .int t_score, .int t_thrown, .int t_ballCount, .ref a_kinds, .ref a_sizes, .ref a_tights]))] : va_W))) (va_A [(a_t, .inr (3, [.int t_hand, .int t_at, .int t_wide, .int t_rim, .int t_fill, .int t_wall, .int t_ceiling, .int t_puff, .int t_period, .int t_second, .int t_score, .int t_thrown, .int t_ballCount, .ref a_kinds, .ref a_sizes, .ref a_tights]))] sz)) 0 0 (va_A [(a_t, .inr (3, [.int t_hand, .int t_at, .int t_wide, .int t_rim, .int t_fill, .int t_wall, .int t_ceiling, .int t_puff, .int t_period, .int t_second, .int t_score, .int t_thrown, .int t_ballCount, .ref a_kinds, .ref a_sizes, .ref a_tights]))] sz) := by
  refine Met.ofW (cc := cX3_setWall) (maxL := 2) (ret := (some .boolean)) (by decide) rfl ?_
  intro p e s m args below meth c s₁ B hml hv
  obtain ⟨hargs, hsz, hP, hK, hD0, hN⟩ := hv
  have hx := B.exec
  have hb := B.bytes
  have hr := B.returns
  have hts := atoms_spec (ws := wsX3_setWall) B.pre
  have hown : s.vm.findClass RX3 = some m.cls := findClass_of_methodNamed B.named
  have hlocks := B.notSynchronized
  subst hsz
  have hD := hD0.self (sz := s.heap.size)
  obtain ⟨A, hAe⟩ : ∃ A, A = va_A [(a_t, .inr (3, [.int t_hand, .int t_at, .int t_wide, .int t_rim, .int t_fill, .int t_wall, .int t_ceiling, .int t_puff, .int t_period, .int t_second, .int t_score, .int t_thrown, .int t_ballCount, .ref a_kinds, .ref a_sizes, .ref a_tights]))] s.heap.size := ⟨_, rfl⟩
  rw [← hAe] at hD
  have hA : ∀ q : Nat, s.heap.size ≤ q → A q := fun q h => by rw [hAe]; exact Or.inr h
  have hS : va_S A s.heap s.heap [] := va_S.rf
  have hl := lv_entry ([.ref a_t, .int x1]) (n := 2) (Nat.le_of_ble_eq_true rfl)
  rw [e_of hargs, lg_entry_eq]
  generalize (lg_sl ([.ref a_t, .int x1]) ++ List.replicate (2 - (lg_sl ([.ref a_t, .int x1])).length) Slot.unset).toArray = ls at hl ⊢
  have hl : lv_has ls 2 [(0, .ref a_t), (1, .int x1)] := hl
  have hinX3 : ∀ w ∈ wsX30, w ∈ wsX3_setWall := by decide +kernel
  refine w_q ({ frames := 1, cells := 0, slots := 0, locals := 22 } : Room) (fun Q0 hQ => ?_)
  rw [fX3_setWall] at hR
  refine lv_iload_n hx hb dX3_setWall_0 rfl (lv_at hl 1 rfl) ?_
  refine lv_iconst (v := 5) hx hb dX3_setWall_1 (by decide) ?_
  refine lv_bipush (v := 60) hx hb dX3_setWall_2 (by decide) ?_
  obtain ⟨r1, hu2, hR⟩ := b1_s hR
  refine cl_SiN (As := [.int x1, .int 5, .int 60]) (rest := []) (wc := []) (wr := [(a_t, .inr (3, [.int t_hand, .int t_at, .int t_wide, .int t_rim, .int t_fill, .int t_wall, .int t_ceiling, .int t_puff, .int t_period, .int t_second, .int t_score, .int t_thrown, .int t_ballCount, .ref a_kinds, .ref a_sizes, .ref a_tights]))]) ⟨hx, hb, hml, hown, hts⟩ (kX3_isWithin l dC dI cI s.heap.size x1 5 60 r1 hu2) (cwS 3 hts gX3_setWall_X3_isWithin rfl rfl rfl (by decide +kernel) ⟨Nat.le_of_ble_eq_true rfl, Nat.le_of_ble_eq_true rfl⟩) hK hN hP hD hS hA [] [0] rfl rfl rfl rfl rfl (by decide) rfl hl.1 rfl (Nat.le_of_ble_eq_true rfl) dX3_setWall_4 (fun H locs hP hD hS => ?_)
  have hP : va_P (dC, dI) vwCl [(a_t, .inr (3, [.int t_hand, .int t_at, .int t_wide, .int t_rim, .int t_fill, .int t_wall, .int t_ceiling, .int t_puff, .int t_period, .int t_second, .int t_score, .int t_thrown, .int t_ballCount, .ref a_kinds, .ref a_sizes, .ref a_tights]))] H := hP
  have hD : va_D A [(a_t, .inr (3, [.int t_hand, .int t_at, .int t_wide, .int t_rim, .int t_fill, .int t_wall, .int t_ceiling, .int t_puff, .int t_period, .int t_second, .int t_score, .int t_thrown, .int t_ballCount, .ref a_kinds, .ref a_sizes, .ref a_tights]))] := hD
  refine lv_if_eq (tgt := 23) hx hb dX3_setWall_7 (by decide) (fun c7 => ?_) (fun c7 => ?_)
  · have hR := (if_pos c7).symm.trans hR
    refine lv_iconst (v := 0) hx hb dX3_setWall_23 (by decide) ?_
    subst hQ
    subst hAe
    exact W.zret (ty := .boolean) (v := 0) hx hb hr rfl (fun t ht hW => ⟨⟨0, (t_wall), rfl, Option.some.inj hR, by rw [ht]; exact hP, hD⟩, hS.F ht⟩) hS.2.2 dX3_setWall_24
  · have hR := (if_neg c7).symm.trans hR
    refine lv_iload_n hx hb dX3_setWall_10 rfl (lv_at hl 1 rfl) ?_
    refine lv_aload_n hx hb dX3_setWall_11 rfl (lv_at hl 0 rfl) ?_
    refine va_get (D := (dC, dI)) (ci := 3) (v := .int t_at) (C := RX3) (T := TX3) (N := 16) hx hb hts hinX3 hown hK hP 0 rfl rfl 1 (by decide) (hts (.fieldLink RX3 15 "PaperInBin$Office" "at" "I") (by decide +kernel)) (fun _ h9 => h9) rfl dX3_setWall_12 ?_
    refine lv_aload_n hx hb dX3_setWall_15 rfl (lv_at hl 0 rfl) ?_
    refine va_get (D := (dC, dI)) (ci := 3) (v := .int t_wide) (C := RX3) (T := TX3) (N := 16) hx hb hts hinX3 hown hK hP 0 rfl rfl 2 (by decide) (hts (.fieldLink RX3 18 "PaperInBin$Office" "wide" "I") (by decide +kernel)) (fun _ h9 => h9) rfl dX3_setWall_16 ?_
    refine lv_iadd hx hb dX3_setWall_19 ?_
    refine lv_icmp_ge (tgt := 25) hx hb dX3_setWall_20 (by decide) (fun c20 => ?_) (fun c20 => ?_)
    · have hR := (if_pos c20).symm.trans hR
      refine lv_aload_n hx hb dX3_setWall_25 rfl (lv_at hl 0 rfl) ?_
      refine lv_iload_n hx hb dX3_setWall_26 rfl (lv_at hl 1 rfl) ?_
      refine va_put (D := (dC, dI)) (ci := 3) (v := .int x1) (ty := .int) (C := RX3) (T := TX3) (N := 16) hx hb hts hinX3 tyX3 tyX3_ok nmX3 hown hK hP hD hS 0 rfl rfl 5 (by decide) (hts (.fieldLink RX3 27 "PaperInBin$Office" "wall" "I") (by decide +kernel)) (fun _ h9 => h9) rfl (tyX3_ok 5 (by decide)) rfl rfl (Nat.le_of_ble_eq_true rfl) dX3_setWall_27 (fun H locs hP hD hS => ?_)
      have hP : va_P (dC, dI) vwCl [(a_t, .inr (3, [.int t_hand, .int t_at, .int t_wide, .int t_rim, .int t_fill, .int x1, .int t_ceiling, .int t_puff, .int t_period, .int t_second, .int t_score, .int t_thrown, .int t_ballCount, .ref a_kinds, .ref a_sizes, .ref a_tights]))] H := hP
      have hD : va_D A [(a_t, .inr (3, [.int t_hand, .int t_at, .int t_wide, .int t_rim, .int t_fill, .int x1, .int t_ceiling, .int t_puff, .int t_period, .int t_second, .int t_score, .int t_thrown, .int t_ballCount, .ref a_kinds, .ref a_sizes, .ref a_tights]))] := hD
      refine lv_iconst (v := 1) hx hb dX3_setWall_30 (by decide) ?_
      subst hQ
      subst hAe
      exact W.zret (ty := .boolean) (v := 1) hx hb hr rfl (fun t ht hW => ⟨⟨1, (x1), rfl, Option.some.inj hR, by rw [ht]; exact hP, hD⟩, hS.F ht⟩) hS.2.2 dX3_setWall_31
    · have hR := (if_neg c20).symm.trans hR
      refine lv_iconst (v := 0) hx hb dX3_setWall_23 (by decide) ?_
      subst hQ
      subst hAe
      exact W.zret (ty := .boolean) (v := 0) hx hb hr rfl (fun t ht hW => ⟨⟨0, (t_wall), rfl, Option.some.inj hR, by rw [ht]; exact hP, hD⟩, hS.F ht⟩) hS.2.2 dX3_setWall_24
def fX3_setCeiling (x1 : Int32) (t_ceiling : Int32) : Option (Int32 × Int32) :=
  b1 (fX3_isWithin x1 10 60) (fun r1 =>
  if r1 = 0 then (
   some (0, t_ceiling))
  else (
  some (1, x1)))
set_option maxHeartbeats 4000000 in
set_option maxRecDepth 100000 in
theorem kX3_setCeiling (l : Launch) (dC : Nat → ClassId) (dI : Nat → Nat → Nat) (cI : ClassId) (a_t a_kinds a_sizes a_tights : Nat) (sz : Nat) (x1 : Int32) (t_hand : Int32) (t_at : Int32) (t_wide : Int32) (t_rim : Int32) (t_fill : Int32) (t_wall : Int32) (t_ceiling : Int32) (t_puff : Int32) (t_period : Int32) (t_second : Int32) (t_score : Int32) (t_thrown : Int32) (t_ballCount : Int32) (R : Int32 × Int32) (hR : fX3_setCeiling x1 t_ceiling = some R) : Met l yX3_setCeiling wsX3_setCeiling ({ frames := 1, cells := 0, slots := 0, locals := 22 } : Room) (va_Pc [.ref a_t, .int x1] (Wp (dC, dI) [(cI, .int)] [(a_t, .inr (3, [.int t_hand, .int t_at, .int t_wide, .int t_rim, .int t_fill, .int t_wall, .int t_ceiling, .int t_puff, .int t_period, .int t_second, .int t_score, .int t_thrown, .int t_ballCount, .ref a_kinds, .ref a_sizes, .ref a_tights]))] sz)) (va_Qi (fun (r : Int32) (u : Int32) => (r, u) = R) (Wq (dC, dI) [(a_t, .inr (3, [.int t_hand, .int t_at, .int t_wide, .int t_rim, .int t_fill, .int t_wall, .int t_ceiling, .int t_puff, .int t_period, .int t_second, .int t_score, .int t_thrown, .int t_ballCount, .ref a_kinds, .ref a_sizes, .ref a_tights]))] sz (fun (u : Int32) => ([(a_t, .inr (3, [.int t_hand, .int t_at, .int t_wide, .int t_rim, .int t_fill, .int t_wall, .int u, .int t_puff, .int t_period, .int t_second, .int t_score, .int t_thrown, .int t_ballCount, .ref a_kinds, .ref a_sizes, .ref a_tights]))] : va_W))) (va_A [(a_t, .inr (3, [.int t_hand, .int t_at, .int t_wide, .int t_rim, .int t_fill, .int t_wall, .int t_ceiling, .int t_puff, .int t_period, .int t_second, .int t_score, .int t_thrown, .int t_ballCount, .ref a_kinds, .ref a_sizes, .ref a_tights]))] sz)) 0 0 (va_A [(a_t, .inr (3, [.int t_hand, .int t_at, .int t_wide, .int t_rim, .int t_fill, .int t_wall, .int t_ceiling, .int t_puff, .int t_period, .int t_second, .int t_score, .int t_thrown, .int t_ballCount, .ref a_kinds, .ref a_sizes, .ref a_tights]))] sz) := by
  refine Met.ofW (cc := cX3_setCeiling) (maxL := 2) (ret := (some .boolean)) (by decide) rfl ?_
  intro p e s m args below meth c s₁ B hml hv
  obtain ⟨hargs, hsz, hP, hK, hD0, hN⟩ := hv
  have hx := B.exec
  have hb := B.bytes
  have hr := B.returns
  have hts := atoms_spec (ws := wsX3_setCeiling) B.pre
  have hown : s.vm.findClass RX3 = some m.cls := findClass_of_methodNamed B.named
  have hlocks := B.notSynchronized
  subst hsz
  have hD := hD0.self (sz := s.heap.size)
  obtain ⟨A, hAe⟩ : ∃ A, A = va_A [(a_t, .inr (3, [.int t_hand, .int t_at, .int t_wide, .int t_rim, .int t_fill, .int t_wall, .int t_ceiling, .int t_puff, .int t_period, .int t_second, .int t_score, .int t_thrown, .int t_ballCount, .ref a_kinds, .ref a_sizes, .ref a_tights]))] s.heap.size := ⟨_, rfl⟩
  rw [← hAe] at hD
  have hA : ∀ q : Nat, s.heap.size ≤ q → A q := fun q h => by rw [hAe]; exact Or.inr h
  have hS : va_S A s.heap s.heap [] := va_S.rf
  have hl := lv_entry ([.ref a_t, .int x1]) (n := 2) (Nat.le_of_ble_eq_true rfl)
  rw [e_of hargs, lg_entry_eq]
  generalize (lg_sl ([.ref a_t, .int x1]) ++ List.replicate (2 - (lg_sl ([.ref a_t, .int x1])).length) Slot.unset).toArray = ls at hl ⊢
  have hl : lv_has ls 2 [(0, .ref a_t), (1, .int x1)] := hl
  have hinX3 : ∀ w ∈ wsX30, w ∈ wsX3_setCeiling := by decide +kernel
  refine w_q ({ frames := 1, cells := 0, slots := 0, locals := 22 } : Room) (fun Q0 hQ => ?_)
  rw [fX3_setCeiling] at hR
  refine lv_iload_n hx hb dX3_setCeiling_0 rfl (lv_at hl 1 rfl) ?_
  refine lv_bipush (v := 10) hx hb dX3_setCeiling_1 (by decide) ?_
  refine lv_bipush (v := 60) hx hb dX3_setCeiling_3 (by decide) ?_
  obtain ⟨r1, hu2, hR⟩ := b1_s hR
  refine cl_SiN (As := [.int x1, .int 10, .int 60]) (rest := []) (wc := []) (wr := [(a_t, .inr (3, [.int t_hand, .int t_at, .int t_wide, .int t_rim, .int t_fill, .int t_wall, .int t_ceiling, .int t_puff, .int t_period, .int t_second, .int t_score, .int t_thrown, .int t_ballCount, .ref a_kinds, .ref a_sizes, .ref a_tights]))]) ⟨hx, hb, hml, hown, hts⟩ (kX3_isWithin l dC dI cI s.heap.size x1 10 60 r1 hu2) (cwS 3 hts gX3_setCeiling_X3_isWithin rfl rfl rfl (by decide +kernel) ⟨Nat.le_of_ble_eq_true rfl, Nat.le_of_ble_eq_true rfl⟩) hK hN hP hD hS hA [] [0] rfl rfl rfl rfl rfl (by decide) rfl hl.1 rfl (Nat.le_of_ble_eq_true rfl) dX3_setCeiling_5 (fun H locs hP hD hS => ?_)
  have hP : va_P (dC, dI) vwCl [(a_t, .inr (3, [.int t_hand, .int t_at, .int t_wide, .int t_rim, .int t_fill, .int t_wall, .int t_ceiling, .int t_puff, .int t_period, .int t_second, .int t_score, .int t_thrown, .int t_ballCount, .ref a_kinds, .ref a_sizes, .ref a_tights]))] H := hP
  have hD : va_D A [(a_t, .inr (3, [.int t_hand, .int t_at, .int t_wide, .int t_rim, .int t_fill, .int t_wall, .int t_ceiling, .int t_puff, .int t_period, .int t_second, .int t_score, .int t_thrown, .int t_ballCount, .ref a_kinds, .ref a_sizes, .ref a_tights]))] := hD
  refine lv_if_ne (tgt := 13) hx hb dX3_setCeiling_8 (by decide) (fun c8 => ?_) (fun c8 => ?_)
  · have hR := (if_neg c8).symm.trans hR
    refine lv_aload_n hx hb dX3_setCeiling_13 rfl (lv_at hl 0 rfl) ?_
    refine lv_iload_n hx hb dX3_setCeiling_14 rfl (lv_at hl 1 rfl) ?_
    refine va_put (D := (dC, dI)) (ci := 3) (v := .int x1) (ty := .int) (C := RX3) (T := TX3) (N := 16) hx hb hts hinX3 tyX3 tyX3_ok nmX3 hown hK hP hD hS 0 rfl rfl 6 (by decide) (hts (.fieldLink RX3 30 "PaperInBin$Office" "ceiling" "I") (by decide +kernel)) (fun _ h9 => h9) rfl (tyX3_ok 6 (by decide)) rfl rfl (Nat.le_of_ble_eq_true rfl) dX3_setCeiling_15 (fun H locs hP hD hS => ?_)
    have hP : va_P (dC, dI) vwCl [(a_t, .inr (3, [.int t_hand, .int t_at, .int t_wide, .int t_rim, .int t_fill, .int t_wall, .int x1, .int t_puff, .int t_period, .int t_second, .int t_score, .int t_thrown, .int t_ballCount, .ref a_kinds, .ref a_sizes, .ref a_tights]))] H := hP
    have hD : va_D A [(a_t, .inr (3, [.int t_hand, .int t_at, .int t_wide, .int t_rim, .int t_fill, .int t_wall, .int x1, .int t_puff, .int t_period, .int t_second, .int t_score, .int t_thrown, .int t_ballCount, .ref a_kinds, .ref a_sizes, .ref a_tights]))] := hD
    refine lv_iconst (v := 1) hx hb dX3_setCeiling_18 (by decide) ?_
    subst hQ
    subst hAe
    exact W.zret (ty := .boolean) (v := 1) hx hb hr rfl (fun t ht hW => ⟨⟨1, (x1), rfl, Option.some.inj hR, by rw [ht]; exact hP, hD⟩, hS.F ht⟩) hS.2.2 dX3_setCeiling_19
  · have hR := (if_pos c8).symm.trans hR
    refine lv_iconst (v := 0) hx hb dX3_setCeiling_11 (by decide) ?_
    subst hQ
    subst hAe
    exact W.zret (ty := .boolean) (v := 0) hx hb hr rfl (fun t ht hW => ⟨⟨0, (t_ceiling), rfl, Option.some.inj hR, by rw [ht]; exact hP, hD⟩, hS.F ht⟩) hS.2.2 dX3_setCeiling_12
def fX3_setHand (x1 : Int32) (t_hand : Int32) : Option (Int32 × Int32) :=
  b1 (fX3_isWithin x1 0 9) (fun r1 =>
  if r1 = 0 then (
   some (0, t_hand))
  else (
  some (1, x1)))
set_option maxHeartbeats 4000000 in
set_option maxRecDepth 100000 in
theorem kX3_setHand (l : Launch) (dC : Nat → ClassId) (dI : Nat → Nat → Nat) (cI : ClassId) (a_t a_kinds a_sizes a_tights : Nat) (sz : Nat) (x1 : Int32) (t_hand : Int32) (t_at : Int32) (t_wide : Int32) (t_rim : Int32) (t_fill : Int32) (t_wall : Int32) (t_ceiling : Int32) (t_puff : Int32) (t_period : Int32) (t_second : Int32) (t_score : Int32) (t_thrown : Int32) (t_ballCount : Int32) (R : Int32 × Int32) (hR : fX3_setHand x1 t_hand = some R) : Met l yX3_setHand wsX3_setHand ({ frames := 1, cells := 0, slots := 0, locals := 22 } : Room) (va_Pc [.ref a_t, .int x1] (Wp (dC, dI) [(cI, .int)] [(a_t, .inr (3, [.int t_hand, .int t_at, .int t_wide, .int t_rim, .int t_fill, .int t_wall, .int t_ceiling, .int t_puff, .int t_period, .int t_second, .int t_score, .int t_thrown, .int t_ballCount, .ref a_kinds, .ref a_sizes, .ref a_tights]))] sz)) (va_Qi (fun (r : Int32) (u : Int32) => (r, u) = R) (Wq (dC, dI) [(a_t, .inr (3, [.int t_hand, .int t_at, .int t_wide, .int t_rim, .int t_fill, .int t_wall, .int t_ceiling, .int t_puff, .int t_period, .int t_second, .int t_score, .int t_thrown, .int t_ballCount, .ref a_kinds, .ref a_sizes, .ref a_tights]))] sz (fun (u : Int32) => ([(a_t, .inr (3, [.int u, .int t_at, .int t_wide, .int t_rim, .int t_fill, .int t_wall, .int t_ceiling, .int t_puff, .int t_period, .int t_second, .int t_score, .int t_thrown, .int t_ballCount, .ref a_kinds, .ref a_sizes, .ref a_tights]))] : va_W))) (va_A [(a_t, .inr (3, [.int t_hand, .int t_at, .int t_wide, .int t_rim, .int t_fill, .int t_wall, .int t_ceiling, .int t_puff, .int t_period, .int t_second, .int t_score, .int t_thrown, .int t_ballCount, .ref a_kinds, .ref a_sizes, .ref a_tights]))] sz)) 0 0 (va_A [(a_t, .inr (3, [.int t_hand, .int t_at, .int t_wide, .int t_rim, .int t_fill, .int t_wall, .int t_ceiling, .int t_puff, .int t_period, .int t_second, .int t_score, .int t_thrown, .int t_ballCount, .ref a_kinds, .ref a_sizes, .ref a_tights]))] sz) := by
  refine Met.ofW (cc := cX3_setHand) (maxL := 2) (ret := (some .boolean)) (by decide) rfl ?_
  intro p e s m args below meth c s₁ B hml hv
  obtain ⟨hargs, hsz, hP, hK, hD0, hN⟩ := hv
  have hx := B.exec
  have hb := B.bytes
  have hr := B.returns
  have hts := atoms_spec (ws := wsX3_setHand) B.pre
  have hown : s.vm.findClass RX3 = some m.cls := findClass_of_methodNamed B.named
  have hlocks := B.notSynchronized
  subst hsz
  have hD := hD0.self (sz := s.heap.size)
  obtain ⟨A, hAe⟩ : ∃ A, A = va_A [(a_t, .inr (3, [.int t_hand, .int t_at, .int t_wide, .int t_rim, .int t_fill, .int t_wall, .int t_ceiling, .int t_puff, .int t_period, .int t_second, .int t_score, .int t_thrown, .int t_ballCount, .ref a_kinds, .ref a_sizes, .ref a_tights]))] s.heap.size := ⟨_, rfl⟩
  rw [← hAe] at hD
  have hA : ∀ q : Nat, s.heap.size ≤ q → A q := fun q h => by rw [hAe]; exact Or.inr h
  have hS : va_S A s.heap s.heap [] := va_S.rf
  have hl := lv_entry ([.ref a_t, .int x1]) (n := 2) (Nat.le_of_ble_eq_true rfl)
  rw [e_of hargs, lg_entry_eq]
  generalize (lg_sl ([.ref a_t, .int x1]) ++ List.replicate (2 - (lg_sl ([.ref a_t, .int x1])).length) Slot.unset).toArray = ls at hl ⊢
  have hl : lv_has ls 2 [(0, .ref a_t), (1, .int x1)] := hl
  have hinX3 : ∀ w ∈ wsX30, w ∈ wsX3_setHand := by decide +kernel
  refine w_q ({ frames := 1, cells := 0, slots := 0, locals := 22 } : Room) (fun Q0 hQ => ?_)
  rw [fX3_setHand] at hR
  refine lv_iload_n hx hb dX3_setHand_0 rfl (lv_at hl 1 rfl) ?_
  refine lv_iconst (v := 0) hx hb dX3_setHand_1 (by decide) ?_
  refine lv_bipush (v := 9) hx hb dX3_setHand_2 (by decide) ?_
  obtain ⟨r1, hu2, hR⟩ := b1_s hR
  refine cl_SiN (As := [.int x1, .int 0, .int 9]) (rest := []) (wc := []) (wr := [(a_t, .inr (3, [.int t_hand, .int t_at, .int t_wide, .int t_rim, .int t_fill, .int t_wall, .int t_ceiling, .int t_puff, .int t_period, .int t_second, .int t_score, .int t_thrown, .int t_ballCount, .ref a_kinds, .ref a_sizes, .ref a_tights]))]) ⟨hx, hb, hml, hown, hts⟩ (kX3_isWithin l dC dI cI s.heap.size x1 0 9 r1 hu2) (cwS 3 hts gX3_setHand_X3_isWithin rfl rfl rfl (by decide +kernel) ⟨Nat.le_of_ble_eq_true rfl, Nat.le_of_ble_eq_true rfl⟩) hK hN hP hD hS hA [] [0] rfl rfl rfl rfl rfl (by decide) rfl hl.1 rfl (Nat.le_of_ble_eq_true rfl) dX3_setHand_4 (fun H locs hP hD hS => ?_)
  have hP : va_P (dC, dI) vwCl [(a_t, .inr (3, [.int t_hand, .int t_at, .int t_wide, .int t_rim, .int t_fill, .int t_wall, .int t_ceiling, .int t_puff, .int t_period, .int t_second, .int t_score, .int t_thrown, .int t_ballCount, .ref a_kinds, .ref a_sizes, .ref a_tights]))] H := hP
  have hD : va_D A [(a_t, .inr (3, [.int t_hand, .int t_at, .int t_wide, .int t_rim, .int t_fill, .int t_wall, .int t_ceiling, .int t_puff, .int t_period, .int t_second, .int t_score, .int t_thrown, .int t_ballCount, .ref a_kinds, .ref a_sizes, .ref a_tights]))] := hD
  refine lv_if_ne (tgt := 12) hx hb dX3_setHand_7 (by decide) (fun c7 => ?_) (fun c7 => ?_)
  · have hR := (if_neg c7).symm.trans hR
    refine lv_aload_n hx hb dX3_setHand_12 rfl (lv_at hl 0 rfl) ?_
    refine lv_iload_n hx hb dX3_setHand_13 rfl (lv_at hl 1 rfl) ?_
    refine va_put (D := (dC, dI)) (ci := 3) (v := .int x1) (ty := .int) (C := RX3) (T := TX3) (N := 16) hx hb hts hinX3 tyX3 tyX3_ok nmX3 hown hK hP hD hS 0 rfl rfl 0 (by decide) (hts (.fieldLink RX3 9 "PaperInBin$Office" "hand" "I") (by decide +kernel)) (fun _ h9 => h9) rfl (tyX3_ok 0 (by decide)) rfl rfl (Nat.le_of_ble_eq_true rfl) dX3_setHand_14 (fun H locs hP hD hS => ?_)
    have hP : va_P (dC, dI) vwCl [(a_t, .inr (3, [.int x1, .int t_at, .int t_wide, .int t_rim, .int t_fill, .int t_wall, .int t_ceiling, .int t_puff, .int t_period, .int t_second, .int t_score, .int t_thrown, .int t_ballCount, .ref a_kinds, .ref a_sizes, .ref a_tights]))] H := hP
    have hD : va_D A [(a_t, .inr (3, [.int x1, .int t_at, .int t_wide, .int t_rim, .int t_fill, .int t_wall, .int t_ceiling, .int t_puff, .int t_period, .int t_second, .int t_score, .int t_thrown, .int t_ballCount, .ref a_kinds, .ref a_sizes, .ref a_tights]))] := hD
    refine lv_iconst (v := 1) hx hb dX3_setHand_17 (by decide) ?_
    subst hQ
    subst hAe
    exact W.zret (ty := .boolean) (v := 1) hx hb hr rfl (fun t ht hW => ⟨⟨1, (x1), rfl, Option.some.inj hR, by rw [ht]; exact hP, hD⟩, hS.F ht⟩) hS.2.2 dX3_setHand_18
  · have hR := (if_pos c7).symm.trans hR
    refine lv_iconst (v := 0) hx hb dX3_setHand_10 (by decide) ?_
    subst hQ
    subst hAe
    exact W.zret (ty := .boolean) (v := 0) hx hb hr rfl (fun t ht hW => ⟨⟨0, (t_hand), rfl, Option.some.inj hR, by rw [ht]; exact hP, hD⟩, hS.F ht⟩) hS.2.2 dX3_setHand_11
def fX3_setFan (x1 : Int32) (x2 : Int32) (t_puff : Int32) (t_period : Int32) : Option (Int32 × Int32 × Int32) :=
  b1 (fX3_isWithin x1 (-3) 3) (fun r1 =>
  if r1 = 0 then (
   some (0, t_puff, t_period))
  else (
  b1 (fX3_isWithin x2 1 9) (fun r3 =>
  if r3 = 0 then (
   some (0, t_puff, t_period))
  else (
  some (1, x1, x2)))))
set_option maxHeartbeats 4000000 in
set_option maxRecDepth 100000 in
theorem kX3_setFan (l : Launch) (dC : Nat → ClassId) (dI : Nat → Nat → Nat) (cI : ClassId) (a_t a_kinds a_sizes a_tights : Nat) (sz : Nat) (x1 : Int32) (x2 : Int32) (t_hand : Int32) (t_at : Int32) (t_wide : Int32) (t_rim : Int32) (t_fill : Int32) (t_wall : Int32) (t_ceiling : Int32) (t_puff : Int32) (t_period : Int32) (t_second : Int32) (t_score : Int32) (t_thrown : Int32) (t_ballCount : Int32) (R : Int32 × Int32 × Int32) (hR : fX3_setFan x1 x2 t_puff t_period = some R) : Met l yX3_setFan wsX3_setFan ({ frames := 1, cells := 0, slots := 0, locals := 22 } : Room) (va_Pc [.ref a_t, .int x1, .int x2] (Wp (dC, dI) [(cI, .int)] [(a_t, .inr (3, [.int t_hand, .int t_at, .int t_wide, .int t_rim, .int t_fill, .int t_wall, .int t_ceiling, .int t_puff, .int t_period, .int t_second, .int t_score, .int t_thrown, .int t_ballCount, .ref a_kinds, .ref a_sizes, .ref a_tights]))] sz)) (va_Qi (fun (r : Int32) (u : Int32 × Int32) => (r, u) = R) (Wq (dC, dI) [(a_t, .inr (3, [.int t_hand, .int t_at, .int t_wide, .int t_rim, .int t_fill, .int t_wall, .int t_ceiling, .int t_puff, .int t_period, .int t_second, .int t_score, .int t_thrown, .int t_ballCount, .ref a_kinds, .ref a_sizes, .ref a_tights]))] sz (fun (u : Int32 × Int32) => ([(a_t, .inr (3, [.int t_hand, .int t_at, .int t_wide, .int t_rim, .int t_fill, .int t_wall, .int t_ceiling, .int u.1, .int u.2, .int t_second, .int t_score, .int t_thrown, .int t_ballCount, .ref a_kinds, .ref a_sizes, .ref a_tights]))] : va_W))) (va_A [(a_t, .inr (3, [.int t_hand, .int t_at, .int t_wide, .int t_rim, .int t_fill, .int t_wall, .int t_ceiling, .int t_puff, .int t_period, .int t_second, .int t_score, .int t_thrown, .int t_ballCount, .ref a_kinds, .ref a_sizes, .ref a_tights]))] sz)) 0 0 (va_A [(a_t, .inr (3, [.int t_hand, .int t_at, .int t_wide, .int t_rim, .int t_fill, .int t_wall, .int t_ceiling, .int t_puff, .int t_period, .int t_second, .int t_score, .int t_thrown, .int t_ballCount, .ref a_kinds, .ref a_sizes, .ref a_tights]))] sz) := by
  refine Met.ofW (cc := cX3_setFan) (maxL := 3) (ret := (some .boolean)) (by decide) rfl ?_
  intro p e s m args below meth c s₁ B hml hv
  obtain ⟨hargs, hsz, hP, hK, hD0, hN⟩ := hv
  have hx := B.exec
  have hb := B.bytes
  have hr := B.returns
  have hts := atoms_spec (ws := wsX3_setFan) B.pre
  have hown : s.vm.findClass RX3 = some m.cls := findClass_of_methodNamed B.named
  have hlocks := B.notSynchronized
  subst hsz
  have hD := hD0.self (sz := s.heap.size)
  obtain ⟨A, hAe⟩ : ∃ A, A = va_A [(a_t, .inr (3, [.int t_hand, .int t_at, .int t_wide, .int t_rim, .int t_fill, .int t_wall, .int t_ceiling, .int t_puff, .int t_period, .int t_second, .int t_score, .int t_thrown, .int t_ballCount, .ref a_kinds, .ref a_sizes, .ref a_tights]))] s.heap.size := ⟨_, rfl⟩
  rw [← hAe] at hD
  have hA : ∀ q : Nat, s.heap.size ≤ q → A q := fun q h => by rw [hAe]; exact Or.inr h
  have hS : va_S A s.heap s.heap [] := va_S.rf
  have hl := lv_entry ([.ref a_t, .int x1, .int x2]) (n := 3) (Nat.le_of_ble_eq_true rfl)
  rw [e_of hargs, lg_entry_eq]
  generalize (lg_sl ([.ref a_t, .int x1, .int x2]) ++ List.replicate (3 - (lg_sl ([.ref a_t, .int x1, .int x2])).length) Slot.unset).toArray = ls at hl ⊢
  have hl : lv_has ls 3 [(0, .ref a_t), (1, .int x1), (2, .int x2)] := hl
  have hinX3 : ∀ w ∈ wsX30, w ∈ wsX3_setFan := by decide +kernel
  refine w_q ({ frames := 1, cells := 0, slots := 0, locals := 22 } : Room) (fun Q0 hQ => ?_)
  rw [fX3_setFan] at hR
  refine lv_iload_n hx hb dX3_setFan_0 rfl (lv_at hl 1 rfl) ?_
  refine lv_bipush (v := (-3)) hx hb dX3_setFan_1 (by decide) ?_
  refine lv_iconst (v := 3) hx hb dX3_setFan_3 (by decide) ?_
  obtain ⟨r1, hu2, hR⟩ := b1_s hR
  refine cl_SiN (As := [.int x1, .int (-3), .int 3]) (rest := []) (wc := []) (wr := [(a_t, .inr (3, [.int t_hand, .int t_at, .int t_wide, .int t_rim, .int t_fill, .int t_wall, .int t_ceiling, .int t_puff, .int t_period, .int t_second, .int t_score, .int t_thrown, .int t_ballCount, .ref a_kinds, .ref a_sizes, .ref a_tights]))]) ⟨hx, hb, hml, hown, hts⟩ (kX3_isWithin l dC dI cI s.heap.size x1 (-3) 3 r1 hu2) (cwS 3 hts gX3_setFan_X3_isWithin rfl rfl rfl (by decide +kernel) ⟨Nat.le_of_ble_eq_true rfl, Nat.le_of_ble_eq_true rfl⟩) hK hN hP hD hS hA [] [0] rfl rfl rfl rfl rfl (by decide) rfl hl.1 rfl (Nat.le_of_ble_eq_true rfl) dX3_setFan_4 (fun H locs hP hD hS => ?_)
  have hP : va_P (dC, dI) vwCl [(a_t, .inr (3, [.int t_hand, .int t_at, .int t_wide, .int t_rim, .int t_fill, .int t_wall, .int t_ceiling, .int t_puff, .int t_period, .int t_second, .int t_score, .int t_thrown, .int t_ballCount, .ref a_kinds, .ref a_sizes, .ref a_tights]))] H := hP
  have hD : va_D A [(a_t, .inr (3, [.int t_hand, .int t_at, .int t_wide, .int t_rim, .int t_fill, .int t_wall, .int t_ceiling, .int t_puff, .int t_period, .int t_second, .int t_score, .int t_thrown, .int t_ballCount, .ref a_kinds, .ref a_sizes, .ref a_tights]))] := hD
  refine lv_if_eq (tgt := 20) hx hb dX3_setFan_7 (by decide) (fun c7 => ?_) (fun c7 => ?_)
  · have hR := (if_pos c7).symm.trans hR
    refine lv_iconst (v := 0) hx hb dX3_setFan_20 (by decide) ?_
    subst hQ
    subst hAe
    exact W.zret (ty := .boolean) (v := 0) hx hb hr rfl (fun t ht hW => ⟨⟨0, (t_puff, t_period), rfl, Option.some.inj hR, by rw [ht]; exact hP, hD⟩, hS.F ht⟩) hS.2.2 dX3_setFan_21
  · have hR := (if_neg c7).symm.trans hR
    refine lv_iload_n hx hb dX3_setFan_10 rfl (lv_at hl 2 rfl) ?_
    refine lv_iconst (v := 1) hx hb dX3_setFan_11 (by decide) ?_
    refine lv_bipush (v := 9) hx hb dX3_setFan_12 (by decide) ?_
    obtain ⟨r3, hu4, hR⟩ := b1_s hR
    refine cl_SiN (As := [.int x2, .int 1, .int 9]) (rest := []) (wc := []) (wr := [(a_t, .inr (3, [.int t_hand, .int t_at, .int t_wide, .int t_rim, .int t_fill, .int t_wall, .int t_ceiling, .int t_puff, .int t_period, .int t_second, .int t_score, .int t_thrown, .int t_ballCount, .ref a_kinds, .ref a_sizes, .ref a_tights]))]) ⟨hx, hb, hml, hown, hts⟩ (kX3_isWithin l dC dI cI H.size x2 1 9 r3 hu4) (cwS 3 hts gX3_setFan_X3_isWithin rfl rfl rfl (by decide +kernel) ⟨Nat.le_of_ble_eq_true rfl, Nat.le_of_ble_eq_true rfl⟩) hK hN hP hD hS hA [] [0] rfl rfl rfl rfl rfl (by decide) rfl hl.1 rfl (Nat.le_of_ble_eq_true rfl) dX3_setFan_14 (fun H locs hP hD hS => ?_)
    have hP : va_P (dC, dI) vwCl [(a_t, .inr (3, [.int t_hand, .int t_at, .int t_wide, .int t_rim, .int t_fill, .int t_wall, .int t_ceiling, .int t_puff, .int t_period, .int t_second, .int t_score, .int t_thrown, .int t_ballCount, .ref a_kinds, .ref a_sizes, .ref a_tights]))] H := hP
    have hD : va_D A [(a_t, .inr (3, [.int t_hand, .int t_at, .int t_wide, .int t_rim, .int t_fill, .int t_wall, .int t_ceiling, .int t_puff, .int t_period, .int t_second, .int t_score, .int t_thrown, .int t_ballCount, .ref a_kinds, .ref a_sizes, .ref a_tights]))] := hD
    refine lv_if_ne (tgt := 22) hx hb dX3_setFan_17 (by decide) (fun c17 => ?_) (fun c17 => ?_)
    · have hR := (if_neg c17).symm.trans hR
      refine lv_aload_n hx hb dX3_setFan_22 rfl (lv_at hl 0 rfl) ?_
      refine lv_iload_n hx hb dX3_setFan_23 rfl (lv_at hl 1 rfl) ?_
      refine va_put (D := (dC, dI)) (ci := 3) (v := .int x1) (ty := .int) (C := RX3) (T := TX3) (N := 16) hx hb hts hinX3 tyX3 tyX3_ok nmX3 hown hK hP hD hS 0 rfl rfl 7 (by decide) (hts (.fieldLink RX3 33 "PaperInBin$Office" "puff" "I") (by decide +kernel)) (fun _ h9 => h9) rfl (tyX3_ok 7 (by decide)) rfl rfl (Nat.le_of_ble_eq_true rfl) dX3_setFan_24 (fun H locs hP hD hS => ?_)
      have hP : va_P (dC, dI) vwCl [(a_t, .inr (3, [.int t_hand, .int t_at, .int t_wide, .int t_rim, .int t_fill, .int t_wall, .int t_ceiling, .int x1, .int t_period, .int t_second, .int t_score, .int t_thrown, .int t_ballCount, .ref a_kinds, .ref a_sizes, .ref a_tights]))] H := hP
      have hD : va_D A [(a_t, .inr (3, [.int t_hand, .int t_at, .int t_wide, .int t_rim, .int t_fill, .int t_wall, .int t_ceiling, .int x1, .int t_period, .int t_second, .int t_score, .int t_thrown, .int t_ballCount, .ref a_kinds, .ref a_sizes, .ref a_tights]))] := hD
      refine lv_aload_n hx hb dX3_setFan_27 rfl (lv_at hl 0 rfl) ?_
      refine lv_iload_n hx hb dX3_setFan_28 rfl (lv_at hl 2 rfl) ?_
      refine va_put (D := (dC, dI)) (ci := 3) (v := .int x2) (ty := .int) (C := RX3) (T := TX3) (N := 16) hx hb hts hinX3 tyX3 tyX3_ok nmX3 hown hK hP hD hS 0 rfl rfl 8 (by decide) (hts (.fieldLink RX3 36 "PaperInBin$Office" "period" "I") (by decide +kernel)) (fun _ h9 => h9) rfl (tyX3_ok 8 (by decide)) rfl rfl (Nat.le_of_ble_eq_true rfl) dX3_setFan_29 (fun H locs hP hD hS => ?_)
      have hP : va_P (dC, dI) vwCl [(a_t, .inr (3, [.int t_hand, .int t_at, .int t_wide, .int t_rim, .int t_fill, .int t_wall, .int t_ceiling, .int x1, .int x2, .int t_second, .int t_score, .int t_thrown, .int t_ballCount, .ref a_kinds, .ref a_sizes, .ref a_tights]))] H := hP
      have hD : va_D A [(a_t, .inr (3, [.int t_hand, .int t_at, .int t_wide, .int t_rim, .int t_fill, .int t_wall, .int t_ceiling, .int x1, .int x2, .int t_second, .int t_score, .int t_thrown, .int t_ballCount, .ref a_kinds, .ref a_sizes, .ref a_tights]))] := hD
      refine lv_iconst (v := 1) hx hb dX3_setFan_32 (by decide) ?_
      subst hQ
      subst hAe
      exact W.zret (ty := .boolean) (v := 1) hx hb hr rfl (fun t ht hW => ⟨⟨1, (x1, x2), rfl, Option.some.inj hR, by rw [ht]; exact hP, hD⟩, hS.F ht⟩) hS.2.2 dX3_setFan_33
    · have hR := (if_pos c17).symm.trans hR
      refine lv_iconst (v := 0) hx hb dX3_setFan_20 (by decide) ?_
      subst hQ
      subst hAe
      exact W.zret (ty := .boolean) (v := 0) hx hb hr rfl (fun t ht hW => ⟨⟨0, (t_puff, t_period), rfl, Option.some.inj hR, by rw [ht]; exact hP, hD⟩, hS.F ht⟩) hS.2.2 dX3_setFan_21
def fX3_setFill (x1 : Int32) (t_fill : Int32) : Option (Int32 × Int32) :=
  b1 (fX3_isWithin x1 0 9) (fun r1 =>
  if r1 = 0 then (
   some (0, t_fill))
  else (
  some (1, x1)))
set_option maxHeartbeats 4000000 in
set_option maxRecDepth 100000 in
theorem kX3_setFill (l : Launch) (dC : Nat → ClassId) (dI : Nat → Nat → Nat) (cI : ClassId) (a_t a_kinds a_sizes a_tights : Nat) (sz : Nat) (x1 : Int32) (t_hand : Int32) (t_at : Int32) (t_wide : Int32) (t_rim : Int32) (t_fill : Int32) (t_wall : Int32) (t_ceiling : Int32) (t_puff : Int32) (t_period : Int32) (t_second : Int32) (t_score : Int32) (t_thrown : Int32) (t_ballCount : Int32) (R : Int32 × Int32) (hR : fX3_setFill x1 t_fill = some R) : Met l yX3_setFill wsX3_setFill ({ frames := 1, cells := 0, slots := 0, locals := 22 } : Room) (va_Pc [.ref a_t, .int x1] (Wp (dC, dI) [(cI, .int)] [(a_t, .inr (3, [.int t_hand, .int t_at, .int t_wide, .int t_rim, .int t_fill, .int t_wall, .int t_ceiling, .int t_puff, .int t_period, .int t_second, .int t_score, .int t_thrown, .int t_ballCount, .ref a_kinds, .ref a_sizes, .ref a_tights]))] sz)) (va_Qi (fun (r : Int32) (u : Int32) => (r, u) = R) (Wq (dC, dI) [(a_t, .inr (3, [.int t_hand, .int t_at, .int t_wide, .int t_rim, .int t_fill, .int t_wall, .int t_ceiling, .int t_puff, .int t_period, .int t_second, .int t_score, .int t_thrown, .int t_ballCount, .ref a_kinds, .ref a_sizes, .ref a_tights]))] sz (fun (u : Int32) => ([(a_t, .inr (3, [.int t_hand, .int t_at, .int t_wide, .int t_rim, .int u, .int t_wall, .int t_ceiling, .int t_puff, .int t_period, .int t_second, .int t_score, .int t_thrown, .int t_ballCount, .ref a_kinds, .ref a_sizes, .ref a_tights]))] : va_W))) (va_A [(a_t, .inr (3, [.int t_hand, .int t_at, .int t_wide, .int t_rim, .int t_fill, .int t_wall, .int t_ceiling, .int t_puff, .int t_period, .int t_second, .int t_score, .int t_thrown, .int t_ballCount, .ref a_kinds, .ref a_sizes, .ref a_tights]))] sz)) 0 0 (va_A [(a_t, .inr (3, [.int t_hand, .int t_at, .int t_wide, .int t_rim, .int t_fill, .int t_wall, .int t_ceiling, .int t_puff, .int t_period, .int t_second, .int t_score, .int t_thrown, .int t_ballCount, .ref a_kinds, .ref a_sizes, .ref a_tights]))] sz) := by
  refine Met.ofW (cc := cX3_setFill) (maxL := 2) (ret := (some .boolean)) (by decide) rfl ?_
  intro p e s m args below meth c s₁ B hml hv
  obtain ⟨hargs, hsz, hP, hK, hD0, hN⟩ := hv
  have hx := B.exec
  have hb := B.bytes
  have hr := B.returns
  have hts := atoms_spec (ws := wsX3_setFill) B.pre
  have hown : s.vm.findClass RX3 = some m.cls := findClass_of_methodNamed B.named
  have hlocks := B.notSynchronized
  subst hsz
  have hD := hD0.self (sz := s.heap.size)
  obtain ⟨A, hAe⟩ : ∃ A, A = va_A [(a_t, .inr (3, [.int t_hand, .int t_at, .int t_wide, .int t_rim, .int t_fill, .int t_wall, .int t_ceiling, .int t_puff, .int t_period, .int t_second, .int t_score, .int t_thrown, .int t_ballCount, .ref a_kinds, .ref a_sizes, .ref a_tights]))] s.heap.size := ⟨_, rfl⟩
  rw [← hAe] at hD
  have hA : ∀ q : Nat, s.heap.size ≤ q → A q := fun q h => by rw [hAe]; exact Or.inr h
  have hS : va_S A s.heap s.heap [] := va_S.rf
  have hl := lv_entry ([.ref a_t, .int x1]) (n := 2) (Nat.le_of_ble_eq_true rfl)
  rw [e_of hargs, lg_entry_eq]
  generalize (lg_sl ([.ref a_t, .int x1]) ++ List.replicate (2 - (lg_sl ([.ref a_t, .int x1])).length) Slot.unset).toArray = ls at hl ⊢
  have hl : lv_has ls 2 [(0, .ref a_t), (1, .int x1)] := hl
  have hinX3 : ∀ w ∈ wsX30, w ∈ wsX3_setFill := by decide +kernel
  refine w_q ({ frames := 1, cells := 0, slots := 0, locals := 22 } : Room) (fun Q0 hQ => ?_)
  rw [fX3_setFill] at hR
  refine lv_iload_n hx hb dX3_setFill_0 rfl (lv_at hl 1 rfl) ?_
  refine lv_iconst (v := 0) hx hb dX3_setFill_1 (by decide) ?_
  refine lv_bipush (v := 9) hx hb dX3_setFill_2 (by decide) ?_
  obtain ⟨r1, hu2, hR⟩ := b1_s hR
  refine cl_SiN (As := [.int x1, .int 0, .int 9]) (rest := []) (wc := []) (wr := [(a_t, .inr (3, [.int t_hand, .int t_at, .int t_wide, .int t_rim, .int t_fill, .int t_wall, .int t_ceiling, .int t_puff, .int t_period, .int t_second, .int t_score, .int t_thrown, .int t_ballCount, .ref a_kinds, .ref a_sizes, .ref a_tights]))]) ⟨hx, hb, hml, hown, hts⟩ (kX3_isWithin l dC dI cI s.heap.size x1 0 9 r1 hu2) (cwS 3 hts gX3_setFill_X3_isWithin rfl rfl rfl (by decide +kernel) ⟨Nat.le_of_ble_eq_true rfl, Nat.le_of_ble_eq_true rfl⟩) hK hN hP hD hS hA [] [0] rfl rfl rfl rfl rfl (by decide) rfl hl.1 rfl (Nat.le_of_ble_eq_true rfl) dX3_setFill_4 (fun H locs hP hD hS => ?_)
  have hP : va_P (dC, dI) vwCl [(a_t, .inr (3, [.int t_hand, .int t_at, .int t_wide, .int t_rim, .int t_fill, .int t_wall, .int t_ceiling, .int t_puff, .int t_period, .int t_second, .int t_score, .int t_thrown, .int t_ballCount, .ref a_kinds, .ref a_sizes, .ref a_tights]))] H := hP
  have hD : va_D A [(a_t, .inr (3, [.int t_hand, .int t_at, .int t_wide, .int t_rim, .int t_fill, .int t_wall, .int t_ceiling, .int t_puff, .int t_period, .int t_second, .int t_score, .int t_thrown, .int t_ballCount, .ref a_kinds, .ref a_sizes, .ref a_tights]))] := hD
  refine lv_if_ne (tgt := 12) hx hb dX3_setFill_7 (by decide) (fun c7 => ?_) (fun c7 => ?_)
  · have hR := (if_neg c7).symm.trans hR
    refine lv_aload_n hx hb dX3_setFill_12 rfl (lv_at hl 0 rfl) ?_
    refine lv_iload_n hx hb dX3_setFill_13 rfl (lv_at hl 1 rfl) ?_
    refine va_put (D := (dC, dI)) (ci := 3) (v := .int x1) (ty := .int) (C := RX3) (T := TX3) (N := 16) hx hb hts hinX3 tyX3 tyX3_ok nmX3 hown hK hP hD hS 0 rfl rfl 4 (by decide) (hts (.fieldLink RX3 24 "PaperInBin$Office" "fill" "I") (by decide +kernel)) (fun _ h9 => h9) rfl (tyX3_ok 4 (by decide)) rfl rfl (Nat.le_of_ble_eq_true rfl) dX3_setFill_14 (fun H locs hP hD hS => ?_)
    have hP : va_P (dC, dI) vwCl [(a_t, .inr (3, [.int t_hand, .int t_at, .int t_wide, .int t_rim, .int x1, .int t_wall, .int t_ceiling, .int t_puff, .int t_period, .int t_second, .int t_score, .int t_thrown, .int t_ballCount, .ref a_kinds, .ref a_sizes, .ref a_tights]))] H := hP
    have hD : va_D A [(a_t, .inr (3, [.int t_hand, .int t_at, .int t_wide, .int t_rim, .int x1, .int t_wall, .int t_ceiling, .int t_puff, .int t_period, .int t_second, .int t_score, .int t_thrown, .int t_ballCount, .ref a_kinds, .ref a_sizes, .ref a_tights]))] := hD
    refine lv_iconst (v := 1) hx hb dX3_setFill_17 (by decide) ?_
    subst hQ
    subst hAe
    exact W.zret (ty := .boolean) (v := 1) hx hb hr rfl (fun t ht hW => ⟨⟨1, (x1), rfl, Option.some.inj hR, by rw [ht]; exact hP, hD⟩, hS.F ht⟩) hS.2.2 dX3_setFill_18
  · have hR := (if_pos c7).symm.trans hR
    refine lv_iconst (v := 0) hx hb dX3_setFill_10 (by decide) ?_
    subst hQ
    subst hAe
    exact W.zret (ty := .boolean) (v := 0) hx hb hr rfl (fun t ht hW => ⟨⟨0, (t_fill), rfl, Option.some.inj hR, by rw [ht]; exact hP, hD⟩, hS.F ht⟩) hS.2.2 dX3_setFill_11
def fX3_addBall (x1 : Int32) (x2 : Int32) (x3 : Int32) (t_ballCount : Int32) (kindsA : Nat → Int32) (sizesA : Nat → Int32) (tightsA : Nat → Int32) : Option (Int32 × Int32 × (Nat → Int32) × (Nat → Int32) × (Nat → Int32)) :=
  if t_ballCount < 0 then (
   some (0, t_ballCount, kindsA, sizesA, tightsA))
  else (
  if 5 ≤ t_ballCount then (
   some (0, t_ballCount, kindsA, sizesA, tightsA))
  else (
  b1 (fX3_isWithin x2 1 9) (fun r1 =>
  if r1 = 0 then (
   some (0, t_ballCount, kindsA, sizesA, tightsA))
  else (
  b1 (fX3_isWithin x3 0 9) (fun r3 =>
  if r3 = 0 then (
   some (0, t_ballCount, kindsA, sizesA, tightsA))
  else (
  g_in t_ballCount 5 (
  g_in t_ballCount 5 (
  g_in t_ballCount 5 (
  some (1, (t_ballCount + 1), (upd kindsA (t_ballCount).toNatClampNeg x1), (upd sizesA (t_ballCount).toNatClampNeg x2), (upd tightsA (t_ballCount).toNatClampNeg x3)))))))))))
set_option maxHeartbeats 4000000 in
set_option maxRecDepth 100000 in
theorem kX3_addBall (l : Launch) (dC : Nat → ClassId) (dI : Nat → Nat → Nat) (cI : ClassId) (a_t a_kinds a_sizes a_tights : Nat) (sz : Nat) (x1 : Int32) (x2 : Int32) (x3 : Int32) (t_hand : Int32) (t_at : Int32) (t_wide : Int32) (t_rim : Int32) (t_fill : Int32) (t_wall : Int32) (t_ceiling : Int32) (t_puff : Int32) (t_period : Int32) (t_second : Int32) (t_score : Int32) (t_thrown : Int32) (t_ballCount : Int32) (kindsA : Nat → Int32) (sizesA : Nat → Int32) (tightsA : Nat → Int32) (R : Int32 × Int32 × (Nat → Int32) × (Nat → Int32) × (Nat → Int32)) (hR : fX3_addBall x1 x2 x3 t_ballCount kindsA sizesA tightsA = some R) : Met l yX3_addBall wsX3_addBall ({ frames := 1, cells := 0, slots := 0, locals := 22 } : Room) (va_Pc [.ref a_t, .int x1, .int x2, .int x3] (Wp (dC, dI) [(cI, .int)] [(a_t, .inr (3, [.int t_hand, .int t_at, .int t_wide, .int t_rim, .int t_fill, .int t_wall, .int t_ceiling, .int t_puff, .int t_period, .int t_second, .int t_score, .int t_thrown, .int t_ballCount, .ref a_kinds, .ref a_sizes, .ref a_tights])), (a_kinds, .inl (cI, 5, .inl kindsA)), (a_sizes, .inl (cI, 5, .inl sizesA)), (a_tights, .inl (cI, 5, .inl tightsA))] sz)) (va_Qi (fun (r : Int32) (u : Int32 × (Nat → Int32) × (Nat → Int32) × (Nat → Int32)) => (r, u) = R) (Wq (dC, dI) [(a_t, .inr (3, [.int t_hand, .int t_at, .int t_wide, .int t_rim, .int t_fill, .int t_wall, .int t_ceiling, .int t_puff, .int t_period, .int t_second, .int t_score, .int t_thrown, .int t_ballCount, .ref a_kinds, .ref a_sizes, .ref a_tights])), (a_kinds, .inl (cI, 5, .inl kindsA)), (a_sizes, .inl (cI, 5, .inl sizesA)), (a_tights, .inl (cI, 5, .inl tightsA))] sz (fun (u : Int32 × (Nat → Int32) × (Nat → Int32) × (Nat → Int32)) => ([(a_t, .inr (3, [.int t_hand, .int t_at, .int t_wide, .int t_rim, .int t_fill, .int t_wall, .int t_ceiling, .int t_puff, .int t_period, .int t_second, .int t_score, .int t_thrown, .int u.1, .ref a_kinds, .ref a_sizes, .ref a_tights])), (a_kinds, .inl (cI, 5, .inl u.2.1)), (a_sizes, .inl (cI, 5, .inl u.2.2.1)), (a_tights, .inl (cI, 5, .inl u.2.2.2))] : va_W))) (va_A [(a_t, .inr (3, [.int t_hand, .int t_at, .int t_wide, .int t_rim, .int t_fill, .int t_wall, .int t_ceiling, .int t_puff, .int t_period, .int t_second, .int t_score, .int t_thrown, .int t_ballCount, .ref a_kinds, .ref a_sizes, .ref a_tights])), (a_kinds, .inl (cI, 5, .inl kindsA)), (a_sizes, .inl (cI, 5, .inl sizesA)), (a_tights, .inl (cI, 5, .inl tightsA))] sz)) 0 0 (va_A [(a_t, .inr (3, [.int t_hand, .int t_at, .int t_wide, .int t_rim, .int t_fill, .int t_wall, .int t_ceiling, .int t_puff, .int t_period, .int t_second, .int t_score, .int t_thrown, .int t_ballCount, .ref a_kinds, .ref a_sizes, .ref a_tights])), (a_kinds, .inl (cI, 5, .inl kindsA)), (a_sizes, .inl (cI, 5, .inl sizesA)), (a_tights, .inl (cI, 5, .inl tightsA))] sz) := by
  refine Met.ofW (cc := cX3_addBall) (maxL := 4) (ret := (some .boolean)) (by decide) rfl ?_
  intro p e s m args below meth c s₁ B hml hv
  obtain ⟨hargs, hsz, hP, hK, hD0, hN⟩ := hv
  have hx := B.exec
  have hb := B.bytes
  have hr := B.returns
  have hts := atoms_spec (ws := wsX3_addBall) B.pre
  have hown : s.vm.findClass RX3 = some m.cls := findClass_of_methodNamed B.named
  have hlocks := B.notSynchronized
  subst hsz
  have hD := hD0.self (sz := s.heap.size)
  obtain ⟨A, hAe⟩ : ∃ A, A = va_A [(a_t, .inr (3, [.int t_hand, .int t_at, .int t_wide, .int t_rim, .int t_fill, .int t_wall, .int t_ceiling, .int t_puff, .int t_period, .int t_second, .int t_score, .int t_thrown, .int t_ballCount, .ref a_kinds, .ref a_sizes, .ref a_tights])), (a_kinds, .inl (cI, 5, .inl kindsA)), (a_sizes, .inl (cI, 5, .inl sizesA)), (a_tights, .inl (cI, 5, .inl tightsA))] s.heap.size := ⟨_, rfl⟩
  rw [← hAe] at hD
  have hA : ∀ q : Nat, s.heap.size ≤ q → A q := fun q h => by rw [hAe]; exact Or.inr h
  have hS : va_S A s.heap s.heap [] := va_S.rf
  have hl := lv_entry ([.ref a_t, .int x1, .int x2, .int x3]) (n := 4) (Nat.le_of_ble_eq_true rfl)
  rw [e_of hargs, lg_entry_eq]
  generalize (lg_sl ([.ref a_t, .int x1, .int x2, .int x3]) ++ List.replicate (4 - (lg_sl ([.ref a_t, .int x1, .int x2, .int x3])).length) Slot.unset).toArray = ls at hl ⊢
  have hl : lv_has ls 4 [(0, .ref a_t), (1, .int x1), (2, .int x2), (3, .int x3)] := hl
  have hinX3 : ∀ w ∈ wsX30, w ∈ wsX3_addBall := by decide +kernel
  refine w_q ({ frames := 1, cells := 0, slots := 0, locals := 22 } : Room) (fun Q0 hQ => ?_)
  rw [fX3_addBall] at hR
  refine lv_aload_n hx hb dX3_addBall_0 rfl (lv_at hl 0 rfl) ?_
  refine va_get (D := (dC, dI)) (ci := 3) (v := .int t_ballCount) (C := RX3) (T := TX3) (N := 16) hx hb hts hinX3 hown hK hP 0 rfl rfl 12 (by decide) (hts (.fieldLink RX3 48 "PaperInBin$Office" "ballCount" "I") (by decide +kernel)) (fun _ h9 => h9) rfl dX3_addBall_1 ?_
  refine lv_if_lt (tgt := 35) hx hb dX3_addBall_4 (by decide) (fun c4 => ?_) (fun c4 => ?_)
  · have hR := (if_pos c4).symm.trans hR
    refine lv_iconst (v := 0) hx hb dX3_addBall_35 (by decide) ?_
    subst hQ
    subst hAe
    exact W.zret (ty := .boolean) (v := 0) hx hb hr rfl (fun t ht hW => ⟨⟨0, (t_ballCount, kindsA, sizesA, tightsA), rfl, Option.some.inj hR, by rw [ht]; exact hP, hD⟩, hS.F ht⟩) hS.2.2 dX3_addBall_36
  · have hR := (if_neg c4).symm.trans hR
    refine lv_aload_n hx hb dX3_addBall_7 rfl (lv_at hl 0 rfl) ?_
    refine va_get (D := (dC, dI)) (ci := 3) (v := .int t_ballCount) (C := RX3) (T := TX3) (N := 16) hx hb hts hinX3 hown hK hP 0 rfl rfl 12 (by decide) (hts (.fieldLink RX3 48 "PaperInBin$Office" "ballCount" "I") (by decide +kernel)) (fun _ h9 => h9) rfl dX3_addBall_8 ?_
    refine lv_iconst (v := 5) hx hb dX3_addBall_11 (by decide) ?_
    refine lv_icmp_ge (tgt := 35) hx hb dX3_addBall_12 (by decide) (fun c12 => ?_) (fun c12 => ?_)
    · have hR := (if_pos c12).symm.trans hR
      refine lv_iconst (v := 0) hx hb dX3_addBall_35 (by decide) ?_
      subst hQ
      subst hAe
      exact W.zret (ty := .boolean) (v := 0) hx hb hr rfl (fun t ht hW => ⟨⟨0, (t_ballCount, kindsA, sizesA, tightsA), rfl, Option.some.inj hR, by rw [ht]; exact hP, hD⟩, hS.F ht⟩) hS.2.2 dX3_addBall_36
    · have hR := (if_neg c12).symm.trans hR
      refine lv_iload_n hx hb dX3_addBall_15 rfl (lv_at hl 2 rfl) ?_
      refine lv_iconst (v := 1) hx hb dX3_addBall_16 (by decide) ?_
      refine lv_bipush (v := 9) hx hb dX3_addBall_17 (by decide) ?_
      obtain ⟨r1, hu2, hR⟩ := b1_s hR
      refine cl_SiN (As := [.int x2, .int 1, .int 9]) (rest := []) (wc := []) (wr := [(a_t, .inr (3, [.int t_hand, .int t_at, .int t_wide, .int t_rim, .int t_fill, .int t_wall, .int t_ceiling, .int t_puff, .int t_period, .int t_second, .int t_score, .int t_thrown, .int t_ballCount, .ref a_kinds, .ref a_sizes, .ref a_tights])), (a_kinds, .inl (cI, 5, .inl kindsA)), (a_sizes, .inl (cI, 5, .inl sizesA)), (a_tights, .inl (cI, 5, .inl tightsA))]) ⟨hx, hb, hml, hown, hts⟩ (kX3_isWithin l dC dI cI s.heap.size x2 1 9 r1 hu2) (cwS 3 hts gX3_addBall_X3_isWithin rfl rfl rfl (by decide +kernel) ⟨Nat.le_of_ble_eq_true rfl, Nat.le_of_ble_eq_true rfl⟩) hK hN hP hD hS hA [] [0, 1, 2, 3] rfl rfl rfl rfl rfl (by decide) rfl hl.1 rfl (Nat.le_of_ble_eq_true rfl) dX3_addBall_19 (fun H locs hP hD hS => ?_)
      have hP : va_P (dC, dI) vwCl [(a_t, .inr (3, [.int t_hand, .int t_at, .int t_wide, .int t_rim, .int t_fill, .int t_wall, .int t_ceiling, .int t_puff, .int t_period, .int t_second, .int t_score, .int t_thrown, .int t_ballCount, .ref a_kinds, .ref a_sizes, .ref a_tights])), (a_kinds, .inl (cI, 5, .inl kindsA)), (a_sizes, .inl (cI, 5, .inl sizesA)), (a_tights, .inl (cI, 5, .inl tightsA))] H := hP
      have hD : va_D A [(a_t, .inr (3, [.int t_hand, .int t_at, .int t_wide, .int t_rim, .int t_fill, .int t_wall, .int t_ceiling, .int t_puff, .int t_period, .int t_second, .int t_score, .int t_thrown, .int t_ballCount, .ref a_kinds, .ref a_sizes, .ref a_tights])), (a_kinds, .inl (cI, 5, .inl kindsA)), (a_sizes, .inl (cI, 5, .inl sizesA)), (a_tights, .inl (cI, 5, .inl tightsA))] := hD
      refine lv_if_eq (tgt := 35) hx hb dX3_addBall_22 (by decide) (fun c22 => ?_) (fun c22 => ?_)
      · have hR := (if_pos c22).symm.trans hR
        refine lv_iconst (v := 0) hx hb dX3_addBall_35 (by decide) ?_
        subst hQ
        subst hAe
        exact W.zret (ty := .boolean) (v := 0) hx hb hr rfl (fun t ht hW => ⟨⟨0, (t_ballCount, kindsA, sizesA, tightsA), rfl, Option.some.inj hR, by rw [ht]; exact hP, hD⟩, hS.F ht⟩) hS.2.2 dX3_addBall_36
      · have hR := (if_neg c22).symm.trans hR
        refine lv_iload_n hx hb dX3_addBall_25 rfl (lv_at hl 3 rfl) ?_
        refine lv_iconst (v := 0) hx hb dX3_addBall_26 (by decide) ?_
        refine lv_bipush (v := 9) hx hb dX3_addBall_27 (by decide) ?_
        obtain ⟨r3, hu4, hR⟩ := b1_s hR
        refine cl_SiN (As := [.int x3, .int 0, .int 9]) (rest := []) (wc := []) (wr := [(a_t, .inr (3, [.int t_hand, .int t_at, .int t_wide, .int t_rim, .int t_fill, .int t_wall, .int t_ceiling, .int t_puff, .int t_period, .int t_second, .int t_score, .int t_thrown, .int t_ballCount, .ref a_kinds, .ref a_sizes, .ref a_tights])), (a_kinds, .inl (cI, 5, .inl kindsA)), (a_sizes, .inl (cI, 5, .inl sizesA)), (a_tights, .inl (cI, 5, .inl tightsA))]) ⟨hx, hb, hml, hown, hts⟩ (kX3_isWithin l dC dI cI H.size x3 0 9 r3 hu4) (cwS 3 hts gX3_addBall_X3_isWithin rfl rfl rfl (by decide +kernel) ⟨Nat.le_of_ble_eq_true rfl, Nat.le_of_ble_eq_true rfl⟩) hK hN hP hD hS hA [] [0, 1, 2, 3] rfl rfl rfl rfl rfl (by decide) rfl hl.1 rfl (Nat.le_of_ble_eq_true rfl) dX3_addBall_29 (fun H locs hP hD hS => ?_)
        have hP : va_P (dC, dI) vwCl [(a_t, .inr (3, [.int t_hand, .int t_at, .int t_wide, .int t_rim, .int t_fill, .int t_wall, .int t_ceiling, .int t_puff, .int t_period, .int t_second, .int t_score, .int t_thrown, .int t_ballCount, .ref a_kinds, .ref a_sizes, .ref a_tights])), (a_kinds, .inl (cI, 5, .inl kindsA)), (a_sizes, .inl (cI, 5, .inl sizesA)), (a_tights, .inl (cI, 5, .inl tightsA))] H := hP
        have hD : va_D A [(a_t, .inr (3, [.int t_hand, .int t_at, .int t_wide, .int t_rim, .int t_fill, .int t_wall, .int t_ceiling, .int t_puff, .int t_period, .int t_second, .int t_score, .int t_thrown, .int t_ballCount, .ref a_kinds, .ref a_sizes, .ref a_tights])), (a_kinds, .inl (cI, 5, .inl kindsA)), (a_sizes, .inl (cI, 5, .inl sizesA)), (a_tights, .inl (cI, 5, .inl tightsA))] := hD
        refine lv_if_ne (tgt := 37) hx hb dX3_addBall_32 (by decide) (fun c32 => ?_) (fun c32 => ?_)
        · have hR := (if_neg c32).symm.trans hR
          refine lv_aload_n hx hb dX3_addBall_37 rfl (lv_at hl 0 rfl) ?_
          refine va_get (D := (dC, dI)) (ci := 3) (v := .ref a_kinds) (C := RX3) (T := TX3) (N := 16) hx hb hts hinX3 hown hK hP 0 rfl rfl 13 (by decide) (hts (.fieldLink RX3 51 "PaperInBin$Office" "kinds" "[I") (by decide +kernel)) (fun _ h9 => h9) rfl dX3_addBall_38 ?_
          refine lv_aload_n hx hb dX3_addBall_41 rfl (lv_at hl 0 rfl) ?_
          refine va_get (D := (dC, dI)) (ci := 3) (v := .int t_ballCount) (C := RX3) (T := TX3) (N := 16) hx hb hts hinX3 hown hK hP 0 rfl rfl 12 (by decide) (hts (.fieldLink RX3 48 "PaperInBin$Office" "ballCount" "I") (by decide +kernel)) (fun _ h9 => h9) rfl dX3_addBall_42 ?_
          refine lv_iload_n hx hb dX3_addBall_45 rfl (lv_at hl 1 rfl) ?_
          obtain ⟨g5, hR⟩ := g_in_s hR
          refine va_iast hx hb hK hP hD hS 1 0 rfl rfl g5 dX3_addBall_46 (fun H locs hP hD hS => ?_)
          have hP : va_P (dC, dI) vwCl [(a_t, .inr (3, [.int t_hand, .int t_at, .int t_wide, .int t_rim, .int t_fill, .int t_wall, .int t_ceiling, .int t_puff, .int t_period, .int t_second, .int t_score, .int t_thrown, .int t_ballCount, .ref a_kinds, .ref a_sizes, .ref a_tights])), (a_kinds, .inl (cI, 5, .inl (upd kindsA (t_ballCount).toNatClampNeg x1))), (a_sizes, .inl (cI, 5, .inl sizesA)), (a_tights, .inl (cI, 5, .inl tightsA))] H := hP
          have hD : va_D A [(a_t, .inr (3, [.int t_hand, .int t_at, .int t_wide, .int t_rim, .int t_fill, .int t_wall, .int t_ceiling, .int t_puff, .int t_period, .int t_second, .int t_score, .int t_thrown, .int t_ballCount, .ref a_kinds, .ref a_sizes, .ref a_tights])), (a_kinds, .inl (cI, 5, .inl (upd kindsA (t_ballCount).toNatClampNeg x1))), (a_sizes, .inl (cI, 5, .inl sizesA)), (a_tights, .inl (cI, 5, .inl tightsA))] := hD
          refine lv_aload_n hx hb dX3_addBall_47 rfl (lv_at hl 0 rfl) ?_
          refine va_get (D := (dC, dI)) (ci := 3) (v := .ref a_sizes) (C := RX3) (T := TX3) (N := 16) hx hb hts hinX3 hown hK hP 0 rfl rfl 14 (by decide) (hts (.fieldLink RX3 55 "PaperInBin$Office" "sizes" "[I") (by decide +kernel)) (fun _ h9 => h9) rfl dX3_addBall_48 ?_
          refine lv_aload_n hx hb dX3_addBall_51 rfl (lv_at hl 0 rfl) ?_
          refine va_get (D := (dC, dI)) (ci := 3) (v := .int t_ballCount) (C := RX3) (T := TX3) (N := 16) hx hb hts hinX3 hown hK hP 0 rfl rfl 12 (by decide) (hts (.fieldLink RX3 48 "PaperInBin$Office" "ballCount" "I") (by decide +kernel)) (fun _ h9 => h9) rfl dX3_addBall_52 ?_
          refine lv_iload_n hx hb dX3_addBall_55 rfl (lv_at hl 2 rfl) ?_
          obtain ⟨g6, hR⟩ := g_in_s hR
          refine va_iast hx hb hK hP hD hS 2 0 rfl rfl g6 dX3_addBall_56 (fun H locs hP hD hS => ?_)
          have hP : va_P (dC, dI) vwCl [(a_t, .inr (3, [.int t_hand, .int t_at, .int t_wide, .int t_rim, .int t_fill, .int t_wall, .int t_ceiling, .int t_puff, .int t_period, .int t_second, .int t_score, .int t_thrown, .int t_ballCount, .ref a_kinds, .ref a_sizes, .ref a_tights])), (a_kinds, .inl (cI, 5, .inl (upd kindsA (t_ballCount).toNatClampNeg x1))), (a_sizes, .inl (cI, 5, .inl (upd sizesA (t_ballCount).toNatClampNeg x2))), (a_tights, .inl (cI, 5, .inl tightsA))] H := hP
          have hD : va_D A [(a_t, .inr (3, [.int t_hand, .int t_at, .int t_wide, .int t_rim, .int t_fill, .int t_wall, .int t_ceiling, .int t_puff, .int t_period, .int t_second, .int t_score, .int t_thrown, .int t_ballCount, .ref a_kinds, .ref a_sizes, .ref a_tights])), (a_kinds, .inl (cI, 5, .inl (upd kindsA (t_ballCount).toNatClampNeg x1))), (a_sizes, .inl (cI, 5, .inl (upd sizesA (t_ballCount).toNatClampNeg x2))), (a_tights, .inl (cI, 5, .inl tightsA))] := hD
          refine lv_aload_n hx hb dX3_addBall_57 rfl (lv_at hl 0 rfl) ?_
          refine va_get (D := (dC, dI)) (ci := 3) (v := .ref a_tights) (C := RX3) (T := TX3) (N := 16) hx hb hts hinX3 hown hK hP 0 rfl rfl 15 (by decide) (hts (.fieldLink RX3 58 "PaperInBin$Office" "tights" "[I") (by decide +kernel)) (fun _ h9 => h9) rfl dX3_addBall_58 ?_
          refine lv_aload_n hx hb dX3_addBall_61 rfl (lv_at hl 0 rfl) ?_
          refine va_get (D := (dC, dI)) (ci := 3) (v := .int t_ballCount) (C := RX3) (T := TX3) (N := 16) hx hb hts hinX3 hown hK hP 0 rfl rfl 12 (by decide) (hts (.fieldLink RX3 48 "PaperInBin$Office" "ballCount" "I") (by decide +kernel)) (fun _ h9 => h9) rfl dX3_addBall_62 ?_
          refine lv_iload_n hx hb dX3_addBall_65 rfl (lv_at hl 3 rfl) ?_
          obtain ⟨g7, hR⟩ := g_in_s hR
          refine va_iast hx hb hK hP hD hS 3 0 rfl rfl g7 dX3_addBall_66 (fun H locs hP hD hS => ?_)
          have hP : va_P (dC, dI) vwCl [(a_t, .inr (3, [.int t_hand, .int t_at, .int t_wide, .int t_rim, .int t_fill, .int t_wall, .int t_ceiling, .int t_puff, .int t_period, .int t_second, .int t_score, .int t_thrown, .int t_ballCount, .ref a_kinds, .ref a_sizes, .ref a_tights])), (a_kinds, .inl (cI, 5, .inl (upd kindsA (t_ballCount).toNatClampNeg x1))), (a_sizes, .inl (cI, 5, .inl (upd sizesA (t_ballCount).toNatClampNeg x2))), (a_tights, .inl (cI, 5, .inl (upd tightsA (t_ballCount).toNatClampNeg x3)))] H := hP
          have hD : va_D A [(a_t, .inr (3, [.int t_hand, .int t_at, .int t_wide, .int t_rim, .int t_fill, .int t_wall, .int t_ceiling, .int t_puff, .int t_period, .int t_second, .int t_score, .int t_thrown, .int t_ballCount, .ref a_kinds, .ref a_sizes, .ref a_tights])), (a_kinds, .inl (cI, 5, .inl (upd kindsA (t_ballCount).toNatClampNeg x1))), (a_sizes, .inl (cI, 5, .inl (upd sizesA (t_ballCount).toNatClampNeg x2))), (a_tights, .inl (cI, 5, .inl (upd tightsA (t_ballCount).toNatClampNeg x3)))] := hD
          refine lv_aload_n hx hb dX3_addBall_67 rfl (lv_at hl 0 rfl) ?_
          refine lv_dup hx hb dX3_addBall_68 rfl ?_
          refine va_get (D := (dC, dI)) (ci := 3) (v := .int t_ballCount) (C := RX3) (T := TX3) (N := 16) hx hb hts hinX3 hown hK hP 0 rfl rfl 12 (by decide) (hts (.fieldLink RX3 48 "PaperInBin$Office" "ballCount" "I") (by decide +kernel)) (fun _ h9 => h9) rfl dX3_addBall_69 ?_
          refine lv_iconst (v := 1) hx hb dX3_addBall_72 (by decide) ?_
          refine lv_iadd hx hb dX3_addBall_73 ?_
          refine va_put (D := (dC, dI)) (ci := 3) (v := .int (t_ballCount + 1)) (ty := .int) (C := RX3) (T := TX3) (N := 16) hx hb hts hinX3 tyX3 tyX3_ok nmX3 hown hK hP hD hS 0 rfl rfl 12 (by decide) (hts (.fieldLink RX3 48 "PaperInBin$Office" "ballCount" "I") (by decide +kernel)) (fun _ h9 => h9) rfl (tyX3_ok 12 (by decide)) rfl rfl (Nat.le_of_ble_eq_true rfl) dX3_addBall_74 (fun H locs hP hD hS => ?_)
          have hP : va_P (dC, dI) vwCl [(a_t, .inr (3, [.int t_hand, .int t_at, .int t_wide, .int t_rim, .int t_fill, .int t_wall, .int t_ceiling, .int t_puff, .int t_period, .int t_second, .int t_score, .int t_thrown, .int (t_ballCount + 1), .ref a_kinds, .ref a_sizes, .ref a_tights])), (a_kinds, .inl (cI, 5, .inl (upd kindsA (t_ballCount).toNatClampNeg x1))), (a_sizes, .inl (cI, 5, .inl (upd sizesA (t_ballCount).toNatClampNeg x2))), (a_tights, .inl (cI, 5, .inl (upd tightsA (t_ballCount).toNatClampNeg x3)))] H := hP
          have hD : va_D A [(a_t, .inr (3, [.int t_hand, .int t_at, .int t_wide, .int t_rim, .int t_fill, .int t_wall, .int t_ceiling, .int t_puff, .int t_period, .int t_second, .int t_score, .int t_thrown, .int (t_ballCount + 1), .ref a_kinds, .ref a_sizes, .ref a_tights])), (a_kinds, .inl (cI, 5, .inl (upd kindsA (t_ballCount).toNatClampNeg x1))), (a_sizes, .inl (cI, 5, .inl (upd sizesA (t_ballCount).toNatClampNeg x2))), (a_tights, .inl (cI, 5, .inl (upd tightsA (t_ballCount).toNatClampNeg x3)))] := hD
          refine lv_iconst (v := 1) hx hb dX3_addBall_77 (by decide) ?_
          subst hQ
          subst hAe
          exact W.zret (ty := .boolean) (v := 1) hx hb hr rfl (fun t ht hW => ⟨⟨1, ((t_ballCount + 1), (upd kindsA (t_ballCount).toNatClampNeg x1), (upd sizesA (t_ballCount).toNatClampNeg x2), (upd tightsA (t_ballCount).toNatClampNeg x3)), rfl, Option.some.inj hR, by rw [ht]; exact hP, hD⟩, hS.F ht⟩) hS.2.2 dX3_addBall_78
        · have hR := (if_pos c32).symm.trans hR
          refine lv_iconst (v := 0) hx hb dX3_addBall_35 (by decide) ?_
          subst hQ
          subst hAe
          exact W.zret (ty := .boolean) (v := 0) hx hb hr rfl (fun t ht hW => ⟨⟨0, (t_ballCount, kindsA, sizesA, tightsA), rfl, Option.some.inj hR, by rw [ht]; exact hP, hD⟩, hS.F ht⟩) hS.2.2 dX3_addBall_36
