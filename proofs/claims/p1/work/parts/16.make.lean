set_option maxHeartbeats 4000000 in
set_option maxRecDepth 100000 in
theorem k_rqL0 (l : Launch) (dC : Nat → ClassId) (dI : Nat → Nat → Nat) (cI cB cR cO : ClassId) (zk : Nat → Nat)  (sz : Nat)  : Met l yX1_requireLength wsX1_requireLength ({ frames := 0, cells := 0, slots := 0, locals := 0 }) (va_Pc [.int 0] (zPre (dC, dI) (zT cI cB cR cO) zk [] [] sz)) (va_Qv (fun _ : Unit => True) (fun _ t => zEnd (dC, dI) (zT cI cB cR cO) (va_A [] sz) [] sz 0 t) (va_A [] sz)) 0 0 (va_A [] sz) := by
  refine Met.ofW (cc := cX1_requireLength) (maxL := 1) (ret := none) (by decide) rfl ?_
  intro p e s mY args below meth c s₁ B hml hv
  obtain ⟨rfl, hsz, hP, hK, hD0, hZ⟩ := hv
  have hx := B.exec
  have hb := B.bytes
  have hr := B.returns
  have hts := atoms_spec (ws := wsX1_requireLength) B.pre
  have hown : s.vm.findClass RX1 = some mY.cls := findClass_of_methodNamed B.named
  have hlocks := B.notSynchronized
  subst hsz
  have hD := hD0.self (sz := s.heap.size)
  generalize hAe : va_A [] s.heap.size = A at hD hZ ⊢
  have hA : ∀ q : Nat, s.heap.size ≤ q → A q := fun q h => by rw [← hAe]; exact Or.inr h
  have hS : va_S A s.heap s.heap [] := va_S.rf
  have hz : s.heap.size + 0 ≤ s.heap.size := Nat.le_refl _
  have hl := lv_entry ([.int 0]) (n := 1) (Nat.le_of_ble_eq_true rfl)
  rw [lg_entry_eq]
  generalize (lg_sl ([.int 0]) ++ List.replicate (1 - (lg_sl ([.int 0])).length) Slot.unset).toArray = ls at hl ⊢
  have hl : lv_has ls 1 [(0, .int 0)] := hl
  have hP : va_P (dC, dI) vwCl [] s.heap := hP
  have hD : va_D A [] := hD
  refine lv_iload_n hx hb dX1_requireLength_0 rfl (lv_at hl 0 rfl) ?_
  refine lv_if_lt (tgt := 9) hx hb dX1_requireLength_1 (by decide) (fun c9 => ?_) (fun c9 => ?_)
  · exact absurd c9 (by decide)
  refine lv_iload_n hx hb dX1_requireLength_4 rfl (lv_at hl 0 rfl) ?_
  refine lv_iconst (v := 4) hx hb dX1_requireLength_5 (by decide) ?_
  refine lv_icmp_le (tgt := 20) hx hb dX1_requireLength_6 (by decide) (fun c9 => ?_) (fun c9 => ?_)
  rotate_left
  · exact absurd (by decide) c9
  have hP9 := hP.sub (ws' := []) [] rfl
  have hD9 := hD.sub (ws' := []) [] (by decide) rfl
  exact W.vret hx hb hr (fun t ht hW => ⟨⟨(), rfl, trivial, ⟨by rw [ht]; exact hP9, va_K.moved hW.alike hK, hD9, by rw [ht]; exact hz⟩⟩, hS.F ht⟩) hS.2.2 dX1_requireLength_20

set_option maxHeartbeats 4000000 in
set_option maxRecDepth 100000 in
theorem k_isIn4_0 (l : Launch) (dC : Nat → ClassId) (dI : Nat → Nat → Nat) (cI cB cR cO : ClassId) (zk : Nat → Nat)  (sz : Nat)  : Met l yX4_isIn wsX4_isIn ({ frames := 0, cells := 0, slots := 0, locals := 0 }) (va_Pc [.int 0, .int 0, .int 4] (zPre (dC, dI) (zT cI cB cR cO) zk [] [] sz)) (va_Qi (fun r (_ : Unit) => r = 1) (fun _ t => zEnd (dC, dI) (zT cI cB cR cO) (va_A [] sz) [] sz 0 t) (va_A [] sz)) 0 0 (va_A [] sz) := by
  refine Met.ofW (cc := cX4_isIn) (maxL := 3) (ret := (some .boolean)) (by decide) rfl ?_
  intro p e s mY args below meth c s₁ B hml hv
  obtain ⟨rfl, hsz, hP, hK, hD0, hZ⟩ := hv
  have hx := B.exec
  have hb := B.bytes
  have hr := B.returns
  have hts := atoms_spec (ws := wsX4_isIn) B.pre
  have hown : s.vm.findClass RX4 = some mY.cls := findClass_of_methodNamed B.named
  have hlocks := B.notSynchronized
  subst hsz
  have hD := hD0.self (sz := s.heap.size)
  generalize hAe : va_A [] s.heap.size = A at hD hZ ⊢
  have hA : ∀ q : Nat, s.heap.size ≤ q → A q := fun q h => by rw [← hAe]; exact Or.inr h
  have hS : va_S A s.heap s.heap [] := va_S.rf
  have hz : s.heap.size + 0 ≤ s.heap.size := Nat.le_refl _
  have hl := lv_entry ([.int 0, .int 0, .int 4]) (n := 3) (Nat.le_of_ble_eq_true rfl)
  rw [lg_entry_eq]
  generalize (lg_sl ([.int 0, .int 0, .int 4]) ++ List.replicate (3 - (lg_sl ([.int 0, .int 0, .int 4])).length) Slot.unset).toArray = ls at hl ⊢
  have hl : lv_has ls 3 [(0, .int 0), (1, .int 0), (2, .int 4)] := hl
  have hP : va_P (dC, dI) vwCl [] s.heap := hP
  have hD : va_D A [] := hD
  refine lv_iload_n hx hb dX4_isIn_0 rfl (lv_at hl 0 rfl) ?_
  refine lv_iload_n hx hb dX4_isIn_1 rfl (lv_at hl 1 rfl) ?_
  refine lv_icmp_lt (tgt := 14) hx hb dX4_isIn_2 (by decide) (fun c9 => ?_) (fun c9 => ?_)
  · exact absurd c9 (by decide)
  refine lv_iload_n hx hb dX4_isIn_5 rfl (lv_at hl 0 rfl) ?_
  refine lv_iload_n hx hb dX4_isIn_6 rfl (lv_at hl 2 rfl) ?_
  refine lv_icmp_gt (tgt := 14) hx hb dX4_isIn_7 (by decide) (fun c9 => ?_) (fun c9 => ?_)
  · exact absurd c9 (by decide)
  refine lv_iconst (v := 1) hx hb dX4_isIn_10 (by decide) ?_
  refine lv_goto (tgt := 15) hx hb dX4_isIn_11 (by decide) ?_
  have hP9 := hP.sub (ws' := []) [] rfl
  have hD9 := hD.sub (ws' := []) [] (by decide) rfl
  exact W.zret (v := 1) hx hb hr (by decide +kernel) (fun t ht hW => ⟨⟨_, (), rfl, rfl, ⟨by rw [ht]; exact hP9, va_K.moved hW.alike hK, hD9, by rw [ht]; exact hz⟩⟩, hS.F ht⟩) hS.2.2 dX4_isIn_15

set_option maxHeartbeats 4000000 in
set_option maxRecDepth 100000 in
theorem k_rI04 (l : Launch) (dC : Nat → ClassId) (dI : Nat → Nat → Nat) (cI cB cR cO : ClassId) (zk : Nat → Nat) (a0 : Nat) (sz : Nat)  : Met l yX0_init wsX0_init ({ frames := 1, cells := 3, slots := 0, locals := 60 }) (va_Pc [.ref a0, .int 4, .int 0] (zPre (dC, dI) (zT cI cB cR cO) zk [] [(a0, .inr (5, [.int 0, .int 0, .null, .null, .null, .int 0]))] sz)) (va_Qv (fun _ : Unit => True) (fun _ t => ∃ w1, ∃ v1, ∃ h1, zEnd (dC, dI) (zT cI cB cR cO) (va_A [(a0, .inr (5, [.int 0, .int 0, .null, .null, .null, .int 0]))] sz) [(a0, .inr (5, [.int 4, .int 0, .ref w1, .ref v1, .ref h1, .int 0]))] sz 3 t) (va_A [(a0, .inr (5, [.int 0, .int 0, .null, .null, .null, .int 0]))] sz)) 3 0 (va_A [(a0, .inr (5, [.int 0, .int 0, .null, .null, .null, .int 0]))] sz) := by
  refine Met.ofW (cc := cX0_init) (maxL := 4) (ret := none) (by decide) rfl ?_
  intro p e s mY args below meth c s₁ B hml hv
  obtain ⟨rfl, hsz, hP, hK, hD0, hZ⟩ := hv
  have hx := B.exec
  have hb := B.bytes
  have hr := B.returns
  have hts := atoms_spec (ws := wsX0_init) B.pre
  have hown : s.vm.findClass RX0 = some mY.cls := findClass_of_methodNamed B.named
  have hlocks := B.notSynchronized
  have hin : meth.name = "<init>" := (name_of_methodNamed B.named B.method).1
  subst hsz
  have hD := hD0.self (sz := s.heap.size)
  generalize hAe : va_A [(a0, .inr (5, [.int 0, .int 0, .null, .null, .null, .int 0]))] s.heap.size = A at hD hZ ⊢
  have hA : ∀ q : Nat, s.heap.size ≤ q → A q := fun q h => by rw [← hAe]; exact Or.inr h
  have hS : va_S A s.heap s.heap [] := va_S.rf
  have hz : s.heap.size + 0 ≤ s.heap.size := Nat.le_refl _
  have hl := lv_entry ([.ref a0, .int 4, .int 0]) (n := 4) (Nat.le_of_ble_eq_true rfl)
  rw [lg_entry_eq]
  generalize (lg_sl ([.ref a0, .int 4, .int 0]) ++ List.replicate (4 - (lg_sl ([.ref a0, .int 4, .int 0])).length) Slot.unset).toArray = ls at hl ⊢
  have hl : lv_has ls 4 [(0, .ref a0), (1, .int 4), (2, .int 0)] := hl
  have hP : va_P (dC, dI) vwCl [(a0, .inr (5, [.int 0, .int 0, .null, .null, .null, .int 0]))] s.heap := hP
  have hD : va_D A [(a0, .inr (5, [.int 0, .int 0, .null, .null, .null, .int 0]))] := hD
  refine lv_aload_n hx hb dX0_init_0 rfl (lv_at hl 0 rfl) ?_
  refine W.objInit hx hb hown (hts (.methodLink RX0 3 objectInit) (List.mem_cons_of_mem _ zw_104)) (hts (.instanceMethod objectInit) (List.mem_cons_of_mem _ zw_71)) (hts (.code objectInit ⟨#[0xb1]⟩ 1 none) (List.mem_cons_of_mem _ zw_72)) rfl (by rw [hml]; exact hl.1) rfl dX0_init_1 (Nat.le_of_ble_eq_true rfl) (Nat.le_of_ble_eq_true rfl) ?_
  refine W.eq (g2 := F0 mY 4 ls []) rfl ?_
  refine lv_aload_n hx hb dX0_init_4 rfl (lv_at hl 0 rfl) ?_
  refine lv_iload_n hx hb dX0_init_5 rfl (lv_at hl 1 rfl) ?_
  refine va_putF (D := (dC, dI)) (ci := 5) (v := .int 4) (ty := .int) (C := RX0) (T := TX0) (N := 6) hx hb hts hi_X0_init_X0 tyX0 tyX0_ok nmX0 hown hK hP hD (zS0 hS) 0 rfl rfl 0 (by decide) (hts (.fieldLink RX0 9 "Deeprows$Row" "kind" "I") (List.mem_cons_of_mem _ zw_107)) (fun _ h9 => h9) rfl hin rfl (by decide +kernel) rfl rfl (Nat.le_of_ble_eq_true rfl) dX0_init_6 (fun H1 locs hP hD hS1 => ?_)
  have hz : s.heap.size + 0 ≤ H1.size := Nat.le_trans hz hS1.1
  have hS := zSS hS hS1
  replace hP : va_P (dC, dI) vwCl [(a0, .inr (5, [.int 4, .int 0, .null, .null, .null, .int 0]))] H1 := hP
  replace hD : va_D A [(a0, .inr (5, [.int 4, .int 0, .null, .null, .null, .int 0]))] := hD
  refine lv_aload_n hx hb dX0_init_9 rfl (lv_at hl 0 rfl) ?_
  refine lv_iload_n hx hb dX0_init_10 rfl (lv_at hl 2 rfl) ?_
  refine va_putF (D := (dC, dI)) (ci := 5) (v := .int 0) (ty := .int) (C := RX0) (T := TX0) (N := 6) hx hb hts hi_X0_init_X0 tyX0 tyX0_ok nmX0 hown hK hP hD (zS0 hS) 0 rfl rfl 1 (by decide) (hts (.fieldLink RX0 15 "Deeprows$Row" "length" "I") (List.mem_cons_of_mem _ zw_109)) (fun _ h9 => h9) rfl hin rfl (by decide +kernel) rfl rfl (Nat.le_of_ble_eq_true rfl) dX0_init_11 (fun H2 locs hP hD hS1 => ?_)
  have hz : s.heap.size + 0 ≤ H2.size := Nat.le_trans hz hS1.1
  have hS := zSS hS hS1
  replace hP : va_P (dC, dI) vwCl [(a0, .inr (5, [.int 4, .int 0, .null, .null, .null, .int 0]))] H2 := hP
  replace hD : va_D A [(a0, .inr (5, [.int 4, .int 0, .null, .null, .null, .int 0]))] := hD
  refine lv_aload_n hx hb dX0_init_14 rfl (lv_at hl 0 rfl) ?_
  refine lv_iload_n hx hb dX0_init_15 rfl (lv_at hl 2 rfl) ?_
  refine zw_newa (atype := .int) (ty := .int) (N' := 0) hx hb (hts (.arrayClass .int) (List.mem_cons_of_mem _ zw_131)) rfl (by first | exact Or.inl rfl | exact Or.inr rfl) hK hP hD hS hA 0 rfl (by decide) (by decide) (Nat.le_of_ble_eq_true rfl) (Nat.le_of_ble_eq_true rfl) (Nat.le_of_ble_eq_true rfl) dX0_init_16 hz (fun q3 H4 hP hD hS hz => ?_)
  replace hP : va_P (dC, dI) vwCl [(a0, .inr (5, [.int 4, .int 0, .null, .null, .null, .int 0])), (q3, .inl (cI, 0, .inl (fun _ => 0)))] H4 := hP
  replace hD : va_D A [(a0, .inr (5, [.int 4, .int 0, .null, .null, .null, .int 0])), (q3, .inl (cI, 0, .inl (fun _ => 0)))] := hD
  refine W.widen (k := 1) (n := 0) (by omega) (by omega) ?_
  refine va_putF (D := (dC, dI)) (ci := 5) (v := .ref q3) (ty := .array .int) (C := RX0) (T := TX0) (N := 6) hx hb hts hi_X0_init_X0 tyX0 tyX0_ok nmX0 hown hK hP hD (zS0 hS) 0 rfl rfl 2 (by decide) (hts (.fieldLink RX0 18 "Deeprows$Row" "whats" "[I") (List.mem_cons_of_mem _ zw_111)) (fun _ h9 => h9) rfl hin rfl (by decide +kernel) rfl rfl (Nat.le_of_ble_eq_true rfl) dX0_init_18 (fun H5 locs hP hD hS1 => ?_)
  have hz : s.heap.size + 1 ≤ H5.size := Nat.le_trans hz hS1.1
  have hS := zSS hS hS1
  replace hP : va_P (dC, dI) vwCl [(a0, .inr (5, [.int 4, .int 0, .ref q3, .null, .null, .int 0])), (q3, .inl (cI, 0, .inl (fun _ => 0)))] H5 := hP
  replace hD : va_D A [(a0, .inr (5, [.int 4, .int 0, .ref q3, .null, .null, .int 0])), (q3, .inl (cI, 0, .inl (fun _ => 0)))] := hD
  refine lv_aload_n hx hb dX0_init_21 rfl (lv_at hl 0 rfl) ?_
  refine lv_iload_n hx hb dX0_init_22 rfl (lv_at hl 2 rfl) ?_
  refine zw_newa (atype := .int) (ty := .int) (N' := 0) hx hb (hts (.arrayClass .int) (List.mem_cons_of_mem _ zw_131)) rfl (by first | exact Or.inl rfl | exact Or.inr rfl) hK hP hD hS hA 0 rfl (by decide) (by decide) (Nat.le_of_ble_eq_true rfl) (Nat.le_of_ble_eq_true rfl) (Nat.le_of_ble_eq_true rfl) dX0_init_23 hz (fun q6 H7 hP hD hS hz => ?_)
  replace hP : va_P (dC, dI) vwCl [(a0, .inr (5, [.int 4, .int 0, .ref q3, .null, .null, .int 0])), (q3, .inl (cI, 0, .inl (fun _ => 0))), (q6, .inl (cI, 0, .inl (fun _ => 0)))] H7 := hP
  replace hD : va_D A [(a0, .inr (5, [.int 4, .int 0, .ref q3, .null, .null, .int 0])), (q3, .inl (cI, 0, .inl (fun _ => 0))), (q6, .inl (cI, 0, .inl (fun _ => 0)))] := hD
  refine W.widen (k := 2) (n := 0) (by omega) (by omega) ?_
  refine va_putF (D := (dC, dI)) (ci := 5) (v := .ref q6) (ty := .array .int) (C := RX0) (T := TX0) (N := 6) hx hb hts hi_X0_init_X0 tyX0 tyX0_ok nmX0 hown hK hP hD (zS0 hS) 0 rfl rfl 3 (by decide) (hts (.fieldLink RX0 22 "Deeprows$Row" "values" "[I") (List.mem_cons_of_mem _ zw_113)) (fun _ h9 => h9) rfl hin rfl (by decide +kernel) rfl rfl (Nat.le_of_ble_eq_true rfl) dX0_init_25 (fun H8 locs hP hD hS1 => ?_)
  have hz : s.heap.size + 2 ≤ H8.size := Nat.le_trans hz hS1.1
  have hS := zSS hS hS1
  replace hP : va_P (dC, dI) vwCl [(a0, .inr (5, [.int 4, .int 0, .ref q3, .ref q6, .null, .int 0])), (q3, .inl (cI, 0, .inl (fun _ => 0))), (q6, .inl (cI, 0, .inl (fun _ => 0)))] H8 := hP
  replace hD : va_D A [(a0, .inr (5, [.int 4, .int 0, .ref q3, .ref q6, .null, .int 0])), (q3, .inl (cI, 0, .inl (fun _ => 0))), (q6, .inl (cI, 0, .inl (fun _ => 0)))] := hD
  refine lv_aload_n hx hb dX0_init_28 rfl (lv_at hl 0 rfl) ?_
  refine lv_iload_n hx hb dX0_init_29 rfl (lv_at hl 2 rfl) ?_
  refine zw_newq (C := "Deeprows$Row") (N' := 0) hx hb hown (hts (.classLink RX0 10 RX0) (List.mem_cons_of_mem _ zw_105)) (za0 hZ) hK hP hD hS hA 2 rfl (by decide) (by decide) (by decide) (Nat.le_of_ble_eq_true rfl) (Nat.le_of_ble_eq_true rfl) dX0_init_30 hz (fun q9 H10 hP hD hS hz => ?_)
  replace hP : va_P (dC, dI) vwCl [(a0, .inr (5, [.int 4, .int 0, .ref q3, .ref q6, .null, .int 0])), (q3, .inl (cI, 0, .inl (fun _ => 0))), (q6, .inl (cI, 0, .inl (fun _ => 0))), (q9, .inl (cR, 0, .inr (.inr (.inr (.inr (fun _ => none))))))] H10 := hP
  replace hD : va_D A [(a0, .inr (5, [.int 4, .int 0, .ref q3, .ref q6, .null, .int 0])), (q3, .inl (cI, 0, .inl (fun _ => 0))), (q6, .inl (cI, 0, .inl (fun _ => 0))), (q9, .inl (cR, 0, .inr (.inr (.inr (.inr (fun _ => none))))))] := hD
  refine W.widen (k := 3) (n := 0) (by omega) (by omega) ?_
  refine va_putF (D := (dC, dI)) (ci := 5) (v := .ref q9) (ty := .array (.object "Deeprows$Row")) (C := RX0) (T := TX0) (N := 6) hx hb hts hi_X0_init_X0 tyX0 tyX0_ok nmX0 hown hK hP hD (zS0 hS) 0 rfl rfl 4 (by decide) (hts (.fieldLink RX0 25 "Deeprows$Row" "hung" "[LDeeprows$Row;") (List.mem_cons_of_mem _ zw_115)) (fun _ h9 => h9) rfl hin rfl (by decide +kernel) rfl rfl (Nat.le_of_ble_eq_true rfl) dX0_init_33 (fun H11 locs hP hD hS1 => ?_)
  have hz : s.heap.size + 3 ≤ H11.size := Nat.le_trans hz hS1.1
  have hS := zSS hS hS1
  replace hP : va_P (dC, dI) vwCl [(a0, .inr (5, [.int 4, .int 0, .ref q3, .ref q6, .ref q9, .int 0])), (q3, .inl (cI, 0, .inl (fun _ => 0))), (q6, .inl (cI, 0, .inl (fun _ => 0))), (q9, .inl (cR, 0, .inr (.inr (.inr (.inr (fun _ => none))))))] H11 := hP
  replace hD : va_D A [(a0, .inr (5, [.int 4, .int 0, .ref q3, .ref q6, .ref q9, .int 0])), (q3, .inl (cI, 0, .inl (fun _ => 0))), (q6, .inl (cI, 0, .inl (fun _ => 0))), (q9, .inl (cR, 0, .inr (.inr (.inr (.inr (fun _ => none))))))] := hD
  refine lv_iconst (v := 0) hx hb dX0_init_36 (by decide) ?_
  refine lv_istore_n (lv' := [(3, .int 0), (0, .ref a0), (1, .int 4), (2, .int 0)]) hx hb dX0_init_37 rfl hl (by decide) rfl (fun ls hl => ?_)
  refine lv_iload_n hx hb dX0_init_38 rfl (lv_at hl 0 rfl) ?_
  refine lv_iload_n hx hb dX0_init_39 rfl (lv_at hl 3 rfl) ?_
  refine lv_icmp_ge (tgt := 81) hx hb dX0_init_40 (by decide) (fun c9 => ?_) (fun c9 => ?_)
  rotate_left
  · exact absurd (by decide) c9
  have hP9 := hP.sub (ws' := [(a0, .inr (5, [.int 4, .int 0, .ref q3, .ref q6, .ref q9, .int 0]))]) [0] rfl
  have hD9 := hD.sub (ws' := [(a0, .inr (5, [.int 4, .int 0, .ref q3, .ref q6, .ref q9, .int 0]))]) [0] (by decide) rfl
  exact W.vret hx hb hr (fun t ht hW => ⟨⟨(), rfl, trivial, ⟨_, _, _, ⟨by rw [ht]; exact hP9, va_K.moved hW.alike hK, hD9, by rw [ht]; exact hz⟩⟩⟩, hS.F ht⟩) hS.2.2 dX0_init_81

set_option maxHeartbeats 4000000 in
set_option maxRecDepth 100000 in
theorem k_rI0s (l : Launch) (dC : Nat → ClassId) (dI : Nat → Nat → Nat) (cI cB cR cO : ClassId) (zk : Nat → Nat) (a0 : Nat) (kd : Int32) (sz : Nat) (hkd : ¬ kd = 4) : Met l yX0_init wsX0_init ({ frames := 1, cells := 3, slots := 0, locals := 60 }) (va_Pc [.ref a0, .int kd, .int 0] (zPre (dC, dI) (zT cI cB cR cO) zk [] [(a0, .inr (5, [.int 0, .int 0, .null, .null, .null, .int 0]))] sz)) (va_Qv (fun _ : Unit => True) (fun _ t => ∃ w1, ∃ v1, ∃ h1, zEnd (dC, dI) (zT cI cB cR cO) (va_A [(a0, .inr (5, [.int 0, .int 0, .null, .null, .null, .int 0]))] sz) [(a0, .inr (5, [.int kd, .int 0, .ref w1, .ref v1, .ref h1, .int 0]))] sz 3 t) (va_A [(a0, .inr (5, [.int 0, .int 0, .null, .null, .null, .int 0]))] sz)) 3 0 (va_A [(a0, .inr (5, [.int 0, .int 0, .null, .null, .null, .int 0]))] sz) := by
  refine Met.ofW (cc := cX0_init) (maxL := 4) (ret := none) (by decide) rfl ?_
  intro p e s mY args below meth c s₁ B hml hv
  obtain ⟨rfl, hsz, hP, hK, hD0, hZ⟩ := hv
  have hx := B.exec
  have hb := B.bytes
  have hr := B.returns
  have hts := atoms_spec (ws := wsX0_init) B.pre
  have hown : s.vm.findClass RX0 = some mY.cls := findClass_of_methodNamed B.named
  have hlocks := B.notSynchronized
  have hin : meth.name = "<init>" := (name_of_methodNamed B.named B.method).1
  subst hsz
  have hD := hD0.self (sz := s.heap.size)
  generalize hAe : va_A [(a0, .inr (5, [.int 0, .int 0, .null, .null, .null, .int 0]))] s.heap.size = A at hD hZ ⊢
  have hA : ∀ q : Nat, s.heap.size ≤ q → A q := fun q h => by rw [← hAe]; exact Or.inr h
  have hS : va_S A s.heap s.heap [] := va_S.rf
  have hz : s.heap.size + 0 ≤ s.heap.size := Nat.le_refl _
  have hl := lv_entry ([.ref a0, .int kd, .int 0]) (n := 4) (Nat.le_of_ble_eq_true rfl)
  rw [lg_entry_eq]
  generalize (lg_sl ([.ref a0, .int kd, .int 0]) ++ List.replicate (4 - (lg_sl ([.ref a0, .int kd, .int 0])).length) Slot.unset).toArray = ls at hl ⊢
  have hl : lv_has ls 4 [(0, .ref a0), (1, .int kd), (2, .int 0)] := hl
  have hP : va_P (dC, dI) vwCl [(a0, .inr (5, [.int 0, .int 0, .null, .null, .null, .int 0]))] s.heap := hP
  have hD : va_D A [(a0, .inr (5, [.int 0, .int 0, .null, .null, .null, .int 0]))] := hD
  refine lv_aload_n hx hb dX0_init_0 rfl (lv_at hl 0 rfl) ?_
  refine W.objInit hx hb hown (hts (.methodLink RX0 3 objectInit) (List.mem_cons_of_mem _ zw_104)) (hts (.instanceMethod objectInit) (List.mem_cons_of_mem _ zw_71)) (hts (.code objectInit ⟨#[0xb1]⟩ 1 none) (List.mem_cons_of_mem _ zw_72)) rfl (by rw [hml]; exact hl.1) rfl dX0_init_1 (Nat.le_of_ble_eq_true rfl) (Nat.le_of_ble_eq_true rfl) ?_
  refine W.eq (g2 := F0 mY 4 ls []) rfl ?_
  refine lv_aload_n hx hb dX0_init_4 rfl (lv_at hl 0 rfl) ?_
  refine lv_iload_n hx hb dX0_init_5 rfl (lv_at hl 1 rfl) ?_
  refine va_putF (D := (dC, dI)) (ci := 5) (v := .int kd) (ty := .int) (C := RX0) (T := TX0) (N := 6) hx hb hts hi_X0_init_X0 tyX0 tyX0_ok nmX0 hown hK hP hD (zS0 hS) 0 rfl rfl 0 (by decide) (hts (.fieldLink RX0 9 "Deeprows$Row" "kind" "I") (List.mem_cons_of_mem _ zw_107)) (fun _ h9 => h9) rfl hin rfl (by decide +kernel) rfl rfl (Nat.le_of_ble_eq_true rfl) dX0_init_6 (fun H1 locs hP hD hS1 => ?_)
  have hz : s.heap.size + 0 ≤ H1.size := Nat.le_trans hz hS1.1
  have hS := zSS hS hS1
  replace hP : va_P (dC, dI) vwCl [(a0, .inr (5, [.int kd, .int 0, .null, .null, .null, .int 0]))] H1 := hP
  replace hD : va_D A [(a0, .inr (5, [.int kd, .int 0, .null, .null, .null, .int 0]))] := hD
  refine lv_aload_n hx hb dX0_init_9 rfl (lv_at hl 0 rfl) ?_
  refine lv_iload_n hx hb dX0_init_10 rfl (lv_at hl 2 rfl) ?_
  refine va_putF (D := (dC, dI)) (ci := 5) (v := .int 0) (ty := .int) (C := RX0) (T := TX0) (N := 6) hx hb hts hi_X0_init_X0 tyX0 tyX0_ok nmX0 hown hK hP hD (zS0 hS) 0 rfl rfl 1 (by decide) (hts (.fieldLink RX0 15 "Deeprows$Row" "length" "I") (List.mem_cons_of_mem _ zw_109)) (fun _ h9 => h9) rfl hin rfl (by decide +kernel) rfl rfl (Nat.le_of_ble_eq_true rfl) dX0_init_11 (fun H2 locs hP hD hS1 => ?_)
  have hz : s.heap.size + 0 ≤ H2.size := Nat.le_trans hz hS1.1
  have hS := zSS hS hS1
  replace hP : va_P (dC, dI) vwCl [(a0, .inr (5, [.int kd, .int 0, .null, .null, .null, .int 0]))] H2 := hP
  replace hD : va_D A [(a0, .inr (5, [.int kd, .int 0, .null, .null, .null, .int 0]))] := hD
  refine lv_aload_n hx hb dX0_init_14 rfl (lv_at hl 0 rfl) ?_
  refine lv_iload_n hx hb dX0_init_15 rfl (lv_at hl 2 rfl) ?_
  refine zw_newa (atype := .int) (ty := .int) (N' := 0) hx hb (hts (.arrayClass .int) (List.mem_cons_of_mem _ zw_131)) rfl (by first | exact Or.inl rfl | exact Or.inr rfl) hK hP hD hS hA 0 rfl (by decide) (by decide) (Nat.le_of_ble_eq_true rfl) (Nat.le_of_ble_eq_true rfl) (Nat.le_of_ble_eq_true rfl) dX0_init_16 hz (fun q3 H4 hP hD hS hz => ?_)
  replace hP : va_P (dC, dI) vwCl [(a0, .inr (5, [.int kd, .int 0, .null, .null, .null, .int 0])), (q3, .inl (cI, 0, .inl (fun _ => 0)))] H4 := hP
  replace hD : va_D A [(a0, .inr (5, [.int kd, .int 0, .null, .null, .null, .int 0])), (q3, .inl (cI, 0, .inl (fun _ => 0)))] := hD
  refine W.widen (k := 1) (n := 0) (by omega) (by omega) ?_
  refine va_putF (D := (dC, dI)) (ci := 5) (v := .ref q3) (ty := .array .int) (C := RX0) (T := TX0) (N := 6) hx hb hts hi_X0_init_X0 tyX0 tyX0_ok nmX0 hown hK hP hD (zS0 hS) 0 rfl rfl 2 (by decide) (hts (.fieldLink RX0 18 "Deeprows$Row" "whats" "[I") (List.mem_cons_of_mem _ zw_111)) (fun _ h9 => h9) rfl hin rfl (by decide +kernel) rfl rfl (Nat.le_of_ble_eq_true rfl) dX0_init_18 (fun H5 locs hP hD hS1 => ?_)
  have hz : s.heap.size + 1 ≤ H5.size := Nat.le_trans hz hS1.1
  have hS := zSS hS hS1
  replace hP : va_P (dC, dI) vwCl [(a0, .inr (5, [.int kd, .int 0, .ref q3, .null, .null, .int 0])), (q3, .inl (cI, 0, .inl (fun _ => 0)))] H5 := hP
  replace hD : va_D A [(a0, .inr (5, [.int kd, .int 0, .ref q3, .null, .null, .int 0])), (q3, .inl (cI, 0, .inl (fun _ => 0)))] := hD
  refine lv_aload_n hx hb dX0_init_21 rfl (lv_at hl 0 rfl) ?_
  refine lv_iload_n hx hb dX0_init_22 rfl (lv_at hl 2 rfl) ?_
  refine zw_newa (atype := .int) (ty := .int) (N' := 0) hx hb (hts (.arrayClass .int) (List.mem_cons_of_mem _ zw_131)) rfl (by first | exact Or.inl rfl | exact Or.inr rfl) hK hP hD hS hA 0 rfl (by decide) (by decide) (Nat.le_of_ble_eq_true rfl) (Nat.le_of_ble_eq_true rfl) (Nat.le_of_ble_eq_true rfl) dX0_init_23 hz (fun q6 H7 hP hD hS hz => ?_)
  replace hP : va_P (dC, dI) vwCl [(a0, .inr (5, [.int kd, .int 0, .ref q3, .null, .null, .int 0])), (q3, .inl (cI, 0, .inl (fun _ => 0))), (q6, .inl (cI, 0, .inl (fun _ => 0)))] H7 := hP
  replace hD : va_D A [(a0, .inr (5, [.int kd, .int 0, .ref q3, .null, .null, .int 0])), (q3, .inl (cI, 0, .inl (fun _ => 0))), (q6, .inl (cI, 0, .inl (fun _ => 0)))] := hD
  refine W.widen (k := 2) (n := 0) (by omega) (by omega) ?_
  refine va_putF (D := (dC, dI)) (ci := 5) (v := .ref q6) (ty := .array .int) (C := RX0) (T := TX0) (N := 6) hx hb hts hi_X0_init_X0 tyX0 tyX0_ok nmX0 hown hK hP hD (zS0 hS) 0 rfl rfl 3 (by decide) (hts (.fieldLink RX0 22 "Deeprows$Row" "values" "[I") (List.mem_cons_of_mem _ zw_113)) (fun _ h9 => h9) rfl hin rfl (by decide +kernel) rfl rfl (Nat.le_of_ble_eq_true rfl) dX0_init_25 (fun H8 locs hP hD hS1 => ?_)
  have hz : s.heap.size + 2 ≤ H8.size := Nat.le_trans hz hS1.1
  have hS := zSS hS hS1
  replace hP : va_P (dC, dI) vwCl [(a0, .inr (5, [.int kd, .int 0, .ref q3, .ref q6, .null, .int 0])), (q3, .inl (cI, 0, .inl (fun _ => 0))), (q6, .inl (cI, 0, .inl (fun _ => 0)))] H8 := hP
  replace hD : va_D A [(a0, .inr (5, [.int kd, .int 0, .ref q3, .ref q6, .null, .int 0])), (q3, .inl (cI, 0, .inl (fun _ => 0))), (q6, .inl (cI, 0, .inl (fun _ => 0)))] := hD
  refine lv_aload_n hx hb dX0_init_28 rfl (lv_at hl 0 rfl) ?_
  refine lv_iload_n hx hb dX0_init_29 rfl (lv_at hl 2 rfl) ?_
  refine zw_newq (C := "Deeprows$Row") (N' := 0) hx hb hown (hts (.classLink RX0 10 RX0) (List.mem_cons_of_mem _ zw_105)) (za0 hZ) hK hP hD hS hA 2 rfl (by decide) (by decide) (by decide) (Nat.le_of_ble_eq_true rfl) (Nat.le_of_ble_eq_true rfl) dX0_init_30 hz (fun q9 H10 hP hD hS hz => ?_)
  replace hP : va_P (dC, dI) vwCl [(a0, .inr (5, [.int kd, .int 0, .ref q3, .ref q6, .null, .int 0])), (q3, .inl (cI, 0, .inl (fun _ => 0))), (q6, .inl (cI, 0, .inl (fun _ => 0))), (q9, .inl (cR, 0, .inr (.inr (.inr (.inr (fun _ => none))))))] H10 := hP
  replace hD : va_D A [(a0, .inr (5, [.int kd, .int 0, .ref q3, .ref q6, .null, .int 0])), (q3, .inl (cI, 0, .inl (fun _ => 0))), (q6, .inl (cI, 0, .inl (fun _ => 0))), (q9, .inl (cR, 0, .inr (.inr (.inr (.inr (fun _ => none))))))] := hD
  refine W.widen (k := 3) (n := 0) (by omega) (by omega) ?_
  refine va_putF (D := (dC, dI)) (ci := 5) (v := .ref q9) (ty := .array (.object "Deeprows$Row")) (C := RX0) (T := TX0) (N := 6) hx hb hts hi_X0_init_X0 tyX0 tyX0_ok nmX0 hown hK hP hD (zS0 hS) 0 rfl rfl 4 (by decide) (hts (.fieldLink RX0 25 "Deeprows$Row" "hung" "[LDeeprows$Row;") (List.mem_cons_of_mem _ zw_115)) (fun _ h9 => h9) rfl hin rfl (by decide +kernel) rfl rfl (Nat.le_of_ble_eq_true rfl) dX0_init_33 (fun H11 locs hP hD hS1 => ?_)
  have hz : s.heap.size + 3 ≤ H11.size := Nat.le_trans hz hS1.1
  have hS := zSS hS hS1
  replace hP : va_P (dC, dI) vwCl [(a0, .inr (5, [.int kd, .int 0, .ref q3, .ref q6, .ref q9, .int 0])), (q3, .inl (cI, 0, .inl (fun _ => 0))), (q6, .inl (cI, 0, .inl (fun _ => 0))), (q9, .inl (cR, 0, .inr (.inr (.inr (.inr (fun _ => none))))))] H11 := hP
  replace hD : va_D A [(a0, .inr (5, [.int kd, .int 0, .ref q3, .ref q6, .ref q9, .int 0])), (q3, .inl (cI, 0, .inl (fun _ => 0))), (q6, .inl (cI, 0, .inl (fun _ => 0))), (q9, .inl (cR, 0, .inr (.inr (.inr (.inr (fun _ => none))))))] := hD
  refine lv_iconst (v := 0) hx hb dX0_init_36 (by decide) ?_
  refine lv_istore_n (lv' := [(3, .int 0), (0, .ref a0), (1, .int kd), (2, .int 0)]) hx hb dX0_init_37 rfl hl (by decide) rfl (fun ls hl => ?_)
  refine lv_iload_n hx hb dX0_init_38 rfl (lv_at hl 0 rfl) ?_
  refine lv_iload_n hx hb dX0_init_39 rfl (lv_at hl 3 rfl) ?_
  refine lv_icmp_ge (tgt := 81) hx hb dX0_init_40 (by decide) (fun c9 => ?_) (fun c9 => ?_)
  rotate_left
  · exact absurd (by decide) c9
  have hP9 := hP.sub (ws' := [(a0, .inr (5, [.int kd, .int 0, .ref q3, .ref q6, .ref q9, .int 0]))]) [0] rfl
  have hD9 := hD.sub (ws' := [(a0, .inr (5, [.int kd, .int 0, .ref q3, .ref q6, .ref q9, .int 0]))]) [0] (by decide) rfl
  exact W.vret hx hb hr (fun t ht hW => ⟨⟨(), rfl, trivial, ⟨_, _, _, ⟨by rw [ht]; exact hP9, va_K.moved hW.alike hK, hD9, by rw [ht]; exact hz⟩⟩⟩, hS.F ht⟩) hS.2.2 dX0_init_81

set_option maxHeartbeats 4000000 in
set_option maxRecDepth 100000 in
theorem k_rqL1 (l : Launch) (dC : Nat → ClassId) (dI : Nat → Nat → Nat) (cI cB cR cO : ClassId) (zk : Nat → Nat)  (sz : Nat)  : Met l yX1_requireLength wsX1_requireLength ({ frames := 0, cells := 0, slots := 0, locals := 0 }) (va_Pc [.int 1] (zPre (dC, dI) (zT cI cB cR cO) zk [] [] sz)) (va_Qv (fun _ : Unit => True) (fun _ t => zEnd (dC, dI) (zT cI cB cR cO) (va_A [] sz) [] sz 0 t) (va_A [] sz)) 0 0 (va_A [] sz) := by
  refine Met.ofW (cc := cX1_requireLength) (maxL := 1) (ret := none) (by decide) rfl ?_
  intro p e s mY args below meth c s₁ B hml hv
  obtain ⟨rfl, hsz, hP, hK, hD0, hZ⟩ := hv
  have hx := B.exec
  have hb := B.bytes
  have hr := B.returns
  have hts := atoms_spec (ws := wsX1_requireLength) B.pre
  have hown : s.vm.findClass RX1 = some mY.cls := findClass_of_methodNamed B.named
  have hlocks := B.notSynchronized
  subst hsz
  have hD := hD0.self (sz := s.heap.size)
  generalize hAe : va_A [] s.heap.size = A at hD hZ ⊢
  have hA : ∀ q : Nat, s.heap.size ≤ q → A q := fun q h => by rw [← hAe]; exact Or.inr h
  have hS : va_S A s.heap s.heap [] := va_S.rf
  have hz : s.heap.size + 0 ≤ s.heap.size := Nat.le_refl _
  have hl := lv_entry ([.int 1]) (n := 1) (Nat.le_of_ble_eq_true rfl)
  rw [lg_entry_eq]
  generalize (lg_sl ([.int 1]) ++ List.replicate (1 - (lg_sl ([.int 1])).length) Slot.unset).toArray = ls at hl ⊢
  have hl : lv_has ls 1 [(0, .int 1)] := hl
  have hP : va_P (dC, dI) vwCl [] s.heap := hP
  have hD : va_D A [] := hD
  refine lv_iload_n hx hb dX1_requireLength_0 rfl (lv_at hl 0 rfl) ?_
  refine lv_if_lt (tgt := 9) hx hb dX1_requireLength_1 (by decide) (fun c9 => ?_) (fun c9 => ?_)
  · exact absurd c9 (by decide)
  refine lv_iload_n hx hb dX1_requireLength_4 rfl (lv_at hl 0 rfl) ?_
  refine lv_iconst (v := 4) hx hb dX1_requireLength_5 (by decide) ?_
  refine lv_icmp_le (tgt := 20) hx hb dX1_requireLength_6 (by decide) (fun c9 => ?_) (fun c9 => ?_)
  rotate_left
  · exact absurd (by decide) c9
  have hP9 := hP.sub (ws' := []) [] rfl
  have hD9 := hD.sub (ws' := []) [] (by decide) rfl
  exact W.vret hx hb hr (fun t ht hW => ⟨⟨(), rfl, trivial, ⟨by rw [ht]; exact hP9, va_K.moved hW.alike hK, hD9, by rw [ht]; exact hz⟩⟩, hS.F ht⟩) hS.2.2 dX1_requireLength_20

set_option maxHeartbeats 4000000 in
set_option maxRecDepth 100000 in
theorem k_isIn4_1 (l : Launch) (dC : Nat → ClassId) (dI : Nat → Nat → Nat) (cI cB cR cO : ClassId) (zk : Nat → Nat)  (sz : Nat)  : Met l yX4_isIn wsX4_isIn ({ frames := 0, cells := 0, slots := 0, locals := 0 }) (va_Pc [.int 1, .int 0, .int 4] (zPre (dC, dI) (zT cI cB cR cO) zk [] [] sz)) (va_Qi (fun r (_ : Unit) => r = 1) (fun _ t => zEnd (dC, dI) (zT cI cB cR cO) (va_A [] sz) [] sz 0 t) (va_A [] sz)) 0 0 (va_A [] sz) := by
  refine Met.ofW (cc := cX4_isIn) (maxL := 3) (ret := (some .boolean)) (by decide) rfl ?_
  intro p e s mY args below meth c s₁ B hml hv
  obtain ⟨rfl, hsz, hP, hK, hD0, hZ⟩ := hv
  have hx := B.exec
  have hb := B.bytes
  have hr := B.returns
  have hts := atoms_spec (ws := wsX4_isIn) B.pre
  have hown : s.vm.findClass RX4 = some mY.cls := findClass_of_methodNamed B.named
  have hlocks := B.notSynchronized
  subst hsz
  have hD := hD0.self (sz := s.heap.size)
  generalize hAe : va_A [] s.heap.size = A at hD hZ ⊢
  have hA : ∀ q : Nat, s.heap.size ≤ q → A q := fun q h => by rw [← hAe]; exact Or.inr h
  have hS : va_S A s.heap s.heap [] := va_S.rf
  have hz : s.heap.size + 0 ≤ s.heap.size := Nat.le_refl _
  have hl := lv_entry ([.int 1, .int 0, .int 4]) (n := 3) (Nat.le_of_ble_eq_true rfl)
  rw [lg_entry_eq]
  generalize (lg_sl ([.int 1, .int 0, .int 4]) ++ List.replicate (3 - (lg_sl ([.int 1, .int 0, .int 4])).length) Slot.unset).toArray = ls at hl ⊢
  have hl : lv_has ls 3 [(0, .int 1), (1, .int 0), (2, .int 4)] := hl
  have hP : va_P (dC, dI) vwCl [] s.heap := hP
  have hD : va_D A [] := hD
  refine lv_iload_n hx hb dX4_isIn_0 rfl (lv_at hl 0 rfl) ?_
  refine lv_iload_n hx hb dX4_isIn_1 rfl (lv_at hl 1 rfl) ?_
  refine lv_icmp_lt (tgt := 14) hx hb dX4_isIn_2 (by decide) (fun c9 => ?_) (fun c9 => ?_)
  · exact absurd c9 (by decide)
  refine lv_iload_n hx hb dX4_isIn_5 rfl (lv_at hl 0 rfl) ?_
  refine lv_iload_n hx hb dX4_isIn_6 rfl (lv_at hl 2 rfl) ?_
  refine lv_icmp_gt (tgt := 14) hx hb dX4_isIn_7 (by decide) (fun c9 => ?_) (fun c9 => ?_)
  · exact absurd c9 (by decide)
  refine lv_iconst (v := 1) hx hb dX4_isIn_10 (by decide) ?_
  refine lv_goto (tgt := 15) hx hb dX4_isIn_11 (by decide) ?_
  have hP9 := hP.sub (ws' := []) [] rfl
  have hD9 := hD.sub (ws' := []) [] (by decide) rfl
  exact W.zret (v := 1) hx hb hr (by decide +kernel) (fun t ht hW => ⟨⟨_, (), rfl, rfl, ⟨by rw [ht]; exact hP9, va_K.moved hW.alike hK, hD9, by rw [ht]; exact hz⟩⟩, hS.F ht⟩) hS.2.2 dX4_isIn_15

set_option maxHeartbeats 4000000 in
set_option maxRecDepth 100000 in
theorem k_rI14 (l : Launch) (dC : Nat → ClassId) (dI : Nat → Nat → Nat) (cI cB cR cO : ClassId) (zk : Nat → Nat) (a0 : Nat) (sz : Nat)  : Met l yX0_init wsX0_init ({ frames := 1, cells := 3, slots := 3, locals := 60 }) (va_Pc [.ref a0, .int 4, .int 1] (zPre (dC, dI) (zT cI cB cR cO) zk [] [(a0, .inr (5, [.int 0, .int 0, .null, .null, .null, .int 0]))] sz)) (va_Qv (fun _ : Unit => True) (fun _ t => ∃ w1, ∃ v1, ∃ h1, zEnd (dC, dI) (zT cI cB cR cO) (va_A [(a0, .inr (5, [.int 0, .int 0, .null, .null, .null, .int 0]))] sz) [(a0, .inr (5, [.int 4, .int 1, .ref w1, .ref v1, .ref h1, .int 0]))] sz 3 t) (va_A [(a0, .inr (5, [.int 0, .int 0, .null, .null, .null, .int 0]))] sz)) 3 3 (va_A [(a0, .inr (5, [.int 0, .int 0, .null, .null, .null, .int 0]))] sz) := by
  refine Met.ofW (cc := cX0_init) (maxL := 4) (ret := none) (by decide) rfl ?_
  intro p e s mY args below meth c s₁ B hml hv
  obtain ⟨rfl, hsz, hP, hK, hD0, hZ⟩ := hv
  have hx := B.exec
  have hb := B.bytes
  have hr := B.returns
  have hts := atoms_spec (ws := wsX0_init) B.pre
  have hown : s.vm.findClass RX0 = some mY.cls := findClass_of_methodNamed B.named
  have hlocks := B.notSynchronized
  have hin : meth.name = "<init>" := (name_of_methodNamed B.named B.method).1
  subst hsz
  have hD := hD0.self (sz := s.heap.size)
  generalize hAe : va_A [(a0, .inr (5, [.int 0, .int 0, .null, .null, .null, .int 0]))] s.heap.size = A at hD hZ ⊢
  have hA : ∀ q : Nat, s.heap.size ≤ q → A q := fun q h => by rw [← hAe]; exact Or.inr h
  have hS : va_S A s.heap s.heap [] := va_S.rf
  have hz : s.heap.size + 0 ≤ s.heap.size := Nat.le_refl _
  have hl := lv_entry ([.ref a0, .int 4, .int 1]) (n := 4) (Nat.le_of_ble_eq_true rfl)
  rw [lg_entry_eq]
  generalize (lg_sl ([.ref a0, .int 4, .int 1]) ++ List.replicate (4 - (lg_sl ([.ref a0, .int 4, .int 1])).length) Slot.unset).toArray = ls at hl ⊢
  have hl : lv_has ls 4 [(0, .ref a0), (1, .int 4), (2, .int 1)] := hl
  have hP : va_P (dC, dI) vwCl [(a0, .inr (5, [.int 0, .int 0, .null, .null, .null, .int 0]))] s.heap := hP
  have hD : va_D A [(a0, .inr (5, [.int 0, .int 0, .null, .null, .null, .int 0]))] := hD
  refine lv_aload_n hx hb dX0_init_0 rfl (lv_at hl 0 rfl) ?_
  refine W.objInit hx hb hown (hts (.methodLink RX0 3 objectInit) (List.mem_cons_of_mem _ zw_104)) (hts (.instanceMethod objectInit) (List.mem_cons_of_mem _ zw_71)) (hts (.code objectInit ⟨#[0xb1]⟩ 1 none) (List.mem_cons_of_mem _ zw_72)) rfl (by rw [hml]; exact hl.1) rfl dX0_init_1 (Nat.le_of_ble_eq_true rfl) (Nat.le_of_ble_eq_true rfl) ?_
  refine W.eq (g2 := F0 mY 4 ls []) rfl ?_
  refine lv_aload_n hx hb dX0_init_4 rfl (lv_at hl 0 rfl) ?_
  refine lv_iload_n hx hb dX0_init_5 rfl (lv_at hl 1 rfl) ?_
  refine va_putF (D := (dC, dI)) (ci := 5) (v := .int 4) (ty := .int) (C := RX0) (T := TX0) (N := 6) hx hb hts hi_X0_init_X0 tyX0 tyX0_ok nmX0 hown hK hP hD (zS0 hS) 0 rfl rfl 0 (by decide) (hts (.fieldLink RX0 9 "Deeprows$Row" "kind" "I") (List.mem_cons_of_mem _ zw_107)) (fun _ h9 => h9) rfl hin rfl (by decide +kernel) rfl rfl (Nat.le_of_ble_eq_true rfl) dX0_init_6 (fun H1 locs hP hD hS1 => ?_)
  have hz : s.heap.size + 0 ≤ H1.size := Nat.le_trans hz hS1.1
  have hS := zSS hS hS1
  replace hP : va_P (dC, dI) vwCl [(a0, .inr (5, [.int 4, .int 0, .null, .null, .null, .int 0]))] H1 := hP
  replace hD : va_D A [(a0, .inr (5, [.int 4, .int 0, .null, .null, .null, .int 0]))] := hD
  refine lv_aload_n hx hb dX0_init_9 rfl (lv_at hl 0 rfl) ?_
  refine lv_iload_n hx hb dX0_init_10 rfl (lv_at hl 2 rfl) ?_
  refine va_putF (D := (dC, dI)) (ci := 5) (v := .int 1) (ty := .int) (C := RX0) (T := TX0) (N := 6) hx hb hts hi_X0_init_X0 tyX0 tyX0_ok nmX0 hown hK hP hD (zS0 hS) 0 rfl rfl 1 (by decide) (hts (.fieldLink RX0 15 "Deeprows$Row" "length" "I") (List.mem_cons_of_mem _ zw_109)) (fun _ h9 => h9) rfl hin rfl (by decide +kernel) rfl rfl (Nat.le_of_ble_eq_true rfl) dX0_init_11 (fun H2 locs hP hD hS1 => ?_)
  have hz : s.heap.size + 0 ≤ H2.size := Nat.le_trans hz hS1.1
  have hS := zSS hS hS1
  replace hP : va_P (dC, dI) vwCl [(a0, .inr (5, [.int 4, .int 1, .null, .null, .null, .int 0]))] H2 := hP
  replace hD : va_D A [(a0, .inr (5, [.int 4, .int 1, .null, .null, .null, .int 0]))] := hD
  refine lv_aload_n hx hb dX0_init_14 rfl (lv_at hl 0 rfl) ?_
  refine lv_iload_n hx hb dX0_init_15 rfl (lv_at hl 2 rfl) ?_
  refine zw_newa (atype := .int) (ty := .int) (N' := 1) hx hb (hts (.arrayClass .int) (List.mem_cons_of_mem _ zw_131)) rfl (by first | exact Or.inl rfl | exact Or.inr rfl) hK hP hD hS hA 0 rfl (by decide) (by decide) (Nat.le_of_ble_eq_true rfl) (Nat.le_of_ble_eq_true rfl) (Nat.le_of_ble_eq_true rfl) dX0_init_16 hz (fun q3 H4 hP hD hS hz => ?_)
  replace hP : va_P (dC, dI) vwCl [(a0, .inr (5, [.int 4, .int 1, .null, .null, .null, .int 0])), (q3, .inl (cI, 1, .inl (fun _ => 0)))] H4 := hP
  replace hD : va_D A [(a0, .inr (5, [.int 4, .int 1, .null, .null, .null, .int 0])), (q3, .inl (cI, 1, .inl (fun _ => 0)))] := hD
  refine W.widen (k := 1) (n := 1) (by omega) (by omega) ?_
  refine va_putF (D := (dC, dI)) (ci := 5) (v := .ref q3) (ty := .array .int) (C := RX0) (T := TX0) (N := 6) hx hb hts hi_X0_init_X0 tyX0 tyX0_ok nmX0 hown hK hP hD (zS0 hS) 0 rfl rfl 2 (by decide) (hts (.fieldLink RX0 18 "Deeprows$Row" "whats" "[I") (List.mem_cons_of_mem _ zw_111)) (fun _ h9 => h9) rfl hin rfl (by decide +kernel) rfl rfl (Nat.le_of_ble_eq_true rfl) dX0_init_18 (fun H5 locs hP hD hS1 => ?_)
  have hz : s.heap.size + 1 ≤ H5.size := Nat.le_trans hz hS1.1
  have hS := zSS hS hS1
  replace hP : va_P (dC, dI) vwCl [(a0, .inr (5, [.int 4, .int 1, .ref q3, .null, .null, .int 0])), (q3, .inl (cI, 1, .inl (fun _ => 0)))] H5 := hP
  replace hD : va_D A [(a0, .inr (5, [.int 4, .int 1, .ref q3, .null, .null, .int 0])), (q3, .inl (cI, 1, .inl (fun _ => 0)))] := hD
  refine lv_aload_n hx hb dX0_init_21 rfl (lv_at hl 0 rfl) ?_
  refine lv_iload_n hx hb dX0_init_22 rfl (lv_at hl 2 rfl) ?_
  refine zw_newa (atype := .int) (ty := .int) (N' := 1) hx hb (hts (.arrayClass .int) (List.mem_cons_of_mem _ zw_131)) rfl (by first | exact Or.inl rfl | exact Or.inr rfl) hK hP hD hS hA 0 rfl (by decide) (by decide) (Nat.le_of_ble_eq_true rfl) (Nat.le_of_ble_eq_true rfl) (Nat.le_of_ble_eq_true rfl) dX0_init_23 hz (fun q6 H7 hP hD hS hz => ?_)
  replace hP : va_P (dC, dI) vwCl [(a0, .inr (5, [.int 4, .int 1, .ref q3, .null, .null, .int 0])), (q3, .inl (cI, 1, .inl (fun _ => 0))), (q6, .inl (cI, 1, .inl (fun _ => 0)))] H7 := hP
  replace hD : va_D A [(a0, .inr (5, [.int 4, .int 1, .ref q3, .null, .null, .int 0])), (q3, .inl (cI, 1, .inl (fun _ => 0))), (q6, .inl (cI, 1, .inl (fun _ => 0)))] := hD
  refine W.widen (k := 2) (n := 2) (by omega) (by omega) ?_
  refine va_putF (D := (dC, dI)) (ci := 5) (v := .ref q6) (ty := .array .int) (C := RX0) (T := TX0) (N := 6) hx hb hts hi_X0_init_X0 tyX0 tyX0_ok nmX0 hown hK hP hD (zS0 hS) 0 rfl rfl 3 (by decide) (hts (.fieldLink RX0 22 "Deeprows$Row" "values" "[I") (List.mem_cons_of_mem _ zw_113)) (fun _ h9 => h9) rfl hin rfl (by decide +kernel) rfl rfl (Nat.le_of_ble_eq_true rfl) dX0_init_25 (fun H8 locs hP hD hS1 => ?_)
  have hz : s.heap.size + 2 ≤ H8.size := Nat.le_trans hz hS1.1
  have hS := zSS hS hS1
  replace hP : va_P (dC, dI) vwCl [(a0, .inr (5, [.int 4, .int 1, .ref q3, .ref q6, .null, .int 0])), (q3, .inl (cI, 1, .inl (fun _ => 0))), (q6, .inl (cI, 1, .inl (fun _ => 0)))] H8 := hP
  replace hD : va_D A [(a0, .inr (5, [.int 4, .int 1, .ref q3, .ref q6, .null, .int 0])), (q3, .inl (cI, 1, .inl (fun _ => 0))), (q6, .inl (cI, 1, .inl (fun _ => 0)))] := hD
  refine lv_aload_n hx hb dX0_init_28 rfl (lv_at hl 0 rfl) ?_
  refine lv_iload_n hx hb dX0_init_29 rfl (lv_at hl 2 rfl) ?_
  refine zw_newq (C := "Deeprows$Row") (N' := 1) hx hb hown (hts (.classLink RX0 10 RX0) (List.mem_cons_of_mem _ zw_105)) (za0 hZ) hK hP hD hS hA 2 rfl (by decide) (by decide) (by decide) (Nat.le_of_ble_eq_true rfl) (Nat.le_of_ble_eq_true rfl) dX0_init_30 hz (fun q9 H10 hP hD hS hz => ?_)
  replace hP : va_P (dC, dI) vwCl [(a0, .inr (5, [.int 4, .int 1, .ref q3, .ref q6, .null, .int 0])), (q3, .inl (cI, 1, .inl (fun _ => 0))), (q6, .inl (cI, 1, .inl (fun _ => 0))), (q9, .inl (cR, 1, .inr (.inr (.inr (.inr (fun _ => none))))))] H10 := hP
  replace hD : va_D A [(a0, .inr (5, [.int 4, .int 1, .ref q3, .ref q6, .null, .int 0])), (q3, .inl (cI, 1, .inl (fun _ => 0))), (q6, .inl (cI, 1, .inl (fun _ => 0))), (q9, .inl (cR, 1, .inr (.inr (.inr (.inr (fun _ => none))))))] := hD
  refine W.widen (k := 3) (n := 3) (by omega) (by omega) ?_
  refine va_putF (D := (dC, dI)) (ci := 5) (v := .ref q9) (ty := .array (.object "Deeprows$Row")) (C := RX0) (T := TX0) (N := 6) hx hb hts hi_X0_init_X0 tyX0 tyX0_ok nmX0 hown hK hP hD (zS0 hS) 0 rfl rfl 4 (by decide) (hts (.fieldLink RX0 25 "Deeprows$Row" "hung" "[LDeeprows$Row;") (List.mem_cons_of_mem _ zw_115)) (fun _ h9 => h9) rfl hin rfl (by decide +kernel) rfl rfl (Nat.le_of_ble_eq_true rfl) dX0_init_33 (fun H11 locs hP hD hS1 => ?_)
  have hz : s.heap.size + 3 ≤ H11.size := Nat.le_trans hz hS1.1
  have hS := zSS hS hS1
  replace hP : va_P (dC, dI) vwCl [(a0, .inr (5, [.int 4, .int 1, .ref q3, .ref q6, .ref q9, .int 0])), (q3, .inl (cI, 1, .inl (fun _ => 0))), (q6, .inl (cI, 1, .inl (fun _ => 0))), (q9, .inl (cR, 1, .inr (.inr (.inr (.inr (fun _ => none))))))] H11 := hP
  replace hD : va_D A [(a0, .inr (5, [.int 4, .int 1, .ref q3, .ref q6, .ref q9, .int 0])), (q3, .inl (cI, 1, .inl (fun _ => 0))), (q6, .inl (cI, 1, .inl (fun _ => 0))), (q9, .inl (cR, 1, .inr (.inr (.inr (.inr (fun _ => none))))))] := hD
  refine lv_iconst (v := 0) hx hb dX0_init_36 (by decide) ?_
  refine lv_istore_n (lv' := [(3, .int 0), (0, .ref a0), (1, .int 4), (2, .int 1)]) hx hb dX0_init_37 rfl hl (by decide) rfl (fun ls hl => ?_)
  refine lv_iload_n hx hb dX0_init_38 rfl (lv_at hl 0 rfl) ?_
  refine lv_iload_n hx hb dX0_init_39 rfl (lv_at hl 3 rfl) ?_
  refine lv_icmp_ge (tgt := 81) hx hb dX0_init_40 (by decide) (fun c9 => ?_) (fun c9 => ?_)
  · exact absurd c9 (by decide)
  refine lv_aload_n hx hb dX0_init_43 rfl (lv_at hl 1 rfl) ?_
  refine va_get (D := (dC, dI)) (ci := 5) (v := .ref q3) (C := RX0) (T := TX0) (N := 6) hx hb hts hi_X0_init_X0 hown hK hP 0 rfl rfl 2 (by decide) (hts (.fieldLink RX0 18 "Deeprows$Row" "whats" "[I") (List.mem_cons_of_mem _ zw_111)) (fun _ h9 => h9) rfl dX0_init_44 ?_
  refine lv_iload_n hx hb dX0_init_47 rfl (lv_at hl 0 rfl) ?_
  refine lv_iload_n hx hb dX0_init_48 rfl (lv_at hl 2 rfl) ?_
  refine lv_iconst (v := 4) hx hb dX0_init_49 (by decide) ?_
  refine lv_icmp_ne (tgt := 57) hx hb dX0_init_50 (by decide) (fun c9 => ?_) (fun c9 => ?_)
  · exact absurd (by decide) c9
  refine lv_iconst (v := 0) hx hb dX0_init_53 (by decide) ?_
  refine lv_goto (tgt := 58) hx hb dX0_init_54 (by decide) ?_
  refine va_iast (D := (dC, dI)) (cl := vwCl) hx hb hK hP hD (zS0 hS) 1 0 rfl rfl (by unfold vp_in; decide) dX0_init_58 (fun H12 locs hP hD hS1 => ?_)
  have hz : s.heap.size + 3 ≤ H12.size := Nat.le_trans hz hS1.1
  have hS := zSS hS hS1
  replace hP : va_P (dC, dI) vwCl [(a0, .inr (5, [.int 4, .int 1, .ref q3, .ref q6, .ref q9, .int 0])), (q3, .inl (cI, 1, .inl (upd (fun _ => 0) 0 0))), (q6, .inl (cI, 1, .inl (fun _ => 0))), (q9, .inl (cR, 1, .inr (.inr (.inr (.inr (fun _ => none))))))] H12 := hP
  replace hD : va_D A [(a0, .inr (5, [.int 4, .int 1, .ref q3, .ref q6, .ref q9, .int 0])), (q3, .inl (cI, 1, .inl (upd (fun _ => 0) 0 0))), (q6, .inl (cI, 1, .inl (fun _ => 0))), (q9, .inl (cR, 1, .inr (.inr (.inr (.inr (fun _ => none))))))] := hD
  refine lv_aload_n hx hb dX0_init_59 rfl (lv_at hl 1 rfl) ?_
  refine va_get (D := (dC, dI)) (ci := 5) (v := .ref q6) (C := RX0) (T := TX0) (N := 6) hx hb hts hi_X0_init_X0 hown hK hP 0 rfl rfl 3 (by decide) (hts (.fieldLink RX0 22 "Deeprows$Row" "values" "[I") (List.mem_cons_of_mem _ zw_113)) (fun _ h9 => h9) rfl dX0_init_60 ?_
  refine lv_iload_n hx hb dX0_init_63 rfl (lv_at hl 0 rfl) ?_
  refine lv_iload_n hx hb dX0_init_64 rfl (lv_at hl 2 rfl) ?_
  refine lv_iconst (v := 4) hx hb dX0_init_65 (by decide) ?_
  refine lv_icmp_ne (tgt := 73) hx hb dX0_init_66 (by decide) (fun c9 => ?_) (fun c9 => ?_)
  · exact absurd (by decide) c9
  refine lv_iconst (v := (-1)) hx hb dX0_init_69 (by decide) ?_
  refine lv_goto (tgt := 74) hx hb dX0_init_70 (by decide) ?_
  refine va_iast (D := (dC, dI)) (cl := vwCl) hx hb hK hP hD (zS0 hS) 2 0 rfl rfl (by unfold vp_in; decide) dX0_init_74 (fun H13 locs hP hD hS1 => ?_)
  have hz : s.heap.size + 3 ≤ H13.size := Nat.le_trans hz hS1.1
  have hS := zSS hS hS1
  replace hP : va_P (dC, dI) vwCl [(a0, .inr (5, [.int 4, .int 1, .ref q3, .ref q6, .ref q9, .int 0])), (q3, .inl (cI, 1, .inl (upd (fun _ => 0) 0 0))), (q6, .inl (cI, 1, .inl (upd (fun _ => 0) 0 (-1)))), (q9, .inl (cR, 1, .inr (.inr (.inr (.inr (fun _ => none))))))] H13 := hP
  replace hD : va_D A [(a0, .inr (5, [.int 4, .int 1, .ref q3, .ref q6, .ref q9, .int 0])), (q3, .inl (cI, 1, .inl (upd (fun _ => 0) 0 0))), (q6, .inl (cI, 1, .inl (upd (fun _ => 0) 0 (-1)))), (q9, .inl (cR, 1, .inr (.inr (.inr (.inr (fun _ => none))))))] := hD
  refine lv_iinc (v := 1) (lv' := [(3, .int 1), (0, .ref a0), (1, .int 4), (2, .int 1)]) hx hb dX0_init_75 hl (k := 0) rfl (by decide) (by decide) rfl (fun ls hl => ?_)
  refine lv_goto (tgt := 38) hx hb dX0_init_78 (by decide) ?_
  refine lv_iload_n hx hb dX0_init_38 rfl (lv_at hl 0 rfl) ?_
  refine lv_iload_n hx hb dX0_init_39 rfl (lv_at hl 3 rfl) ?_
  refine lv_icmp_ge (tgt := 81) hx hb dX0_init_40 (by decide) (fun c9 => ?_) (fun c9 => ?_)
  rotate_left
  · exact absurd (by decide) c9
  have hP9 := hP.sub (ws' := [(a0, .inr (5, [.int 4, .int 1, .ref q3, .ref q6, .ref q9, .int 0]))]) [0] rfl
  have hD9 := hD.sub (ws' := [(a0, .inr (5, [.int 4, .int 1, .ref q3, .ref q6, .ref q9, .int 0]))]) [0] (by decide) rfl
  exact W.vret hx hb hr (fun t ht hW => ⟨⟨(), rfl, trivial, ⟨_, _, _, ⟨by rw [ht]; exact hP9, va_K.moved hW.alike hK, hD9, by rw [ht]; exact hz⟩⟩⟩, hS.F ht⟩) hS.2.2 dX0_init_81

set_option maxHeartbeats 4000000 in
set_option maxRecDepth 100000 in
theorem k_rI1s (l : Launch) (dC : Nat → ClassId) (dI : Nat → Nat → Nat) (cI cB cR cO : ClassId) (zk : Nat → Nat) (a0 : Nat) (kd : Int32) (sz : Nat) (hkd : ¬ kd = 4) : Met l yX0_init wsX0_init ({ frames := 1, cells := 3, slots := 3, locals := 60 }) (va_Pc [.ref a0, .int kd, .int 1] (zPre (dC, dI) (zT cI cB cR cO) zk [] [(a0, .inr (5, [.int 0, .int 0, .null, .null, .null, .int 0]))] sz)) (va_Qv (fun _ : Unit => True) (fun _ t => ∃ w1, ∃ v1, ∃ h1, zEnd (dC, dI) (zT cI cB cR cO) (va_A [(a0, .inr (5, [.int 0, .int 0, .null, .null, .null, .int 0]))] sz) [(a0, .inr (5, [.int kd, .int 1, .ref w1, .ref v1, .ref h1, .int 0]))] sz 3 t) (va_A [(a0, .inr (5, [.int 0, .int 0, .null, .null, .null, .int 0]))] sz)) 3 3 (va_A [(a0, .inr (5, [.int 0, .int 0, .null, .null, .null, .int 0]))] sz) := by
  refine Met.ofW (cc := cX0_init) (maxL := 4) (ret := none) (by decide) rfl ?_
  intro p e s mY args below meth c s₁ B hml hv
  obtain ⟨rfl, hsz, hP, hK, hD0, hZ⟩ := hv
  have hx := B.exec
  have hb := B.bytes
  have hr := B.returns
  have hts := atoms_spec (ws := wsX0_init) B.pre
  have hown : s.vm.findClass RX0 = some mY.cls := findClass_of_methodNamed B.named
  have hlocks := B.notSynchronized
  have hin : meth.name = "<init>" := (name_of_methodNamed B.named B.method).1
  subst hsz
  have hD := hD0.self (sz := s.heap.size)
  generalize hAe : va_A [(a0, .inr (5, [.int 0, .int 0, .null, .null, .null, .int 0]))] s.heap.size = A at hD hZ ⊢
  have hA : ∀ q : Nat, s.heap.size ≤ q → A q := fun q h => by rw [← hAe]; exact Or.inr h
  have hS : va_S A s.heap s.heap [] := va_S.rf
  have hz : s.heap.size + 0 ≤ s.heap.size := Nat.le_refl _
  have hl := lv_entry ([.ref a0, .int kd, .int 1]) (n := 4) (Nat.le_of_ble_eq_true rfl)
  rw [lg_entry_eq]
  generalize (lg_sl ([.ref a0, .int kd, .int 1]) ++ List.replicate (4 - (lg_sl ([.ref a0, .int kd, .int 1])).length) Slot.unset).toArray = ls at hl ⊢
  have hl : lv_has ls 4 [(0, .ref a0), (1, .int kd), (2, .int 1)] := hl
  have hP : va_P (dC, dI) vwCl [(a0, .inr (5, [.int 0, .int 0, .null, .null, .null, .int 0]))] s.heap := hP
  have hD : va_D A [(a0, .inr (5, [.int 0, .int 0, .null, .null, .null, .int 0]))] := hD
  refine lv_aload_n hx hb dX0_init_0 rfl (lv_at hl 0 rfl) ?_
  refine W.objInit hx hb hown (hts (.methodLink RX0 3 objectInit) (List.mem_cons_of_mem _ zw_104)) (hts (.instanceMethod objectInit) (List.mem_cons_of_mem _ zw_71)) (hts (.code objectInit ⟨#[0xb1]⟩ 1 none) (List.mem_cons_of_mem _ zw_72)) rfl (by rw [hml]; exact hl.1) rfl dX0_init_1 (Nat.le_of_ble_eq_true rfl) (Nat.le_of_ble_eq_true rfl) ?_
  refine W.eq (g2 := F0 mY 4 ls []) rfl ?_
  refine lv_aload_n hx hb dX0_init_4 rfl (lv_at hl 0 rfl) ?_
  refine lv_iload_n hx hb dX0_init_5 rfl (lv_at hl 1 rfl) ?_
  refine va_putF (D := (dC, dI)) (ci := 5) (v := .int kd) (ty := .int) (C := RX0) (T := TX0) (N := 6) hx hb hts hi_X0_init_X0 tyX0 tyX0_ok nmX0 hown hK hP hD (zS0 hS) 0 rfl rfl 0 (by decide) (hts (.fieldLink RX0 9 "Deeprows$Row" "kind" "I") (List.mem_cons_of_mem _ zw_107)) (fun _ h9 => h9) rfl hin rfl (by decide +kernel) rfl rfl (Nat.le_of_ble_eq_true rfl) dX0_init_6 (fun H1 locs hP hD hS1 => ?_)
  have hz : s.heap.size + 0 ≤ H1.size := Nat.le_trans hz hS1.1
  have hS := zSS hS hS1
  replace hP : va_P (dC, dI) vwCl [(a0, .inr (5, [.int kd, .int 0, .null, .null, .null, .int 0]))] H1 := hP
  replace hD : va_D A [(a0, .inr (5, [.int kd, .int 0, .null, .null, .null, .int 0]))] := hD
  refine lv_aload_n hx hb dX0_init_9 rfl (lv_at hl 0 rfl) ?_
  refine lv_iload_n hx hb dX0_init_10 rfl (lv_at hl 2 rfl) ?_
  refine va_putF (D := (dC, dI)) (ci := 5) (v := .int 1) (ty := .int) (C := RX0) (T := TX0) (N := 6) hx hb hts hi_X0_init_X0 tyX0 tyX0_ok nmX0 hown hK hP hD (zS0 hS) 0 rfl rfl 1 (by decide) (hts (.fieldLink RX0 15 "Deeprows$Row" "length" "I") (List.mem_cons_of_mem _ zw_109)) (fun _ h9 => h9) rfl hin rfl (by decide +kernel) rfl rfl (Nat.le_of_ble_eq_true rfl) dX0_init_11 (fun H2 locs hP hD hS1 => ?_)
  have hz : s.heap.size + 0 ≤ H2.size := Nat.le_trans hz hS1.1
  have hS := zSS hS hS1
  replace hP : va_P (dC, dI) vwCl [(a0, .inr (5, [.int kd, .int 1, .null, .null, .null, .int 0]))] H2 := hP
  replace hD : va_D A [(a0, .inr (5, [.int kd, .int 1, .null, .null, .null, .int 0]))] := hD
  refine lv_aload_n hx hb dX0_init_14 rfl (lv_at hl 0 rfl) ?_
  refine lv_iload_n hx hb dX0_init_15 rfl (lv_at hl 2 rfl) ?_
  refine zw_newa (atype := .int) (ty := .int) (N' := 1) hx hb (hts (.arrayClass .int) (List.mem_cons_of_mem _ zw_131)) rfl (by first | exact Or.inl rfl | exact Or.inr rfl) hK hP hD hS hA 0 rfl (by decide) (by decide) (Nat.le_of_ble_eq_true rfl) (Nat.le_of_ble_eq_true rfl) (Nat.le_of_ble_eq_true rfl) dX0_init_16 hz (fun q3 H4 hP hD hS hz => ?_)
  replace hP : va_P (dC, dI) vwCl [(a0, .inr (5, [.int kd, .int 1, .null, .null, .null, .int 0])), (q3, .inl (cI, 1, .inl (fun _ => 0)))] H4 := hP
  replace hD : va_D A [(a0, .inr (5, [.int kd, .int 1, .null, .null, .null, .int 0])), (q3, .inl (cI, 1, .inl (fun _ => 0)))] := hD
  refine W.widen (k := 1) (n := 1) (by omega) (by omega) ?_
  refine va_putF (D := (dC, dI)) (ci := 5) (v := .ref q3) (ty := .array .int) (C := RX0) (T := TX0) (N := 6) hx hb hts hi_X0_init_X0 tyX0 tyX0_ok nmX0 hown hK hP hD (zS0 hS) 0 rfl rfl 2 (by decide) (hts (.fieldLink RX0 18 "Deeprows$Row" "whats" "[I") (List.mem_cons_of_mem _ zw_111)) (fun _ h9 => h9) rfl hin rfl (by decide +kernel) rfl rfl (Nat.le_of_ble_eq_true rfl) dX0_init_18 (fun H5 locs hP hD hS1 => ?_)
  have hz : s.heap.size + 1 ≤ H5.size := Nat.le_trans hz hS1.1
  have hS := zSS hS hS1
  replace hP : va_P (dC, dI) vwCl [(a0, .inr (5, [.int kd, .int 1, .ref q3, .null, .null, .int 0])), (q3, .inl (cI, 1, .inl (fun _ => 0)))] H5 := hP
  replace hD : va_D A [(a0, .inr (5, [.int kd, .int 1, .ref q3, .null, .null, .int 0])), (q3, .inl (cI, 1, .inl (fun _ => 0)))] := hD
  refine lv_aload_n hx hb dX0_init_21 rfl (lv_at hl 0 rfl) ?_
  refine lv_iload_n hx hb dX0_init_22 rfl (lv_at hl 2 rfl) ?_
  refine zw_newa (atype := .int) (ty := .int) (N' := 1) hx hb (hts (.arrayClass .int) (List.mem_cons_of_mem _ zw_131)) rfl (by first | exact Or.inl rfl | exact Or.inr rfl) hK hP hD hS hA 0 rfl (by decide) (by decide) (Nat.le_of_ble_eq_true rfl) (Nat.le_of_ble_eq_true rfl) (Nat.le_of_ble_eq_true rfl) dX0_init_23 hz (fun q6 H7 hP hD hS hz => ?_)
  replace hP : va_P (dC, dI) vwCl [(a0, .inr (5, [.int kd, .int 1, .ref q3, .null, .null, .int 0])), (q3, .inl (cI, 1, .inl (fun _ => 0))), (q6, .inl (cI, 1, .inl (fun _ => 0)))] H7 := hP
  replace hD : va_D A [(a0, .inr (5, [.int kd, .int 1, .ref q3, .null, .null, .int 0])), (q3, .inl (cI, 1, .inl (fun _ => 0))), (q6, .inl (cI, 1, .inl (fun _ => 0)))] := hD
  refine W.widen (k := 2) (n := 2) (by omega) (by omega) ?_
  refine va_putF (D := (dC, dI)) (ci := 5) (v := .ref q6) (ty := .array .int) (C := RX0) (T := TX0) (N := 6) hx hb hts hi_X0_init_X0 tyX0 tyX0_ok nmX0 hown hK hP hD (zS0 hS) 0 rfl rfl 3 (by decide) (hts (.fieldLink RX0 22 "Deeprows$Row" "values" "[I") (List.mem_cons_of_mem _ zw_113)) (fun _ h9 => h9) rfl hin rfl (by decide +kernel) rfl rfl (Nat.le_of_ble_eq_true rfl) dX0_init_25 (fun H8 locs hP hD hS1 => ?_)
  have hz : s.heap.size + 2 ≤ H8.size := Nat.le_trans hz hS1.1
  have hS := zSS hS hS1
  replace hP : va_P (dC, dI) vwCl [(a0, .inr (5, [.int kd, .int 1, .ref q3, .ref q6, .null, .int 0])), (q3, .inl (cI, 1, .inl (fun _ => 0))), (q6, .inl (cI, 1, .inl (fun _ => 0)))] H8 := hP
  replace hD : va_D A [(a0, .inr (5, [.int kd, .int 1, .ref q3, .ref q6, .null, .int 0])), (q3, .inl (cI, 1, .inl (fun _ => 0))), (q6, .inl (cI, 1, .inl (fun _ => 0)))] := hD
  refine lv_aload_n hx hb dX0_init_28 rfl (lv_at hl 0 rfl) ?_
  refine lv_iload_n hx hb dX0_init_29 rfl (lv_at hl 2 rfl) ?_
  refine zw_newq (C := "Deeprows$Row") (N' := 1) hx hb hown (hts (.classLink RX0 10 RX0) (List.mem_cons_of_mem _ zw_105)) (za0 hZ) hK hP hD hS hA 2 rfl (by decide) (by decide) (by decide) (Nat.le_of_ble_eq_true rfl) (Nat.le_of_ble_eq_true rfl) dX0_init_30 hz (fun q9 H10 hP hD hS hz => ?_)
  replace hP : va_P (dC, dI) vwCl [(a0, .inr (5, [.int kd, .int 1, .ref q3, .ref q6, .null, .int 0])), (q3, .inl (cI, 1, .inl (fun _ => 0))), (q6, .inl (cI, 1, .inl (fun _ => 0))), (q9, .inl (cR, 1, .inr (.inr (.inr (.inr (fun _ => none))))))] H10 := hP
  replace hD : va_D A [(a0, .inr (5, [.int kd, .int 1, .ref q3, .ref q6, .null, .int 0])), (q3, .inl (cI, 1, .inl (fun _ => 0))), (q6, .inl (cI, 1, .inl (fun _ => 0))), (q9, .inl (cR, 1, .inr (.inr (.inr (.inr (fun _ => none))))))] := hD
  refine W.widen (k := 3) (n := 3) (by omega) (by omega) ?_
  refine va_putF (D := (dC, dI)) (ci := 5) (v := .ref q9) (ty := .array (.object "Deeprows$Row")) (C := RX0) (T := TX0) (N := 6) hx hb hts hi_X0_init_X0 tyX0 tyX0_ok nmX0 hown hK hP hD (zS0 hS) 0 rfl rfl 4 (by decide) (hts (.fieldLink RX0 25 "Deeprows$Row" "hung" "[LDeeprows$Row;") (List.mem_cons_of_mem _ zw_115)) (fun _ h9 => h9) rfl hin rfl (by decide +kernel) rfl rfl (Nat.le_of_ble_eq_true rfl) dX0_init_33 (fun H11 locs hP hD hS1 => ?_)
  have hz : s.heap.size + 3 ≤ H11.size := Nat.le_trans hz hS1.1
  have hS := zSS hS hS1
  replace hP : va_P (dC, dI) vwCl [(a0, .inr (5, [.int kd, .int 1, .ref q3, .ref q6, .ref q9, .int 0])), (q3, .inl (cI, 1, .inl (fun _ => 0))), (q6, .inl (cI, 1, .inl (fun _ => 0))), (q9, .inl (cR, 1, .inr (.inr (.inr (.inr (fun _ => none))))))] H11 := hP
  replace hD : va_D A [(a0, .inr (5, [.int kd, .int 1, .ref q3, .ref q6, .ref q9, .int 0])), (q3, .inl (cI, 1, .inl (fun _ => 0))), (q6, .inl (cI, 1, .inl (fun _ => 0))), (q9, .inl (cR, 1, .inr (.inr (.inr (.inr (fun _ => none))))))] := hD
  refine lv_iconst (v := 0) hx hb dX0_init_36 (by decide) ?_
  refine lv_istore_n (lv' := [(3, .int 0), (0, .ref a0), (1, .int kd), (2, .int 1)]) hx hb dX0_init_37 rfl hl (by decide) rfl (fun ls hl => ?_)
  refine lv_iload_n hx hb dX0_init_38 rfl (lv_at hl 0 rfl) ?_
  refine lv_iload_n hx hb dX0_init_39 rfl (lv_at hl 3 rfl) ?_
  refine lv_icmp_ge (tgt := 81) hx hb dX0_init_40 (by decide) (fun c9 => ?_) (fun c9 => ?_)
  · exact absurd c9 (by decide)
  refine lv_aload_n hx hb dX0_init_43 rfl (lv_at hl 1 rfl) ?_
  refine va_get (D := (dC, dI)) (ci := 5) (v := .ref q3) (C := RX0) (T := TX0) (N := 6) hx hb hts hi_X0_init_X0 hown hK hP 0 rfl rfl 2 (by decide) (hts (.fieldLink RX0 18 "Deeprows$Row" "whats" "[I") (List.mem_cons_of_mem _ zw_111)) (fun _ h9 => h9) rfl dX0_init_44 ?_
  refine lv_iload_n hx hb dX0_init_47 rfl (lv_at hl 0 rfl) ?_
  refine lv_iload_n hx hb dX0_init_48 rfl (lv_at hl 2 rfl) ?_
  refine lv_iconst (v := 4) hx hb dX0_init_49 (by decide) ?_
  refine lv_icmp_ne (tgt := 57) hx hb dX0_init_50 (by decide) (fun c9 => ?_) (fun c9 => ?_)
  rotate_left
  · exact absurd c9 (hkd)
  refine lv_iconst (v := 1) hx hb dX0_init_57 (by decide) ?_
  refine va_iast (D := (dC, dI)) (cl := vwCl) hx hb hK hP hD (zS0 hS) 1 0 rfl rfl (by unfold vp_in; decide) dX0_init_58 (fun H12 locs hP hD hS1 => ?_)
  have hz : s.heap.size + 3 ≤ H12.size := Nat.le_trans hz hS1.1
  have hS := zSS hS hS1
  replace hP : va_P (dC, dI) vwCl [(a0, .inr (5, [.int kd, .int 1, .ref q3, .ref q6, .ref q9, .int 0])), (q3, .inl (cI, 1, .inl (upd (fun _ => 0) 0 1))), (q6, .inl (cI, 1, .inl (fun _ => 0))), (q9, .inl (cR, 1, .inr (.inr (.inr (.inr (fun _ => none))))))] H12 := hP
  replace hD : va_D A [(a0, .inr (5, [.int kd, .int 1, .ref q3, .ref q6, .ref q9, .int 0])), (q3, .inl (cI, 1, .inl (upd (fun _ => 0) 0 1))), (q6, .inl (cI, 1, .inl (fun _ => 0))), (q9, .inl (cR, 1, .inr (.inr (.inr (.inr (fun _ => none))))))] := hD
  refine lv_aload_n hx hb dX0_init_59 rfl (lv_at hl 1 rfl) ?_
  refine va_get (D := (dC, dI)) (ci := 5) (v := .ref q6) (C := RX0) (T := TX0) (N := 6) hx hb hts hi_X0_init_X0 hown hK hP 0 rfl rfl 3 (by decide) (hts (.fieldLink RX0 22 "Deeprows$Row" "values" "[I") (List.mem_cons_of_mem _ zw_113)) (fun _ h9 => h9) rfl dX0_init_60 ?_
  refine lv_iload_n hx hb dX0_init_63 rfl (lv_at hl 0 rfl) ?_
  refine lv_iload_n hx hb dX0_init_64 rfl (lv_at hl 2 rfl) ?_
  refine lv_iconst (v := 4) hx hb dX0_init_65 (by decide) ?_
  refine lv_icmp_ne (tgt := 73) hx hb dX0_init_66 (by decide) (fun c9 => ?_) (fun c9 => ?_)
  rotate_left
  · exact absurd c9 (hkd)
  refine lv_iconst (v := 0) hx hb dX0_init_73 (by decide) ?_
  refine va_iast (D := (dC, dI)) (cl := vwCl) hx hb hK hP hD (zS0 hS) 2 0 rfl rfl (by unfold vp_in; decide) dX0_init_74 (fun H13 locs hP hD hS1 => ?_)
  have hz : s.heap.size + 3 ≤ H13.size := Nat.le_trans hz hS1.1
  have hS := zSS hS hS1
  replace hP : va_P (dC, dI) vwCl [(a0, .inr (5, [.int kd, .int 1, .ref q3, .ref q6, .ref q9, .int 0])), (q3, .inl (cI, 1, .inl (upd (fun _ => 0) 0 1))), (q6, .inl (cI, 1, .inl (upd (fun _ => 0) 0 0))), (q9, .inl (cR, 1, .inr (.inr (.inr (.inr (fun _ => none))))))] H13 := hP
  replace hD : va_D A [(a0, .inr (5, [.int kd, .int 1, .ref q3, .ref q6, .ref q9, .int 0])), (q3, .inl (cI, 1, .inl (upd (fun _ => 0) 0 1))), (q6, .inl (cI, 1, .inl (upd (fun _ => 0) 0 0))), (q9, .inl (cR, 1, .inr (.inr (.inr (.inr (fun _ => none))))))] := hD
  refine lv_iinc (v := 1) (lv' := [(3, .int 1), (0, .ref a0), (1, .int kd), (2, .int 1)]) hx hb dX0_init_75 hl (k := 0) rfl (by decide) (by decide) rfl (fun ls hl => ?_)
  refine lv_goto (tgt := 38) hx hb dX0_init_78 (by decide) ?_
  refine lv_iload_n hx hb dX0_init_38 rfl (lv_at hl 0 rfl) ?_
  refine lv_iload_n hx hb dX0_init_39 rfl (lv_at hl 3 rfl) ?_
  refine lv_icmp_ge (tgt := 81) hx hb dX0_init_40 (by decide) (fun c9 => ?_) (fun c9 => ?_)
  rotate_left
  · exact absurd (by decide) c9
  have hP9 := hP.sub (ws' := [(a0, .inr (5, [.int kd, .int 1, .ref q3, .ref q6, .ref q9, .int 0]))]) [0] rfl
  have hD9 := hD.sub (ws' := [(a0, .inr (5, [.int kd, .int 1, .ref q3, .ref q6, .ref q9, .int 0]))]) [0] (by decide) rfl
  exact W.vret hx hb hr (fun t ht hW => ⟨⟨(), rfl, trivial, ⟨_, _, _, ⟨by rw [ht]; exact hP9, va_K.moved hW.alike hK, hD9, by rw [ht]; exact hz⟩⟩⟩, hS.F ht⟩) hS.2.2 dX0_init_81

set_option maxHeartbeats 4000000 in
set_option maxRecDepth 100000 in
theorem k_rqL2 (l : Launch) (dC : Nat → ClassId) (dI : Nat → Nat → Nat) (cI cB cR cO : ClassId) (zk : Nat → Nat)  (sz : Nat)  : Met l yX1_requireLength wsX1_requireLength ({ frames := 0, cells := 0, slots := 0, locals := 0 }) (va_Pc [.int 2] (zPre (dC, dI) (zT cI cB cR cO) zk [] [] sz)) (va_Qv (fun _ : Unit => True) (fun _ t => zEnd (dC, dI) (zT cI cB cR cO) (va_A [] sz) [] sz 0 t) (va_A [] sz)) 0 0 (va_A [] sz) := by
  refine Met.ofW (cc := cX1_requireLength) (maxL := 1) (ret := none) (by decide) rfl ?_
  intro p e s mY args below meth c s₁ B hml hv
  obtain ⟨rfl, hsz, hP, hK, hD0, hZ⟩ := hv
  have hx := B.exec
  have hb := B.bytes
  have hr := B.returns
  have hts := atoms_spec (ws := wsX1_requireLength) B.pre
  have hown : s.vm.findClass RX1 = some mY.cls := findClass_of_methodNamed B.named
  have hlocks := B.notSynchronized
  subst hsz
  have hD := hD0.self (sz := s.heap.size)
  generalize hAe : va_A [] s.heap.size = A at hD hZ ⊢
  have hA : ∀ q : Nat, s.heap.size ≤ q → A q := fun q h => by rw [← hAe]; exact Or.inr h
  have hS : va_S A s.heap s.heap [] := va_S.rf
  have hz : s.heap.size + 0 ≤ s.heap.size := Nat.le_refl _
  have hl := lv_entry ([.int 2]) (n := 1) (Nat.le_of_ble_eq_true rfl)
  rw [lg_entry_eq]
  generalize (lg_sl ([.int 2]) ++ List.replicate (1 - (lg_sl ([.int 2])).length) Slot.unset).toArray = ls at hl ⊢
  have hl : lv_has ls 1 [(0, .int 2)] := hl
  have hP : va_P (dC, dI) vwCl [] s.heap := hP
  have hD : va_D A [] := hD
  refine lv_iload_n hx hb dX1_requireLength_0 rfl (lv_at hl 0 rfl) ?_
  refine lv_if_lt (tgt := 9) hx hb dX1_requireLength_1 (by decide) (fun c9 => ?_) (fun c9 => ?_)
  · exact absurd c9 (by decide)
  refine lv_iload_n hx hb dX1_requireLength_4 rfl (lv_at hl 0 rfl) ?_
  refine lv_iconst (v := 4) hx hb dX1_requireLength_5 (by decide) ?_
  refine lv_icmp_le (tgt := 20) hx hb dX1_requireLength_6 (by decide) (fun c9 => ?_) (fun c9 => ?_)
  rotate_left
  · exact absurd (by decide) c9
  have hP9 := hP.sub (ws' := []) [] rfl
  have hD9 := hD.sub (ws' := []) [] (by decide) rfl
  exact W.vret hx hb hr (fun t ht hW => ⟨⟨(), rfl, trivial, ⟨by rw [ht]; exact hP9, va_K.moved hW.alike hK, hD9, by rw [ht]; exact hz⟩⟩, hS.F ht⟩) hS.2.2 dX1_requireLength_20

set_option maxHeartbeats 4000000 in
set_option maxRecDepth 100000 in
theorem k_isIn4_2 (l : Launch) (dC : Nat → ClassId) (dI : Nat → Nat → Nat) (cI cB cR cO : ClassId) (zk : Nat → Nat)  (sz : Nat)  : Met l yX4_isIn wsX4_isIn ({ frames := 0, cells := 0, slots := 0, locals := 0 }) (va_Pc [.int 2, .int 0, .int 4] (zPre (dC, dI) (zT cI cB cR cO) zk [] [] sz)) (va_Qi (fun r (_ : Unit) => r = 1) (fun _ t => zEnd (dC, dI) (zT cI cB cR cO) (va_A [] sz) [] sz 0 t) (va_A [] sz)) 0 0 (va_A [] sz) := by
  refine Met.ofW (cc := cX4_isIn) (maxL := 3) (ret := (some .boolean)) (by decide) rfl ?_
  intro p e s mY args below meth c s₁ B hml hv
  obtain ⟨rfl, hsz, hP, hK, hD0, hZ⟩ := hv
  have hx := B.exec
  have hb := B.bytes
  have hr := B.returns
  have hts := atoms_spec (ws := wsX4_isIn) B.pre
  have hown : s.vm.findClass RX4 = some mY.cls := findClass_of_methodNamed B.named
  have hlocks := B.notSynchronized
  subst hsz
  have hD := hD0.self (sz := s.heap.size)
  generalize hAe : va_A [] s.heap.size = A at hD hZ ⊢
  have hA : ∀ q : Nat, s.heap.size ≤ q → A q := fun q h => by rw [← hAe]; exact Or.inr h
  have hS : va_S A s.heap s.heap [] := va_S.rf
  have hz : s.heap.size + 0 ≤ s.heap.size := Nat.le_refl _
  have hl := lv_entry ([.int 2, .int 0, .int 4]) (n := 3) (Nat.le_of_ble_eq_true rfl)
  rw [lg_entry_eq]
  generalize (lg_sl ([.int 2, .int 0, .int 4]) ++ List.replicate (3 - (lg_sl ([.int 2, .int 0, .int 4])).length) Slot.unset).toArray = ls at hl ⊢
  have hl : lv_has ls 3 [(0, .int 2), (1, .int 0), (2, .int 4)] := hl
  have hP : va_P (dC, dI) vwCl [] s.heap := hP
  have hD : va_D A [] := hD
  refine lv_iload_n hx hb dX4_isIn_0 rfl (lv_at hl 0 rfl) ?_
  refine lv_iload_n hx hb dX4_isIn_1 rfl (lv_at hl 1 rfl) ?_
  refine lv_icmp_lt (tgt := 14) hx hb dX4_isIn_2 (by decide) (fun c9 => ?_) (fun c9 => ?_)
  · exact absurd c9 (by decide)
  refine lv_iload_n hx hb dX4_isIn_5 rfl (lv_at hl 0 rfl) ?_
  refine lv_iload_n hx hb dX4_isIn_6 rfl (lv_at hl 2 rfl) ?_
  refine lv_icmp_gt (tgt := 14) hx hb dX4_isIn_7 (by decide) (fun c9 => ?_) (fun c9 => ?_)
  · exact absurd c9 (by decide)
  refine lv_iconst (v := 1) hx hb dX4_isIn_10 (by decide) ?_
  refine lv_goto (tgt := 15) hx hb dX4_isIn_11 (by decide) ?_
  have hP9 := hP.sub (ws' := []) [] rfl
  have hD9 := hD.sub (ws' := []) [] (by decide) rfl
  exact W.zret (v := 1) hx hb hr (by decide +kernel) (fun t ht hW => ⟨⟨_, (), rfl, rfl, ⟨by rw [ht]; exact hP9, va_K.moved hW.alike hK, hD9, by rw [ht]; exact hz⟩⟩, hS.F ht⟩) hS.2.2 dX4_isIn_15

set_option maxHeartbeats 4000000 in
set_option maxRecDepth 100000 in
theorem k_rI24 (l : Launch) (dC : Nat → ClassId) (dI : Nat → Nat → Nat) (cI cB cR cO : ClassId) (zk : Nat → Nat) (a0 : Nat) (sz : Nat)  : Met l yX0_init wsX0_init ({ frames := 1, cells := 3, slots := 6, locals := 60 }) (va_Pc [.ref a0, .int 4, .int 2] (zPre (dC, dI) (zT cI cB cR cO) zk [] [(a0, .inr (5, [.int 0, .int 0, .null, .null, .null, .int 0]))] sz)) (va_Qv (fun _ : Unit => True) (fun _ t => ∃ w1, ∃ v1, ∃ h1, zEnd (dC, dI) (zT cI cB cR cO) (va_A [(a0, .inr (5, [.int 0, .int 0, .null, .null, .null, .int 0]))] sz) [(a0, .inr (5, [.int 4, .int 2, .ref w1, .ref v1, .ref h1, .int 0]))] sz 3 t) (va_A [(a0, .inr (5, [.int 0, .int 0, .null, .null, .null, .int 0]))] sz)) 3 6 (va_A [(a0, .inr (5, [.int 0, .int 0, .null, .null, .null, .int 0]))] sz) := by
  refine Met.ofW (cc := cX0_init) (maxL := 4) (ret := none) (by decide) rfl ?_
  intro p e s mY args below meth c s₁ B hml hv
  obtain ⟨rfl, hsz, hP, hK, hD0, hZ⟩ := hv
  have hx := B.exec
  have hb := B.bytes
  have hr := B.returns
  have hts := atoms_spec (ws := wsX0_init) B.pre
  have hown : s.vm.findClass RX0 = some mY.cls := findClass_of_methodNamed B.named
  have hlocks := B.notSynchronized
  have hin : meth.name = "<init>" := (name_of_methodNamed B.named B.method).1
  subst hsz
  have hD := hD0.self (sz := s.heap.size)
  generalize hAe : va_A [(a0, .inr (5, [.int 0, .int 0, .null, .null, .null, .int 0]))] s.heap.size = A at hD hZ ⊢
  have hA : ∀ q : Nat, s.heap.size ≤ q → A q := fun q h => by rw [← hAe]; exact Or.inr h
  have hS : va_S A s.heap s.heap [] := va_S.rf
  have hz : s.heap.size + 0 ≤ s.heap.size := Nat.le_refl _
  have hl := lv_entry ([.ref a0, .int 4, .int 2]) (n := 4) (Nat.le_of_ble_eq_true rfl)
  rw [lg_entry_eq]
  generalize (lg_sl ([.ref a0, .int 4, .int 2]) ++ List.replicate (4 - (lg_sl ([.ref a0, .int 4, .int 2])).length) Slot.unset).toArray = ls at hl ⊢
  have hl : lv_has ls 4 [(0, .ref a0), (1, .int 4), (2, .int 2)] := hl
  have hP : va_P (dC, dI) vwCl [(a0, .inr (5, [.int 0, .int 0, .null, .null, .null, .int 0]))] s.heap := hP
  have hD : va_D A [(a0, .inr (5, [.int 0, .int 0, .null, .null, .null, .int 0]))] := hD
  refine lv_aload_n hx hb dX0_init_0 rfl (lv_at hl 0 rfl) ?_
  refine W.objInit hx hb hown (hts (.methodLink RX0 3 objectInit) (List.mem_cons_of_mem _ zw_104)) (hts (.instanceMethod objectInit) (List.mem_cons_of_mem _ zw_71)) (hts (.code objectInit ⟨#[0xb1]⟩ 1 none) (List.mem_cons_of_mem _ zw_72)) rfl (by rw [hml]; exact hl.1) rfl dX0_init_1 (Nat.le_of_ble_eq_true rfl) (Nat.le_of_ble_eq_true rfl) ?_
  refine W.eq (g2 := F0 mY 4 ls []) rfl ?_
  refine lv_aload_n hx hb dX0_init_4 rfl (lv_at hl 0 rfl) ?_
  refine lv_iload_n hx hb dX0_init_5 rfl (lv_at hl 1 rfl) ?_
  refine va_putF (D := (dC, dI)) (ci := 5) (v := .int 4) (ty := .int) (C := RX0) (T := TX0) (N := 6) hx hb hts hi_X0_init_X0 tyX0 tyX0_ok nmX0 hown hK hP hD (zS0 hS) 0 rfl rfl 0 (by decide) (hts (.fieldLink RX0 9 "Deeprows$Row" "kind" "I") (List.mem_cons_of_mem _ zw_107)) (fun _ h9 => h9) rfl hin rfl (by decide +kernel) rfl rfl (Nat.le_of_ble_eq_true rfl) dX0_init_6 (fun H1 locs hP hD hS1 => ?_)
  have hz : s.heap.size + 0 ≤ H1.size := Nat.le_trans hz hS1.1
  have hS := zSS hS hS1
  replace hP : va_P (dC, dI) vwCl [(a0, .inr (5, [.int 4, .int 0, .null, .null, .null, .int 0]))] H1 := hP
  replace hD : va_D A [(a0, .inr (5, [.int 4, .int 0, .null, .null, .null, .int 0]))] := hD
  refine lv_aload_n hx hb dX0_init_9 rfl (lv_at hl 0 rfl) ?_
  refine lv_iload_n hx hb dX0_init_10 rfl (lv_at hl 2 rfl) ?_
  refine va_putF (D := (dC, dI)) (ci := 5) (v := .int 2) (ty := .int) (C := RX0) (T := TX0) (N := 6) hx hb hts hi_X0_init_X0 tyX0 tyX0_ok nmX0 hown hK hP hD (zS0 hS) 0 rfl rfl 1 (by decide) (hts (.fieldLink RX0 15 "Deeprows$Row" "length" "I") (List.mem_cons_of_mem _ zw_109)) (fun _ h9 => h9) rfl hin rfl (by decide +kernel) rfl rfl (Nat.le_of_ble_eq_true rfl) dX0_init_11 (fun H2 locs hP hD hS1 => ?_)
  have hz : s.heap.size + 0 ≤ H2.size := Nat.le_trans hz hS1.1
  have hS := zSS hS hS1
  replace hP : va_P (dC, dI) vwCl [(a0, .inr (5, [.int 4, .int 2, .null, .null, .null, .int 0]))] H2 := hP
  replace hD : va_D A [(a0, .inr (5, [.int 4, .int 2, .null, .null, .null, .int 0]))] := hD
  refine lv_aload_n hx hb dX0_init_14 rfl (lv_at hl 0 rfl) ?_
  refine lv_iload_n hx hb dX0_init_15 rfl (lv_at hl 2 rfl) ?_
  refine zw_newa (atype := .int) (ty := .int) (N' := 2) hx hb (hts (.arrayClass .int) (List.mem_cons_of_mem _ zw_131)) rfl (by first | exact Or.inl rfl | exact Or.inr rfl) hK hP hD hS hA 0 rfl (by decide) (by decide) (Nat.le_of_ble_eq_true rfl) (Nat.le_of_ble_eq_true rfl) (Nat.le_of_ble_eq_true rfl) dX0_init_16 hz (fun q3 H4 hP hD hS hz => ?_)
  replace hP : va_P (dC, dI) vwCl [(a0, .inr (5, [.int 4, .int 2, .null, .null, .null, .int 0])), (q3, .inl (cI, 2, .inl (fun _ => 0)))] H4 := hP
  replace hD : va_D A [(a0, .inr (5, [.int 4, .int 2, .null, .null, .null, .int 0])), (q3, .inl (cI, 2, .inl (fun _ => 0)))] := hD
  refine W.widen (k := 1) (n := 2) (by omega) (by omega) ?_
  refine va_putF (D := (dC, dI)) (ci := 5) (v := .ref q3) (ty := .array .int) (C := RX0) (T := TX0) (N := 6) hx hb hts hi_X0_init_X0 tyX0 tyX0_ok nmX0 hown hK hP hD (zS0 hS) 0 rfl rfl 2 (by decide) (hts (.fieldLink RX0 18 "Deeprows$Row" "whats" "[I") (List.mem_cons_of_mem _ zw_111)) (fun _ h9 => h9) rfl hin rfl (by decide +kernel) rfl rfl (Nat.le_of_ble_eq_true rfl) dX0_init_18 (fun H5 locs hP hD hS1 => ?_)
  have hz : s.heap.size + 1 ≤ H5.size := Nat.le_trans hz hS1.1
  have hS := zSS hS hS1
  replace hP : va_P (dC, dI) vwCl [(a0, .inr (5, [.int 4, .int 2, .ref q3, .null, .null, .int 0])), (q3, .inl (cI, 2, .inl (fun _ => 0)))] H5 := hP
  replace hD : va_D A [(a0, .inr (5, [.int 4, .int 2, .ref q3, .null, .null, .int 0])), (q3, .inl (cI, 2, .inl (fun _ => 0)))] := hD
  refine lv_aload_n hx hb dX0_init_21 rfl (lv_at hl 0 rfl) ?_
  refine lv_iload_n hx hb dX0_init_22 rfl (lv_at hl 2 rfl) ?_
  refine zw_newa (atype := .int) (ty := .int) (N' := 2) hx hb (hts (.arrayClass .int) (List.mem_cons_of_mem _ zw_131)) rfl (by first | exact Or.inl rfl | exact Or.inr rfl) hK hP hD hS hA 0 rfl (by decide) (by decide) (Nat.le_of_ble_eq_true rfl) (Nat.le_of_ble_eq_true rfl) (Nat.le_of_ble_eq_true rfl) dX0_init_23 hz (fun q6 H7 hP hD hS hz => ?_)
  replace hP : va_P (dC, dI) vwCl [(a0, .inr (5, [.int 4, .int 2, .ref q3, .null, .null, .int 0])), (q3, .inl (cI, 2, .inl (fun _ => 0))), (q6, .inl (cI, 2, .inl (fun _ => 0)))] H7 := hP
  replace hD : va_D A [(a0, .inr (5, [.int 4, .int 2, .ref q3, .null, .null, .int 0])), (q3, .inl (cI, 2, .inl (fun _ => 0))), (q6, .inl (cI, 2, .inl (fun _ => 0)))] := hD
  refine W.widen (k := 2) (n := 4) (by omega) (by omega) ?_
  refine va_putF (D := (dC, dI)) (ci := 5) (v := .ref q6) (ty := .array .int) (C := RX0) (T := TX0) (N := 6) hx hb hts hi_X0_init_X0 tyX0 tyX0_ok nmX0 hown hK hP hD (zS0 hS) 0 rfl rfl 3 (by decide) (hts (.fieldLink RX0 22 "Deeprows$Row" "values" "[I") (List.mem_cons_of_mem _ zw_113)) (fun _ h9 => h9) rfl hin rfl (by decide +kernel) rfl rfl (Nat.le_of_ble_eq_true rfl) dX0_init_25 (fun H8 locs hP hD hS1 => ?_)
  have hz : s.heap.size + 2 ≤ H8.size := Nat.le_trans hz hS1.1
  have hS := zSS hS hS1
  replace hP : va_P (dC, dI) vwCl [(a0, .inr (5, [.int 4, .int 2, .ref q3, .ref q6, .null, .int 0])), (q3, .inl (cI, 2, .inl (fun _ => 0))), (q6, .inl (cI, 2, .inl (fun _ => 0)))] H8 := hP
  replace hD : va_D A [(a0, .inr (5, [.int 4, .int 2, .ref q3, .ref q6, .null, .int 0])), (q3, .inl (cI, 2, .inl (fun _ => 0))), (q6, .inl (cI, 2, .inl (fun _ => 0)))] := hD
  refine lv_aload_n hx hb dX0_init_28 rfl (lv_at hl 0 rfl) ?_
  refine lv_iload_n hx hb dX0_init_29 rfl (lv_at hl 2 rfl) ?_
  refine zw_newq (C := "Deeprows$Row") (N' := 2) hx hb hown (hts (.classLink RX0 10 RX0) (List.mem_cons_of_mem _ zw_105)) (za0 hZ) hK hP hD hS hA 2 rfl (by decide) (by decide) (by decide) (Nat.le_of_ble_eq_true rfl) (Nat.le_of_ble_eq_true rfl) dX0_init_30 hz (fun q9 H10 hP hD hS hz => ?_)
  replace hP : va_P (dC, dI) vwCl [(a0, .inr (5, [.int 4, .int 2, .ref q3, .ref q6, .null, .int 0])), (q3, .inl (cI, 2, .inl (fun _ => 0))), (q6, .inl (cI, 2, .inl (fun _ => 0))), (q9, .inl (cR, 2, .inr (.inr (.inr (.inr (fun _ => none))))))] H10 := hP
  replace hD : va_D A [(a0, .inr (5, [.int 4, .int 2, .ref q3, .ref q6, .null, .int 0])), (q3, .inl (cI, 2, .inl (fun _ => 0))), (q6, .inl (cI, 2, .inl (fun _ => 0))), (q9, .inl (cR, 2, .inr (.inr (.inr (.inr (fun _ => none))))))] := hD
  refine W.widen (k := 3) (n := 6) (by omega) (by omega) ?_
  refine va_putF (D := (dC, dI)) (ci := 5) (v := .ref q9) (ty := .array (.object "Deeprows$Row")) (C := RX0) (T := TX0) (N := 6) hx hb hts hi_X0_init_X0 tyX0 tyX0_ok nmX0 hown hK hP hD (zS0 hS) 0 rfl rfl 4 (by decide) (hts (.fieldLink RX0 25 "Deeprows$Row" "hung" "[LDeeprows$Row;") (List.mem_cons_of_mem _ zw_115)) (fun _ h9 => h9) rfl hin rfl (by decide +kernel) rfl rfl (Nat.le_of_ble_eq_true rfl) dX0_init_33 (fun H11 locs hP hD hS1 => ?_)
  have hz : s.heap.size + 3 ≤ H11.size := Nat.le_trans hz hS1.1
  have hS := zSS hS hS1
  replace hP : va_P (dC, dI) vwCl [(a0, .inr (5, [.int 4, .int 2, .ref q3, .ref q6, .ref q9, .int 0])), (q3, .inl (cI, 2, .inl (fun _ => 0))), (q6, .inl (cI, 2, .inl (fun _ => 0))), (q9, .inl (cR, 2, .inr (.inr (.inr (.inr (fun _ => none))))))] H11 := hP
  replace hD : va_D A [(a0, .inr (5, [.int 4, .int 2, .ref q3, .ref q6, .ref q9, .int 0])), (q3, .inl (cI, 2, .inl (fun _ => 0))), (q6, .inl (cI, 2, .inl (fun _ => 0))), (q9, .inl (cR, 2, .inr (.inr (.inr (.inr (fun _ => none))))))] := hD
  refine lv_iconst (v := 0) hx hb dX0_init_36 (by decide) ?_
  refine lv_istore_n (lv' := [(3, .int 0), (0, .ref a0), (1, .int 4), (2, .int 2)]) hx hb dX0_init_37 rfl hl (by decide) rfl (fun ls hl => ?_)
  refine lv_iload_n hx hb dX0_init_38 rfl (lv_at hl 0 rfl) ?_
  refine lv_iload_n hx hb dX0_init_39 rfl (lv_at hl 3 rfl) ?_
  refine lv_icmp_ge (tgt := 81) hx hb dX0_init_40 (by decide) (fun c9 => ?_) (fun c9 => ?_)
  · exact absurd c9 (by decide)
  refine lv_aload_n hx hb dX0_init_43 rfl (lv_at hl 1 rfl) ?_
  refine va_get (D := (dC, dI)) (ci := 5) (v := .ref q3) (C := RX0) (T := TX0) (N := 6) hx hb hts hi_X0_init_X0 hown hK hP 0 rfl rfl 2 (by decide) (hts (.fieldLink RX0 18 "Deeprows$Row" "whats" "[I") (List.mem_cons_of_mem _ zw_111)) (fun _ h9 => h9) rfl dX0_init_44 ?_
  refine lv_iload_n hx hb dX0_init_47 rfl (lv_at hl 0 rfl) ?_
  refine lv_iload_n hx hb dX0_init_48 rfl (lv_at hl 2 rfl) ?_
  refine lv_iconst (v := 4) hx hb dX0_init_49 (by decide) ?_
  refine lv_icmp_ne (tgt := 57) hx hb dX0_init_50 (by decide) (fun c9 => ?_) (fun c9 => ?_)
  · exact absurd (by decide) c9
  refine lv_iconst (v := 0) hx hb dX0_init_53 (by decide) ?_
  refine lv_goto (tgt := 58) hx hb dX0_init_54 (by decide) ?_
  refine va_iast (D := (dC, dI)) (cl := vwCl) hx hb hK hP hD (zS0 hS) 1 0 rfl rfl (by unfold vp_in; decide) dX0_init_58 (fun H12 locs hP hD hS1 => ?_)
  have hz : s.heap.size + 3 ≤ H12.size := Nat.le_trans hz hS1.1
  have hS := zSS hS hS1
  replace hP : va_P (dC, dI) vwCl [(a0, .inr (5, [.int 4, .int 2, .ref q3, .ref q6, .ref q9, .int 0])), (q3, .inl (cI, 2, .inl (upd (fun _ => 0) 0 0))), (q6, .inl (cI, 2, .inl (fun _ => 0))), (q9, .inl (cR, 2, .inr (.inr (.inr (.inr (fun _ => none))))))] H12 := hP
  replace hD : va_D A [(a0, .inr (5, [.int 4, .int 2, .ref q3, .ref q6, .ref q9, .int 0])), (q3, .inl (cI, 2, .inl (upd (fun _ => 0) 0 0))), (q6, .inl (cI, 2, .inl (fun _ => 0))), (q9, .inl (cR, 2, .inr (.inr (.inr (.inr (fun _ => none))))))] := hD
  refine lv_aload_n hx hb dX0_init_59 rfl (lv_at hl 1 rfl) ?_
  refine va_get (D := (dC, dI)) (ci := 5) (v := .ref q6) (C := RX0) (T := TX0) (N := 6) hx hb hts hi_X0_init_X0 hown hK hP 0 rfl rfl 3 (by decide) (hts (.fieldLink RX0 22 "Deeprows$Row" "values" "[I") (List.mem_cons_of_mem _ zw_113)) (fun _ h9 => h9) rfl dX0_init_60 ?_
  refine lv_iload_n hx hb dX0_init_63 rfl (lv_at hl 0 rfl) ?_
  refine lv_iload_n hx hb dX0_init_64 rfl (lv_at hl 2 rfl) ?_
  refine lv_iconst (v := 4) hx hb dX0_init_65 (by decide) ?_
  refine lv_icmp_ne (tgt := 73) hx hb dX0_init_66 (by decide) (fun c9 => ?_) (fun c9 => ?_)
  · exact absurd (by decide) c9
  refine lv_iconst (v := (-1)) hx hb dX0_init_69 (by decide) ?_
  refine lv_goto (tgt := 74) hx hb dX0_init_70 (by decide) ?_
  refine va_iast (D := (dC, dI)) (cl := vwCl) hx hb hK hP hD (zS0 hS) 2 0 rfl rfl (by unfold vp_in; decide) dX0_init_74 (fun H13 locs hP hD hS1 => ?_)
  have hz : s.heap.size + 3 ≤ H13.size := Nat.le_trans hz hS1.1
  have hS := zSS hS hS1
  replace hP : va_P (dC, dI) vwCl [(a0, .inr (5, [.int 4, .int 2, .ref q3, .ref q6, .ref q9, .int 0])), (q3, .inl (cI, 2, .inl (upd (fun _ => 0) 0 0))), (q6, .inl (cI, 2, .inl (upd (fun _ => 0) 0 (-1)))), (q9, .inl (cR, 2, .inr (.inr (.inr (.inr (fun _ => none))))))] H13 := hP
  replace hD : va_D A [(a0, .inr (5, [.int 4, .int 2, .ref q3, .ref q6, .ref q9, .int 0])), (q3, .inl (cI, 2, .inl (upd (fun _ => 0) 0 0))), (q6, .inl (cI, 2, .inl (upd (fun _ => 0) 0 (-1)))), (q9, .inl (cR, 2, .inr (.inr (.inr (.inr (fun _ => none))))))] := hD
  refine lv_iinc (v := 1) (lv' := [(3, .int 1), (0, .ref a0), (1, .int 4), (2, .int 2)]) hx hb dX0_init_75 hl (k := 0) rfl (by decide) (by decide) rfl (fun ls hl => ?_)
  refine lv_goto (tgt := 38) hx hb dX0_init_78 (by decide) ?_
  refine lv_iload_n hx hb dX0_init_38 rfl (lv_at hl 0 rfl) ?_
  refine lv_iload_n hx hb dX0_init_39 rfl (lv_at hl 3 rfl) ?_
  refine lv_icmp_ge (tgt := 81) hx hb dX0_init_40 (by decide) (fun c9 => ?_) (fun c9 => ?_)
  · exact absurd c9 (by decide)
  refine lv_aload_n hx hb dX0_init_43 rfl (lv_at hl 1 rfl) ?_
  refine va_get (D := (dC, dI)) (ci := 5) (v := .ref q3) (C := RX0) (T := TX0) (N := 6) hx hb hts hi_X0_init_X0 hown hK hP 0 rfl rfl 2 (by decide) (hts (.fieldLink RX0 18 "Deeprows$Row" "whats" "[I") (List.mem_cons_of_mem _ zw_111)) (fun _ h9 => h9) rfl dX0_init_44 ?_
  refine lv_iload_n hx hb dX0_init_47 rfl (lv_at hl 0 rfl) ?_
  refine lv_iload_n hx hb dX0_init_48 rfl (lv_at hl 2 rfl) ?_
  refine lv_iconst (v := 4) hx hb dX0_init_49 (by decide) ?_
  refine lv_icmp_ne (tgt := 57) hx hb dX0_init_50 (by decide) (fun c9 => ?_) (fun c9 => ?_)
  · exact absurd (by decide) c9
  refine lv_iconst (v := 0) hx hb dX0_init_53 (by decide) ?_
  refine lv_goto (tgt := 58) hx hb dX0_init_54 (by decide) ?_
  refine va_iast (D := (dC, dI)) (cl := vwCl) hx hb hK hP hD (zS0 hS) 1 0 rfl rfl (by unfold vp_in; decide) dX0_init_58 (fun H14 locs hP hD hS1 => ?_)
  have hz : s.heap.size + 3 ≤ H14.size := Nat.le_trans hz hS1.1
  have hS := zSS hS hS1
  replace hP : va_P (dC, dI) vwCl [(a0, .inr (5, [.int 4, .int 2, .ref q3, .ref q6, .ref q9, .int 0])), (q3, .inl (cI, 2, .inl (upd (upd (fun _ => 0) 0 0) 1 0))), (q6, .inl (cI, 2, .inl (upd (fun _ => 0) 0 (-1)))), (q9, .inl (cR, 2, .inr (.inr (.inr (.inr (fun _ => none))))))] H14 := hP
  replace hD : va_D A [(a0, .inr (5, [.int 4, .int 2, .ref q3, .ref q6, .ref q9, .int 0])), (q3, .inl (cI, 2, .inl (upd (upd (fun _ => 0) 0 0) 1 0))), (q6, .inl (cI, 2, .inl (upd (fun _ => 0) 0 (-1)))), (q9, .inl (cR, 2, .inr (.inr (.inr (.inr (fun _ => none))))))] := hD
  refine lv_aload_n hx hb dX0_init_59 rfl (lv_at hl 1 rfl) ?_
  refine va_get (D := (dC, dI)) (ci := 5) (v := .ref q6) (C := RX0) (T := TX0) (N := 6) hx hb hts hi_X0_init_X0 hown hK hP 0 rfl rfl 3 (by decide) (hts (.fieldLink RX0 22 "Deeprows$Row" "values" "[I") (List.mem_cons_of_mem _ zw_113)) (fun _ h9 => h9) rfl dX0_init_60 ?_
  refine lv_iload_n hx hb dX0_init_63 rfl (lv_at hl 0 rfl) ?_
  refine lv_iload_n hx hb dX0_init_64 rfl (lv_at hl 2 rfl) ?_
  refine lv_iconst (v := 4) hx hb dX0_init_65 (by decide) ?_
  refine lv_icmp_ne (tgt := 73) hx hb dX0_init_66 (by decide) (fun c9 => ?_) (fun c9 => ?_)
  · exact absurd (by decide) c9
  refine lv_iconst (v := (-1)) hx hb dX0_init_69 (by decide) ?_
  refine lv_goto (tgt := 74) hx hb dX0_init_70 (by decide) ?_
  refine va_iast (D := (dC, dI)) (cl := vwCl) hx hb hK hP hD (zS0 hS) 2 0 rfl rfl (by unfold vp_in; decide) dX0_init_74 (fun H15 locs hP hD hS1 => ?_)
  have hz : s.heap.size + 3 ≤ H15.size := Nat.le_trans hz hS1.1
  have hS := zSS hS hS1
  replace hP : va_P (dC, dI) vwCl [(a0, .inr (5, [.int 4, .int 2, .ref q3, .ref q6, .ref q9, .int 0])), (q3, .inl (cI, 2, .inl (upd (upd (fun _ => 0) 0 0) 1 0))), (q6, .inl (cI, 2, .inl (upd (upd (fun _ => 0) 0 (-1)) 1 (-1)))), (q9, .inl (cR, 2, .inr (.inr (.inr (.inr (fun _ => none))))))] H15 := hP
  replace hD : va_D A [(a0, .inr (5, [.int 4, .int 2, .ref q3, .ref q6, .ref q9, .int 0])), (q3, .inl (cI, 2, .inl (upd (upd (fun _ => 0) 0 0) 1 0))), (q6, .inl (cI, 2, .inl (upd (upd (fun _ => 0) 0 (-1)) 1 (-1)))), (q9, .inl (cR, 2, .inr (.inr (.inr (.inr (fun _ => none))))))] := hD
  refine lv_iinc (v := 2) (lv' := [(3, .int 2), (0, .ref a0), (1, .int 4), (2, .int 2)]) hx hb dX0_init_75 hl (k := 0) rfl (by decide) (by decide) rfl (fun ls hl => ?_)
  refine lv_goto (tgt := 38) hx hb dX0_init_78 (by decide) ?_
  refine lv_iload_n hx hb dX0_init_38 rfl (lv_at hl 0 rfl) ?_
  refine lv_iload_n hx hb dX0_init_39 rfl (lv_at hl 3 rfl) ?_
  refine lv_icmp_ge (tgt := 81) hx hb dX0_init_40 (by decide) (fun c9 => ?_) (fun c9 => ?_)
  rotate_left
  · exact absurd (by decide) c9
  have hP9 := hP.sub (ws' := [(a0, .inr (5, [.int 4, .int 2, .ref q3, .ref q6, .ref q9, .int 0]))]) [0] rfl
  have hD9 := hD.sub (ws' := [(a0, .inr (5, [.int 4, .int 2, .ref q3, .ref q6, .ref q9, .int 0]))]) [0] (by decide) rfl
  exact W.vret hx hb hr (fun t ht hW => ⟨⟨(), rfl, trivial, ⟨_, _, _, ⟨by rw [ht]; exact hP9, va_K.moved hW.alike hK, hD9, by rw [ht]; exact hz⟩⟩⟩, hS.F ht⟩) hS.2.2 dX0_init_81

set_option maxHeartbeats 4000000 in
set_option maxRecDepth 100000 in
theorem k_rI2s (l : Launch) (dC : Nat → ClassId) (dI : Nat → Nat → Nat) (cI cB cR cO : ClassId) (zk : Nat → Nat) (a0 : Nat) (kd : Int32) (sz : Nat) (hkd : ¬ kd = 4) : Met l yX0_init wsX0_init ({ frames := 1, cells := 3, slots := 6, locals := 60 }) (va_Pc [.ref a0, .int kd, .int 2] (zPre (dC, dI) (zT cI cB cR cO) zk [] [(a0, .inr (5, [.int 0, .int 0, .null, .null, .null, .int 0]))] sz)) (va_Qv (fun _ : Unit => True) (fun _ t => ∃ w1, ∃ v1, ∃ h1, zEnd (dC, dI) (zT cI cB cR cO) (va_A [(a0, .inr (5, [.int 0, .int 0, .null, .null, .null, .int 0]))] sz) [(a0, .inr (5, [.int kd, .int 2, .ref w1, .ref v1, .ref h1, .int 0]))] sz 3 t) (va_A [(a0, .inr (5, [.int 0, .int 0, .null, .null, .null, .int 0]))] sz)) 3 6 (va_A [(a0, .inr (5, [.int 0, .int 0, .null, .null, .null, .int 0]))] sz) := by
  refine Met.ofW (cc := cX0_init) (maxL := 4) (ret := none) (by decide) rfl ?_
  intro p e s mY args below meth c s₁ B hml hv
  obtain ⟨rfl, hsz, hP, hK, hD0, hZ⟩ := hv
  have hx := B.exec
  have hb := B.bytes
  have hr := B.returns
  have hts := atoms_spec (ws := wsX0_init) B.pre
  have hown : s.vm.findClass RX0 = some mY.cls := findClass_of_methodNamed B.named
  have hlocks := B.notSynchronized
  have hin : meth.name = "<init>" := (name_of_methodNamed B.named B.method).1
  subst hsz
  have hD := hD0.self (sz := s.heap.size)
  generalize hAe : va_A [(a0, .inr (5, [.int 0, .int 0, .null, .null, .null, .int 0]))] s.heap.size = A at hD hZ ⊢
  have hA : ∀ q : Nat, s.heap.size ≤ q → A q := fun q h => by rw [← hAe]; exact Or.inr h
  have hS : va_S A s.heap s.heap [] := va_S.rf
  have hz : s.heap.size + 0 ≤ s.heap.size := Nat.le_refl _
  have hl := lv_entry ([.ref a0, .int kd, .int 2]) (n := 4) (Nat.le_of_ble_eq_true rfl)
  rw [lg_entry_eq]
  generalize (lg_sl ([.ref a0, .int kd, .int 2]) ++ List.replicate (4 - (lg_sl ([.ref a0, .int kd, .int 2])).length) Slot.unset).toArray = ls at hl ⊢
  have hl : lv_has ls 4 [(0, .ref a0), (1, .int kd), (2, .int 2)] := hl
  have hP : va_P (dC, dI) vwCl [(a0, .inr (5, [.int 0, .int 0, .null, .null, .null, .int 0]))] s.heap := hP
  have hD : va_D A [(a0, .inr (5, [.int 0, .int 0, .null, .null, .null, .int 0]))] := hD
  refine lv_aload_n hx hb dX0_init_0 rfl (lv_at hl 0 rfl) ?_
  refine W.objInit hx hb hown (hts (.methodLink RX0 3 objectInit) (List.mem_cons_of_mem _ zw_104)) (hts (.instanceMethod objectInit) (List.mem_cons_of_mem _ zw_71)) (hts (.code objectInit ⟨#[0xb1]⟩ 1 none) (List.mem_cons_of_mem _ zw_72)) rfl (by rw [hml]; exact hl.1) rfl dX0_init_1 (Nat.le_of_ble_eq_true rfl) (Nat.le_of_ble_eq_true rfl) ?_
  refine W.eq (g2 := F0 mY 4 ls []) rfl ?_
  refine lv_aload_n hx hb dX0_init_4 rfl (lv_at hl 0 rfl) ?_
  refine lv_iload_n hx hb dX0_init_5 rfl (lv_at hl 1 rfl) ?_
  refine va_putF (D := (dC, dI)) (ci := 5) (v := .int kd) (ty := .int) (C := RX0) (T := TX0) (N := 6) hx hb hts hi_X0_init_X0 tyX0 tyX0_ok nmX0 hown hK hP hD (zS0 hS) 0 rfl rfl 0 (by decide) (hts (.fieldLink RX0 9 "Deeprows$Row" "kind" "I") (List.mem_cons_of_mem _ zw_107)) (fun _ h9 => h9) rfl hin rfl (by decide +kernel) rfl rfl (Nat.le_of_ble_eq_true rfl) dX0_init_6 (fun H1 locs hP hD hS1 => ?_)
  have hz : s.heap.size + 0 ≤ H1.size := Nat.le_trans hz hS1.1
  have hS := zSS hS hS1
  replace hP : va_P (dC, dI) vwCl [(a0, .inr (5, [.int kd, .int 0, .null, .null, .null, .int 0]))] H1 := hP
  replace hD : va_D A [(a0, .inr (5, [.int kd, .int 0, .null, .null, .null, .int 0]))] := hD
  refine lv_aload_n hx hb dX0_init_9 rfl (lv_at hl 0 rfl) ?_
  refine lv_iload_n hx hb dX0_init_10 rfl (lv_at hl 2 rfl) ?_
  refine va_putF (D := (dC, dI)) (ci := 5) (v := .int 2) (ty := .int) (C := RX0) (T := TX0) (N := 6) hx hb hts hi_X0_init_X0 tyX0 tyX0_ok nmX0 hown hK hP hD (zS0 hS) 0 rfl rfl 1 (by decide) (hts (.fieldLink RX0 15 "Deeprows$Row" "length" "I") (List.mem_cons_of_mem _ zw_109)) (fun _ h9 => h9) rfl hin rfl (by decide +kernel) rfl rfl (Nat.le_of_ble_eq_true rfl) dX0_init_11 (fun H2 locs hP hD hS1 => ?_)
  have hz : s.heap.size + 0 ≤ H2.size := Nat.le_trans hz hS1.1
  have hS := zSS hS hS1
  replace hP : va_P (dC, dI) vwCl [(a0, .inr (5, [.int kd, .int 2, .null, .null, .null, .int 0]))] H2 := hP
  replace hD : va_D A [(a0, .inr (5, [.int kd, .int 2, .null, .null, .null, .int 0]))] := hD
  refine lv_aload_n hx hb dX0_init_14 rfl (lv_at hl 0 rfl) ?_
  refine lv_iload_n hx hb dX0_init_15 rfl (lv_at hl 2 rfl) ?_
  refine zw_newa (atype := .int) (ty := .int) (N' := 2) hx hb (hts (.arrayClass .int) (List.mem_cons_of_mem _ zw_131)) rfl (by first | exact Or.inl rfl | exact Or.inr rfl) hK hP hD hS hA 0 rfl (by decide) (by decide) (Nat.le_of_ble_eq_true rfl) (Nat.le_of_ble_eq_true rfl) (Nat.le_of_ble_eq_true rfl) dX0_init_16 hz (fun q3 H4 hP hD hS hz => ?_)
  replace hP : va_P (dC, dI) vwCl [(a0, .inr (5, [.int kd, .int 2, .null, .null, .null, .int 0])), (q3, .inl (cI, 2, .inl (fun _ => 0)))] H4 := hP
  replace hD : va_D A [(a0, .inr (5, [.int kd, .int 2, .null, .null, .null, .int 0])), (q3, .inl (cI, 2, .inl (fun _ => 0)))] := hD
  refine W.widen (k := 1) (n := 2) (by omega) (by omega) ?_
  refine va_putF (D := (dC, dI)) (ci := 5) (v := .ref q3) (ty := .array .int) (C := RX0) (T := TX0) (N := 6) hx hb hts hi_X0_init_X0 tyX0 tyX0_ok nmX0 hown hK hP hD (zS0 hS) 0 rfl rfl 2 (by decide) (hts (.fieldLink RX0 18 "Deeprows$Row" "whats" "[I") (List.mem_cons_of_mem _ zw_111)) (fun _ h9 => h9) rfl hin rfl (by decide +kernel) rfl rfl (Nat.le_of_ble_eq_true rfl) dX0_init_18 (fun H5 locs hP hD hS1 => ?_)
  have hz : s.heap.size + 1 ≤ H5.size := Nat.le_trans hz hS1.1
  have hS := zSS hS hS1
  replace hP : va_P (dC, dI) vwCl [(a0, .inr (5, [.int kd, .int 2, .ref q3, .null, .null, .int 0])), (q3, .inl (cI, 2, .inl (fun _ => 0)))] H5 := hP
  replace hD : va_D A [(a0, .inr (5, [.int kd, .int 2, .ref q3, .null, .null, .int 0])), (q3, .inl (cI, 2, .inl (fun _ => 0)))] := hD
  refine lv_aload_n hx hb dX0_init_21 rfl (lv_at hl 0 rfl) ?_
  refine lv_iload_n hx hb dX0_init_22 rfl (lv_at hl 2 rfl) ?_
  refine zw_newa (atype := .int) (ty := .int) (N' := 2) hx hb (hts (.arrayClass .int) (List.mem_cons_of_mem _ zw_131)) rfl (by first | exact Or.inl rfl | exact Or.inr rfl) hK hP hD hS hA 0 rfl (by decide) (by decide) (Nat.le_of_ble_eq_true rfl) (Nat.le_of_ble_eq_true rfl) (Nat.le_of_ble_eq_true rfl) dX0_init_23 hz (fun q6 H7 hP hD hS hz => ?_)
  replace hP : va_P (dC, dI) vwCl [(a0, .inr (5, [.int kd, .int 2, .ref q3, .null, .null, .int 0])), (q3, .inl (cI, 2, .inl (fun _ => 0))), (q6, .inl (cI, 2, .inl (fun _ => 0)))] H7 := hP
  replace hD : va_D A [(a0, .inr (5, [.int kd, .int 2, .ref q3, .null, .null, .int 0])), (q3, .inl (cI, 2, .inl (fun _ => 0))), (q6, .inl (cI, 2, .inl (fun _ => 0)))] := hD
  refine W.widen (k := 2) (n := 4) (by omega) (by omega) ?_
  refine va_putF (D := (dC, dI)) (ci := 5) (v := .ref q6) (ty := .array .int) (C := RX0) (T := TX0) (N := 6) hx hb hts hi_X0_init_X0 tyX0 tyX0_ok nmX0 hown hK hP hD (zS0 hS) 0 rfl rfl 3 (by decide) (hts (.fieldLink RX0 22 "Deeprows$Row" "values" "[I") (List.mem_cons_of_mem _ zw_113)) (fun _ h9 => h9) rfl hin rfl (by decide +kernel) rfl rfl (Nat.le_of_ble_eq_true rfl) dX0_init_25 (fun H8 locs hP hD hS1 => ?_)
  have hz : s.heap.size + 2 ≤ H8.size := Nat.le_trans hz hS1.1
  have hS := zSS hS hS1
  replace hP : va_P (dC, dI) vwCl [(a0, .inr (5, [.int kd, .int 2, .ref q3, .ref q6, .null, .int 0])), (q3, .inl (cI, 2, .inl (fun _ => 0))), (q6, .inl (cI, 2, .inl (fun _ => 0)))] H8 := hP
  replace hD : va_D A [(a0, .inr (5, [.int kd, .int 2, .ref q3, .ref q6, .null, .int 0])), (q3, .inl (cI, 2, .inl (fun _ => 0))), (q6, .inl (cI, 2, .inl (fun _ => 0)))] := hD
  refine lv_aload_n hx hb dX0_init_28 rfl (lv_at hl 0 rfl) ?_
  refine lv_iload_n hx hb dX0_init_29 rfl (lv_at hl 2 rfl) ?_
  refine zw_newq (C := "Deeprows$Row") (N' := 2) hx hb hown (hts (.classLink RX0 10 RX0) (List.mem_cons_of_mem _ zw_105)) (za0 hZ) hK hP hD hS hA 2 rfl (by decide) (by decide) (by decide) (Nat.le_of_ble_eq_true rfl) (Nat.le_of_ble_eq_true rfl) dX0_init_30 hz (fun q9 H10 hP hD hS hz => ?_)
  replace hP : va_P (dC, dI) vwCl [(a0, .inr (5, [.int kd, .int 2, .ref q3, .ref q6, .null, .int 0])), (q3, .inl (cI, 2, .inl (fun _ => 0))), (q6, .inl (cI, 2, .inl (fun _ => 0))), (q9, .inl (cR, 2, .inr (.inr (.inr (.inr (fun _ => none))))))] H10 := hP
  replace hD : va_D A [(a0, .inr (5, [.int kd, .int 2, .ref q3, .ref q6, .null, .int 0])), (q3, .inl (cI, 2, .inl (fun _ => 0))), (q6, .inl (cI, 2, .inl (fun _ => 0))), (q9, .inl (cR, 2, .inr (.inr (.inr (.inr (fun _ => none))))))] := hD
  refine W.widen (k := 3) (n := 6) (by omega) (by omega) ?_
  refine va_putF (D := (dC, dI)) (ci := 5) (v := .ref q9) (ty := .array (.object "Deeprows$Row")) (C := RX0) (T := TX0) (N := 6) hx hb hts hi_X0_init_X0 tyX0 tyX0_ok nmX0 hown hK hP hD (zS0 hS) 0 rfl rfl 4 (by decide) (hts (.fieldLink RX0 25 "Deeprows$Row" "hung" "[LDeeprows$Row;") (List.mem_cons_of_mem _ zw_115)) (fun _ h9 => h9) rfl hin rfl (by decide +kernel) rfl rfl (Nat.le_of_ble_eq_true rfl) dX0_init_33 (fun H11 locs hP hD hS1 => ?_)
  have hz : s.heap.size + 3 ≤ H11.size := Nat.le_trans hz hS1.1
  have hS := zSS hS hS1
  replace hP : va_P (dC, dI) vwCl [(a0, .inr (5, [.int kd, .int 2, .ref q3, .ref q6, .ref q9, .int 0])), (q3, .inl (cI, 2, .inl (fun _ => 0))), (q6, .inl (cI, 2, .inl (fun _ => 0))), (q9, .inl (cR, 2, .inr (.inr (.inr (.inr (fun _ => none))))))] H11 := hP
  replace hD : va_D A [(a0, .inr (5, [.int kd, .int 2, .ref q3, .ref q6, .ref q9, .int 0])), (q3, .inl (cI, 2, .inl (fun _ => 0))), (q6, .inl (cI, 2, .inl (fun _ => 0))), (q9, .inl (cR, 2, .inr (.inr (.inr (.inr (fun _ => none))))))] := hD
  refine lv_iconst (v := 0) hx hb dX0_init_36 (by decide) ?_
  refine lv_istore_n (lv' := [(3, .int 0), (0, .ref a0), (1, .int kd), (2, .int 2)]) hx hb dX0_init_37 rfl hl (by decide) rfl (fun ls hl => ?_)
  refine lv_iload_n hx hb dX0_init_38 rfl (lv_at hl 0 rfl) ?_
  refine lv_iload_n hx hb dX0_init_39 rfl (lv_at hl 3 rfl) ?_
  refine lv_icmp_ge (tgt := 81) hx hb dX0_init_40 (by decide) (fun c9 => ?_) (fun c9 => ?_)
  · exact absurd c9 (by decide)
  refine lv_aload_n hx hb dX0_init_43 rfl (lv_at hl 1 rfl) ?_
  refine va_get (D := (dC, dI)) (ci := 5) (v := .ref q3) (C := RX0) (T := TX0) (N := 6) hx hb hts hi_X0_init_X0 hown hK hP 0 rfl rfl 2 (by decide) (hts (.fieldLink RX0 18 "Deeprows$Row" "whats" "[I") (List.mem_cons_of_mem _ zw_111)) (fun _ h9 => h9) rfl dX0_init_44 ?_
  refine lv_iload_n hx hb dX0_init_47 rfl (lv_at hl 0 rfl) ?_
  refine lv_iload_n hx hb dX0_init_48 rfl (lv_at hl 2 rfl) ?_
  refine lv_iconst (v := 4) hx hb dX0_init_49 (by decide) ?_
  refine lv_icmp_ne (tgt := 57) hx hb dX0_init_50 (by decide) (fun c9 => ?_) (fun c9 => ?_)
  rotate_left
  · exact absurd c9 (hkd)
  refine lv_iconst (v := 1) hx hb dX0_init_57 (by decide) ?_
  refine va_iast (D := (dC, dI)) (cl := vwCl) hx hb hK hP hD (zS0 hS) 1 0 rfl rfl (by unfold vp_in; decide) dX0_init_58 (fun H12 locs hP hD hS1 => ?_)
  have hz : s.heap.size + 3 ≤ H12.size := Nat.le_trans hz hS1.1
  have hS := zSS hS hS1
  replace hP : va_P (dC, dI) vwCl [(a0, .inr (5, [.int kd, .int 2, .ref q3, .ref q6, .ref q9, .int 0])), (q3, .inl (cI, 2, .inl (upd (fun _ => 0) 0 1))), (q6, .inl (cI, 2, .inl (fun _ => 0))), (q9, .inl (cR, 2, .inr (.inr (.inr (.inr (fun _ => none))))))] H12 := hP
  replace hD : va_D A [(a0, .inr (5, [.int kd, .int 2, .ref q3, .ref q6, .ref q9, .int 0])), (q3, .inl (cI, 2, .inl (upd (fun _ => 0) 0 1))), (q6, .inl (cI, 2, .inl (fun _ => 0))), (q9, .inl (cR, 2, .inr (.inr (.inr (.inr (fun _ => none))))))] := hD
  refine lv_aload_n hx hb dX0_init_59 rfl (lv_at hl 1 rfl) ?_
  refine va_get (D := (dC, dI)) (ci := 5) (v := .ref q6) (C := RX0) (T := TX0) (N := 6) hx hb hts hi_X0_init_X0 hown hK hP 0 rfl rfl 3 (by decide) (hts (.fieldLink RX0 22 "Deeprows$Row" "values" "[I") (List.mem_cons_of_mem _ zw_113)) (fun _ h9 => h9) rfl dX0_init_60 ?_
  refine lv_iload_n hx hb dX0_init_63 rfl (lv_at hl 0 rfl) ?_
  refine lv_iload_n hx hb dX0_init_64 rfl (lv_at hl 2 rfl) ?_
  refine lv_iconst (v := 4) hx hb dX0_init_65 (by decide) ?_
  refine lv_icmp_ne (tgt := 73) hx hb dX0_init_66 (by decide) (fun c9 => ?_) (fun c9 => ?_)
  rotate_left
  · exact absurd c9 (hkd)
  refine lv_iconst (v := 0) hx hb dX0_init_73 (by decide) ?_
  refine va_iast (D := (dC, dI)) (cl := vwCl) hx hb hK hP hD (zS0 hS) 2 0 rfl rfl (by unfold vp_in; decide) dX0_init_74 (fun H13 locs hP hD hS1 => ?_)
  have hz : s.heap.size + 3 ≤ H13.size := Nat.le_trans hz hS1.1
  have hS := zSS hS hS1
  replace hP : va_P (dC, dI) vwCl [(a0, .inr (5, [.int kd, .int 2, .ref q3, .ref q6, .ref q9, .int 0])), (q3, .inl (cI, 2, .inl (upd (fun _ => 0) 0 1))), (q6, .inl (cI, 2, .inl (upd (fun _ => 0) 0 0))), (q9, .inl (cR, 2, .inr (.inr (.inr (.inr (fun _ => none))))))] H13 := hP
  replace hD : va_D A [(a0, .inr (5, [.int kd, .int 2, .ref q3, .ref q6, .ref q9, .int 0])), (q3, .inl (cI, 2, .inl (upd (fun _ => 0) 0 1))), (q6, .inl (cI, 2, .inl (upd (fun _ => 0) 0 0))), (q9, .inl (cR, 2, .inr (.inr (.inr (.inr (fun _ => none))))))] := hD
  refine lv_iinc (v := 1) (lv' := [(3, .int 1), (0, .ref a0), (1, .int kd), (2, .int 2)]) hx hb dX0_init_75 hl (k := 0) rfl (by decide) (by decide) rfl (fun ls hl => ?_)
  refine lv_goto (tgt := 38) hx hb dX0_init_78 (by decide) ?_
  refine lv_iload_n hx hb dX0_init_38 rfl (lv_at hl 0 rfl) ?_
  refine lv_iload_n hx hb dX0_init_39 rfl (lv_at hl 3 rfl) ?_
  refine lv_icmp_ge (tgt := 81) hx hb dX0_init_40 (by decide) (fun c9 => ?_) (fun c9 => ?_)
  · exact absurd c9 (by decide)
  refine lv_aload_n hx hb dX0_init_43 rfl (lv_at hl 1 rfl) ?_
  refine va_get (D := (dC, dI)) (ci := 5) (v := .ref q3) (C := RX0) (T := TX0) (N := 6) hx hb hts hi_X0_init_X0 hown hK hP 0 rfl rfl 2 (by decide) (hts (.fieldLink RX0 18 "Deeprows$Row" "whats" "[I") (List.mem_cons_of_mem _ zw_111)) (fun _ h9 => h9) rfl dX0_init_44 ?_
  refine lv_iload_n hx hb dX0_init_47 rfl (lv_at hl 0 rfl) ?_
  refine lv_iload_n hx hb dX0_init_48 rfl (lv_at hl 2 rfl) ?_
  refine lv_iconst (v := 4) hx hb dX0_init_49 (by decide) ?_
  refine lv_icmp_ne (tgt := 57) hx hb dX0_init_50 (by decide) (fun c9 => ?_) (fun c9 => ?_)
  rotate_left
  · exact absurd c9 (hkd)
  refine lv_iconst (v := 1) hx hb dX0_init_57 (by decide) ?_
  refine va_iast (D := (dC, dI)) (cl := vwCl) hx hb hK hP hD (zS0 hS) 1 0 rfl rfl (by unfold vp_in; decide) dX0_init_58 (fun H14 locs hP hD hS1 => ?_)
  have hz : s.heap.size + 3 ≤ H14.size := Nat.le_trans hz hS1.1
  have hS := zSS hS hS1
  replace hP : va_P (dC, dI) vwCl [(a0, .inr (5, [.int kd, .int 2, .ref q3, .ref q6, .ref q9, .int 0])), (q3, .inl (cI, 2, .inl (upd (upd (fun _ => 0) 0 1) 1 1))), (q6, .inl (cI, 2, .inl (upd (fun _ => 0) 0 0))), (q9, .inl (cR, 2, .inr (.inr (.inr (.inr (fun _ => none))))))] H14 := hP
  replace hD : va_D A [(a0, .inr (5, [.int kd, .int 2, .ref q3, .ref q6, .ref q9, .int 0])), (q3, .inl (cI, 2, .inl (upd (upd (fun _ => 0) 0 1) 1 1))), (q6, .inl (cI, 2, .inl (upd (fun _ => 0) 0 0))), (q9, .inl (cR, 2, .inr (.inr (.inr (.inr (fun _ => none))))))] := hD
  refine lv_aload_n hx hb dX0_init_59 rfl (lv_at hl 1 rfl) ?_
  refine va_get (D := (dC, dI)) (ci := 5) (v := .ref q6) (C := RX0) (T := TX0) (N := 6) hx hb hts hi_X0_init_X0 hown hK hP 0 rfl rfl 3 (by decide) (hts (.fieldLink RX0 22 "Deeprows$Row" "values" "[I") (List.mem_cons_of_mem _ zw_113)) (fun _ h9 => h9) rfl dX0_init_60 ?_
  refine lv_iload_n hx hb dX0_init_63 rfl (lv_at hl 0 rfl) ?_
  refine lv_iload_n hx hb dX0_init_64 rfl (lv_at hl 2 rfl) ?_
  refine lv_iconst (v := 4) hx hb dX0_init_65 (by decide) ?_
  refine lv_icmp_ne (tgt := 73) hx hb dX0_init_66 (by decide) (fun c9 => ?_) (fun c9 => ?_)
  rotate_left
  · exact absurd c9 (hkd)
  refine lv_iconst (v := 0) hx hb dX0_init_73 (by decide) ?_
  refine va_iast (D := (dC, dI)) (cl := vwCl) hx hb hK hP hD (zS0 hS) 2 0 rfl rfl (by unfold vp_in; decide) dX0_init_74 (fun H15 locs hP hD hS1 => ?_)
  have hz : s.heap.size + 3 ≤ H15.size := Nat.le_trans hz hS1.1
  have hS := zSS hS hS1
  replace hP : va_P (dC, dI) vwCl [(a0, .inr (5, [.int kd, .int 2, .ref q3, .ref q6, .ref q9, .int 0])), (q3, .inl (cI, 2, .inl (upd (upd (fun _ => 0) 0 1) 1 1))), (q6, .inl (cI, 2, .inl (upd (upd (fun _ => 0) 0 0) 1 0))), (q9, .inl (cR, 2, .inr (.inr (.inr (.inr (fun _ => none))))))] H15 := hP
  replace hD : va_D A [(a0, .inr (5, [.int kd, .int 2, .ref q3, .ref q6, .ref q9, .int 0])), (q3, .inl (cI, 2, .inl (upd (upd (fun _ => 0) 0 1) 1 1))), (q6, .inl (cI, 2, .inl (upd (upd (fun _ => 0) 0 0) 1 0))), (q9, .inl (cR, 2, .inr (.inr (.inr (.inr (fun _ => none))))))] := hD
  refine lv_iinc (v := 2) (lv' := [(3, .int 2), (0, .ref a0), (1, .int kd), (2, .int 2)]) hx hb dX0_init_75 hl (k := 0) rfl (by decide) (by decide) rfl (fun ls hl => ?_)
  refine lv_goto (tgt := 38) hx hb dX0_init_78 (by decide) ?_
  refine lv_iload_n hx hb dX0_init_38 rfl (lv_at hl 0 rfl) ?_
  refine lv_iload_n hx hb dX0_init_39 rfl (lv_at hl 3 rfl) ?_
  refine lv_icmp_ge (tgt := 81) hx hb dX0_init_40 (by decide) (fun c9 => ?_) (fun c9 => ?_)
  rotate_left
  · exact absurd (by decide) c9
  have hP9 := hP.sub (ws' := [(a0, .inr (5, [.int kd, .int 2, .ref q3, .ref q6, .ref q9, .int 0]))]) [0] rfl
  have hD9 := hD.sub (ws' := [(a0, .inr (5, [.int kd, .int 2, .ref q3, .ref q6, .ref q9, .int 0]))]) [0] (by decide) rfl
  exact W.vret hx hb hr (fun t ht hW => ⟨⟨(), rfl, trivial, ⟨_, _, _, ⟨by rw [ht]; exact hP9, va_K.moved hW.alike hK, hD9, by rw [ht]; exact hz⟩⟩⟩, hS.F ht⟩) hS.2.2 dX0_init_81

set_option maxHeartbeats 4000000 in
set_option maxRecDepth 100000 in
theorem k_rqL3 (l : Launch) (dC : Nat → ClassId) (dI : Nat → Nat → Nat) (cI cB cR cO : ClassId) (zk : Nat → Nat)  (sz : Nat)  : Met l yX1_requireLength wsX1_requireLength ({ frames := 0, cells := 0, slots := 0, locals := 0 }) (va_Pc [.int 3] (zPre (dC, dI) (zT cI cB cR cO) zk [] [] sz)) (va_Qv (fun _ : Unit => True) (fun _ t => zEnd (dC, dI) (zT cI cB cR cO) (va_A [] sz) [] sz 0 t) (va_A [] sz)) 0 0 (va_A [] sz) := by
  refine Met.ofW (cc := cX1_requireLength) (maxL := 1) (ret := none) (by decide) rfl ?_
  intro p e s mY args below meth c s₁ B hml hv
  obtain ⟨rfl, hsz, hP, hK, hD0, hZ⟩ := hv
  have hx := B.exec
  have hb := B.bytes
  have hr := B.returns
  have hts := atoms_spec (ws := wsX1_requireLength) B.pre
  have hown : s.vm.findClass RX1 = some mY.cls := findClass_of_methodNamed B.named
  have hlocks := B.notSynchronized
  subst hsz
  have hD := hD0.self (sz := s.heap.size)
  generalize hAe : va_A [] s.heap.size = A at hD hZ ⊢
  have hA : ∀ q : Nat, s.heap.size ≤ q → A q := fun q h => by rw [← hAe]; exact Or.inr h
  have hS : va_S A s.heap s.heap [] := va_S.rf
  have hz : s.heap.size + 0 ≤ s.heap.size := Nat.le_refl _
  have hl := lv_entry ([.int 3]) (n := 1) (Nat.le_of_ble_eq_true rfl)
  rw [lg_entry_eq]
  generalize (lg_sl ([.int 3]) ++ List.replicate (1 - (lg_sl ([.int 3])).length) Slot.unset).toArray = ls at hl ⊢
  have hl : lv_has ls 1 [(0, .int 3)] := hl
  have hP : va_P (dC, dI) vwCl [] s.heap := hP
  have hD : va_D A [] := hD
  refine lv_iload_n hx hb dX1_requireLength_0 rfl (lv_at hl 0 rfl) ?_
  refine lv_if_lt (tgt := 9) hx hb dX1_requireLength_1 (by decide) (fun c9 => ?_) (fun c9 => ?_)
  · exact absurd c9 (by decide)
  refine lv_iload_n hx hb dX1_requireLength_4 rfl (lv_at hl 0 rfl) ?_
  refine lv_iconst (v := 4) hx hb dX1_requireLength_5 (by decide) ?_
  refine lv_icmp_le (tgt := 20) hx hb dX1_requireLength_6 (by decide) (fun c9 => ?_) (fun c9 => ?_)
  rotate_left
  · exact absurd (by decide) c9
  have hP9 := hP.sub (ws' := []) [] rfl
  have hD9 := hD.sub (ws' := []) [] (by decide) rfl
  exact W.vret hx hb hr (fun t ht hW => ⟨⟨(), rfl, trivial, ⟨by rw [ht]; exact hP9, va_K.moved hW.alike hK, hD9, by rw [ht]; exact hz⟩⟩, hS.F ht⟩) hS.2.2 dX1_requireLength_20

set_option maxHeartbeats 4000000 in
set_option maxRecDepth 100000 in
theorem k_isIn4_3 (l : Launch) (dC : Nat → ClassId) (dI : Nat → Nat → Nat) (cI cB cR cO : ClassId) (zk : Nat → Nat)  (sz : Nat)  : Met l yX4_isIn wsX4_isIn ({ frames := 0, cells := 0, slots := 0, locals := 0 }) (va_Pc [.int 3, .int 0, .int 4] (zPre (dC, dI) (zT cI cB cR cO) zk [] [] sz)) (va_Qi (fun r (_ : Unit) => r = 1) (fun _ t => zEnd (dC, dI) (zT cI cB cR cO) (va_A [] sz) [] sz 0 t) (va_A [] sz)) 0 0 (va_A [] sz) := by
  refine Met.ofW (cc := cX4_isIn) (maxL := 3) (ret := (some .boolean)) (by decide) rfl ?_
  intro p e s mY args below meth c s₁ B hml hv
  obtain ⟨rfl, hsz, hP, hK, hD0, hZ⟩ := hv
  have hx := B.exec
  have hb := B.bytes
  have hr := B.returns
  have hts := atoms_spec (ws := wsX4_isIn) B.pre
  have hown : s.vm.findClass RX4 = some mY.cls := findClass_of_methodNamed B.named
  have hlocks := B.notSynchronized
  subst hsz
  have hD := hD0.self (sz := s.heap.size)
  generalize hAe : va_A [] s.heap.size = A at hD hZ ⊢
  have hA : ∀ q : Nat, s.heap.size ≤ q → A q := fun q h => by rw [← hAe]; exact Or.inr h
  have hS : va_S A s.heap s.heap [] := va_S.rf
  have hz : s.heap.size + 0 ≤ s.heap.size := Nat.le_refl _
  have hl := lv_entry ([.int 3, .int 0, .int 4]) (n := 3) (Nat.le_of_ble_eq_true rfl)
  rw [lg_entry_eq]
  generalize (lg_sl ([.int 3, .int 0, .int 4]) ++ List.replicate (3 - (lg_sl ([.int 3, .int 0, .int 4])).length) Slot.unset).toArray = ls at hl ⊢
  have hl : lv_has ls 3 [(0, .int 3), (1, .int 0), (2, .int 4)] := hl
  have hP : va_P (dC, dI) vwCl [] s.heap := hP
  have hD : va_D A [] := hD
  refine lv_iload_n hx hb dX4_isIn_0 rfl (lv_at hl 0 rfl) ?_
  refine lv_iload_n hx hb dX4_isIn_1 rfl (lv_at hl 1 rfl) ?_
  refine lv_icmp_lt (tgt := 14) hx hb dX4_isIn_2 (by decide) (fun c9 => ?_) (fun c9 => ?_)
  · exact absurd c9 (by decide)
  refine lv_iload_n hx hb dX4_isIn_5 rfl (lv_at hl 0 rfl) ?_
  refine lv_iload_n hx hb dX4_isIn_6 rfl (lv_at hl 2 rfl) ?_
  refine lv_icmp_gt (tgt := 14) hx hb dX4_isIn_7 (by decide) (fun c9 => ?_) (fun c9 => ?_)
  · exact absurd c9 (by decide)
  refine lv_iconst (v := 1) hx hb dX4_isIn_10 (by decide) ?_
  refine lv_goto (tgt := 15) hx hb dX4_isIn_11 (by decide) ?_
  have hP9 := hP.sub (ws' := []) [] rfl
  have hD9 := hD.sub (ws' := []) [] (by decide) rfl
  exact W.zret (v := 1) hx hb hr (by decide +kernel) (fun t ht hW => ⟨⟨_, (), rfl, rfl, ⟨by rw [ht]; exact hP9, va_K.moved hW.alike hK, hD9, by rw [ht]; exact hz⟩⟩, hS.F ht⟩) hS.2.2 dX4_isIn_15

set_option maxHeartbeats 4000000 in
set_option maxRecDepth 100000 in
theorem k_rI34 (l : Launch) (dC : Nat → ClassId) (dI : Nat → Nat → Nat) (cI cB cR cO : ClassId) (zk : Nat → Nat) (a0 : Nat) (sz : Nat)  : Met l yX0_init wsX0_init ({ frames := 1, cells := 3, slots := 9, locals := 60 }) (va_Pc [.ref a0, .int 4, .int 3] (zPre (dC, dI) (zT cI cB cR cO) zk [] [(a0, .inr (5, [.int 0, .int 0, .null, .null, .null, .int 0]))] sz)) (va_Qv (fun _ : Unit => True) (fun _ t => ∃ w1, ∃ v1, ∃ h1, zEnd (dC, dI) (zT cI cB cR cO) (va_A [(a0, .inr (5, [.int 0, .int 0, .null, .null, .null, .int 0]))] sz) [(a0, .inr (5, [.int 4, .int 3, .ref w1, .ref v1, .ref h1, .int 0]))] sz 3 t) (va_A [(a0, .inr (5, [.int 0, .int 0, .null, .null, .null, .int 0]))] sz)) 3 9 (va_A [(a0, .inr (5, [.int 0, .int 0, .null, .null, .null, .int 0]))] sz) := by
  refine Met.ofW (cc := cX0_init) (maxL := 4) (ret := none) (by decide) rfl ?_
  intro p e s mY args below meth c s₁ B hml hv
  obtain ⟨rfl, hsz, hP, hK, hD0, hZ⟩ := hv
  have hx := B.exec
  have hb := B.bytes
  have hr := B.returns
  have hts := atoms_spec (ws := wsX0_init) B.pre
  have hown : s.vm.findClass RX0 = some mY.cls := findClass_of_methodNamed B.named
  have hlocks := B.notSynchronized
  have hin : meth.name = "<init>" := (name_of_methodNamed B.named B.method).1
  subst hsz
  have hD := hD0.self (sz := s.heap.size)
  generalize hAe : va_A [(a0, .inr (5, [.int 0, .int 0, .null, .null, .null, .int 0]))] s.heap.size = A at hD hZ ⊢
  have hA : ∀ q : Nat, s.heap.size ≤ q → A q := fun q h => by rw [← hAe]; exact Or.inr h
  have hS : va_S A s.heap s.heap [] := va_S.rf
  have hz : s.heap.size + 0 ≤ s.heap.size := Nat.le_refl _
  have hl := lv_entry ([.ref a0, .int 4, .int 3]) (n := 4) (Nat.le_of_ble_eq_true rfl)
  rw [lg_entry_eq]
  generalize (lg_sl ([.ref a0, .int 4, .int 3]) ++ List.replicate (4 - (lg_sl ([.ref a0, .int 4, .int 3])).length) Slot.unset).toArray = ls at hl ⊢
  have hl : lv_has ls 4 [(0, .ref a0), (1, .int 4), (2, .int 3)] := hl
  have hP : va_P (dC, dI) vwCl [(a0, .inr (5, [.int 0, .int 0, .null, .null, .null, .int 0]))] s.heap := hP
  have hD : va_D A [(a0, .inr (5, [.int 0, .int 0, .null, .null, .null, .int 0]))] := hD
  refine lv_aload_n hx hb dX0_init_0 rfl (lv_at hl 0 rfl) ?_
  refine W.objInit hx hb hown (hts (.methodLink RX0 3 objectInit) (List.mem_cons_of_mem _ zw_104)) (hts (.instanceMethod objectInit) (List.mem_cons_of_mem _ zw_71)) (hts (.code objectInit ⟨#[0xb1]⟩ 1 none) (List.mem_cons_of_mem _ zw_72)) rfl (by rw [hml]; exact hl.1) rfl dX0_init_1 (Nat.le_of_ble_eq_true rfl) (Nat.le_of_ble_eq_true rfl) ?_
  refine W.eq (g2 := F0 mY 4 ls []) rfl ?_
  refine lv_aload_n hx hb dX0_init_4 rfl (lv_at hl 0 rfl) ?_
  refine lv_iload_n hx hb dX0_init_5 rfl (lv_at hl 1 rfl) ?_
  refine va_putF (D := (dC, dI)) (ci := 5) (v := .int 4) (ty := .int) (C := RX0) (T := TX0) (N := 6) hx hb hts hi_X0_init_X0 tyX0 tyX0_ok nmX0 hown hK hP hD (zS0 hS) 0 rfl rfl 0 (by decide) (hts (.fieldLink RX0 9 "Deeprows$Row" "kind" "I") (List.mem_cons_of_mem _ zw_107)) (fun _ h9 => h9) rfl hin rfl (by decide +kernel) rfl rfl (Nat.le_of_ble_eq_true rfl) dX0_init_6 (fun H1 locs hP hD hS1 => ?_)
  have hz : s.heap.size + 0 ≤ H1.size := Nat.le_trans hz hS1.1
  have hS := zSS hS hS1
  replace hP : va_P (dC, dI) vwCl [(a0, .inr (5, [.int 4, .int 0, .null, .null, .null, .int 0]))] H1 := hP
  replace hD : va_D A [(a0, .inr (5, [.int 4, .int 0, .null, .null, .null, .int 0]))] := hD
  refine lv_aload_n hx hb dX0_init_9 rfl (lv_at hl 0 rfl) ?_
  refine lv_iload_n hx hb dX0_init_10 rfl (lv_at hl 2 rfl) ?_
  refine va_putF (D := (dC, dI)) (ci := 5) (v := .int 3) (ty := .int) (C := RX0) (T := TX0) (N := 6) hx hb hts hi_X0_init_X0 tyX0 tyX0_ok nmX0 hown hK hP hD (zS0 hS) 0 rfl rfl 1 (by decide) (hts (.fieldLink RX0 15 "Deeprows$Row" "length" "I") (List.mem_cons_of_mem _ zw_109)) (fun _ h9 => h9) rfl hin rfl (by decide +kernel) rfl rfl (Nat.le_of_ble_eq_true rfl) dX0_init_11 (fun H2 locs hP hD hS1 => ?_)
  have hz : s.heap.size + 0 ≤ H2.size := Nat.le_trans hz hS1.1
  have hS := zSS hS hS1
  replace hP : va_P (dC, dI) vwCl [(a0, .inr (5, [.int 4, .int 3, .null, .null, .null, .int 0]))] H2 := hP
  replace hD : va_D A [(a0, .inr (5, [.int 4, .int 3, .null, .null, .null, .int 0]))] := hD
  refine lv_aload_n hx hb dX0_init_14 rfl (lv_at hl 0 rfl) ?_
  refine lv_iload_n hx hb dX0_init_15 rfl (lv_at hl 2 rfl) ?_
  refine zw_newa (atype := .int) (ty := .int) (N' := 3) hx hb (hts (.arrayClass .int) (List.mem_cons_of_mem _ zw_131)) rfl (by first | exact Or.inl rfl | exact Or.inr rfl) hK hP hD hS hA 0 rfl (by decide) (by decide) (Nat.le_of_ble_eq_true rfl) (Nat.le_of_ble_eq_true rfl) (Nat.le_of_ble_eq_true rfl) dX0_init_16 hz (fun q3 H4 hP hD hS hz => ?_)
  replace hP : va_P (dC, dI) vwCl [(a0, .inr (5, [.int 4, .int 3, .null, .null, .null, .int 0])), (q3, .inl (cI, 3, .inl (fun _ => 0)))] H4 := hP
  replace hD : va_D A [(a0, .inr (5, [.int 4, .int 3, .null, .null, .null, .int 0])), (q3, .inl (cI, 3, .inl (fun _ => 0)))] := hD
  refine W.widen (k := 1) (n := 3) (by omega) (by omega) ?_
  refine va_putF (D := (dC, dI)) (ci := 5) (v := .ref q3) (ty := .array .int) (C := RX0) (T := TX0) (N := 6) hx hb hts hi_X0_init_X0 tyX0 tyX0_ok nmX0 hown hK hP hD (zS0 hS) 0 rfl rfl 2 (by decide) (hts (.fieldLink RX0 18 "Deeprows$Row" "whats" "[I") (List.mem_cons_of_mem _ zw_111)) (fun _ h9 => h9) rfl hin rfl (by decide +kernel) rfl rfl (Nat.le_of_ble_eq_true rfl) dX0_init_18 (fun H5 locs hP hD hS1 => ?_)
  have hz : s.heap.size + 1 ≤ H5.size := Nat.le_trans hz hS1.1
  have hS := zSS hS hS1
  replace hP : va_P (dC, dI) vwCl [(a0, .inr (5, [.int 4, .int 3, .ref q3, .null, .null, .int 0])), (q3, .inl (cI, 3, .inl (fun _ => 0)))] H5 := hP
  replace hD : va_D A [(a0, .inr (5, [.int 4, .int 3, .ref q3, .null, .null, .int 0])), (q3, .inl (cI, 3, .inl (fun _ => 0)))] := hD
  refine lv_aload_n hx hb dX0_init_21 rfl (lv_at hl 0 rfl) ?_
  refine lv_iload_n hx hb dX0_init_22 rfl (lv_at hl 2 rfl) ?_
  refine zw_newa (atype := .int) (ty := .int) (N' := 3) hx hb (hts (.arrayClass .int) (List.mem_cons_of_mem _ zw_131)) rfl (by first | exact Or.inl rfl | exact Or.inr rfl) hK hP hD hS hA 0 rfl (by decide) (by decide) (Nat.le_of_ble_eq_true rfl) (Nat.le_of_ble_eq_true rfl) (Nat.le_of_ble_eq_true rfl) dX0_init_23 hz (fun q6 H7 hP hD hS hz => ?_)
  replace hP : va_P (dC, dI) vwCl [(a0, .inr (5, [.int 4, .int 3, .ref q3, .null, .null, .int 0])), (q3, .inl (cI, 3, .inl (fun _ => 0))), (q6, .inl (cI, 3, .inl (fun _ => 0)))] H7 := hP
  replace hD : va_D A [(a0, .inr (5, [.int 4, .int 3, .ref q3, .null, .null, .int 0])), (q3, .inl (cI, 3, .inl (fun _ => 0))), (q6, .inl (cI, 3, .inl (fun _ => 0)))] := hD
  refine W.widen (k := 2) (n := 6) (by omega) (by omega) ?_
  refine va_putF (D := (dC, dI)) (ci := 5) (v := .ref q6) (ty := .array .int) (C := RX0) (T := TX0) (N := 6) hx hb hts hi_X0_init_X0 tyX0 tyX0_ok nmX0 hown hK hP hD (zS0 hS) 0 rfl rfl 3 (by decide) (hts (.fieldLink RX0 22 "Deeprows$Row" "values" "[I") (List.mem_cons_of_mem _ zw_113)) (fun _ h9 => h9) rfl hin rfl (by decide +kernel) rfl rfl (Nat.le_of_ble_eq_true rfl) dX0_init_25 (fun H8 locs hP hD hS1 => ?_)
  have hz : s.heap.size + 2 ≤ H8.size := Nat.le_trans hz hS1.1
  have hS := zSS hS hS1
  replace hP : va_P (dC, dI) vwCl [(a0, .inr (5, [.int 4, .int 3, .ref q3, .ref q6, .null, .int 0])), (q3, .inl (cI, 3, .inl (fun _ => 0))), (q6, .inl (cI, 3, .inl (fun _ => 0)))] H8 := hP
  replace hD : va_D A [(a0, .inr (5, [.int 4, .int 3, .ref q3, .ref q6, .null, .int 0])), (q3, .inl (cI, 3, .inl (fun _ => 0))), (q6, .inl (cI, 3, .inl (fun _ => 0)))] := hD
  refine lv_aload_n hx hb dX0_init_28 rfl (lv_at hl 0 rfl) ?_
  refine lv_iload_n hx hb dX0_init_29 rfl (lv_at hl 2 rfl) ?_
  refine zw_newq (C := "Deeprows$Row") (N' := 3) hx hb hown (hts (.classLink RX0 10 RX0) (List.mem_cons_of_mem _ zw_105)) (za0 hZ) hK hP hD hS hA 2 rfl (by decide) (by decide) (by decide) (Nat.le_of_ble_eq_true rfl) (Nat.le_of_ble_eq_true rfl) dX0_init_30 hz (fun q9 H10 hP hD hS hz => ?_)
  replace hP : va_P (dC, dI) vwCl [(a0, .inr (5, [.int 4, .int 3, .ref q3, .ref q6, .null, .int 0])), (q3, .inl (cI, 3, .inl (fun _ => 0))), (q6, .inl (cI, 3, .inl (fun _ => 0))), (q9, .inl (cR, 3, .inr (.inr (.inr (.inr (fun _ => none))))))] H10 := hP
  replace hD : va_D A [(a0, .inr (5, [.int 4, .int 3, .ref q3, .ref q6, .null, .int 0])), (q3, .inl (cI, 3, .inl (fun _ => 0))), (q6, .inl (cI, 3, .inl (fun _ => 0))), (q9, .inl (cR, 3, .inr (.inr (.inr (.inr (fun _ => none))))))] := hD
  refine W.widen (k := 3) (n := 9) (by omega) (by omega) ?_
  refine va_putF (D := (dC, dI)) (ci := 5) (v := .ref q9) (ty := .array (.object "Deeprows$Row")) (C := RX0) (T := TX0) (N := 6) hx hb hts hi_X0_init_X0 tyX0 tyX0_ok nmX0 hown hK hP hD (zS0 hS) 0 rfl rfl 4 (by decide) (hts (.fieldLink RX0 25 "Deeprows$Row" "hung" "[LDeeprows$Row;") (List.mem_cons_of_mem _ zw_115)) (fun _ h9 => h9) rfl hin rfl (by decide +kernel) rfl rfl (Nat.le_of_ble_eq_true rfl) dX0_init_33 (fun H11 locs hP hD hS1 => ?_)
  have hz : s.heap.size + 3 ≤ H11.size := Nat.le_trans hz hS1.1
  have hS := zSS hS hS1
  replace hP : va_P (dC, dI) vwCl [(a0, .inr (5, [.int 4, .int 3, .ref q3, .ref q6, .ref q9, .int 0])), (q3, .inl (cI, 3, .inl (fun _ => 0))), (q6, .inl (cI, 3, .inl (fun _ => 0))), (q9, .inl (cR, 3, .inr (.inr (.inr (.inr (fun _ => none))))))] H11 := hP
  replace hD : va_D A [(a0, .inr (5, [.int 4, .int 3, .ref q3, .ref q6, .ref q9, .int 0])), (q3, .inl (cI, 3, .inl (fun _ => 0))), (q6, .inl (cI, 3, .inl (fun _ => 0))), (q9, .inl (cR, 3, .inr (.inr (.inr (.inr (fun _ => none))))))] := hD
  refine lv_iconst (v := 0) hx hb dX0_init_36 (by decide) ?_
  refine lv_istore_n (lv' := [(3, .int 0), (0, .ref a0), (1, .int 4), (2, .int 3)]) hx hb dX0_init_37 rfl hl (by decide) rfl (fun ls hl => ?_)
  refine lv_iload_n hx hb dX0_init_38 rfl (lv_at hl 0 rfl) ?_
  refine lv_iload_n hx hb dX0_init_39 rfl (lv_at hl 3 rfl) ?_
  refine lv_icmp_ge (tgt := 81) hx hb dX0_init_40 (by decide) (fun c9 => ?_) (fun c9 => ?_)
  · exact absurd c9 (by decide)
  refine lv_aload_n hx hb dX0_init_43 rfl (lv_at hl 1 rfl) ?_
  refine va_get (D := (dC, dI)) (ci := 5) (v := .ref q3) (C := RX0) (T := TX0) (N := 6) hx hb hts hi_X0_init_X0 hown hK hP 0 rfl rfl 2 (by decide) (hts (.fieldLink RX0 18 "Deeprows$Row" "whats" "[I") (List.mem_cons_of_mem _ zw_111)) (fun _ h9 => h9) rfl dX0_init_44 ?_
  refine lv_iload_n hx hb dX0_init_47 rfl (lv_at hl 0 rfl) ?_
  refine lv_iload_n hx hb dX0_init_48 rfl (lv_at hl 2 rfl) ?_
  refine lv_iconst (v := 4) hx hb dX0_init_49 (by decide) ?_
  refine lv_icmp_ne (tgt := 57) hx hb dX0_init_50 (by decide) (fun c9 => ?_) (fun c9 => ?_)
  · exact absurd (by decide) c9
  refine lv_iconst (v := 0) hx hb dX0_init_53 (by decide) ?_
  refine lv_goto (tgt := 58) hx hb dX0_init_54 (by decide) ?_
  refine va_iast (D := (dC, dI)) (cl := vwCl) hx hb hK hP hD (zS0 hS) 1 0 rfl rfl (by unfold vp_in; decide) dX0_init_58 (fun H12 locs hP hD hS1 => ?_)
  have hz : s.heap.size + 3 ≤ H12.size := Nat.le_trans hz hS1.1
  have hS := zSS hS hS1
  replace hP : va_P (dC, dI) vwCl [(a0, .inr (5, [.int 4, .int 3, .ref q3, .ref q6, .ref q9, .int 0])), (q3, .inl (cI, 3, .inl (upd (fun _ => 0) 0 0))), (q6, .inl (cI, 3, .inl (fun _ => 0))), (q9, .inl (cR, 3, .inr (.inr (.inr (.inr (fun _ => none))))))] H12 := hP
  replace hD : va_D A [(a0, .inr (5, [.int 4, .int 3, .ref q3, .ref q6, .ref q9, .int 0])), (q3, .inl (cI, 3, .inl (upd (fun _ => 0) 0 0))), (q6, .inl (cI, 3, .inl (fun _ => 0))), (q9, .inl (cR, 3, .inr (.inr (.inr (.inr (fun _ => none))))))] := hD
  refine lv_aload_n hx hb dX0_init_59 rfl (lv_at hl 1 rfl) ?_
  refine va_get (D := (dC, dI)) (ci := 5) (v := .ref q6) (C := RX0) (T := TX0) (N := 6) hx hb hts hi_X0_init_X0 hown hK hP 0 rfl rfl 3 (by decide) (hts (.fieldLink RX0 22 "Deeprows$Row" "values" "[I") (List.mem_cons_of_mem _ zw_113)) (fun _ h9 => h9) rfl dX0_init_60 ?_
  refine lv_iload_n hx hb dX0_init_63 rfl (lv_at hl 0 rfl) ?_
  refine lv_iload_n hx hb dX0_init_64 rfl (lv_at hl 2 rfl) ?_
  refine lv_iconst (v := 4) hx hb dX0_init_65 (by decide) ?_
  refine lv_icmp_ne (tgt := 73) hx hb dX0_init_66 (by decide) (fun c9 => ?_) (fun c9 => ?_)
  · exact absurd (by decide) c9
  refine lv_iconst (v := (-1)) hx hb dX0_init_69 (by decide) ?_
  refine lv_goto (tgt := 74) hx hb dX0_init_70 (by decide) ?_
  refine va_iast (D := (dC, dI)) (cl := vwCl) hx hb hK hP hD (zS0 hS) 2 0 rfl rfl (by unfold vp_in; decide) dX0_init_74 (fun H13 locs hP hD hS1 => ?_)
  have hz : s.heap.size + 3 ≤ H13.size := Nat.le_trans hz hS1.1
  have hS := zSS hS hS1
  replace hP : va_P (dC, dI) vwCl [(a0, .inr (5, [.int 4, .int 3, .ref q3, .ref q6, .ref q9, .int 0])), (q3, .inl (cI, 3, .inl (upd (fun _ => 0) 0 0))), (q6, .inl (cI, 3, .inl (upd (fun _ => 0) 0 (-1)))), (q9, .inl (cR, 3, .inr (.inr (.inr (.inr (fun _ => none))))))] H13 := hP
  replace hD : va_D A [(a0, .inr (5, [.int 4, .int 3, .ref q3, .ref q6, .ref q9, .int 0])), (q3, .inl (cI, 3, .inl (upd (fun _ => 0) 0 0))), (q6, .inl (cI, 3, .inl (upd (fun _ => 0) 0 (-1)))), (q9, .inl (cR, 3, .inr (.inr (.inr (.inr (fun _ => none))))))] := hD
  refine lv_iinc (v := 1) (lv' := [(3, .int 1), (0, .ref a0), (1, .int 4), (2, .int 3)]) hx hb dX0_init_75 hl (k := 0) rfl (by decide) (by decide) rfl (fun ls hl => ?_)
  refine lv_goto (tgt := 38) hx hb dX0_init_78 (by decide) ?_
  refine lv_iload_n hx hb dX0_init_38 rfl (lv_at hl 0 rfl) ?_
  refine lv_iload_n hx hb dX0_init_39 rfl (lv_at hl 3 rfl) ?_
  refine lv_icmp_ge (tgt := 81) hx hb dX0_init_40 (by decide) (fun c9 => ?_) (fun c9 => ?_)
  · exact absurd c9 (by decide)
  refine lv_aload_n hx hb dX0_init_43 rfl (lv_at hl 1 rfl) ?_
  refine va_get (D := (dC, dI)) (ci := 5) (v := .ref q3) (C := RX0) (T := TX0) (N := 6) hx hb hts hi_X0_init_X0 hown hK hP 0 rfl rfl 2 (by decide) (hts (.fieldLink RX0 18 "Deeprows$Row" "whats" "[I") (List.mem_cons_of_mem _ zw_111)) (fun _ h9 => h9) rfl dX0_init_44 ?_
  refine lv_iload_n hx hb dX0_init_47 rfl (lv_at hl 0 rfl) ?_
  refine lv_iload_n hx hb dX0_init_48 rfl (lv_at hl 2 rfl) ?_
  refine lv_iconst (v := 4) hx hb dX0_init_49 (by decide) ?_
  refine lv_icmp_ne (tgt := 57) hx hb dX0_init_50 (by decide) (fun c9 => ?_) (fun c9 => ?_)
  · exact absurd (by decide) c9
  refine lv_iconst (v := 0) hx hb dX0_init_53 (by decide) ?_
  refine lv_goto (tgt := 58) hx hb dX0_init_54 (by decide) ?_
  refine va_iast (D := (dC, dI)) (cl := vwCl) hx hb hK hP hD (zS0 hS) 1 0 rfl rfl (by unfold vp_in; decide) dX0_init_58 (fun H14 locs hP hD hS1 => ?_)
  have hz : s.heap.size + 3 ≤ H14.size := Nat.le_trans hz hS1.1
  have hS := zSS hS hS1
  replace hP : va_P (dC, dI) vwCl [(a0, .inr (5, [.int 4, .int 3, .ref q3, .ref q6, .ref q9, .int 0])), (q3, .inl (cI, 3, .inl (upd (upd (fun _ => 0) 0 0) 1 0))), (q6, .inl (cI, 3, .inl (upd (fun _ => 0) 0 (-1)))), (q9, .inl (cR, 3, .inr (.inr (.inr (.inr (fun _ => none))))))] H14 := hP
  replace hD : va_D A [(a0, .inr (5, [.int 4, .int 3, .ref q3, .ref q6, .ref q9, .int 0])), (q3, .inl (cI, 3, .inl (upd (upd (fun _ => 0) 0 0) 1 0))), (q6, .inl (cI, 3, .inl (upd (fun _ => 0) 0 (-1)))), (q9, .inl (cR, 3, .inr (.inr (.inr (.inr (fun _ => none))))))] := hD
  refine lv_aload_n hx hb dX0_init_59 rfl (lv_at hl 1 rfl) ?_
  refine va_get (D := (dC, dI)) (ci := 5) (v := .ref q6) (C := RX0) (T := TX0) (N := 6) hx hb hts hi_X0_init_X0 hown hK hP 0 rfl rfl 3 (by decide) (hts (.fieldLink RX0 22 "Deeprows$Row" "values" "[I") (List.mem_cons_of_mem _ zw_113)) (fun _ h9 => h9) rfl dX0_init_60 ?_
  refine lv_iload_n hx hb dX0_init_63 rfl (lv_at hl 0 rfl) ?_
  refine lv_iload_n hx hb dX0_init_64 rfl (lv_at hl 2 rfl) ?_
  refine lv_iconst (v := 4) hx hb dX0_init_65 (by decide) ?_
  refine lv_icmp_ne (tgt := 73) hx hb dX0_init_66 (by decide) (fun c9 => ?_) (fun c9 => ?_)
  · exact absurd (by decide) c9
  refine lv_iconst (v := (-1)) hx hb dX0_init_69 (by decide) ?_
  refine lv_goto (tgt := 74) hx hb dX0_init_70 (by decide) ?_
  refine va_iast (D := (dC, dI)) (cl := vwCl) hx hb hK hP hD (zS0 hS) 2 0 rfl rfl (by unfold vp_in; decide) dX0_init_74 (fun H15 locs hP hD hS1 => ?_)
  have hz : s.heap.size + 3 ≤ H15.size := Nat.le_trans hz hS1.1
  have hS := zSS hS hS1
  replace hP : va_P (dC, dI) vwCl [(a0, .inr (5, [.int 4, .int 3, .ref q3, .ref q6, .ref q9, .int 0])), (q3, .inl (cI, 3, .inl (upd (upd (fun _ => 0) 0 0) 1 0))), (q6, .inl (cI, 3, .inl (upd (upd (fun _ => 0) 0 (-1)) 1 (-1)))), (q9, .inl (cR, 3, .inr (.inr (.inr (.inr (fun _ => none))))))] H15 := hP
  replace hD : va_D A [(a0, .inr (5, [.int 4, .int 3, .ref q3, .ref q6, .ref q9, .int 0])), (q3, .inl (cI, 3, .inl (upd (upd (fun _ => 0) 0 0) 1 0))), (q6, .inl (cI, 3, .inl (upd (upd (fun _ => 0) 0 (-1)) 1 (-1)))), (q9, .inl (cR, 3, .inr (.inr (.inr (.inr (fun _ => none))))))] := hD
  refine lv_iinc (v := 2) (lv' := [(3, .int 2), (0, .ref a0), (1, .int 4), (2, .int 3)]) hx hb dX0_init_75 hl (k := 0) rfl (by decide) (by decide) rfl (fun ls hl => ?_)
  refine lv_goto (tgt := 38) hx hb dX0_init_78 (by decide) ?_
  refine lv_iload_n hx hb dX0_init_38 rfl (lv_at hl 0 rfl) ?_
  refine lv_iload_n hx hb dX0_init_39 rfl (lv_at hl 3 rfl) ?_
  refine lv_icmp_ge (tgt := 81) hx hb dX0_init_40 (by decide) (fun c9 => ?_) (fun c9 => ?_)
  · exact absurd c9 (by decide)
  refine lv_aload_n hx hb dX0_init_43 rfl (lv_at hl 1 rfl) ?_
  refine va_get (D := (dC, dI)) (ci := 5) (v := .ref q3) (C := RX0) (T := TX0) (N := 6) hx hb hts hi_X0_init_X0 hown hK hP 0 rfl rfl 2 (by decide) (hts (.fieldLink RX0 18 "Deeprows$Row" "whats" "[I") (List.mem_cons_of_mem _ zw_111)) (fun _ h9 => h9) rfl dX0_init_44 ?_
  refine lv_iload_n hx hb dX0_init_47 rfl (lv_at hl 0 rfl) ?_
  refine lv_iload_n hx hb dX0_init_48 rfl (lv_at hl 2 rfl) ?_
  refine lv_iconst (v := 4) hx hb dX0_init_49 (by decide) ?_
  refine lv_icmp_ne (tgt := 57) hx hb dX0_init_50 (by decide) (fun c9 => ?_) (fun c9 => ?_)
  · exact absurd (by decide) c9
  refine lv_iconst (v := 0) hx hb dX0_init_53 (by decide) ?_
  refine lv_goto (tgt := 58) hx hb dX0_init_54 (by decide) ?_
  refine va_iast (D := (dC, dI)) (cl := vwCl) hx hb hK hP hD (zS0 hS) 1 0 rfl rfl (by unfold vp_in; decide) dX0_init_58 (fun H16 locs hP hD hS1 => ?_)
  have hz : s.heap.size + 3 ≤ H16.size := Nat.le_trans hz hS1.1
  have hS := zSS hS hS1
  replace hP : va_P (dC, dI) vwCl [(a0, .inr (5, [.int 4, .int 3, .ref q3, .ref q6, .ref q9, .int 0])), (q3, .inl (cI, 3, .inl (upd (upd (upd (fun _ => 0) 0 0) 1 0) 2 0))), (q6, .inl (cI, 3, .inl (upd (upd (fun _ => 0) 0 (-1)) 1 (-1)))), (q9, .inl (cR, 3, .inr (.inr (.inr (.inr (fun _ => none))))))] H16 := hP
  replace hD : va_D A [(a0, .inr (5, [.int 4, .int 3, .ref q3, .ref q6, .ref q9, .int 0])), (q3, .inl (cI, 3, .inl (upd (upd (upd (fun _ => 0) 0 0) 1 0) 2 0))), (q6, .inl (cI, 3, .inl (upd (upd (fun _ => 0) 0 (-1)) 1 (-1)))), (q9, .inl (cR, 3, .inr (.inr (.inr (.inr (fun _ => none))))))] := hD
  refine lv_aload_n hx hb dX0_init_59 rfl (lv_at hl 1 rfl) ?_
  refine va_get (D := (dC, dI)) (ci := 5) (v := .ref q6) (C := RX0) (T := TX0) (N := 6) hx hb hts hi_X0_init_X0 hown hK hP 0 rfl rfl 3 (by decide) (hts (.fieldLink RX0 22 "Deeprows$Row" "values" "[I") (List.mem_cons_of_mem _ zw_113)) (fun _ h9 => h9) rfl dX0_init_60 ?_
  refine lv_iload_n hx hb dX0_init_63 rfl (lv_at hl 0 rfl) ?_
  refine lv_iload_n hx hb dX0_init_64 rfl (lv_at hl 2 rfl) ?_
  refine lv_iconst (v := 4) hx hb dX0_init_65 (by decide) ?_
  refine lv_icmp_ne (tgt := 73) hx hb dX0_init_66 (by decide) (fun c9 => ?_) (fun c9 => ?_)
  · exact absurd (by decide) c9
  refine lv_iconst (v := (-1)) hx hb dX0_init_69 (by decide) ?_
  refine lv_goto (tgt := 74) hx hb dX0_init_70 (by decide) ?_
  refine va_iast (D := (dC, dI)) (cl := vwCl) hx hb hK hP hD (zS0 hS) 2 0 rfl rfl (by unfold vp_in; decide) dX0_init_74 (fun H17 locs hP hD hS1 => ?_)
  have hz : s.heap.size + 3 ≤ H17.size := Nat.le_trans hz hS1.1
  have hS := zSS hS hS1
  replace hP : va_P (dC, dI) vwCl [(a0, .inr (5, [.int 4, .int 3, .ref q3, .ref q6, .ref q9, .int 0])), (q3, .inl (cI, 3, .inl (upd (upd (upd (fun _ => 0) 0 0) 1 0) 2 0))), (q6, .inl (cI, 3, .inl (upd (upd (upd (fun _ => 0) 0 (-1)) 1 (-1)) 2 (-1)))), (q9, .inl (cR, 3, .inr (.inr (.inr (.inr (fun _ => none))))))] H17 := hP
  replace hD : va_D A [(a0, .inr (5, [.int 4, .int 3, .ref q3, .ref q6, .ref q9, .int 0])), (q3, .inl (cI, 3, .inl (upd (upd (upd (fun _ => 0) 0 0) 1 0) 2 0))), (q6, .inl (cI, 3, .inl (upd (upd (upd (fun _ => 0) 0 (-1)) 1 (-1)) 2 (-1)))), (q9, .inl (cR, 3, .inr (.inr (.inr (.inr (fun _ => none))))))] := hD
  refine lv_iinc (v := 3) (lv' := [(3, .int 3), (0, .ref a0), (1, .int 4), (2, .int 3)]) hx hb dX0_init_75 hl (k := 0) rfl (by decide) (by decide) rfl (fun ls hl => ?_)
  refine lv_goto (tgt := 38) hx hb dX0_init_78 (by decide) ?_
  refine lv_iload_n hx hb dX0_init_38 rfl (lv_at hl 0 rfl) ?_
  refine lv_iload_n hx hb dX0_init_39 rfl (lv_at hl 3 rfl) ?_
  refine lv_icmp_ge (tgt := 81) hx hb dX0_init_40 (by decide) (fun c9 => ?_) (fun c9 => ?_)
  rotate_left
  · exact absurd (by decide) c9
  have hP9 := hP.sub (ws' := [(a0, .inr (5, [.int 4, .int 3, .ref q3, .ref q6, .ref q9, .int 0]))]) [0] rfl
  have hD9 := hD.sub (ws' := [(a0, .inr (5, [.int 4, .int 3, .ref q3, .ref q6, .ref q9, .int 0]))]) [0] (by decide) rfl
  exact W.vret hx hb hr (fun t ht hW => ⟨⟨(), rfl, trivial, ⟨_, _, _, ⟨by rw [ht]; exact hP9, va_K.moved hW.alike hK, hD9, by rw [ht]; exact hz⟩⟩⟩, hS.F ht⟩) hS.2.2 dX0_init_81

set_option maxHeartbeats 4000000 in
set_option maxRecDepth 100000 in
theorem k_rI3s (l : Launch) (dC : Nat → ClassId) (dI : Nat → Nat → Nat) (cI cB cR cO : ClassId) (zk : Nat → Nat) (a0 : Nat) (kd : Int32) (sz : Nat) (hkd : ¬ kd = 4) : Met l yX0_init wsX0_init ({ frames := 1, cells := 3, slots := 9, locals := 60 }) (va_Pc [.ref a0, .int kd, .int 3] (zPre (dC, dI) (zT cI cB cR cO) zk [] [(a0, .inr (5, [.int 0, .int 0, .null, .null, .null, .int 0]))] sz)) (va_Qv (fun _ : Unit => True) (fun _ t => ∃ w1, ∃ v1, ∃ h1, zEnd (dC, dI) (zT cI cB cR cO) (va_A [(a0, .inr (5, [.int 0, .int 0, .null, .null, .null, .int 0]))] sz) [(a0, .inr (5, [.int kd, .int 3, .ref w1, .ref v1, .ref h1, .int 0]))] sz 3 t) (va_A [(a0, .inr (5, [.int 0, .int 0, .null, .null, .null, .int 0]))] sz)) 3 9 (va_A [(a0, .inr (5, [.int 0, .int 0, .null, .null, .null, .int 0]))] sz) := by
  refine Met.ofW (cc := cX0_init) (maxL := 4) (ret := none) (by decide) rfl ?_
  intro p e s mY args below meth c s₁ B hml hv
  obtain ⟨rfl, hsz, hP, hK, hD0, hZ⟩ := hv
  have hx := B.exec
  have hb := B.bytes
  have hr := B.returns
  have hts := atoms_spec (ws := wsX0_init) B.pre
  have hown : s.vm.findClass RX0 = some mY.cls := findClass_of_methodNamed B.named
  have hlocks := B.notSynchronized
  have hin : meth.name = "<init>" := (name_of_methodNamed B.named B.method).1
  subst hsz
  have hD := hD0.self (sz := s.heap.size)
  generalize hAe : va_A [(a0, .inr (5, [.int 0, .int 0, .null, .null, .null, .int 0]))] s.heap.size = A at hD hZ ⊢
  have hA : ∀ q : Nat, s.heap.size ≤ q → A q := fun q h => by rw [← hAe]; exact Or.inr h
  have hS : va_S A s.heap s.heap [] := va_S.rf
  have hz : s.heap.size + 0 ≤ s.heap.size := Nat.le_refl _
  have hl := lv_entry ([.ref a0, .int kd, .int 3]) (n := 4) (Nat.le_of_ble_eq_true rfl)
  rw [lg_entry_eq]
  generalize (lg_sl ([.ref a0, .int kd, .int 3]) ++ List.replicate (4 - (lg_sl ([.ref a0, .int kd, .int 3])).length) Slot.unset).toArray = ls at hl ⊢
  have hl : lv_has ls 4 [(0, .ref a0), (1, .int kd), (2, .int 3)] := hl
  have hP : va_P (dC, dI) vwCl [(a0, .inr (5, [.int 0, .int 0, .null, .null, .null, .int 0]))] s.heap := hP
  have hD : va_D A [(a0, .inr (5, [.int 0, .int 0, .null, .null, .null, .int 0]))] := hD
  refine lv_aload_n hx hb dX0_init_0 rfl (lv_at hl 0 rfl) ?_
  refine W.objInit hx hb hown (hts (.methodLink RX0 3 objectInit) (List.mem_cons_of_mem _ zw_104)) (hts (.instanceMethod objectInit) (List.mem_cons_of_mem _ zw_71)) (hts (.code objectInit ⟨#[0xb1]⟩ 1 none) (List.mem_cons_of_mem _ zw_72)) rfl (by rw [hml]; exact hl.1) rfl dX0_init_1 (Nat.le_of_ble_eq_true rfl) (Nat.le_of_ble_eq_true rfl) ?_
  refine W.eq (g2 := F0 mY 4 ls []) rfl ?_
  refine lv_aload_n hx hb dX0_init_4 rfl (lv_at hl 0 rfl) ?_
  refine lv_iload_n hx hb dX0_init_5 rfl (lv_at hl 1 rfl) ?_
  refine va_putF (D := (dC, dI)) (ci := 5) (v := .int kd) (ty := .int) (C := RX0) (T := TX0) (N := 6) hx hb hts hi_X0_init_X0 tyX0 tyX0_ok nmX0 hown hK hP hD (zS0 hS) 0 rfl rfl 0 (by decide) (hts (.fieldLink RX0 9 "Deeprows$Row" "kind" "I") (List.mem_cons_of_mem _ zw_107)) (fun _ h9 => h9) rfl hin rfl (by decide +kernel) rfl rfl (Nat.le_of_ble_eq_true rfl) dX0_init_6 (fun H1 locs hP hD hS1 => ?_)
  have hz : s.heap.size + 0 ≤ H1.size := Nat.le_trans hz hS1.1
  have hS := zSS hS hS1
  replace hP : va_P (dC, dI) vwCl [(a0, .inr (5, [.int kd, .int 0, .null, .null, .null, .int 0]))] H1 := hP
  replace hD : va_D A [(a0, .inr (5, [.int kd, .int 0, .null, .null, .null, .int 0]))] := hD
  refine lv_aload_n hx hb dX0_init_9 rfl (lv_at hl 0 rfl) ?_
  refine lv_iload_n hx hb dX0_init_10 rfl (lv_at hl 2 rfl) ?_
  refine va_putF (D := (dC, dI)) (ci := 5) (v := .int 3) (ty := .int) (C := RX0) (T := TX0) (N := 6) hx hb hts hi_X0_init_X0 tyX0 tyX0_ok nmX0 hown hK hP hD (zS0 hS) 0 rfl rfl 1 (by decide) (hts (.fieldLink RX0 15 "Deeprows$Row" "length" "I") (List.mem_cons_of_mem _ zw_109)) (fun _ h9 => h9) rfl hin rfl (by decide +kernel) rfl rfl (Nat.le_of_ble_eq_true rfl) dX0_init_11 (fun H2 locs hP hD hS1 => ?_)
  have hz : s.heap.size + 0 ≤ H2.size := Nat.le_trans hz hS1.1
  have hS := zSS hS hS1
  replace hP : va_P (dC, dI) vwCl [(a0, .inr (5, [.int kd, .int 3, .null, .null, .null, .int 0]))] H2 := hP
  replace hD : va_D A [(a0, .inr (5, [.int kd, .int 3, .null, .null, .null, .int 0]))] := hD
  refine lv_aload_n hx hb dX0_init_14 rfl (lv_at hl 0 rfl) ?_
  refine lv_iload_n hx hb dX0_init_15 rfl (lv_at hl 2 rfl) ?_
  refine zw_newa (atype := .int) (ty := .int) (N' := 3) hx hb (hts (.arrayClass .int) (List.mem_cons_of_mem _ zw_131)) rfl (by first | exact Or.inl rfl | exact Or.inr rfl) hK hP hD hS hA 0 rfl (by decide) (by decide) (Nat.le_of_ble_eq_true rfl) (Nat.le_of_ble_eq_true rfl) (Nat.le_of_ble_eq_true rfl) dX0_init_16 hz (fun q3 H4 hP hD hS hz => ?_)
  replace hP : va_P (dC, dI) vwCl [(a0, .inr (5, [.int kd, .int 3, .null, .null, .null, .int 0])), (q3, .inl (cI, 3, .inl (fun _ => 0)))] H4 := hP
  replace hD : va_D A [(a0, .inr (5, [.int kd, .int 3, .null, .null, .null, .int 0])), (q3, .inl (cI, 3, .inl (fun _ => 0)))] := hD
  refine W.widen (k := 1) (n := 3) (by omega) (by omega) ?_
  refine va_putF (D := (dC, dI)) (ci := 5) (v := .ref q3) (ty := .array .int) (C := RX0) (T := TX0) (N := 6) hx hb hts hi_X0_init_X0 tyX0 tyX0_ok nmX0 hown hK hP hD (zS0 hS) 0 rfl rfl 2 (by decide) (hts (.fieldLink RX0 18 "Deeprows$Row" "whats" "[I") (List.mem_cons_of_mem _ zw_111)) (fun _ h9 => h9) rfl hin rfl (by decide +kernel) rfl rfl (Nat.le_of_ble_eq_true rfl) dX0_init_18 (fun H5 locs hP hD hS1 => ?_)
  have hz : s.heap.size + 1 ≤ H5.size := Nat.le_trans hz hS1.1
  have hS := zSS hS hS1
  replace hP : va_P (dC, dI) vwCl [(a0, .inr (5, [.int kd, .int 3, .ref q3, .null, .null, .int 0])), (q3, .inl (cI, 3, .inl (fun _ => 0)))] H5 := hP
  replace hD : va_D A [(a0, .inr (5, [.int kd, .int 3, .ref q3, .null, .null, .int 0])), (q3, .inl (cI, 3, .inl (fun _ => 0)))] := hD
  refine lv_aload_n hx hb dX0_init_21 rfl (lv_at hl 0 rfl) ?_
  refine lv_iload_n hx hb dX0_init_22 rfl (lv_at hl 2 rfl) ?_
  refine zw_newa (atype := .int) (ty := .int) (N' := 3) hx hb (hts (.arrayClass .int) (List.mem_cons_of_mem _ zw_131)) rfl (by first | exact Or.inl rfl | exact Or.inr rfl) hK hP hD hS hA 0 rfl (by decide) (by decide) (Nat.le_of_ble_eq_true rfl) (Nat.le_of_ble_eq_true rfl) (Nat.le_of_ble_eq_true rfl) dX0_init_23 hz (fun q6 H7 hP hD hS hz => ?_)
  replace hP : va_P (dC, dI) vwCl [(a0, .inr (5, [.int kd, .int 3, .ref q3, .null, .null, .int 0])), (q3, .inl (cI, 3, .inl (fun _ => 0))), (q6, .inl (cI, 3, .inl (fun _ => 0)))] H7 := hP
  replace hD : va_D A [(a0, .inr (5, [.int kd, .int 3, .ref q3, .null, .null, .int 0])), (q3, .inl (cI, 3, .inl (fun _ => 0))), (q6, .inl (cI, 3, .inl (fun _ => 0)))] := hD
  refine W.widen (k := 2) (n := 6) (by omega) (by omega) ?_
  refine va_putF (D := (dC, dI)) (ci := 5) (v := .ref q6) (ty := .array .int) (C := RX0) (T := TX0) (N := 6) hx hb hts hi_X0_init_X0 tyX0 tyX0_ok nmX0 hown hK hP hD (zS0 hS) 0 rfl rfl 3 (by decide) (hts (.fieldLink RX0 22 "Deeprows$Row" "values" "[I") (List.mem_cons_of_mem _ zw_113)) (fun _ h9 => h9) rfl hin rfl (by decide +kernel) rfl rfl (Nat.le_of_ble_eq_true rfl) dX0_init_25 (fun H8 locs hP hD hS1 => ?_)
  have hz : s.heap.size + 2 ≤ H8.size := Nat.le_trans hz hS1.1
  have hS := zSS hS hS1
  replace hP : va_P (dC, dI) vwCl [(a0, .inr (5, [.int kd, .int 3, .ref q3, .ref q6, .null, .int 0])), (q3, .inl (cI, 3, .inl (fun _ => 0))), (q6, .inl (cI, 3, .inl (fun _ => 0)))] H8 := hP
  replace hD : va_D A [(a0, .inr (5, [.int kd, .int 3, .ref q3, .ref q6, .null, .int 0])), (q3, .inl (cI, 3, .inl (fun _ => 0))), (q6, .inl (cI, 3, .inl (fun _ => 0)))] := hD
  refine lv_aload_n hx hb dX0_init_28 rfl (lv_at hl 0 rfl) ?_
  refine lv_iload_n hx hb dX0_init_29 rfl (lv_at hl 2 rfl) ?_
  refine zw_newq (C := "Deeprows$Row") (N' := 3) hx hb hown (hts (.classLink RX0 10 RX0) (List.mem_cons_of_mem _ zw_105)) (za0 hZ) hK hP hD hS hA 2 rfl (by decide) (by decide) (by decide) (Nat.le_of_ble_eq_true rfl) (Nat.le_of_ble_eq_true rfl) dX0_init_30 hz (fun q9 H10 hP hD hS hz => ?_)
  replace hP : va_P (dC, dI) vwCl [(a0, .inr (5, [.int kd, .int 3, .ref q3, .ref q6, .null, .int 0])), (q3, .inl (cI, 3, .inl (fun _ => 0))), (q6, .inl (cI, 3, .inl (fun _ => 0))), (q9, .inl (cR, 3, .inr (.inr (.inr (.inr (fun _ => none))))))] H10 := hP
  replace hD : va_D A [(a0, .inr (5, [.int kd, .int 3, .ref q3, .ref q6, .null, .int 0])), (q3, .inl (cI, 3, .inl (fun _ => 0))), (q6, .inl (cI, 3, .inl (fun _ => 0))), (q9, .inl (cR, 3, .inr (.inr (.inr (.inr (fun _ => none))))))] := hD
  refine W.widen (k := 3) (n := 9) (by omega) (by omega) ?_
  refine va_putF (D := (dC, dI)) (ci := 5) (v := .ref q9) (ty := .array (.object "Deeprows$Row")) (C := RX0) (T := TX0) (N := 6) hx hb hts hi_X0_init_X0 tyX0 tyX0_ok nmX0 hown hK hP hD (zS0 hS) 0 rfl rfl 4 (by decide) (hts (.fieldLink RX0 25 "Deeprows$Row" "hung" "[LDeeprows$Row;") (List.mem_cons_of_mem _ zw_115)) (fun _ h9 => h9) rfl hin rfl (by decide +kernel) rfl rfl (Nat.le_of_ble_eq_true rfl) dX0_init_33 (fun H11 locs hP hD hS1 => ?_)
  have hz : s.heap.size + 3 ≤ H11.size := Nat.le_trans hz hS1.1
  have hS := zSS hS hS1
  replace hP : va_P (dC, dI) vwCl [(a0, .inr (5, [.int kd, .int 3, .ref q3, .ref q6, .ref q9, .int 0])), (q3, .inl (cI, 3, .inl (fun _ => 0))), (q6, .inl (cI, 3, .inl (fun _ => 0))), (q9, .inl (cR, 3, .inr (.inr (.inr (.inr (fun _ => none))))))] H11 := hP
  replace hD : va_D A [(a0, .inr (5, [.int kd, .int 3, .ref q3, .ref q6, .ref q9, .int 0])), (q3, .inl (cI, 3, .inl (fun _ => 0))), (q6, .inl (cI, 3, .inl (fun _ => 0))), (q9, .inl (cR, 3, .inr (.inr (.inr (.inr (fun _ => none))))))] := hD
  refine lv_iconst (v := 0) hx hb dX0_init_36 (by decide) ?_
  refine lv_istore_n (lv' := [(3, .int 0), (0, .ref a0), (1, .int kd), (2, .int 3)]) hx hb dX0_init_37 rfl hl (by decide) rfl (fun ls hl => ?_)
  refine lv_iload_n hx hb dX0_init_38 rfl (lv_at hl 0 rfl) ?_
  refine lv_iload_n hx hb dX0_init_39 rfl (lv_at hl 3 rfl) ?_
  refine lv_icmp_ge (tgt := 81) hx hb dX0_init_40 (by decide) (fun c9 => ?_) (fun c9 => ?_)
  · exact absurd c9 (by decide)
  refine lv_aload_n hx hb dX0_init_43 rfl (lv_at hl 1 rfl) ?_
  refine va_get (D := (dC, dI)) (ci := 5) (v := .ref q3) (C := RX0) (T := TX0) (N := 6) hx hb hts hi_X0_init_X0 hown hK hP 0 rfl rfl 2 (by decide) (hts (.fieldLink RX0 18 "Deeprows$Row" "whats" "[I") (List.mem_cons_of_mem _ zw_111)) (fun _ h9 => h9) rfl dX0_init_44 ?_
  refine lv_iload_n hx hb dX0_init_47 rfl (lv_at hl 0 rfl) ?_
  refine lv_iload_n hx hb dX0_init_48 rfl (lv_at hl 2 rfl) ?_
  refine lv_iconst (v := 4) hx hb dX0_init_49 (by decide) ?_
  refine lv_icmp_ne (tgt := 57) hx hb dX0_init_50 (by decide) (fun c9 => ?_) (fun c9 => ?_)
  rotate_left
  · exact absurd c9 (hkd)
  refine lv_iconst (v := 1) hx hb dX0_init_57 (by decide) ?_
  refine va_iast (D := (dC, dI)) (cl := vwCl) hx hb hK hP hD (zS0 hS) 1 0 rfl rfl (by unfold vp_in; decide) dX0_init_58 (fun H12 locs hP hD hS1 => ?_)
  have hz : s.heap.size + 3 ≤ H12.size := Nat.le_trans hz hS1.1
  have hS := zSS hS hS1
  replace hP : va_P (dC, dI) vwCl [(a0, .inr (5, [.int kd, .int 3, .ref q3, .ref q6, .ref q9, .int 0])), (q3, .inl (cI, 3, .inl (upd (fun _ => 0) 0 1))), (q6, .inl (cI, 3, .inl (fun _ => 0))), (q9, .inl (cR, 3, .inr (.inr (.inr (.inr (fun _ => none))))))] H12 := hP
  replace hD : va_D A [(a0, .inr (5, [.int kd, .int 3, .ref q3, .ref q6, .ref q9, .int 0])), (q3, .inl (cI, 3, .inl (upd (fun _ => 0) 0 1))), (q6, .inl (cI, 3, .inl (fun _ => 0))), (q9, .inl (cR, 3, .inr (.inr (.inr (.inr (fun _ => none))))))] := hD
  refine lv_aload_n hx hb dX0_init_59 rfl (lv_at hl 1 rfl) ?_
  refine va_get (D := (dC, dI)) (ci := 5) (v := .ref q6) (C := RX0) (T := TX0) (N := 6) hx hb hts hi_X0_init_X0 hown hK hP 0 rfl rfl 3 (by decide) (hts (.fieldLink RX0 22 "Deeprows$Row" "values" "[I") (List.mem_cons_of_mem _ zw_113)) (fun _ h9 => h9) rfl dX0_init_60 ?_
  refine lv_iload_n hx hb dX0_init_63 rfl (lv_at hl 0 rfl) ?_
  refine lv_iload_n hx hb dX0_init_64 rfl (lv_at hl 2 rfl) ?_
  refine lv_iconst (v := 4) hx hb dX0_init_65 (by decide) ?_
  refine lv_icmp_ne (tgt := 73) hx hb dX0_init_66 (by decide) (fun c9 => ?_) (fun c9 => ?_)
  rotate_left
  · exact absurd c9 (hkd)
  refine lv_iconst (v := 0) hx hb dX0_init_73 (by decide) ?_
  refine va_iast (D := (dC, dI)) (cl := vwCl) hx hb hK hP hD (zS0 hS) 2 0 rfl rfl (by unfold vp_in; decide) dX0_init_74 (fun H13 locs hP hD hS1 => ?_)
  have hz : s.heap.size + 3 ≤ H13.size := Nat.le_trans hz hS1.1
  have hS := zSS hS hS1
  replace hP : va_P (dC, dI) vwCl [(a0, .inr (5, [.int kd, .int 3, .ref q3, .ref q6, .ref q9, .int 0])), (q3, .inl (cI, 3, .inl (upd (fun _ => 0) 0 1))), (q6, .inl (cI, 3, .inl (upd (fun _ => 0) 0 0))), (q9, .inl (cR, 3, .inr (.inr (.inr (.inr (fun _ => none))))))] H13 := hP
  replace hD : va_D A [(a0, .inr (5, [.int kd, .int 3, .ref q3, .ref q6, .ref q9, .int 0])), (q3, .inl (cI, 3, .inl (upd (fun _ => 0) 0 1))), (q6, .inl (cI, 3, .inl (upd (fun _ => 0) 0 0))), (q9, .inl (cR, 3, .inr (.inr (.inr (.inr (fun _ => none))))))] := hD
  refine lv_iinc (v := 1) (lv' := [(3, .int 1), (0, .ref a0), (1, .int kd), (2, .int 3)]) hx hb dX0_init_75 hl (k := 0) rfl (by decide) (by decide) rfl (fun ls hl => ?_)
  refine lv_goto (tgt := 38) hx hb dX0_init_78 (by decide) ?_
  refine lv_iload_n hx hb dX0_init_38 rfl (lv_at hl 0 rfl) ?_
  refine lv_iload_n hx hb dX0_init_39 rfl (lv_at hl 3 rfl) ?_
  refine lv_icmp_ge (tgt := 81) hx hb dX0_init_40 (by decide) (fun c9 => ?_) (fun c9 => ?_)
  · exact absurd c9 (by decide)
  refine lv_aload_n hx hb dX0_init_43 rfl (lv_at hl 1 rfl) ?_
  refine va_get (D := (dC, dI)) (ci := 5) (v := .ref q3) (C := RX0) (T := TX0) (N := 6) hx hb hts hi_X0_init_X0 hown hK hP 0 rfl rfl 2 (by decide) (hts (.fieldLink RX0 18 "Deeprows$Row" "whats" "[I") (List.mem_cons_of_mem _ zw_111)) (fun _ h9 => h9) rfl dX0_init_44 ?_
  refine lv_iload_n hx hb dX0_init_47 rfl (lv_at hl 0 rfl) ?_
  refine lv_iload_n hx hb dX0_init_48 rfl (lv_at hl 2 rfl) ?_
  refine lv_iconst (v := 4) hx hb dX0_init_49 (by decide) ?_
  refine lv_icmp_ne (tgt := 57) hx hb dX0_init_50 (by decide) (fun c9 => ?_) (fun c9 => ?_)
  rotate_left
  · exact absurd c9 (hkd)
  refine lv_iconst (v := 1) hx hb dX0_init_57 (by decide) ?_
  refine va_iast (D := (dC, dI)) (cl := vwCl) hx hb hK hP hD (zS0 hS) 1 0 rfl rfl (by unfold vp_in; decide) dX0_init_58 (fun H14 locs hP hD hS1 => ?_)
  have hz : s.heap.size + 3 ≤ H14.size := Nat.le_trans hz hS1.1
  have hS := zSS hS hS1
  replace hP : va_P (dC, dI) vwCl [(a0, .inr (5, [.int kd, .int 3, .ref q3, .ref q6, .ref q9, .int 0])), (q3, .inl (cI, 3, .inl (upd (upd (fun _ => 0) 0 1) 1 1))), (q6, .inl (cI, 3, .inl (upd (fun _ => 0) 0 0))), (q9, .inl (cR, 3, .inr (.inr (.inr (.inr (fun _ => none))))))] H14 := hP
  replace hD : va_D A [(a0, .inr (5, [.int kd, .int 3, .ref q3, .ref q6, .ref q9, .int 0])), (q3, .inl (cI, 3, .inl (upd (upd (fun _ => 0) 0 1) 1 1))), (q6, .inl (cI, 3, .inl (upd (fun _ => 0) 0 0))), (q9, .inl (cR, 3, .inr (.inr (.inr (.inr (fun _ => none))))))] := hD
  refine lv_aload_n hx hb dX0_init_59 rfl (lv_at hl 1 rfl) ?_
  refine va_get (D := (dC, dI)) (ci := 5) (v := .ref q6) (C := RX0) (T := TX0) (N := 6) hx hb hts hi_X0_init_X0 hown hK hP 0 rfl rfl 3 (by decide) (hts (.fieldLink RX0 22 "Deeprows$Row" "values" "[I") (List.mem_cons_of_mem _ zw_113)) (fun _ h9 => h9) rfl dX0_init_60 ?_
  refine lv_iload_n hx hb dX0_init_63 rfl (lv_at hl 0 rfl) ?_
  refine lv_iload_n hx hb dX0_init_64 rfl (lv_at hl 2 rfl) ?_
  refine lv_iconst (v := 4) hx hb dX0_init_65 (by decide) ?_
  refine lv_icmp_ne (tgt := 73) hx hb dX0_init_66 (by decide) (fun c9 => ?_) (fun c9 => ?_)
  rotate_left
  · exact absurd c9 (hkd)
  refine lv_iconst (v := 0) hx hb dX0_init_73 (by decide) ?_
  refine va_iast (D := (dC, dI)) (cl := vwCl) hx hb hK hP hD (zS0 hS) 2 0 rfl rfl (by unfold vp_in; decide) dX0_init_74 (fun H15 locs hP hD hS1 => ?_)
  have hz : s.heap.size + 3 ≤ H15.size := Nat.le_trans hz hS1.1
  have hS := zSS hS hS1
  replace hP : va_P (dC, dI) vwCl [(a0, .inr (5, [.int kd, .int 3, .ref q3, .ref q6, .ref q9, .int 0])), (q3, .inl (cI, 3, .inl (upd (upd (fun _ => 0) 0 1) 1 1))), (q6, .inl (cI, 3, .inl (upd (upd (fun _ => 0) 0 0) 1 0))), (q9, .inl (cR, 3, .inr (.inr (.inr (.inr (fun _ => none))))))] H15 := hP
  replace hD : va_D A [(a0, .inr (5, [.int kd, .int 3, .ref q3, .ref q6, .ref q9, .int 0])), (q3, .inl (cI, 3, .inl (upd (upd (fun _ => 0) 0 1) 1 1))), (q6, .inl (cI, 3, .inl (upd (upd (fun _ => 0) 0 0) 1 0))), (q9, .inl (cR, 3, .inr (.inr (.inr (.inr (fun _ => none))))))] := hD
  refine lv_iinc (v := 2) (lv' := [(3, .int 2), (0, .ref a0), (1, .int kd), (2, .int 3)]) hx hb dX0_init_75 hl (k := 0) rfl (by decide) (by decide) rfl (fun ls hl => ?_)
  refine lv_goto (tgt := 38) hx hb dX0_init_78 (by decide) ?_
  refine lv_iload_n hx hb dX0_init_38 rfl (lv_at hl 0 rfl) ?_
  refine lv_iload_n hx hb dX0_init_39 rfl (lv_at hl 3 rfl) ?_
  refine lv_icmp_ge (tgt := 81) hx hb dX0_init_40 (by decide) (fun c9 => ?_) (fun c9 => ?_)
  · exact absurd c9 (by decide)
  refine lv_aload_n hx hb dX0_init_43 rfl (lv_at hl 1 rfl) ?_
  refine va_get (D := (dC, dI)) (ci := 5) (v := .ref q3) (C := RX0) (T := TX0) (N := 6) hx hb hts hi_X0_init_X0 hown hK hP 0 rfl rfl 2 (by decide) (hts (.fieldLink RX0 18 "Deeprows$Row" "whats" "[I") (List.mem_cons_of_mem _ zw_111)) (fun _ h9 => h9) rfl dX0_init_44 ?_
  refine lv_iload_n hx hb dX0_init_47 rfl (lv_at hl 0 rfl) ?_
  refine lv_iload_n hx hb dX0_init_48 rfl (lv_at hl 2 rfl) ?_
  refine lv_iconst (v := 4) hx hb dX0_init_49 (by decide) ?_
  refine lv_icmp_ne (tgt := 57) hx hb dX0_init_50 (by decide) (fun c9 => ?_) (fun c9 => ?_)
  rotate_left
  · exact absurd c9 (hkd)
  refine lv_iconst (v := 1) hx hb dX0_init_57 (by decide) ?_
  refine va_iast (D := (dC, dI)) (cl := vwCl) hx hb hK hP hD (zS0 hS) 1 0 rfl rfl (by unfold vp_in; decide) dX0_init_58 (fun H16 locs hP hD hS1 => ?_)
  have hz : s.heap.size + 3 ≤ H16.size := Nat.le_trans hz hS1.1
  have hS := zSS hS hS1
  replace hP : va_P (dC, dI) vwCl [(a0, .inr (5, [.int kd, .int 3, .ref q3, .ref q6, .ref q9, .int 0])), (q3, .inl (cI, 3, .inl (upd (upd (upd (fun _ => 0) 0 1) 1 1) 2 1))), (q6, .inl (cI, 3, .inl (upd (upd (fun _ => 0) 0 0) 1 0))), (q9, .inl (cR, 3, .inr (.inr (.inr (.inr (fun _ => none))))))] H16 := hP
  replace hD : va_D A [(a0, .inr (5, [.int kd, .int 3, .ref q3, .ref q6, .ref q9, .int 0])), (q3, .inl (cI, 3, .inl (upd (upd (upd (fun _ => 0) 0 1) 1 1) 2 1))), (q6, .inl (cI, 3, .inl (upd (upd (fun _ => 0) 0 0) 1 0))), (q9, .inl (cR, 3, .inr (.inr (.inr (.inr (fun _ => none))))))] := hD
  refine lv_aload_n hx hb dX0_init_59 rfl (lv_at hl 1 rfl) ?_
  refine va_get (D := (dC, dI)) (ci := 5) (v := .ref q6) (C := RX0) (T := TX0) (N := 6) hx hb hts hi_X0_init_X0 hown hK hP 0 rfl rfl 3 (by decide) (hts (.fieldLink RX0 22 "Deeprows$Row" "values" "[I") (List.mem_cons_of_mem _ zw_113)) (fun _ h9 => h9) rfl dX0_init_60 ?_
  refine lv_iload_n hx hb dX0_init_63 rfl (lv_at hl 0 rfl) ?_
  refine lv_iload_n hx hb dX0_init_64 rfl (lv_at hl 2 rfl) ?_
  refine lv_iconst (v := 4) hx hb dX0_init_65 (by decide) ?_
  refine lv_icmp_ne (tgt := 73) hx hb dX0_init_66 (by decide) (fun c9 => ?_) (fun c9 => ?_)
  rotate_left
  · exact absurd c9 (hkd)
  refine lv_iconst (v := 0) hx hb dX0_init_73 (by decide) ?_
  refine va_iast (D := (dC, dI)) (cl := vwCl) hx hb hK hP hD (zS0 hS) 2 0 rfl rfl (by unfold vp_in; decide) dX0_init_74 (fun H17 locs hP hD hS1 => ?_)
  have hz : s.heap.size + 3 ≤ H17.size := Nat.le_trans hz hS1.1
  have hS := zSS hS hS1
  replace hP : va_P (dC, dI) vwCl [(a0, .inr (5, [.int kd, .int 3, .ref q3, .ref q6, .ref q9, .int 0])), (q3, .inl (cI, 3, .inl (upd (upd (upd (fun _ => 0) 0 1) 1 1) 2 1))), (q6, .inl (cI, 3, .inl (upd (upd (upd (fun _ => 0) 0 0) 1 0) 2 0))), (q9, .inl (cR, 3, .inr (.inr (.inr (.inr (fun _ => none))))))] H17 := hP
  replace hD : va_D A [(a0, .inr (5, [.int kd, .int 3, .ref q3, .ref q6, .ref q9, .int 0])), (q3, .inl (cI, 3, .inl (upd (upd (upd (fun _ => 0) 0 1) 1 1) 2 1))), (q6, .inl (cI, 3, .inl (upd (upd (upd (fun _ => 0) 0 0) 1 0) 2 0))), (q9, .inl (cR, 3, .inr (.inr (.inr (.inr (fun _ => none))))))] := hD
  refine lv_iinc (v := 3) (lv' := [(3, .int 3), (0, .ref a0), (1, .int kd), (2, .int 3)]) hx hb dX0_init_75 hl (k := 0) rfl (by decide) (by decide) rfl (fun ls hl => ?_)
  refine lv_goto (tgt := 38) hx hb dX0_init_78 (by decide) ?_
  refine lv_iload_n hx hb dX0_init_38 rfl (lv_at hl 0 rfl) ?_
  refine lv_iload_n hx hb dX0_init_39 rfl (lv_at hl 3 rfl) ?_
  refine lv_icmp_ge (tgt := 81) hx hb dX0_init_40 (by decide) (fun c9 => ?_) (fun c9 => ?_)
  rotate_left
  · exact absurd (by decide) c9
  have hP9 := hP.sub (ws' := [(a0, .inr (5, [.int kd, .int 3, .ref q3, .ref q6, .ref q9, .int 0]))]) [0] rfl
  have hD9 := hD.sub (ws' := [(a0, .inr (5, [.int kd, .int 3, .ref q3, .ref q6, .ref q9, .int 0]))]) [0] (by decide) rfl
  exact W.vret hx hb hr (fun t ht hW => ⟨⟨(), rfl, trivial, ⟨_, _, _, ⟨by rw [ht]; exact hP9, va_K.moved hW.alike hK, hD9, by rw [ht]; exact hz⟩⟩⟩, hS.F ht⟩) hS.2.2 dX0_init_81

set_option maxHeartbeats 4000000 in
set_option maxRecDepth 100000 in
theorem k_rqL4 (l : Launch) (dC : Nat → ClassId) (dI : Nat → Nat → Nat) (cI cB cR cO : ClassId) (zk : Nat → Nat)  (sz : Nat)  : Met l yX1_requireLength wsX1_requireLength ({ frames := 0, cells := 0, slots := 0, locals := 0 }) (va_Pc [.int 4] (zPre (dC, dI) (zT cI cB cR cO) zk [] [] sz)) (va_Qv (fun _ : Unit => True) (fun _ t => zEnd (dC, dI) (zT cI cB cR cO) (va_A [] sz) [] sz 0 t) (va_A [] sz)) 0 0 (va_A [] sz) := by
  refine Met.ofW (cc := cX1_requireLength) (maxL := 1) (ret := none) (by decide) rfl ?_
  intro p e s mY args below meth c s₁ B hml hv
  obtain ⟨rfl, hsz, hP, hK, hD0, hZ⟩ := hv
  have hx := B.exec
  have hb := B.bytes
  have hr := B.returns
  have hts := atoms_spec (ws := wsX1_requireLength) B.pre
  have hown : s.vm.findClass RX1 = some mY.cls := findClass_of_methodNamed B.named
  have hlocks := B.notSynchronized
  subst hsz
  have hD := hD0.self (sz := s.heap.size)
  generalize hAe : va_A [] s.heap.size = A at hD hZ ⊢
  have hA : ∀ q : Nat, s.heap.size ≤ q → A q := fun q h => by rw [← hAe]; exact Or.inr h
  have hS : va_S A s.heap s.heap [] := va_S.rf
  have hz : s.heap.size + 0 ≤ s.heap.size := Nat.le_refl _
  have hl := lv_entry ([.int 4]) (n := 1) (Nat.le_of_ble_eq_true rfl)
  rw [lg_entry_eq]
  generalize (lg_sl ([.int 4]) ++ List.replicate (1 - (lg_sl ([.int 4])).length) Slot.unset).toArray = ls at hl ⊢
  have hl : lv_has ls 1 [(0, .int 4)] := hl
  have hP : va_P (dC, dI) vwCl [] s.heap := hP
  have hD : va_D A [] := hD
  refine lv_iload_n hx hb dX1_requireLength_0 rfl (lv_at hl 0 rfl) ?_
  refine lv_if_lt (tgt := 9) hx hb dX1_requireLength_1 (by decide) (fun c9 => ?_) (fun c9 => ?_)
  · exact absurd c9 (by decide)
  refine lv_iload_n hx hb dX1_requireLength_4 rfl (lv_at hl 0 rfl) ?_
  refine lv_iconst (v := 4) hx hb dX1_requireLength_5 (by decide) ?_
  refine lv_icmp_le (tgt := 20) hx hb dX1_requireLength_6 (by decide) (fun c9 => ?_) (fun c9 => ?_)
  rotate_left
  · exact absurd (by decide) c9
  have hP9 := hP.sub (ws' := []) [] rfl
  have hD9 := hD.sub (ws' := []) [] (by decide) rfl
  exact W.vret hx hb hr (fun t ht hW => ⟨⟨(), rfl, trivial, ⟨by rw [ht]; exact hP9, va_K.moved hW.alike hK, hD9, by rw [ht]; exact hz⟩⟩, hS.F ht⟩) hS.2.2 dX1_requireLength_20

set_option maxHeartbeats 4000000 in
set_option maxRecDepth 100000 in
theorem k_isIn4_4 (l : Launch) (dC : Nat → ClassId) (dI : Nat → Nat → Nat) (cI cB cR cO : ClassId) (zk : Nat → Nat)  (sz : Nat)  : Met l yX4_isIn wsX4_isIn ({ frames := 0, cells := 0, slots := 0, locals := 0 }) (va_Pc [.int 4, .int 0, .int 4] (zPre (dC, dI) (zT cI cB cR cO) zk [] [] sz)) (va_Qi (fun r (_ : Unit) => r = 1) (fun _ t => zEnd (dC, dI) (zT cI cB cR cO) (va_A [] sz) [] sz 0 t) (va_A [] sz)) 0 0 (va_A [] sz) := by
  refine Met.ofW (cc := cX4_isIn) (maxL := 3) (ret := (some .boolean)) (by decide) rfl ?_
  intro p e s mY args below meth c s₁ B hml hv
  obtain ⟨rfl, hsz, hP, hK, hD0, hZ⟩ := hv
  have hx := B.exec
  have hb := B.bytes
  have hr := B.returns
  have hts := atoms_spec (ws := wsX4_isIn) B.pre
  have hown : s.vm.findClass RX4 = some mY.cls := findClass_of_methodNamed B.named
  have hlocks := B.notSynchronized
  subst hsz
  have hD := hD0.self (sz := s.heap.size)
  generalize hAe : va_A [] s.heap.size = A at hD hZ ⊢
  have hA : ∀ q : Nat, s.heap.size ≤ q → A q := fun q h => by rw [← hAe]; exact Or.inr h
  have hS : va_S A s.heap s.heap [] := va_S.rf
  have hz : s.heap.size + 0 ≤ s.heap.size := Nat.le_refl _
  have hl := lv_entry ([.int 4, .int 0, .int 4]) (n := 3) (Nat.le_of_ble_eq_true rfl)
  rw [lg_entry_eq]
  generalize (lg_sl ([.int 4, .int 0, .int 4]) ++ List.replicate (3 - (lg_sl ([.int 4, .int 0, .int 4])).length) Slot.unset).toArray = ls at hl ⊢
  have hl : lv_has ls 3 [(0, .int 4), (1, .int 0), (2, .int 4)] := hl
  have hP : va_P (dC, dI) vwCl [] s.heap := hP
  have hD : va_D A [] := hD
  refine lv_iload_n hx hb dX4_isIn_0 rfl (lv_at hl 0 rfl) ?_
  refine lv_iload_n hx hb dX4_isIn_1 rfl (lv_at hl 1 rfl) ?_
  refine lv_icmp_lt (tgt := 14) hx hb dX4_isIn_2 (by decide) (fun c9 => ?_) (fun c9 => ?_)
  · exact absurd c9 (by decide)
  refine lv_iload_n hx hb dX4_isIn_5 rfl (lv_at hl 0 rfl) ?_
  refine lv_iload_n hx hb dX4_isIn_6 rfl (lv_at hl 2 rfl) ?_
  refine lv_icmp_gt (tgt := 14) hx hb dX4_isIn_7 (by decide) (fun c9 => ?_) (fun c9 => ?_)
  · exact absurd c9 (by decide)
  refine lv_iconst (v := 1) hx hb dX4_isIn_10 (by decide) ?_
  refine lv_goto (tgt := 15) hx hb dX4_isIn_11 (by decide) ?_
  have hP9 := hP.sub (ws' := []) [] rfl
  have hD9 := hD.sub (ws' := []) [] (by decide) rfl
  exact W.zret (v := 1) hx hb hr (by decide +kernel) (fun t ht hW => ⟨⟨_, (), rfl, rfl, ⟨by rw [ht]; exact hP9, va_K.moved hW.alike hK, hD9, by rw [ht]; exact hz⟩⟩, hS.F ht⟩) hS.2.2 dX4_isIn_15

set_option maxHeartbeats 4000000 in
set_option maxRecDepth 100000 in
theorem k_rI44 (l : Launch) (dC : Nat → ClassId) (dI : Nat → Nat → Nat) (cI cB cR cO : ClassId) (zk : Nat → Nat) (a0 : Nat) (sz : Nat)  : Met l yX0_init wsX0_init ({ frames := 1, cells := 3, slots := 12, locals := 60 }) (va_Pc [.ref a0, .int 4, .int 4] (zPre (dC, dI) (zT cI cB cR cO) zk [] [(a0, .inr (5, [.int 0, .int 0, .null, .null, .null, .int 0]))] sz)) (va_Qv (fun _ : Unit => True) (fun _ t => ∃ w1, ∃ v1, ∃ h1, zEnd (dC, dI) (zT cI cB cR cO) (va_A [(a0, .inr (5, [.int 0, .int 0, .null, .null, .null, .int 0]))] sz) [(a0, .inr (5, [.int 4, .int 4, .ref w1, .ref v1, .ref h1, .int 0]))] sz 3 t) (va_A [(a0, .inr (5, [.int 0, .int 0, .null, .null, .null, .int 0]))] sz)) 3 12 (va_A [(a0, .inr (5, [.int 0, .int 0, .null, .null, .null, .int 0]))] sz) := by
  refine Met.ofW (cc := cX0_init) (maxL := 4) (ret := none) (by decide) rfl ?_
  intro p e s mY args below meth c s₁ B hml hv
  obtain ⟨rfl, hsz, hP, hK, hD0, hZ⟩ := hv
  have hx := B.exec
  have hb := B.bytes
  have hr := B.returns
  have hts := atoms_spec (ws := wsX0_init) B.pre
  have hown : s.vm.findClass RX0 = some mY.cls := findClass_of_methodNamed B.named
  have hlocks := B.notSynchronized
  have hin : meth.name = "<init>" := (name_of_methodNamed B.named B.method).1
  subst hsz
  have hD := hD0.self (sz := s.heap.size)
  generalize hAe : va_A [(a0, .inr (5, [.int 0, .int 0, .null, .null, .null, .int 0]))] s.heap.size = A at hD hZ ⊢
  have hA : ∀ q : Nat, s.heap.size ≤ q → A q := fun q h => by rw [← hAe]; exact Or.inr h
  have hS : va_S A s.heap s.heap [] := va_S.rf
  have hz : s.heap.size + 0 ≤ s.heap.size := Nat.le_refl _
  have hl := lv_entry ([.ref a0, .int 4, .int 4]) (n := 4) (Nat.le_of_ble_eq_true rfl)
  rw [lg_entry_eq]
  generalize (lg_sl ([.ref a0, .int 4, .int 4]) ++ List.replicate (4 - (lg_sl ([.ref a0, .int 4, .int 4])).length) Slot.unset).toArray = ls at hl ⊢
  have hl : lv_has ls 4 [(0, .ref a0), (1, .int 4), (2, .int 4)] := hl
  have hP : va_P (dC, dI) vwCl [(a0, .inr (5, [.int 0, .int 0, .null, .null, .null, .int 0]))] s.heap := hP
  have hD : va_D A [(a0, .inr (5, [.int 0, .int 0, .null, .null, .null, .int 0]))] := hD
  refine lv_aload_n hx hb dX0_init_0 rfl (lv_at hl 0 rfl) ?_
  refine W.objInit hx hb hown (hts (.methodLink RX0 3 objectInit) (List.mem_cons_of_mem _ zw_104)) (hts (.instanceMethod objectInit) (List.mem_cons_of_mem _ zw_71)) (hts (.code objectInit ⟨#[0xb1]⟩ 1 none) (List.mem_cons_of_mem _ zw_72)) rfl (by rw [hml]; exact hl.1) rfl dX0_init_1 (Nat.le_of_ble_eq_true rfl) (Nat.le_of_ble_eq_true rfl) ?_
  refine W.eq (g2 := F0 mY 4 ls []) rfl ?_
  refine lv_aload_n hx hb dX0_init_4 rfl (lv_at hl 0 rfl) ?_
  refine lv_iload_n hx hb dX0_init_5 rfl (lv_at hl 1 rfl) ?_
  refine va_putF (D := (dC, dI)) (ci := 5) (v := .int 4) (ty := .int) (C := RX0) (T := TX0) (N := 6) hx hb hts hi_X0_init_X0 tyX0 tyX0_ok nmX0 hown hK hP hD (zS0 hS) 0 rfl rfl 0 (by decide) (hts (.fieldLink RX0 9 "Deeprows$Row" "kind" "I") (List.mem_cons_of_mem _ zw_107)) (fun _ h9 => h9) rfl hin rfl (by decide +kernel) rfl rfl (Nat.le_of_ble_eq_true rfl) dX0_init_6 (fun H1 locs hP hD hS1 => ?_)
  have hz : s.heap.size + 0 ≤ H1.size := Nat.le_trans hz hS1.1
  have hS := zSS hS hS1
  replace hP : va_P (dC, dI) vwCl [(a0, .inr (5, [.int 4, .int 0, .null, .null, .null, .int 0]))] H1 := hP
  replace hD : va_D A [(a0, .inr (5, [.int 4, .int 0, .null, .null, .null, .int 0]))] := hD
  refine lv_aload_n hx hb dX0_init_9 rfl (lv_at hl 0 rfl) ?_
  refine lv_iload_n hx hb dX0_init_10 rfl (lv_at hl 2 rfl) ?_
  refine va_putF (D := (dC, dI)) (ci := 5) (v := .int 4) (ty := .int) (C := RX0) (T := TX0) (N := 6) hx hb hts hi_X0_init_X0 tyX0 tyX0_ok nmX0 hown hK hP hD (zS0 hS) 0 rfl rfl 1 (by decide) (hts (.fieldLink RX0 15 "Deeprows$Row" "length" "I") (List.mem_cons_of_mem _ zw_109)) (fun _ h9 => h9) rfl hin rfl (by decide +kernel) rfl rfl (Nat.le_of_ble_eq_true rfl) dX0_init_11 (fun H2 locs hP hD hS1 => ?_)
  have hz : s.heap.size + 0 ≤ H2.size := Nat.le_trans hz hS1.1
  have hS := zSS hS hS1
  replace hP : va_P (dC, dI) vwCl [(a0, .inr (5, [.int 4, .int 4, .null, .null, .null, .int 0]))] H2 := hP
  replace hD : va_D A [(a0, .inr (5, [.int 4, .int 4, .null, .null, .null, .int 0]))] := hD
  refine lv_aload_n hx hb dX0_init_14 rfl (lv_at hl 0 rfl) ?_
  refine lv_iload_n hx hb dX0_init_15 rfl (lv_at hl 2 rfl) ?_
  refine zw_newa (atype := .int) (ty := .int) (N' := 4) hx hb (hts (.arrayClass .int) (List.mem_cons_of_mem _ zw_131)) rfl (by first | exact Or.inl rfl | exact Or.inr rfl) hK hP hD hS hA 0 rfl (by decide) (by decide) (Nat.le_of_ble_eq_true rfl) (Nat.le_of_ble_eq_true rfl) (Nat.le_of_ble_eq_true rfl) dX0_init_16 hz (fun q3 H4 hP hD hS hz => ?_)
  replace hP : va_P (dC, dI) vwCl [(a0, .inr (5, [.int 4, .int 4, .null, .null, .null, .int 0])), (q3, .inl (cI, 4, .inl (fun _ => 0)))] H4 := hP
  replace hD : va_D A [(a0, .inr (5, [.int 4, .int 4, .null, .null, .null, .int 0])), (q3, .inl (cI, 4, .inl (fun _ => 0)))] := hD
  refine W.widen (k := 1) (n := 4) (by omega) (by omega) ?_
  refine va_putF (D := (dC, dI)) (ci := 5) (v := .ref q3) (ty := .array .int) (C := RX0) (T := TX0) (N := 6) hx hb hts hi_X0_init_X0 tyX0 tyX0_ok nmX0 hown hK hP hD (zS0 hS) 0 rfl rfl 2 (by decide) (hts (.fieldLink RX0 18 "Deeprows$Row" "whats" "[I") (List.mem_cons_of_mem _ zw_111)) (fun _ h9 => h9) rfl hin rfl (by decide +kernel) rfl rfl (Nat.le_of_ble_eq_true rfl) dX0_init_18 (fun H5 locs hP hD hS1 => ?_)
  have hz : s.heap.size + 1 ≤ H5.size := Nat.le_trans hz hS1.1
  have hS := zSS hS hS1
  replace hP : va_P (dC, dI) vwCl [(a0, .inr (5, [.int 4, .int 4, .ref q3, .null, .null, .int 0])), (q3, .inl (cI, 4, .inl (fun _ => 0)))] H5 := hP
  replace hD : va_D A [(a0, .inr (5, [.int 4, .int 4, .ref q3, .null, .null, .int 0])), (q3, .inl (cI, 4, .inl (fun _ => 0)))] := hD
  refine lv_aload_n hx hb dX0_init_21 rfl (lv_at hl 0 rfl) ?_
  refine lv_iload_n hx hb dX0_init_22 rfl (lv_at hl 2 rfl) ?_
  refine zw_newa (atype := .int) (ty := .int) (N' := 4) hx hb (hts (.arrayClass .int) (List.mem_cons_of_mem _ zw_131)) rfl (by first | exact Or.inl rfl | exact Or.inr rfl) hK hP hD hS hA 0 rfl (by decide) (by decide) (Nat.le_of_ble_eq_true rfl) (Nat.le_of_ble_eq_true rfl) (Nat.le_of_ble_eq_true rfl) dX0_init_23 hz (fun q6 H7 hP hD hS hz => ?_)
  replace hP : va_P (dC, dI) vwCl [(a0, .inr (5, [.int 4, .int 4, .ref q3, .null, .null, .int 0])), (q3, .inl (cI, 4, .inl (fun _ => 0))), (q6, .inl (cI, 4, .inl (fun _ => 0)))] H7 := hP
  replace hD : va_D A [(a0, .inr (5, [.int 4, .int 4, .ref q3, .null, .null, .int 0])), (q3, .inl (cI, 4, .inl (fun _ => 0))), (q6, .inl (cI, 4, .inl (fun _ => 0)))] := hD
  refine W.widen (k := 2) (n := 8) (by omega) (by omega) ?_
  refine va_putF (D := (dC, dI)) (ci := 5) (v := .ref q6) (ty := .array .int) (C := RX0) (T := TX0) (N := 6) hx hb hts hi_X0_init_X0 tyX0 tyX0_ok nmX0 hown hK hP hD (zS0 hS) 0 rfl rfl 3 (by decide) (hts (.fieldLink RX0 22 "Deeprows$Row" "values" "[I") (List.mem_cons_of_mem _ zw_113)) (fun _ h9 => h9) rfl hin rfl (by decide +kernel) rfl rfl (Nat.le_of_ble_eq_true rfl) dX0_init_25 (fun H8 locs hP hD hS1 => ?_)
  have hz : s.heap.size + 2 ≤ H8.size := Nat.le_trans hz hS1.1
  have hS := zSS hS hS1
  replace hP : va_P (dC, dI) vwCl [(a0, .inr (5, [.int 4, .int 4, .ref q3, .ref q6, .null, .int 0])), (q3, .inl (cI, 4, .inl (fun _ => 0))), (q6, .inl (cI, 4, .inl (fun _ => 0)))] H8 := hP
  replace hD : va_D A [(a0, .inr (5, [.int 4, .int 4, .ref q3, .ref q6, .null, .int 0])), (q3, .inl (cI, 4, .inl (fun _ => 0))), (q6, .inl (cI, 4, .inl (fun _ => 0)))] := hD
  refine lv_aload_n hx hb dX0_init_28 rfl (lv_at hl 0 rfl) ?_
  refine lv_iload_n hx hb dX0_init_29 rfl (lv_at hl 2 rfl) ?_
  refine zw_newq (C := "Deeprows$Row") (N' := 4) hx hb hown (hts (.classLink RX0 10 RX0) (List.mem_cons_of_mem _ zw_105)) (za0 hZ) hK hP hD hS hA 2 rfl (by decide) (by decide) (by decide) (Nat.le_of_ble_eq_true rfl) (Nat.le_of_ble_eq_true rfl) dX0_init_30 hz (fun q9 H10 hP hD hS hz => ?_)
  replace hP : va_P (dC, dI) vwCl [(a0, .inr (5, [.int 4, .int 4, .ref q3, .ref q6, .null, .int 0])), (q3, .inl (cI, 4, .inl (fun _ => 0))), (q6, .inl (cI, 4, .inl (fun _ => 0))), (q9, .inl (cR, 4, .inr (.inr (.inr (.inr (fun _ => none))))))] H10 := hP
  replace hD : va_D A [(a0, .inr (5, [.int 4, .int 4, .ref q3, .ref q6, .null, .int 0])), (q3, .inl (cI, 4, .inl (fun _ => 0))), (q6, .inl (cI, 4, .inl (fun _ => 0))), (q9, .inl (cR, 4, .inr (.inr (.inr (.inr (fun _ => none))))))] := hD
  refine W.widen (k := 3) (n := 12) (by omega) (by omega) ?_
  refine va_putF (D := (dC, dI)) (ci := 5) (v := .ref q9) (ty := .array (.object "Deeprows$Row")) (C := RX0) (T := TX0) (N := 6) hx hb hts hi_X0_init_X0 tyX0 tyX0_ok nmX0 hown hK hP hD (zS0 hS) 0 rfl rfl 4 (by decide) (hts (.fieldLink RX0 25 "Deeprows$Row" "hung" "[LDeeprows$Row;") (List.mem_cons_of_mem _ zw_115)) (fun _ h9 => h9) rfl hin rfl (by decide +kernel) rfl rfl (Nat.le_of_ble_eq_true rfl) dX0_init_33 (fun H11 locs hP hD hS1 => ?_)
  have hz : s.heap.size + 3 ≤ H11.size := Nat.le_trans hz hS1.1
  have hS := zSS hS hS1
  replace hP : va_P (dC, dI) vwCl [(a0, .inr (5, [.int 4, .int 4, .ref q3, .ref q6, .ref q9, .int 0])), (q3, .inl (cI, 4, .inl (fun _ => 0))), (q6, .inl (cI, 4, .inl (fun _ => 0))), (q9, .inl (cR, 4, .inr (.inr (.inr (.inr (fun _ => none))))))] H11 := hP
  replace hD : va_D A [(a0, .inr (5, [.int 4, .int 4, .ref q3, .ref q6, .ref q9, .int 0])), (q3, .inl (cI, 4, .inl (fun _ => 0))), (q6, .inl (cI, 4, .inl (fun _ => 0))), (q9, .inl (cR, 4, .inr (.inr (.inr (.inr (fun _ => none))))))] := hD
  refine lv_iconst (v := 0) hx hb dX0_init_36 (by decide) ?_
  refine lv_istore_n (lv' := [(3, .int 0), (0, .ref a0), (1, .int 4), (2, .int 4)]) hx hb dX0_init_37 rfl hl (by decide) rfl (fun ls hl => ?_)
  refine lv_iload_n hx hb dX0_init_38 rfl (lv_at hl 0 rfl) ?_
  refine lv_iload_n hx hb dX0_init_39 rfl (lv_at hl 3 rfl) ?_
  refine lv_icmp_ge (tgt := 81) hx hb dX0_init_40 (by decide) (fun c9 => ?_) (fun c9 => ?_)
  · exact absurd c9 (by decide)
  refine lv_aload_n hx hb dX0_init_43 rfl (lv_at hl 1 rfl) ?_
  refine va_get (D := (dC, dI)) (ci := 5) (v := .ref q3) (C := RX0) (T := TX0) (N := 6) hx hb hts hi_X0_init_X0 hown hK hP 0 rfl rfl 2 (by decide) (hts (.fieldLink RX0 18 "Deeprows$Row" "whats" "[I") (List.mem_cons_of_mem _ zw_111)) (fun _ h9 => h9) rfl dX0_init_44 ?_
  refine lv_iload_n hx hb dX0_init_47 rfl (lv_at hl 0 rfl) ?_
  refine lv_iload_n hx hb dX0_init_48 rfl (lv_at hl 2 rfl) ?_
  refine lv_iconst (v := 4) hx hb dX0_init_49 (by decide) ?_
  refine lv_icmp_ne (tgt := 57) hx hb dX0_init_50 (by decide) (fun c9 => ?_) (fun c9 => ?_)
  · exact absurd (by decide) c9
  refine lv_iconst (v := 0) hx hb dX0_init_53 (by decide) ?_
  refine lv_goto (tgt := 58) hx hb dX0_init_54 (by decide) ?_
  refine va_iast (D := (dC, dI)) (cl := vwCl) hx hb hK hP hD (zS0 hS) 1 0 rfl rfl (by unfold vp_in; decide) dX0_init_58 (fun H12 locs hP hD hS1 => ?_)
  have hz : s.heap.size + 3 ≤ H12.size := Nat.le_trans hz hS1.1
  have hS := zSS hS hS1
  replace hP : va_P (dC, dI) vwCl [(a0, .inr (5, [.int 4, .int 4, .ref q3, .ref q6, .ref q9, .int 0])), (q3, .inl (cI, 4, .inl (upd (fun _ => 0) 0 0))), (q6, .inl (cI, 4, .inl (fun _ => 0))), (q9, .inl (cR, 4, .inr (.inr (.inr (.inr (fun _ => none))))))] H12 := hP
  replace hD : va_D A [(a0, .inr (5, [.int 4, .int 4, .ref q3, .ref q6, .ref q9, .int 0])), (q3, .inl (cI, 4, .inl (upd (fun _ => 0) 0 0))), (q6, .inl (cI, 4, .inl (fun _ => 0))), (q9, .inl (cR, 4, .inr (.inr (.inr (.inr (fun _ => none))))))] := hD
  refine lv_aload_n hx hb dX0_init_59 rfl (lv_at hl 1 rfl) ?_
  refine va_get (D := (dC, dI)) (ci := 5) (v := .ref q6) (C := RX0) (T := TX0) (N := 6) hx hb hts hi_X0_init_X0 hown hK hP 0 rfl rfl 3 (by decide) (hts (.fieldLink RX0 22 "Deeprows$Row" "values" "[I") (List.mem_cons_of_mem _ zw_113)) (fun _ h9 => h9) rfl dX0_init_60 ?_
  refine lv_iload_n hx hb dX0_init_63 rfl (lv_at hl 0 rfl) ?_
  refine lv_iload_n hx hb dX0_init_64 rfl (lv_at hl 2 rfl) ?_
  refine lv_iconst (v := 4) hx hb dX0_init_65 (by decide) ?_
  refine lv_icmp_ne (tgt := 73) hx hb dX0_init_66 (by decide) (fun c9 => ?_) (fun c9 => ?_)
  · exact absurd (by decide) c9
  refine lv_iconst (v := (-1)) hx hb dX0_init_69 (by decide) ?_
  refine lv_goto (tgt := 74) hx hb dX0_init_70 (by decide) ?_
  refine va_iast (D := (dC, dI)) (cl := vwCl) hx hb hK hP hD (zS0 hS) 2 0 rfl rfl (by unfold vp_in; decide) dX0_init_74 (fun H13 locs hP hD hS1 => ?_)
  have hz : s.heap.size + 3 ≤ H13.size := Nat.le_trans hz hS1.1
  have hS := zSS hS hS1
  replace hP : va_P (dC, dI) vwCl [(a0, .inr (5, [.int 4, .int 4, .ref q3, .ref q6, .ref q9, .int 0])), (q3, .inl (cI, 4, .inl (upd (fun _ => 0) 0 0))), (q6, .inl (cI, 4, .inl (upd (fun _ => 0) 0 (-1)))), (q9, .inl (cR, 4, .inr (.inr (.inr (.inr (fun _ => none))))))] H13 := hP
  replace hD : va_D A [(a0, .inr (5, [.int 4, .int 4, .ref q3, .ref q6, .ref q9, .int 0])), (q3, .inl (cI, 4, .inl (upd (fun _ => 0) 0 0))), (q6, .inl (cI, 4, .inl (upd (fun _ => 0) 0 (-1)))), (q9, .inl (cR, 4, .inr (.inr (.inr (.inr (fun _ => none))))))] := hD
  refine lv_iinc (v := 1) (lv' := [(3, .int 1), (0, .ref a0), (1, .int 4), (2, .int 4)]) hx hb dX0_init_75 hl (k := 0) rfl (by decide) (by decide) rfl (fun ls hl => ?_)
  refine lv_goto (tgt := 38) hx hb dX0_init_78 (by decide) ?_
  refine lv_iload_n hx hb dX0_init_38 rfl (lv_at hl 0 rfl) ?_
  refine lv_iload_n hx hb dX0_init_39 rfl (lv_at hl 3 rfl) ?_
  refine lv_icmp_ge (tgt := 81) hx hb dX0_init_40 (by decide) (fun c9 => ?_) (fun c9 => ?_)
  · exact absurd c9 (by decide)
  refine lv_aload_n hx hb dX0_init_43 rfl (lv_at hl 1 rfl) ?_
  refine va_get (D := (dC, dI)) (ci := 5) (v := .ref q3) (C := RX0) (T := TX0) (N := 6) hx hb hts hi_X0_init_X0 hown hK hP 0 rfl rfl 2 (by decide) (hts (.fieldLink RX0 18 "Deeprows$Row" "whats" "[I") (List.mem_cons_of_mem _ zw_111)) (fun _ h9 => h9) rfl dX0_init_44 ?_
  refine lv_iload_n hx hb dX0_init_47 rfl (lv_at hl 0 rfl) ?_
  refine lv_iload_n hx hb dX0_init_48 rfl (lv_at hl 2 rfl) ?_
  refine lv_iconst (v := 4) hx hb dX0_init_49 (by decide) ?_
  refine lv_icmp_ne (tgt := 57) hx hb dX0_init_50 (by decide) (fun c9 => ?_) (fun c9 => ?_)
  · exact absurd (by decide) c9
  refine lv_iconst (v := 0) hx hb dX0_init_53 (by decide) ?_
  refine lv_goto (tgt := 58) hx hb dX0_init_54 (by decide) ?_
  refine va_iast (D := (dC, dI)) (cl := vwCl) hx hb hK hP hD (zS0 hS) 1 0 rfl rfl (by unfold vp_in; decide) dX0_init_58 (fun H14 locs hP hD hS1 => ?_)
  have hz : s.heap.size + 3 ≤ H14.size := Nat.le_trans hz hS1.1
  have hS := zSS hS hS1
  replace hP : va_P (dC, dI) vwCl [(a0, .inr (5, [.int 4, .int 4, .ref q3, .ref q6, .ref q9, .int 0])), (q3, .inl (cI, 4, .inl (upd (upd (fun _ => 0) 0 0) 1 0))), (q6, .inl (cI, 4, .inl (upd (fun _ => 0) 0 (-1)))), (q9, .inl (cR, 4, .inr (.inr (.inr (.inr (fun _ => none))))))] H14 := hP
  replace hD : va_D A [(a0, .inr (5, [.int 4, .int 4, .ref q3, .ref q6, .ref q9, .int 0])), (q3, .inl (cI, 4, .inl (upd (upd (fun _ => 0) 0 0) 1 0))), (q6, .inl (cI, 4, .inl (upd (fun _ => 0) 0 (-1)))), (q9, .inl (cR, 4, .inr (.inr (.inr (.inr (fun _ => none))))))] := hD
  refine lv_aload_n hx hb dX0_init_59 rfl (lv_at hl 1 rfl) ?_
  refine va_get (D := (dC, dI)) (ci := 5) (v := .ref q6) (C := RX0) (T := TX0) (N := 6) hx hb hts hi_X0_init_X0 hown hK hP 0 rfl rfl 3 (by decide) (hts (.fieldLink RX0 22 "Deeprows$Row" "values" "[I") (List.mem_cons_of_mem _ zw_113)) (fun _ h9 => h9) rfl dX0_init_60 ?_
  refine lv_iload_n hx hb dX0_init_63 rfl (lv_at hl 0 rfl) ?_
  refine lv_iload_n hx hb dX0_init_64 rfl (lv_at hl 2 rfl) ?_
  refine lv_iconst (v := 4) hx hb dX0_init_65 (by decide) ?_
  refine lv_icmp_ne (tgt := 73) hx hb dX0_init_66 (by decide) (fun c9 => ?_) (fun c9 => ?_)
  · exact absurd (by decide) c9
  refine lv_iconst (v := (-1)) hx hb dX0_init_69 (by decide) ?_
  refine lv_goto (tgt := 74) hx hb dX0_init_70 (by decide) ?_
  refine va_iast (D := (dC, dI)) (cl := vwCl) hx hb hK hP hD (zS0 hS) 2 0 rfl rfl (by unfold vp_in; decide) dX0_init_74 (fun H15 locs hP hD hS1 => ?_)
  have hz : s.heap.size + 3 ≤ H15.size := Nat.le_trans hz hS1.1
  have hS := zSS hS hS1
  replace hP : va_P (dC, dI) vwCl [(a0, .inr (5, [.int 4, .int 4, .ref q3, .ref q6, .ref q9, .int 0])), (q3, .inl (cI, 4, .inl (upd (upd (fun _ => 0) 0 0) 1 0))), (q6, .inl (cI, 4, .inl (upd (upd (fun _ => 0) 0 (-1)) 1 (-1)))), (q9, .inl (cR, 4, .inr (.inr (.inr (.inr (fun _ => none))))))] H15 := hP
  replace hD : va_D A [(a0, .inr (5, [.int 4, .int 4, .ref q3, .ref q6, .ref q9, .int 0])), (q3, .inl (cI, 4, .inl (upd (upd (fun _ => 0) 0 0) 1 0))), (q6, .inl (cI, 4, .inl (upd (upd (fun _ => 0) 0 (-1)) 1 (-1)))), (q9, .inl (cR, 4, .inr (.inr (.inr (.inr (fun _ => none))))))] := hD
  refine lv_iinc (v := 2) (lv' := [(3, .int 2), (0, .ref a0), (1, .int 4), (2, .int 4)]) hx hb dX0_init_75 hl (k := 0) rfl (by decide) (by decide) rfl (fun ls hl => ?_)
  refine lv_goto (tgt := 38) hx hb dX0_init_78 (by decide) ?_
  refine lv_iload_n hx hb dX0_init_38 rfl (lv_at hl 0 rfl) ?_
  refine lv_iload_n hx hb dX0_init_39 rfl (lv_at hl 3 rfl) ?_
  refine lv_icmp_ge (tgt := 81) hx hb dX0_init_40 (by decide) (fun c9 => ?_) (fun c9 => ?_)
  · exact absurd c9 (by decide)
  refine lv_aload_n hx hb dX0_init_43 rfl (lv_at hl 1 rfl) ?_
  refine va_get (D := (dC, dI)) (ci := 5) (v := .ref q3) (C := RX0) (T := TX0) (N := 6) hx hb hts hi_X0_init_X0 hown hK hP 0 rfl rfl 2 (by decide) (hts (.fieldLink RX0 18 "Deeprows$Row" "whats" "[I") (List.mem_cons_of_mem _ zw_111)) (fun _ h9 => h9) rfl dX0_init_44 ?_
  refine lv_iload_n hx hb dX0_init_47 rfl (lv_at hl 0 rfl) ?_
  refine lv_iload_n hx hb dX0_init_48 rfl (lv_at hl 2 rfl) ?_
  refine lv_iconst (v := 4) hx hb dX0_init_49 (by decide) ?_
  refine lv_icmp_ne (tgt := 57) hx hb dX0_init_50 (by decide) (fun c9 => ?_) (fun c9 => ?_)
  · exact absurd (by decide) c9
  refine lv_iconst (v := 0) hx hb dX0_init_53 (by decide) ?_
  refine lv_goto (tgt := 58) hx hb dX0_init_54 (by decide) ?_
  refine va_iast (D := (dC, dI)) (cl := vwCl) hx hb hK hP hD (zS0 hS) 1 0 rfl rfl (by unfold vp_in; decide) dX0_init_58 (fun H16 locs hP hD hS1 => ?_)
  have hz : s.heap.size + 3 ≤ H16.size := Nat.le_trans hz hS1.1
  have hS := zSS hS hS1
  replace hP : va_P (dC, dI) vwCl [(a0, .inr (5, [.int 4, .int 4, .ref q3, .ref q6, .ref q9, .int 0])), (q3, .inl (cI, 4, .inl (upd (upd (upd (fun _ => 0) 0 0) 1 0) 2 0))), (q6, .inl (cI, 4, .inl (upd (upd (fun _ => 0) 0 (-1)) 1 (-1)))), (q9, .inl (cR, 4, .inr (.inr (.inr (.inr (fun _ => none))))))] H16 := hP
  replace hD : va_D A [(a0, .inr (5, [.int 4, .int 4, .ref q3, .ref q6, .ref q9, .int 0])), (q3, .inl (cI, 4, .inl (upd (upd (upd (fun _ => 0) 0 0) 1 0) 2 0))), (q6, .inl (cI, 4, .inl (upd (upd (fun _ => 0) 0 (-1)) 1 (-1)))), (q9, .inl (cR, 4, .inr (.inr (.inr (.inr (fun _ => none))))))] := hD
  refine lv_aload_n hx hb dX0_init_59 rfl (lv_at hl 1 rfl) ?_
  refine va_get (D := (dC, dI)) (ci := 5) (v := .ref q6) (C := RX0) (T := TX0) (N := 6) hx hb hts hi_X0_init_X0 hown hK hP 0 rfl rfl 3 (by decide) (hts (.fieldLink RX0 22 "Deeprows$Row" "values" "[I") (List.mem_cons_of_mem _ zw_113)) (fun _ h9 => h9) rfl dX0_init_60 ?_
  refine lv_iload_n hx hb dX0_init_63 rfl (lv_at hl 0 rfl) ?_
  refine lv_iload_n hx hb dX0_init_64 rfl (lv_at hl 2 rfl) ?_
  refine lv_iconst (v := 4) hx hb dX0_init_65 (by decide) ?_
  refine lv_icmp_ne (tgt := 73) hx hb dX0_init_66 (by decide) (fun c9 => ?_) (fun c9 => ?_)
  · exact absurd (by decide) c9
  refine lv_iconst (v := (-1)) hx hb dX0_init_69 (by decide) ?_
  refine lv_goto (tgt := 74) hx hb dX0_init_70 (by decide) ?_
  refine va_iast (D := (dC, dI)) (cl := vwCl) hx hb hK hP hD (zS0 hS) 2 0 rfl rfl (by unfold vp_in; decide) dX0_init_74 (fun H17 locs hP hD hS1 => ?_)
  have hz : s.heap.size + 3 ≤ H17.size := Nat.le_trans hz hS1.1
  have hS := zSS hS hS1
  replace hP : va_P (dC, dI) vwCl [(a0, .inr (5, [.int 4, .int 4, .ref q3, .ref q6, .ref q9, .int 0])), (q3, .inl (cI, 4, .inl (upd (upd (upd (fun _ => 0) 0 0) 1 0) 2 0))), (q6, .inl (cI, 4, .inl (upd (upd (upd (fun _ => 0) 0 (-1)) 1 (-1)) 2 (-1)))), (q9, .inl (cR, 4, .inr (.inr (.inr (.inr (fun _ => none))))))] H17 := hP
  replace hD : va_D A [(a0, .inr (5, [.int 4, .int 4, .ref q3, .ref q6, .ref q9, .int 0])), (q3, .inl (cI, 4, .inl (upd (upd (upd (fun _ => 0) 0 0) 1 0) 2 0))), (q6, .inl (cI, 4, .inl (upd (upd (upd (fun _ => 0) 0 (-1)) 1 (-1)) 2 (-1)))), (q9, .inl (cR, 4, .inr (.inr (.inr (.inr (fun _ => none))))))] := hD
  refine lv_iinc (v := 3) (lv' := [(3, .int 3), (0, .ref a0), (1, .int 4), (2, .int 4)]) hx hb dX0_init_75 hl (k := 0) rfl (by decide) (by decide) rfl (fun ls hl => ?_)
  refine lv_goto (tgt := 38) hx hb dX0_init_78 (by decide) ?_
  refine lv_iload_n hx hb dX0_init_38 rfl (lv_at hl 0 rfl) ?_
  refine lv_iload_n hx hb dX0_init_39 rfl (lv_at hl 3 rfl) ?_
  refine lv_icmp_ge (tgt := 81) hx hb dX0_init_40 (by decide) (fun c9 => ?_) (fun c9 => ?_)
  · exact absurd c9 (by decide)
  refine lv_aload_n hx hb dX0_init_43 rfl (lv_at hl 1 rfl) ?_
  refine va_get (D := (dC, dI)) (ci := 5) (v := .ref q3) (C := RX0) (T := TX0) (N := 6) hx hb hts hi_X0_init_X0 hown hK hP 0 rfl rfl 2 (by decide) (hts (.fieldLink RX0 18 "Deeprows$Row" "whats" "[I") (List.mem_cons_of_mem _ zw_111)) (fun _ h9 => h9) rfl dX0_init_44 ?_
  refine lv_iload_n hx hb dX0_init_47 rfl (lv_at hl 0 rfl) ?_
  refine lv_iload_n hx hb dX0_init_48 rfl (lv_at hl 2 rfl) ?_
  refine lv_iconst (v := 4) hx hb dX0_init_49 (by decide) ?_
  refine lv_icmp_ne (tgt := 57) hx hb dX0_init_50 (by decide) (fun c9 => ?_) (fun c9 => ?_)
  · exact absurd (by decide) c9
  refine lv_iconst (v := 0) hx hb dX0_init_53 (by decide) ?_
  refine lv_goto (tgt := 58) hx hb dX0_init_54 (by decide) ?_
  refine va_iast (D := (dC, dI)) (cl := vwCl) hx hb hK hP hD (zS0 hS) 1 0 rfl rfl (by unfold vp_in; decide) dX0_init_58 (fun H18 locs hP hD hS1 => ?_)
  have hz : s.heap.size + 3 ≤ H18.size := Nat.le_trans hz hS1.1
  have hS := zSS hS hS1
  replace hP : va_P (dC, dI) vwCl [(a0, .inr (5, [.int 4, .int 4, .ref q3, .ref q6, .ref q9, .int 0])), (q3, .inl (cI, 4, .inl (upd (upd (upd (upd (fun _ => 0) 0 0) 1 0) 2 0) 3 0))), (q6, .inl (cI, 4, .inl (upd (upd (upd (fun _ => 0) 0 (-1)) 1 (-1)) 2 (-1)))), (q9, .inl (cR, 4, .inr (.inr (.inr (.inr (fun _ => none))))))] H18 := hP
  replace hD : va_D A [(a0, .inr (5, [.int 4, .int 4, .ref q3, .ref q6, .ref q9, .int 0])), (q3, .inl (cI, 4, .inl (upd (upd (upd (upd (fun _ => 0) 0 0) 1 0) 2 0) 3 0))), (q6, .inl (cI, 4, .inl (upd (upd (upd (fun _ => 0) 0 (-1)) 1 (-1)) 2 (-1)))), (q9, .inl (cR, 4, .inr (.inr (.inr (.inr (fun _ => none))))))] := hD
  refine lv_aload_n hx hb dX0_init_59 rfl (lv_at hl 1 rfl) ?_
  refine va_get (D := (dC, dI)) (ci := 5) (v := .ref q6) (C := RX0) (T := TX0) (N := 6) hx hb hts hi_X0_init_X0 hown hK hP 0 rfl rfl 3 (by decide) (hts (.fieldLink RX0 22 "Deeprows$Row" "values" "[I") (List.mem_cons_of_mem _ zw_113)) (fun _ h9 => h9) rfl dX0_init_60 ?_
  refine lv_iload_n hx hb dX0_init_63 rfl (lv_at hl 0 rfl) ?_
  refine lv_iload_n hx hb dX0_init_64 rfl (lv_at hl 2 rfl) ?_
  refine lv_iconst (v := 4) hx hb dX0_init_65 (by decide) ?_
  refine lv_icmp_ne (tgt := 73) hx hb dX0_init_66 (by decide) (fun c9 => ?_) (fun c9 => ?_)
  · exact absurd (by decide) c9
  refine lv_iconst (v := (-1)) hx hb dX0_init_69 (by decide) ?_
  refine lv_goto (tgt := 74) hx hb dX0_init_70 (by decide) ?_
  refine va_iast (D := (dC, dI)) (cl := vwCl) hx hb hK hP hD (zS0 hS) 2 0 rfl rfl (by unfold vp_in; decide) dX0_init_74 (fun H19 locs hP hD hS1 => ?_)
  have hz : s.heap.size + 3 ≤ H19.size := Nat.le_trans hz hS1.1
  have hS := zSS hS hS1
  replace hP : va_P (dC, dI) vwCl [(a0, .inr (5, [.int 4, .int 4, .ref q3, .ref q6, .ref q9, .int 0])), (q3, .inl (cI, 4, .inl (upd (upd (upd (upd (fun _ => 0) 0 0) 1 0) 2 0) 3 0))), (q6, .inl (cI, 4, .inl (upd (upd (upd (upd (fun _ => 0) 0 (-1)) 1 (-1)) 2 (-1)) 3 (-1)))), (q9, .inl (cR, 4, .inr (.inr (.inr (.inr (fun _ => none))))))] H19 := hP
  replace hD : va_D A [(a0, .inr (5, [.int 4, .int 4, .ref q3, .ref q6, .ref q9, .int 0])), (q3, .inl (cI, 4, .inl (upd (upd (upd (upd (fun _ => 0) 0 0) 1 0) 2 0) 3 0))), (q6, .inl (cI, 4, .inl (upd (upd (upd (upd (fun _ => 0) 0 (-1)) 1 (-1)) 2 (-1)) 3 (-1)))), (q9, .inl (cR, 4, .inr (.inr (.inr (.inr (fun _ => none))))))] := hD
  refine lv_iinc (v := 4) (lv' := [(3, .int 4), (0, .ref a0), (1, .int 4), (2, .int 4)]) hx hb dX0_init_75 hl (k := 0) rfl (by decide) (by decide) rfl (fun ls hl => ?_)
  refine lv_goto (tgt := 38) hx hb dX0_init_78 (by decide) ?_
  refine lv_iload_n hx hb dX0_init_38 rfl (lv_at hl 0 rfl) ?_
  refine lv_iload_n hx hb dX0_init_39 rfl (lv_at hl 3 rfl) ?_
  refine lv_icmp_ge (tgt := 81) hx hb dX0_init_40 (by decide) (fun c9 => ?_) (fun c9 => ?_)
  rotate_left
  · exact absurd (by decide) c9
  have hP9 := hP.sub (ws' := [(a0, .inr (5, [.int 4, .int 4, .ref q3, .ref q6, .ref q9, .int 0]))]) [0] rfl
  have hD9 := hD.sub (ws' := [(a0, .inr (5, [.int 4, .int 4, .ref q3, .ref q6, .ref q9, .int 0]))]) [0] (by decide) rfl
  exact W.vret hx hb hr (fun t ht hW => ⟨⟨(), rfl, trivial, ⟨_, _, _, ⟨by rw [ht]; exact hP9, va_K.moved hW.alike hK, hD9, by rw [ht]; exact hz⟩⟩⟩, hS.F ht⟩) hS.2.2 dX0_init_81

set_option maxHeartbeats 4000000 in
set_option maxRecDepth 100000 in
theorem k_rI4s (l : Launch) (dC : Nat → ClassId) (dI : Nat → Nat → Nat) (cI cB cR cO : ClassId) (zk : Nat → Nat) (a0 : Nat) (kd : Int32) (sz : Nat) (hkd : ¬ kd = 4) : Met l yX0_init wsX0_init ({ frames := 1, cells := 3, slots := 12, locals := 60 }) (va_Pc [.ref a0, .int kd, .int 4] (zPre (dC, dI) (zT cI cB cR cO) zk [] [(a0, .inr (5, [.int 0, .int 0, .null, .null, .null, .int 0]))] sz)) (va_Qv (fun _ : Unit => True) (fun _ t => ∃ w1, ∃ v1, ∃ h1, zEnd (dC, dI) (zT cI cB cR cO) (va_A [(a0, .inr (5, [.int 0, .int 0, .null, .null, .null, .int 0]))] sz) [(a0, .inr (5, [.int kd, .int 4, .ref w1, .ref v1, .ref h1, .int 0]))] sz 3 t) (va_A [(a0, .inr (5, [.int 0, .int 0, .null, .null, .null, .int 0]))] sz)) 3 12 (va_A [(a0, .inr (5, [.int 0, .int 0, .null, .null, .null, .int 0]))] sz) := by
  refine Met.ofW (cc := cX0_init) (maxL := 4) (ret := none) (by decide) rfl ?_
  intro p e s mY args below meth c s₁ B hml hv
  obtain ⟨rfl, hsz, hP, hK, hD0, hZ⟩ := hv
  have hx := B.exec
  have hb := B.bytes
  have hr := B.returns
  have hts := atoms_spec (ws := wsX0_init) B.pre
  have hown : s.vm.findClass RX0 = some mY.cls := findClass_of_methodNamed B.named
  have hlocks := B.notSynchronized
  have hin : meth.name = "<init>" := (name_of_methodNamed B.named B.method).1
  subst hsz
  have hD := hD0.self (sz := s.heap.size)
  generalize hAe : va_A [(a0, .inr (5, [.int 0, .int 0, .null, .null, .null, .int 0]))] s.heap.size = A at hD hZ ⊢
  have hA : ∀ q : Nat, s.heap.size ≤ q → A q := fun q h => by rw [← hAe]; exact Or.inr h
  have hS : va_S A s.heap s.heap [] := va_S.rf
  have hz : s.heap.size + 0 ≤ s.heap.size := Nat.le_refl _
  have hl := lv_entry ([.ref a0, .int kd, .int 4]) (n := 4) (Nat.le_of_ble_eq_true rfl)
  rw [lg_entry_eq]
  generalize (lg_sl ([.ref a0, .int kd, .int 4]) ++ List.replicate (4 - (lg_sl ([.ref a0, .int kd, .int 4])).length) Slot.unset).toArray = ls at hl ⊢
  have hl : lv_has ls 4 [(0, .ref a0), (1, .int kd), (2, .int 4)] := hl
  have hP : va_P (dC, dI) vwCl [(a0, .inr (5, [.int 0, .int 0, .null, .null, .null, .int 0]))] s.heap := hP
  have hD : va_D A [(a0, .inr (5, [.int 0, .int 0, .null, .null, .null, .int 0]))] := hD
  refine lv_aload_n hx hb dX0_init_0 rfl (lv_at hl 0 rfl) ?_
  refine W.objInit hx hb hown (hts (.methodLink RX0 3 objectInit) (List.mem_cons_of_mem _ zw_104)) (hts (.instanceMethod objectInit) (List.mem_cons_of_mem _ zw_71)) (hts (.code objectInit ⟨#[0xb1]⟩ 1 none) (List.mem_cons_of_mem _ zw_72)) rfl (by rw [hml]; exact hl.1) rfl dX0_init_1 (Nat.le_of_ble_eq_true rfl) (Nat.le_of_ble_eq_true rfl) ?_
  refine W.eq (g2 := F0 mY 4 ls []) rfl ?_
  refine lv_aload_n hx hb dX0_init_4 rfl (lv_at hl 0 rfl) ?_
  refine lv_iload_n hx hb dX0_init_5 rfl (lv_at hl 1 rfl) ?_
  refine va_putF (D := (dC, dI)) (ci := 5) (v := .int kd) (ty := .int) (C := RX0) (T := TX0) (N := 6) hx hb hts hi_X0_init_X0 tyX0 tyX0_ok nmX0 hown hK hP hD (zS0 hS) 0 rfl rfl 0 (by decide) (hts (.fieldLink RX0 9 "Deeprows$Row" "kind" "I") (List.mem_cons_of_mem _ zw_107)) (fun _ h9 => h9) rfl hin rfl (by decide +kernel) rfl rfl (Nat.le_of_ble_eq_true rfl) dX0_init_6 (fun H1 locs hP hD hS1 => ?_)
  have hz : s.heap.size + 0 ≤ H1.size := Nat.le_trans hz hS1.1
  have hS := zSS hS hS1
  replace hP : va_P (dC, dI) vwCl [(a0, .inr (5, [.int kd, .int 0, .null, .null, .null, .int 0]))] H1 := hP
  replace hD : va_D A [(a0, .inr (5, [.int kd, .int 0, .null, .null, .null, .int 0]))] := hD
  refine lv_aload_n hx hb dX0_init_9 rfl (lv_at hl 0 rfl) ?_
  refine lv_iload_n hx hb dX0_init_10 rfl (lv_at hl 2 rfl) ?_
  refine va_putF (D := (dC, dI)) (ci := 5) (v := .int 4) (ty := .int) (C := RX0) (T := TX0) (N := 6) hx hb hts hi_X0_init_X0 tyX0 tyX0_ok nmX0 hown hK hP hD (zS0 hS) 0 rfl rfl 1 (by decide) (hts (.fieldLink RX0 15 "Deeprows$Row" "length" "I") (List.mem_cons_of_mem _ zw_109)) (fun _ h9 => h9) rfl hin rfl (by decide +kernel) rfl rfl (Nat.le_of_ble_eq_true rfl) dX0_init_11 (fun H2 locs hP hD hS1 => ?_)
  have hz : s.heap.size + 0 ≤ H2.size := Nat.le_trans hz hS1.1
  have hS := zSS hS hS1
  replace hP : va_P (dC, dI) vwCl [(a0, .inr (5, [.int kd, .int 4, .null, .null, .null, .int 0]))] H2 := hP
  replace hD : va_D A [(a0, .inr (5, [.int kd, .int 4, .null, .null, .null, .int 0]))] := hD
  refine lv_aload_n hx hb dX0_init_14 rfl (lv_at hl 0 rfl) ?_
  refine lv_iload_n hx hb dX0_init_15 rfl (lv_at hl 2 rfl) ?_
  refine zw_newa (atype := .int) (ty := .int) (N' := 4) hx hb (hts (.arrayClass .int) (List.mem_cons_of_mem _ zw_131)) rfl (by first | exact Or.inl rfl | exact Or.inr rfl) hK hP hD hS hA 0 rfl (by decide) (by decide) (Nat.le_of_ble_eq_true rfl) (Nat.le_of_ble_eq_true rfl) (Nat.le_of_ble_eq_true rfl) dX0_init_16 hz (fun q3 H4 hP hD hS hz => ?_)
  replace hP : va_P (dC, dI) vwCl [(a0, .inr (5, [.int kd, .int 4, .null, .null, .null, .int 0])), (q3, .inl (cI, 4, .inl (fun _ => 0)))] H4 := hP
  replace hD : va_D A [(a0, .inr (5, [.int kd, .int 4, .null, .null, .null, .int 0])), (q3, .inl (cI, 4, .inl (fun _ => 0)))] := hD
  refine W.widen (k := 1) (n := 4) (by omega) (by omega) ?_
  refine va_putF (D := (dC, dI)) (ci := 5) (v := .ref q3) (ty := .array .int) (C := RX0) (T := TX0) (N := 6) hx hb hts hi_X0_init_X0 tyX0 tyX0_ok nmX0 hown hK hP hD (zS0 hS) 0 rfl rfl 2 (by decide) (hts (.fieldLink RX0 18 "Deeprows$Row" "whats" "[I") (List.mem_cons_of_mem _ zw_111)) (fun _ h9 => h9) rfl hin rfl (by decide +kernel) rfl rfl (Nat.le_of_ble_eq_true rfl) dX0_init_18 (fun H5 locs hP hD hS1 => ?_)
  have hz : s.heap.size + 1 ≤ H5.size := Nat.le_trans hz hS1.1
  have hS := zSS hS hS1
  replace hP : va_P (dC, dI) vwCl [(a0, .inr (5, [.int kd, .int 4, .ref q3, .null, .null, .int 0])), (q3, .inl (cI, 4, .inl (fun _ => 0)))] H5 := hP
  replace hD : va_D A [(a0, .inr (5, [.int kd, .int 4, .ref q3, .null, .null, .int 0])), (q3, .inl (cI, 4, .inl (fun _ => 0)))] := hD
  refine lv_aload_n hx hb dX0_init_21 rfl (lv_at hl 0 rfl) ?_
  refine lv_iload_n hx hb dX0_init_22 rfl (lv_at hl 2 rfl) ?_
  refine zw_newa (atype := .int) (ty := .int) (N' := 4) hx hb (hts (.arrayClass .int) (List.mem_cons_of_mem _ zw_131)) rfl (by first | exact Or.inl rfl | exact Or.inr rfl) hK hP hD hS hA 0 rfl (by decide) (by decide) (Nat.le_of_ble_eq_true rfl) (Nat.le_of_ble_eq_true rfl) (Nat.le_of_ble_eq_true rfl) dX0_init_23 hz (fun q6 H7 hP hD hS hz => ?_)
  replace hP : va_P (dC, dI) vwCl [(a0, .inr (5, [.int kd, .int 4, .ref q3, .null, .null, .int 0])), (q3, .inl (cI, 4, .inl (fun _ => 0))), (q6, .inl (cI, 4, .inl (fun _ => 0)))] H7 := hP
  replace hD : va_D A [(a0, .inr (5, [.int kd, .int 4, .ref q3, .null, .null, .int 0])), (q3, .inl (cI, 4, .inl (fun _ => 0))), (q6, .inl (cI, 4, .inl (fun _ => 0)))] := hD
  refine W.widen (k := 2) (n := 8) (by omega) (by omega) ?_
  refine va_putF (D := (dC, dI)) (ci := 5) (v := .ref q6) (ty := .array .int) (C := RX0) (T := TX0) (N := 6) hx hb hts hi_X0_init_X0 tyX0 tyX0_ok nmX0 hown hK hP hD (zS0 hS) 0 rfl rfl 3 (by decide) (hts (.fieldLink RX0 22 "Deeprows$Row" "values" "[I") (List.mem_cons_of_mem _ zw_113)) (fun _ h9 => h9) rfl hin rfl (by decide +kernel) rfl rfl (Nat.le_of_ble_eq_true rfl) dX0_init_25 (fun H8 locs hP hD hS1 => ?_)
  have hz : s.heap.size + 2 ≤ H8.size := Nat.le_trans hz hS1.1
  have hS := zSS hS hS1
  replace hP : va_P (dC, dI) vwCl [(a0, .inr (5, [.int kd, .int 4, .ref q3, .ref q6, .null, .int 0])), (q3, .inl (cI, 4, .inl (fun _ => 0))), (q6, .inl (cI, 4, .inl (fun _ => 0)))] H8 := hP
  replace hD : va_D A [(a0, .inr (5, [.int kd, .int 4, .ref q3, .ref q6, .null, .int 0])), (q3, .inl (cI, 4, .inl (fun _ => 0))), (q6, .inl (cI, 4, .inl (fun _ => 0)))] := hD
  refine lv_aload_n hx hb dX0_init_28 rfl (lv_at hl 0 rfl) ?_
  refine lv_iload_n hx hb dX0_init_29 rfl (lv_at hl 2 rfl) ?_
  refine zw_newq (C := "Deeprows$Row") (N' := 4) hx hb hown (hts (.classLink RX0 10 RX0) (List.mem_cons_of_mem _ zw_105)) (za0 hZ) hK hP hD hS hA 2 rfl (by decide) (by decide) (by decide) (Nat.le_of_ble_eq_true rfl) (Nat.le_of_ble_eq_true rfl) dX0_init_30 hz (fun q9 H10 hP hD hS hz => ?_)
  replace hP : va_P (dC, dI) vwCl [(a0, .inr (5, [.int kd, .int 4, .ref q3, .ref q6, .null, .int 0])), (q3, .inl (cI, 4, .inl (fun _ => 0))), (q6, .inl (cI, 4, .inl (fun _ => 0))), (q9, .inl (cR, 4, .inr (.inr (.inr (.inr (fun _ => none))))))] H10 := hP
  replace hD : va_D A [(a0, .inr (5, [.int kd, .int 4, .ref q3, .ref q6, .null, .int 0])), (q3, .inl (cI, 4, .inl (fun _ => 0))), (q6, .inl (cI, 4, .inl (fun _ => 0))), (q9, .inl (cR, 4, .inr (.inr (.inr (.inr (fun _ => none))))))] := hD
  refine W.widen (k := 3) (n := 12) (by omega) (by omega) ?_
  refine va_putF (D := (dC, dI)) (ci := 5) (v := .ref q9) (ty := .array (.object "Deeprows$Row")) (C := RX0) (T := TX0) (N := 6) hx hb hts hi_X0_init_X0 tyX0 tyX0_ok nmX0 hown hK hP hD (zS0 hS) 0 rfl rfl 4 (by decide) (hts (.fieldLink RX0 25 "Deeprows$Row" "hung" "[LDeeprows$Row;") (List.mem_cons_of_mem _ zw_115)) (fun _ h9 => h9) rfl hin rfl (by decide +kernel) rfl rfl (Nat.le_of_ble_eq_true rfl) dX0_init_33 (fun H11 locs hP hD hS1 => ?_)
  have hz : s.heap.size + 3 ≤ H11.size := Nat.le_trans hz hS1.1
  have hS := zSS hS hS1
  replace hP : va_P (dC, dI) vwCl [(a0, .inr (5, [.int kd, .int 4, .ref q3, .ref q6, .ref q9, .int 0])), (q3, .inl (cI, 4, .inl (fun _ => 0))), (q6, .inl (cI, 4, .inl (fun _ => 0))), (q9, .inl (cR, 4, .inr (.inr (.inr (.inr (fun _ => none))))))] H11 := hP
  replace hD : va_D A [(a0, .inr (5, [.int kd, .int 4, .ref q3, .ref q6, .ref q9, .int 0])), (q3, .inl (cI, 4, .inl (fun _ => 0))), (q6, .inl (cI, 4, .inl (fun _ => 0))), (q9, .inl (cR, 4, .inr (.inr (.inr (.inr (fun _ => none))))))] := hD
  refine lv_iconst (v := 0) hx hb dX0_init_36 (by decide) ?_
  refine lv_istore_n (lv' := [(3, .int 0), (0, .ref a0), (1, .int kd), (2, .int 4)]) hx hb dX0_init_37 rfl hl (by decide) rfl (fun ls hl => ?_)
  refine lv_iload_n hx hb dX0_init_38 rfl (lv_at hl 0 rfl) ?_
  refine lv_iload_n hx hb dX0_init_39 rfl (lv_at hl 3 rfl) ?_
  refine lv_icmp_ge (tgt := 81) hx hb dX0_init_40 (by decide) (fun c9 => ?_) (fun c9 => ?_)
  · exact absurd c9 (by decide)
  refine lv_aload_n hx hb dX0_init_43 rfl (lv_at hl 1 rfl) ?_
  refine va_get (D := (dC, dI)) (ci := 5) (v := .ref q3) (C := RX0) (T := TX0) (N := 6) hx hb hts hi_X0_init_X0 hown hK hP 0 rfl rfl 2 (by decide) (hts (.fieldLink RX0 18 "Deeprows$Row" "whats" "[I") (List.mem_cons_of_mem _ zw_111)) (fun _ h9 => h9) rfl dX0_init_44 ?_
  refine lv_iload_n hx hb dX0_init_47 rfl (lv_at hl 0 rfl) ?_
  refine lv_iload_n hx hb dX0_init_48 rfl (lv_at hl 2 rfl) ?_
  refine lv_iconst (v := 4) hx hb dX0_init_49 (by decide) ?_
  refine lv_icmp_ne (tgt := 57) hx hb dX0_init_50 (by decide) (fun c9 => ?_) (fun c9 => ?_)
  rotate_left
  · exact absurd c9 (hkd)
  refine lv_iconst (v := 1) hx hb dX0_init_57 (by decide) ?_
  refine va_iast (D := (dC, dI)) (cl := vwCl) hx hb hK hP hD (zS0 hS) 1 0 rfl rfl (by unfold vp_in; decide) dX0_init_58 (fun H12 locs hP hD hS1 => ?_)
  have hz : s.heap.size + 3 ≤ H12.size := Nat.le_trans hz hS1.1
  have hS := zSS hS hS1
  replace hP : va_P (dC, dI) vwCl [(a0, .inr (5, [.int kd, .int 4, .ref q3, .ref q6, .ref q9, .int 0])), (q3, .inl (cI, 4, .inl (upd (fun _ => 0) 0 1))), (q6, .inl (cI, 4, .inl (fun _ => 0))), (q9, .inl (cR, 4, .inr (.inr (.inr (.inr (fun _ => none))))))] H12 := hP
  replace hD : va_D A [(a0, .inr (5, [.int kd, .int 4, .ref q3, .ref q6, .ref q9, .int 0])), (q3, .inl (cI, 4, .inl (upd (fun _ => 0) 0 1))), (q6, .inl (cI, 4, .inl (fun _ => 0))), (q9, .inl (cR, 4, .inr (.inr (.inr (.inr (fun _ => none))))))] := hD
  refine lv_aload_n hx hb dX0_init_59 rfl (lv_at hl 1 rfl) ?_
  refine va_get (D := (dC, dI)) (ci := 5) (v := .ref q6) (C := RX0) (T := TX0) (N := 6) hx hb hts hi_X0_init_X0 hown hK hP 0 rfl rfl 3 (by decide) (hts (.fieldLink RX0 22 "Deeprows$Row" "values" "[I") (List.mem_cons_of_mem _ zw_113)) (fun _ h9 => h9) rfl dX0_init_60 ?_
  refine lv_iload_n hx hb dX0_init_63 rfl (lv_at hl 0 rfl) ?_
  refine lv_iload_n hx hb dX0_init_64 rfl (lv_at hl 2 rfl) ?_
  refine lv_iconst (v := 4) hx hb dX0_init_65 (by decide) ?_
  refine lv_icmp_ne (tgt := 73) hx hb dX0_init_66 (by decide) (fun c9 => ?_) (fun c9 => ?_)
  rotate_left
  · exact absurd c9 (hkd)
  refine lv_iconst (v := 0) hx hb dX0_init_73 (by decide) ?_
  refine va_iast (D := (dC, dI)) (cl := vwCl) hx hb hK hP hD (zS0 hS) 2 0 rfl rfl (by unfold vp_in; decide) dX0_init_74 (fun H13 locs hP hD hS1 => ?_)
  have hz : s.heap.size + 3 ≤ H13.size := Nat.le_trans hz hS1.1
  have hS := zSS hS hS1
  replace hP : va_P (dC, dI) vwCl [(a0, .inr (5, [.int kd, .int 4, .ref q3, .ref q6, .ref q9, .int 0])), (q3, .inl (cI, 4, .inl (upd (fun _ => 0) 0 1))), (q6, .inl (cI, 4, .inl (upd (fun _ => 0) 0 0))), (q9, .inl (cR, 4, .inr (.inr (.inr (.inr (fun _ => none))))))] H13 := hP
  replace hD : va_D A [(a0, .inr (5, [.int kd, .int 4, .ref q3, .ref q6, .ref q9, .int 0])), (q3, .inl (cI, 4, .inl (upd (fun _ => 0) 0 1))), (q6, .inl (cI, 4, .inl (upd (fun _ => 0) 0 0))), (q9, .inl (cR, 4, .inr (.inr (.inr (.inr (fun _ => none))))))] := hD
  refine lv_iinc (v := 1) (lv' := [(3, .int 1), (0, .ref a0), (1, .int kd), (2, .int 4)]) hx hb dX0_init_75 hl (k := 0) rfl (by decide) (by decide) rfl (fun ls hl => ?_)
  refine lv_goto (tgt := 38) hx hb dX0_init_78 (by decide) ?_
  refine lv_iload_n hx hb dX0_init_38 rfl (lv_at hl 0 rfl) ?_
  refine lv_iload_n hx hb dX0_init_39 rfl (lv_at hl 3 rfl) ?_
  refine lv_icmp_ge (tgt := 81) hx hb dX0_init_40 (by decide) (fun c9 => ?_) (fun c9 => ?_)
  · exact absurd c9 (by decide)
  refine lv_aload_n hx hb dX0_init_43 rfl (lv_at hl 1 rfl) ?_
  refine va_get (D := (dC, dI)) (ci := 5) (v := .ref q3) (C := RX0) (T := TX0) (N := 6) hx hb hts hi_X0_init_X0 hown hK hP 0 rfl rfl 2 (by decide) (hts (.fieldLink RX0 18 "Deeprows$Row" "whats" "[I") (List.mem_cons_of_mem _ zw_111)) (fun _ h9 => h9) rfl dX0_init_44 ?_
  refine lv_iload_n hx hb dX0_init_47 rfl (lv_at hl 0 rfl) ?_
  refine lv_iload_n hx hb dX0_init_48 rfl (lv_at hl 2 rfl) ?_
  refine lv_iconst (v := 4) hx hb dX0_init_49 (by decide) ?_
  refine lv_icmp_ne (tgt := 57) hx hb dX0_init_50 (by decide) (fun c9 => ?_) (fun c9 => ?_)
  rotate_left
  · exact absurd c9 (hkd)
  refine lv_iconst (v := 1) hx hb dX0_init_57 (by decide) ?_
  refine va_iast (D := (dC, dI)) (cl := vwCl) hx hb hK hP hD (zS0 hS) 1 0 rfl rfl (by unfold vp_in; decide) dX0_init_58 (fun H14 locs hP hD hS1 => ?_)
  have hz : s.heap.size + 3 ≤ H14.size := Nat.le_trans hz hS1.1
  have hS := zSS hS hS1
  replace hP : va_P (dC, dI) vwCl [(a0, .inr (5, [.int kd, .int 4, .ref q3, .ref q6, .ref q9, .int 0])), (q3, .inl (cI, 4, .inl (upd (upd (fun _ => 0) 0 1) 1 1))), (q6, .inl (cI, 4, .inl (upd (fun _ => 0) 0 0))), (q9, .inl (cR, 4, .inr (.inr (.inr (.inr (fun _ => none))))))] H14 := hP
  replace hD : va_D A [(a0, .inr (5, [.int kd, .int 4, .ref q3, .ref q6, .ref q9, .int 0])), (q3, .inl (cI, 4, .inl (upd (upd (fun _ => 0) 0 1) 1 1))), (q6, .inl (cI, 4, .inl (upd (fun _ => 0) 0 0))), (q9, .inl (cR, 4, .inr (.inr (.inr (.inr (fun _ => none))))))] := hD
  refine lv_aload_n hx hb dX0_init_59 rfl (lv_at hl 1 rfl) ?_
  refine va_get (D := (dC, dI)) (ci := 5) (v := .ref q6) (C := RX0) (T := TX0) (N := 6) hx hb hts hi_X0_init_X0 hown hK hP 0 rfl rfl 3 (by decide) (hts (.fieldLink RX0 22 "Deeprows$Row" "values" "[I") (List.mem_cons_of_mem _ zw_113)) (fun _ h9 => h9) rfl dX0_init_60 ?_
  refine lv_iload_n hx hb dX0_init_63 rfl (lv_at hl 0 rfl) ?_
  refine lv_iload_n hx hb dX0_init_64 rfl (lv_at hl 2 rfl) ?_
  refine lv_iconst (v := 4) hx hb dX0_init_65 (by decide) ?_
  refine lv_icmp_ne (tgt := 73) hx hb dX0_init_66 (by decide) (fun c9 => ?_) (fun c9 => ?_)
  rotate_left
  · exact absurd c9 (hkd)
  refine lv_iconst (v := 0) hx hb dX0_init_73 (by decide) ?_
  refine va_iast (D := (dC, dI)) (cl := vwCl) hx hb hK hP hD (zS0 hS) 2 0 rfl rfl (by unfold vp_in; decide) dX0_init_74 (fun H15 locs hP hD hS1 => ?_)
  have hz : s.heap.size + 3 ≤ H15.size := Nat.le_trans hz hS1.1
  have hS := zSS hS hS1
  replace hP : va_P (dC, dI) vwCl [(a0, .inr (5, [.int kd, .int 4, .ref q3, .ref q6, .ref q9, .int 0])), (q3, .inl (cI, 4, .inl (upd (upd (fun _ => 0) 0 1) 1 1))), (q6, .inl (cI, 4, .inl (upd (upd (fun _ => 0) 0 0) 1 0))), (q9, .inl (cR, 4, .inr (.inr (.inr (.inr (fun _ => none))))))] H15 := hP
  replace hD : va_D A [(a0, .inr (5, [.int kd, .int 4, .ref q3, .ref q6, .ref q9, .int 0])), (q3, .inl (cI, 4, .inl (upd (upd (fun _ => 0) 0 1) 1 1))), (q6, .inl (cI, 4, .inl (upd (upd (fun _ => 0) 0 0) 1 0))), (q9, .inl (cR, 4, .inr (.inr (.inr (.inr (fun _ => none))))))] := hD
  refine lv_iinc (v := 2) (lv' := [(3, .int 2), (0, .ref a0), (1, .int kd), (2, .int 4)]) hx hb dX0_init_75 hl (k := 0) rfl (by decide) (by decide) rfl (fun ls hl => ?_)
  refine lv_goto (tgt := 38) hx hb dX0_init_78 (by decide) ?_
  refine lv_iload_n hx hb dX0_init_38 rfl (lv_at hl 0 rfl) ?_
  refine lv_iload_n hx hb dX0_init_39 rfl (lv_at hl 3 rfl) ?_
  refine lv_icmp_ge (tgt := 81) hx hb dX0_init_40 (by decide) (fun c9 => ?_) (fun c9 => ?_)
  · exact absurd c9 (by decide)
  refine lv_aload_n hx hb dX0_init_43 rfl (lv_at hl 1 rfl) ?_
  refine va_get (D := (dC, dI)) (ci := 5) (v := .ref q3) (C := RX0) (T := TX0) (N := 6) hx hb hts hi_X0_init_X0 hown hK hP 0 rfl rfl 2 (by decide) (hts (.fieldLink RX0 18 "Deeprows$Row" "whats" "[I") (List.mem_cons_of_mem _ zw_111)) (fun _ h9 => h9) rfl dX0_init_44 ?_
  refine lv_iload_n hx hb dX0_init_47 rfl (lv_at hl 0 rfl) ?_
  refine lv_iload_n hx hb dX0_init_48 rfl (lv_at hl 2 rfl) ?_
  refine lv_iconst (v := 4) hx hb dX0_init_49 (by decide) ?_
  refine lv_icmp_ne (tgt := 57) hx hb dX0_init_50 (by decide) (fun c9 => ?_) (fun c9 => ?_)
  rotate_left
  · exact absurd c9 (hkd)
  refine lv_iconst (v := 1) hx hb dX0_init_57 (by decide) ?_
  refine va_iast (D := (dC, dI)) (cl := vwCl) hx hb hK hP hD (zS0 hS) 1 0 rfl rfl (by unfold vp_in; decide) dX0_init_58 (fun H16 locs hP hD hS1 => ?_)
  have hz : s.heap.size + 3 ≤ H16.size := Nat.le_trans hz hS1.1
  have hS := zSS hS hS1
  replace hP : va_P (dC, dI) vwCl [(a0, .inr (5, [.int kd, .int 4, .ref q3, .ref q6, .ref q9, .int 0])), (q3, .inl (cI, 4, .inl (upd (upd (upd (fun _ => 0) 0 1) 1 1) 2 1))), (q6, .inl (cI, 4, .inl (upd (upd (fun _ => 0) 0 0) 1 0))), (q9, .inl (cR, 4, .inr (.inr (.inr (.inr (fun _ => none))))))] H16 := hP
  replace hD : va_D A [(a0, .inr (5, [.int kd, .int 4, .ref q3, .ref q6, .ref q9, .int 0])), (q3, .inl (cI, 4, .inl (upd (upd (upd (fun _ => 0) 0 1) 1 1) 2 1))), (q6, .inl (cI, 4, .inl (upd (upd (fun _ => 0) 0 0) 1 0))), (q9, .inl (cR, 4, .inr (.inr (.inr (.inr (fun _ => none))))))] := hD
  refine lv_aload_n hx hb dX0_init_59 rfl (lv_at hl 1 rfl) ?_
  refine va_get (D := (dC, dI)) (ci := 5) (v := .ref q6) (C := RX0) (T := TX0) (N := 6) hx hb hts hi_X0_init_X0 hown hK hP 0 rfl rfl 3 (by decide) (hts (.fieldLink RX0 22 "Deeprows$Row" "values" "[I") (List.mem_cons_of_mem _ zw_113)) (fun _ h9 => h9) rfl dX0_init_60 ?_
  refine lv_iload_n hx hb dX0_init_63 rfl (lv_at hl 0 rfl) ?_
  refine lv_iload_n hx hb dX0_init_64 rfl (lv_at hl 2 rfl) ?_
  refine lv_iconst (v := 4) hx hb dX0_init_65 (by decide) ?_
  refine lv_icmp_ne (tgt := 73) hx hb dX0_init_66 (by decide) (fun c9 => ?_) (fun c9 => ?_)
  rotate_left
  · exact absurd c9 (hkd)
  refine lv_iconst (v := 0) hx hb dX0_init_73 (by decide) ?_
  refine va_iast (D := (dC, dI)) (cl := vwCl) hx hb hK hP hD (zS0 hS) 2 0 rfl rfl (by unfold vp_in; decide) dX0_init_74 (fun H17 locs hP hD hS1 => ?_)
  have hz : s.heap.size + 3 ≤ H17.size := Nat.le_trans hz hS1.1
  have hS := zSS hS hS1
  replace hP : va_P (dC, dI) vwCl [(a0, .inr (5, [.int kd, .int 4, .ref q3, .ref q6, .ref q9, .int 0])), (q3, .inl (cI, 4, .inl (upd (upd (upd (fun _ => 0) 0 1) 1 1) 2 1))), (q6, .inl (cI, 4, .inl (upd (upd (upd (fun _ => 0) 0 0) 1 0) 2 0))), (q9, .inl (cR, 4, .inr (.inr (.inr (.inr (fun _ => none))))))] H17 := hP
  replace hD : va_D A [(a0, .inr (5, [.int kd, .int 4, .ref q3, .ref q6, .ref q9, .int 0])), (q3, .inl (cI, 4, .inl (upd (upd (upd (fun _ => 0) 0 1) 1 1) 2 1))), (q6, .inl (cI, 4, .inl (upd (upd (upd (fun _ => 0) 0 0) 1 0) 2 0))), (q9, .inl (cR, 4, .inr (.inr (.inr (.inr (fun _ => none))))))] := hD
  refine lv_iinc (v := 3) (lv' := [(3, .int 3), (0, .ref a0), (1, .int kd), (2, .int 4)]) hx hb dX0_init_75 hl (k := 0) rfl (by decide) (by decide) rfl (fun ls hl => ?_)
  refine lv_goto (tgt := 38) hx hb dX0_init_78 (by decide) ?_
  refine lv_iload_n hx hb dX0_init_38 rfl (lv_at hl 0 rfl) ?_
  refine lv_iload_n hx hb dX0_init_39 rfl (lv_at hl 3 rfl) ?_
  refine lv_icmp_ge (tgt := 81) hx hb dX0_init_40 (by decide) (fun c9 => ?_) (fun c9 => ?_)
  · exact absurd c9 (by decide)
  refine lv_aload_n hx hb dX0_init_43 rfl (lv_at hl 1 rfl) ?_
  refine va_get (D := (dC, dI)) (ci := 5) (v := .ref q3) (C := RX0) (T := TX0) (N := 6) hx hb hts hi_X0_init_X0 hown hK hP 0 rfl rfl 2 (by decide) (hts (.fieldLink RX0 18 "Deeprows$Row" "whats" "[I") (List.mem_cons_of_mem _ zw_111)) (fun _ h9 => h9) rfl dX0_init_44 ?_
  refine lv_iload_n hx hb dX0_init_47 rfl (lv_at hl 0 rfl) ?_
  refine lv_iload_n hx hb dX0_init_48 rfl (lv_at hl 2 rfl) ?_
  refine lv_iconst (v := 4) hx hb dX0_init_49 (by decide) ?_
  refine lv_icmp_ne (tgt := 57) hx hb dX0_init_50 (by decide) (fun c9 => ?_) (fun c9 => ?_)
  rotate_left
  · exact absurd c9 (hkd)
  refine lv_iconst (v := 1) hx hb dX0_init_57 (by decide) ?_
  refine va_iast (D := (dC, dI)) (cl := vwCl) hx hb hK hP hD (zS0 hS) 1 0 rfl rfl (by unfold vp_in; decide) dX0_init_58 (fun H18 locs hP hD hS1 => ?_)
  have hz : s.heap.size + 3 ≤ H18.size := Nat.le_trans hz hS1.1
  have hS := zSS hS hS1
  replace hP : va_P (dC, dI) vwCl [(a0, .inr (5, [.int kd, .int 4, .ref q3, .ref q6, .ref q9, .int 0])), (q3, .inl (cI, 4, .inl (upd (upd (upd (upd (fun _ => 0) 0 1) 1 1) 2 1) 3 1))), (q6, .inl (cI, 4, .inl (upd (upd (upd (fun _ => 0) 0 0) 1 0) 2 0))), (q9, .inl (cR, 4, .inr (.inr (.inr (.inr (fun _ => none))))))] H18 := hP
  replace hD : va_D A [(a0, .inr (5, [.int kd, .int 4, .ref q3, .ref q6, .ref q9, .int 0])), (q3, .inl (cI, 4, .inl (upd (upd (upd (upd (fun _ => 0) 0 1) 1 1) 2 1) 3 1))), (q6, .inl (cI, 4, .inl (upd (upd (upd (fun _ => 0) 0 0) 1 0) 2 0))), (q9, .inl (cR, 4, .inr (.inr (.inr (.inr (fun _ => none))))))] := hD
  refine lv_aload_n hx hb dX0_init_59 rfl (lv_at hl 1 rfl) ?_
  refine va_get (D := (dC, dI)) (ci := 5) (v := .ref q6) (C := RX0) (T := TX0) (N := 6) hx hb hts hi_X0_init_X0 hown hK hP 0 rfl rfl 3 (by decide) (hts (.fieldLink RX0 22 "Deeprows$Row" "values" "[I") (List.mem_cons_of_mem _ zw_113)) (fun _ h9 => h9) rfl dX0_init_60 ?_
  refine lv_iload_n hx hb dX0_init_63 rfl (lv_at hl 0 rfl) ?_
  refine lv_iload_n hx hb dX0_init_64 rfl (lv_at hl 2 rfl) ?_
  refine lv_iconst (v := 4) hx hb dX0_init_65 (by decide) ?_
  refine lv_icmp_ne (tgt := 73) hx hb dX0_init_66 (by decide) (fun c9 => ?_) (fun c9 => ?_)
  rotate_left
  · exact absurd c9 (hkd)
  refine lv_iconst (v := 0) hx hb dX0_init_73 (by decide) ?_
  refine va_iast (D := (dC, dI)) (cl := vwCl) hx hb hK hP hD (zS0 hS) 2 0 rfl rfl (by unfold vp_in; decide) dX0_init_74 (fun H19 locs hP hD hS1 => ?_)
  have hz : s.heap.size + 3 ≤ H19.size := Nat.le_trans hz hS1.1
  have hS := zSS hS hS1
  replace hP : va_P (dC, dI) vwCl [(a0, .inr (5, [.int kd, .int 4, .ref q3, .ref q6, .ref q9, .int 0])), (q3, .inl (cI, 4, .inl (upd (upd (upd (upd (fun _ => 0) 0 1) 1 1) 2 1) 3 1))), (q6, .inl (cI, 4, .inl (upd (upd (upd (upd (fun _ => 0) 0 0) 1 0) 2 0) 3 0))), (q9, .inl (cR, 4, .inr (.inr (.inr (.inr (fun _ => none))))))] H19 := hP
  replace hD : va_D A [(a0, .inr (5, [.int kd, .int 4, .ref q3, .ref q6, .ref q9, .int 0])), (q3, .inl (cI, 4, .inl (upd (upd (upd (upd (fun _ => 0) 0 1) 1 1) 2 1) 3 1))), (q6, .inl (cI, 4, .inl (upd (upd (upd (upd (fun _ => 0) 0 0) 1 0) 2 0) 3 0))), (q9, .inl (cR, 4, .inr (.inr (.inr (.inr (fun _ => none))))))] := hD
  refine lv_iinc (v := 4) (lv' := [(3, .int 4), (0, .ref a0), (1, .int kd), (2, .int 4)]) hx hb dX0_init_75 hl (k := 0) rfl (by decide) (by decide) rfl (fun ls hl => ?_)
  refine lv_goto (tgt := 38) hx hb dX0_init_78 (by decide) ?_
  refine lv_iload_n hx hb dX0_init_38 rfl (lv_at hl 0 rfl) ?_
  refine lv_iload_n hx hb dX0_init_39 rfl (lv_at hl 3 rfl) ?_
  refine lv_icmp_ge (tgt := 81) hx hb dX0_init_40 (by decide) (fun c9 => ?_) (fun c9 => ?_)
  rotate_left
  · exact absurd (by decide) c9
  have hP9 := hP.sub (ws' := [(a0, .inr (5, [.int kd, .int 4, .ref q3, .ref q6, .ref q9, .int 0]))]) [0] rfl
  have hD9 := hD.sub (ws' := [(a0, .inr (5, [.int kd, .int 4, .ref q3, .ref q6, .ref q9, .int 0]))]) [0] (by decide) rfl
  exact W.vret hx hb hr (fun t ht hW => ⟨⟨(), rfl, trivial, ⟨_, _, _, ⟨by rw [ht]; exact hP9, va_K.moved hW.alike hK, hD9, by rw [ht]; exact hz⟩⟩⟩, hS.F ht⟩) hS.2.2 dX0_init_81

theorem hi_Jx4a65c_add_72be8_Jx4a65c : ∀ w ∈ u_ws RJx4a65c TJx4a65c 3, w ∈ wsJx4a65c_add_72be8 := fun w h => List.mem_cons_of_mem _ (zhi_Jx4a65c w h)
set_option maxHeartbeats 4000000 in
set_option maxRecDepth 100000 in
theorem k_ad3ZX0 (l : Launch) (dC : Nat → ClassId) (dI : Nat → Nat → Nat) (cI cB cR cO : ClassId) (zk : Nat → Nat) (al el : Nat) (mc : Int32) (kd ln e4 : Int32) (e1 e2 e3 : Nat) (sz : Nat)  : Met l yJx4a65c_add_72be8 wsJx4a65c_add_72be8 ({ frames := 3, cells := 1, slots := 10, locals := 83 }) (va_Pc [.ref al, .ref el, .ref (zk 0), .int 0] (zPre (dC, dI) (zT cI cB cR cO) zk [] [(al, .inr (4, [.int mc, .ref (zk 0), .int 0])), (el, .inr (5, [.int kd, .int ln, .ref e1, .ref e2, .ref e3, .int e4]))] sz)) (va_Qv (fun _ : Unit => True) (fun _ t => ∃ ed, zEnd (dC, dI) (zT cI cB cR cO) (va_A [(al, .inr (4, [.int mc, .ref (zk 0), .int 0])), (el, .inr (5, [.int kd, .int ln, .ref e1, .ref e2, .ref e3, .int e4]))] sz) [(al, .inr (4, [.int mc, .ref ed, .int 1])), (el, .inr (5, [.int kd, .int ln, .ref e1, .ref e2, .ref e3, .int e4]))] sz 1 t) (va_A [(al, .inr (4, [.int mc, .ref (zk 0), .int 0])), (el, .inr (5, [.int kd, .int ln, .ref e1, .ref e2, .ref e3, .int e4]))] sz)) 1 10 (va_A [(al, .inr (4, [.int mc, .ref (zk 0), .int 0])), (el, .inr (5, [.int kd, .int ln, .ref e1, .ref e2, .ref e3, .int e4]))] sz) := by
  refine Met.ofW (cc := cJx4a65c_add_72be8) (maxL := 4) (ret := none) (by decide) rfl ?_
  intro p e s mY args below meth c s₁ B hml hv
  obtain ⟨rfl, hsz, hP, hK, hD0, hZ⟩ := hv
  have hx := B.exec
  have hb := B.bytes
  have hr := B.returns
  have hts := atoms_spec (ws := wsJx4a65c_add_72be8) B.pre
  have hown : s.vm.findClass RJx4a65c = some mY.cls := findClass_of_methodNamed B.named
  have hlocks := B.notSynchronized
  subst hsz
  have hD := hD0.self (sz := s.heap.size)
  generalize hAe : va_A [(al, .inr (4, [.int mc, .ref (zk 0), .int 0])), (el, .inr (5, [.int kd, .int ln, .ref e1, .ref e2, .ref e3, .int e4]))] s.heap.size = A at hD hZ ⊢
  have hA : ∀ q : Nat, s.heap.size ≤ q → A q := fun q h => by rw [← hAe]; exact Or.inr h
  have hS : va_S A s.heap s.heap [] := va_S.rf
  have hz : s.heap.size + 0 ≤ s.heap.size := Nat.le_refl _
  have hl := lv_entry ([.ref al, .ref el, .ref (zk 0), .int 0]) (n := 4) (Nat.le_of_ble_eq_true rfl)
  rw [lg_entry_eq]
  generalize (lg_sl ([.ref al, .ref el, .ref (zk 0), .int 0]) ++ List.replicate (4 - (lg_sl ([.ref al, .ref el, .ref (zk 0), .int 0])).length) Slot.unset).toArray = ls at hl ⊢
  have hl : lv_has ls 4 [(0, .ref al), (1, .ref el), (2, .ref (zk 0)), (3, .int 0)] := hl
  have hP : va_P (dC, dI) vwCl [(al, .inr (4, [.int mc, .ref (zk 0), .int 0])), (el, .inr (5, [.int kd, .int ln, .ref e1, .ref e2, .ref e3, .int e4]))] s.heap := hP
  have hD : va_D A [(al, .inr (4, [.int mc, .ref (zk 0), .int 0])), (el, .inr (5, [.int kd, .int ln, .ref e1, .ref e2, .ref e3, .int e4]))] := hD
  refine lv_iload_n hx hb dJx4a65c_add_72be8_0 rfl (lv_at hl 3 rfl) ?_
  refine lv_aload_n hx hb dJx4a65c_add_72be8_1 rfl (lv_at hl 2 rfl) ?_
  refine va_tlen (v := 0) hx hb hZ.1.2.2.2.1 hS rfl dJx4a65c_add_72be8_2 ?_
  refine lv_icmp_ne (tgt := 11) hx hb dJx4a65c_add_72be8_3 (by decide) (fun c9 => ?_) (fun c9 => ?_)
  · exact absurd (by decide) c9
  refine lv_aload_n hx hb dJx4a65c_add_72be8_6 rfl (lv_at hl 0 rfl) ?_
  have hPc := hP.sub (ws' := [(al, .inr (4, [.int mc, .ref (zk 0), .int 0]))]) [0] rfl
  have hDc := hD.sub (ws' := [(al, .inr (4, [.int mc, .ref (zk 0), .int 0]))]) [0] (by decide) rfl
  have hFc := va_free (wc := [(al, .inr (4, [.int mc, .ref (zk 0), .int 0]))]) hD hS hA [0] rfl
  have hDv := hDc.self (sz := s.heap.size)
  have hpre := zpre (xs' := []) (av := [.ref al]) hPc hK (hDc.weaken (fun _ _ _ h => h)) hZ hS hFc (fun r hr => by cases hr)
  refine va_callr (va_runV (As := []) (rest := []) ⟨hx, hb, hml, hown, hts⟩ (k_grow0 l dC dI cI cB cR cO zk al mc s.heap.size ) (cwV 0 hts gJx4a65c_add_72be8_Jx4a65c_grow_d5877 rfl rfl rfl (by decide +kernel) ⟨Nat.le_of_ble_eq_true rfl, Nat.le_of_ble_eq_true rfl⟩) ⟨zblind, (zrecv_4 hK hPc (q0 := 0) rfl), hpre⟩ rfl rfl hl.1 rfl (lv_room (Nat.le_of_ble_eq_true rfl)) dJx4a65c_add_72be8_7 ⟨Nat.le_of_ble_eq_true rfl, Nat.le_of_ble_eq_true rfl⟩) hS (fun q _ h => hFc q h) hFc (fun u r2 t H1 locs ht hvm hw hB hz1 hk1 hS => ?_)
  obtain ⟨hP1, hK1, hD1, hz2⟩ := hB
  rw [ht] at hP1 hz2
  have hPD9 := va_join (wr := [(el, .inr (5, [.int kd, .int ln, .ref e1, .ref e2, .ref e3, .int e4]))]) (w1 := [(al, .inr (4, [.int mc, .ref r2, .int 0])), (r2, .inl (cO, 10, .inr (.inr (.inr (.inr (fun _ => none))))))]) hP hD [0] [1] rfl rfl (by decide) (by decide) hk1 hFc hP1 hD1
  clear hPc hDc hFc hDv hpre hP hD hP1 hK1 hD1
  obtain ⟨hP, hD⟩ := hPD9
  replace hz : s.heap.size + 1 ≤ H1.size := by omega
  clear hz2
  replace hP : va_P (dC, dI) vwCl [(el, .inr (5, [.int kd, .int ln, .ref e1, .ref e2, .ref e3, .int e4])), (al, .inr (4, [.int mc, .ref r2, .int 0])), (r2, .inl (cO, 10, .inr (.inr (.inr (.inr (fun _ => none))))))] H1 := hP
  replace hD : va_D A [(el, .inr (5, [.int kd, .int ln, .ref e1, .ref e2, .ref e3, .int e4])), (al, .inr (4, [.int mc, .ref r2, .int 0])), (r2, .inl (cO, 10, .inr (.inr (.inr (.inr (fun _ => none))))))] := hD
  refine W.widen (k := 1) (n := 10) (by omega) (by omega) ?_
  refine lv_astore_n (lv' := [(2, .ref r2), (0, .ref al), (1, .ref el), (3, .int 0)]) hx hb dJx4a65c_add_72be8_10 rfl hl (by decide) rfl (fun ls hl => ?_)
  refine lv_aload_n hx hb dJx4a65c_add_72be8_11 rfl (lv_at hl 0 rfl) ?_
  refine lv_iload_n hx hb dJx4a65c_add_72be8_12 rfl (lv_at hl 3 rfl) ?_
  refine lv_aload_n hx hb dJx4a65c_add_72be8_13 rfl (lv_at hl 2 rfl) ?_
  refine va_astqO (D := (dC, dI)) (cl := vwCl) (E := "java/lang/Object") hx hb hK hP hD (zS0 hS) 2 3 0 5 rfl rfl (zt1 hZ) rfl rfl (by unfold vp_in; decide) dJx4a65c_add_72be8_14 (fun H3 locs hP hD hS1 => ?_)
  have hz : s.heap.size + 1 ≤ H3.size := Nat.le_trans hz hS1.1
  have hS := zSS hS hS1
  replace hP : va_P (dC, dI) vwCl [(el, .inr (5, [.int kd, .int ln, .ref e1, .ref e2, .ref e3, .int e4])), (al, .inr (4, [.int mc, .ref r2, .int 0])), (r2, .inl (cO, 10, .inr (.inr (.inr (.inr (va_up (fun _ => none) 0 (some el)))))))] H3 := hP
  replace hD : va_D A [(el, .inr (5, [.int kd, .int ln, .ref e1, .ref e2, .ref e3, .int e4])), (al, .inr (4, [.int mc, .ref r2, .int 0])), (r2, .inl (cO, 10, .inr (.inr (.inr (.inr (va_up (fun _ => none) 0 (some el)))))))] := hD
  refine lv_aload_n hx hb dJx4a65c_add_72be8_15 rfl (lv_at hl 1 rfl) ?_
  refine lv_iload_n hx hb dJx4a65c_add_72be8_16 rfl (lv_at hl 3 rfl) ?_
  refine lv_iconst (v := 1) hx hb dJx4a65c_add_72be8_17 (by decide) ?_
  refine lv_iadd hx hb dJx4a65c_add_72be8_18 ?_
  refine lv_topi (fun v4 ev4 => ?_)
  obtain rfl : v4 = 1 := ev4.trans (by decide)
  refine va_put (D := (dC, dI)) (ci := 4) (v := .int 1) (ty := .int) (C := RJx4a65c) (T := TJx4a65c) (N := 3) hx hb hts hi_Jx4a65c_add_72be8_Jx4a65c tyJx4a65c tyJx4a65c_ok nmJx4a65c hown hK hP hD (zS0 hS) 1 rfl rfl 2 (by decide) (hts (.fieldLink RJx4a65c 48 "java/util/ArrayList" "size" "I") (List.mem_cons_of_mem _ zw_88)) (fun _ h9 => h9) rfl (by decide +kernel) rfl rfl (Nat.le_of_ble_eq_true rfl) dJx4a65c_add_72be8_19 (fun H5 locs hP hD hS1 => ?_)
  have hz : s.heap.size + 1 ≤ H5.size := Nat.le_trans hz hS1.1
  have hS := zSS hS hS1
  replace hP : va_P (dC, dI) vwCl [(el, .inr (5, [.int kd, .int ln, .ref e1, .ref e2, .ref e3, .int e4])), (al, .inr (4, [.int mc, .ref r2, .int 1])), (r2, .inl (cO, 10, .inr (.inr (.inr (.inr (va_up (fun _ => none) 0 (some el)))))))] H5 := hP
  replace hD : va_D A [(el, .inr (5, [.int kd, .int ln, .ref e1, .ref e2, .ref e3, .int e4])), (al, .inr (4, [.int mc, .ref r2, .int 1])), (r2, .inl (cO, 10, .inr (.inr (.inr (.inr (va_up (fun _ => none) 0 (some el)))))))] := hD
  have hP9 := hP.sub (ws' := [(al, .inr (4, [.int mc, .ref r2, .int 1])), (el, .inr (5, [.int kd, .int ln, .ref e1, .ref e2, .ref e3, .int e4]))]) [1, 0] rfl
  have hD9 := hD.sub (ws' := [(al, .inr (4, [.int mc, .ref r2, .int 1])), (el, .inr (5, [.int kd, .int ln, .ref e1, .ref e2, .ref e3, .int e4]))]) [1, 0] (by decide) rfl
  exact W.vret hx hb hr (fun t ht hW => ⟨⟨(), rfl, trivial, ⟨_, ⟨by rw [ht]; exact hP9, va_K.moved hW.alike hK, hD9, by rw [ht]; exact hz⟩⟩⟩, hS.F ht⟩) hS.2.2 dJx4a65c_add_72be8_22

theorem hi_Jx4a65c_add_9ea2d_Jx4a65c : ∀ w ∈ u_ws RJx4a65c TJx4a65c 3, w ∈ wsJx4a65c_add_9ea2d := fun w h => List.mem_cons_of_mem _ (zhi_Jx4a65c w h)
set_option maxHeartbeats 4000000 in
set_option maxRecDepth 100000 in
theorem k_addZX0 (l : Launch) (dC : Nat → ClassId) (dI : Nat → Nat → Nat) (cI cB cR cO : ClassId) (zk : Nat → Nat) (al el : Nat) (mc : Int32) (kd ln e4 : Int32) (e1 e2 e3 : Nat) (sz : Nat)  : Met l yJx4a65c_add_9ea2d wsJx4a65c_add_9ea2d ({ frames := 4, cells := 1, slots := 10, locals := 106 }) (va_Pc [.ref al, .ref el] (zPre (dC, dI) (zT cI cB cR cO) zk [] [(al, .inr (4, [.int mc, .ref (zk 0), .int 0])), (el, .inr (5, [.int kd, .int ln, .ref e1, .ref e2, .ref e3, .int e4]))] sz)) (va_Qi (fun r (_ : Unit) => r = 1) (fun _ t => ∃ ed, ∃ (mc2 : Int32), zEnd (dC, dI) (zT cI cB cR cO) (va_A [(al, .inr (4, [.int mc, .ref (zk 0), .int 0])), (el, .inr (5, [.int kd, .int ln, .ref e1, .ref e2, .ref e3, .int e4]))] sz) [(al, .inr (4, [.int mc2, .ref ed, .int 1])), (el, .inr (5, [.int kd, .int ln, .ref e1, .ref e2, .ref e3, .int e4]))] sz 1 t) (va_A [(al, .inr (4, [.int mc, .ref (zk 0), .int 0])), (el, .inr (5, [.int kd, .int ln, .ref e1, .ref e2, .ref e3, .int e4]))] sz)) 1 10 (va_A [(al, .inr (4, [.int mc, .ref (zk 0), .int 0])), (el, .inr (5, [.int kd, .int ln, .ref e1, .ref e2, .ref e3, .int e4]))] sz) := by
  refine Met.ofW (cc := cJx4a65c_add_9ea2d) (maxL := 2) (ret := (some .boolean)) (by decide) rfl ?_
  intro p e s mY args below meth c s₁ B hml hv
  obtain ⟨rfl, hsz, hP, hK, hD0, hZ⟩ := hv
  have hx := B.exec
  have hb := B.bytes
  have hr := B.returns
  have hts := atoms_spec (ws := wsJx4a65c_add_9ea2d) B.pre
  have hown : s.vm.findClass RJx4a65c = some mY.cls := findClass_of_methodNamed B.named
  have hlocks := B.notSynchronized
  subst hsz
  have hD := hD0.self (sz := s.heap.size)
  generalize hAe : va_A [(al, .inr (4, [.int mc, .ref (zk 0), .int 0])), (el, .inr (5, [.int kd, .int ln, .ref e1, .ref e2, .ref e3, .int e4]))] s.heap.size = A at hD hZ ⊢
  have hA : ∀ q : Nat, s.heap.size ≤ q → A q := fun q h => by rw [← hAe]; exact Or.inr h
  have hS : va_S A s.heap s.heap [] := va_S.rf
  have hz : s.heap.size + 0 ≤ s.heap.size := Nat.le_refl _
  have hl := lv_entry ([.ref al, .ref el]) (n := 2) (Nat.le_of_ble_eq_true rfl)
  rw [lg_entry_eq]
  generalize (lg_sl ([.ref al, .ref el]) ++ List.replicate (2 - (lg_sl ([.ref al, .ref el])).length) Slot.unset).toArray = ls at hl ⊢
  have hl : lv_has ls 2 [(0, .ref al), (1, .ref el)] := hl
  have hP : va_P (dC, dI) vwCl [(al, .inr (4, [.int mc, .ref (zk 0), .int 0])), (el, .inr (5, [.int kd, .int ln, .ref e1, .ref e2, .ref e3, .int e4]))] s.heap := hP
  have hD : va_D A [(al, .inr (4, [.int mc, .ref (zk 0), .int 0])), (el, .inr (5, [.int kd, .int ln, .ref e1, .ref e2, .ref e3, .int e4]))] := hD
  refine lv_aload_n hx hb dJx4a65c_add_9ea2d_0 rfl (lv_at hl 0 rfl) ?_
  refine lv_dup hx hb dJx4a65c_add_9ea2d_1 rfl ?_
  refine va_get (D := (dC, dI)) (ci := 4) (v := .int mc) (C := RJx4a65c) (T := TJx4a65c) (N := 3) hx hb hts hi_Jx4a65c_add_9ea2d_Jx4a65c hown hK hP 0 rfl rfl 0 (by decide) (hts (.fieldLink RJx4a65c 63 "java/util/ArrayList" "modCount" "I") (List.mem_cons_of_mem _ zw_90)) (fun x9 h9 => u_same (hts (.sameField "java/util/ArrayList" "java/util/AbstractList" "modCount" "I") (List.mem_cons_of_mem _ zw_91)) x9 h9) rfl dJx4a65c_add_9ea2d_2 ?_
  refine lv_iconst (v := 1) hx hb dJx4a65c_add_9ea2d_5 (by decide) ?_
  refine lv_iadd hx hb dJx4a65c_add_9ea2d_6 ?_
  refine lv_topi (fun v1 ev1 => ?_)
  refine va_put (D := (dC, dI)) (ci := 4) (v := .int v1) (ty := .int) (C := RJx4a65c) (T := TJx4a65c) (N := 3) hx hb hts hi_Jx4a65c_add_9ea2d_Jx4a65c tyJx4a65c tyJx4a65c_ok nmJx4a65c hown hK hP hD (zS0 hS) 0 rfl rfl 0 (by decide) (hts (.fieldLink RJx4a65c 63 "java/util/ArrayList" "modCount" "I") (List.mem_cons_of_mem _ zw_90)) (fun x9 h9 => u_same (hts (.sameField "java/util/ArrayList" "java/util/AbstractList" "modCount" "I") (List.mem_cons_of_mem _ zw_91)) x9 h9) rfl (by decide +kernel) rfl rfl (Nat.le_of_ble_eq_true rfl) dJx4a65c_add_9ea2d_7 (fun H2 locs hP hD hS1 => ?_)
  have hz : s.heap.size + 0 ≤ H2.size := Nat.le_trans hz hS1.1
  have hS := zSS hS hS1
  replace hP : va_P (dC, dI) vwCl [(al, .inr (4, [.int v1, .ref (zk 0), .int 0])), (el, .inr (5, [.int kd, .int ln, .ref e1, .ref e2, .ref e3, .int e4]))] H2 := hP
  replace hD : va_D A [(al, .inr (4, [.int v1, .ref (zk 0), .int 0])), (el, .inr (5, [.int kd, .int ln, .ref e1, .ref e2, .ref e3, .int e4]))] := hD
  refine lv_aload_n hx hb dJx4a65c_add_9ea2d_10 rfl (lv_at hl 0 rfl) ?_
  refine lv_aload_n hx hb dJx4a65c_add_9ea2d_11 rfl (lv_at hl 1 rfl) ?_
  refine lv_aload_n hx hb dJx4a65c_add_9ea2d_12 rfl (lv_at hl 0 rfl) ?_
  refine va_get (D := (dC, dI)) (ci := 4) (v := .ref (zk 0)) (C := RJx4a65c) (T := TJx4a65c) (N := 3) hx hb hts hi_Jx4a65c_add_9ea2d_Jx4a65c hown hK hP 0 rfl rfl 1 (by decide) (hts (.fieldLink RJx4a65c 9 "java/util/ArrayList" "elementData" "[Ljava/lang/Object;") (List.mem_cons_of_mem _ zw_87)) (fun _ h9 => h9) rfl dJx4a65c_add_9ea2d_13 ?_
  refine lv_aload_n hx hb dJx4a65c_add_9ea2d_16 rfl (lv_at hl 0 rfl) ?_
  refine va_get (D := (dC, dI)) (ci := 4) (v := .int 0) (C := RJx4a65c) (T := TJx4a65c) (N := 3) hx hb hts hi_Jx4a65c_add_9ea2d_Jx4a65c hown hK hP 0 rfl rfl 2 (by decide) (hts (.fieldLink RJx4a65c 48 "java/util/ArrayList" "size" "I") (List.mem_cons_of_mem _ zw_88)) (fun _ h9 => h9) rfl dJx4a65c_add_9ea2d_17 ?_
  have hPc := hP.sub (ws' := [(al, .inr (4, [.int v1, .ref (zk 0), .int 0])), (el, .inr (5, [.int kd, .int ln, .ref e1, .ref e2, .ref e3, .int e4]))]) [0, 1] rfl
  have hDc := hD.sub (ws' := [(al, .inr (4, [.int v1, .ref (zk 0), .int 0])), (el, .inr (5, [.int kd, .int ln, .ref e1, .ref e2, .ref e3, .int e4]))]) [0, 1] (by decide) rfl
  have hFc := va_free (wc := [(al, .inr (4, [.int v1, .ref (zk 0), .int 0])), (el, .inr (5, [.int kd, .int ln, .ref e1, .ref e2, .ref e3, .int e4]))]) hD hS hA [0, 1] rfl
  have hDv := hDc.self (sz := H2.size)
  have hpre := zpre (xs' := []) (av := [.ref al, .ref el, .ref (zk 0), .int 0]) hPc hK (hDc.weaken (fun _ _ _ h => h)) hZ hS hFc (fun r hr => by cases hr)
  refine va_callv (va_runV (As := [.ref el, .ref (zk 0), .int 0]) (rest := []) ⟨hx, hb, hml, hown, hts⟩ (k_ad3ZX0 l dC dI cI cB cR cO zk al el v1 kd ln e4 e1 e2 e3 H2.size ) (cwV 3 hts gJx4a65c_add_9ea2d_Jx4a65c_add_72be8 rfl rfl rfl (by decide +kernel) ⟨Nat.le_of_ble_eq_true rfl, Nat.le_of_ble_eq_true rfl⟩) ⟨zblind, (zrecv_4 hK hPc (q0 := 0) rfl), hpre⟩ rfl rfl hl.1 rfl (lv_room (Nat.le_of_ble_eq_true rfl)) dJx4a65c_add_9ea2d_20 ⟨Nat.le_of_ble_eq_true rfl, Nat.le_of_ble_eq_true rfl⟩) hS (fun q _ h => hFc q h) hFc (fun u t H3 locs ht hvm hw hB hz1 hk1 hS => ?_)
  obtain ⟨ed5, ⟨hP1, hK1, hD1, hz2⟩⟩ := hB
  rw [ht] at hP1 hz2
  have hPD9 := va_join (wr := []) (w1 := [(al, .inr (4, [.int v1, .ref ed5, .int 1])), (el, .inr (5, [.int kd, .int ln, .ref e1, .ref e2, .ref e3, .int e4]))]) hP hD [0, 1] [] rfl rfl (by decide) (by decide) hk1 hFc hP1 hD1
  clear hPc hDc hFc hDv hpre hP hD hP1 hK1 hD1
  obtain ⟨hP, hD⟩ := hPD9
  replace hz : s.heap.size + 1 ≤ H3.size := by omega
  clear hz2
  replace hP : va_P (dC, dI) vwCl [(al, .inr (4, [.int v1, .ref ed5, .int 1])), (el, .inr (5, [.int kd, .int ln, .ref e1, .ref e2, .ref e3, .int e4]))] H3 := hP
  replace hD : va_D A [(al, .inr (4, [.int v1, .ref ed5, .int 1])), (el, .inr (5, [.int kd, .int ln, .ref e1, .ref e2, .ref e3, .int e4]))] := hD
  refine W.widen (k := 1) (n := 10) (by omega) (by omega) ?_
  refine lv_iconst (v := 1) hx hb dJx4a65c_add_9ea2d_23 (by decide) ?_
  have hP9 := hP.sub (ws' := [(al, .inr (4, [.int v1, .ref ed5, .int 1])), (el, .inr (5, [.int kd, .int ln, .ref e1, .ref e2, .ref e3, .int e4]))]) [0, 1] rfl
  have hD9 := hD.sub (ws' := [(al, .inr (4, [.int v1, .ref ed5, .int 1])), (el, .inr (5, [.int kd, .int ln, .ref e1, .ref e2, .ref e3, .int e4]))]) [0, 1] (by decide) rfl
  exact W.zret (v := 1) hx hb hr (by decide +kernel) (fun t ht hW => ⟨⟨_, (), rfl, rfl, ⟨_, _, ⟨by rw [ht]; exact hP9, va_K.moved hW.alike hK, hD9, by rw [ht]; exact hz⟩⟩⟩, hS.F ht⟩) hS.2.2 dJx4a65c_add_9ea2d_24

set_option maxHeartbeats 4000000 in
set_option maxRecDepth 100000 in
theorem k_ad3ZX3 (l : Launch) (dC : Nat → ClassId) (dI : Nat → Nat → Nat) (cI cB cR cO : ClassId) (zk : Nat → Nat) (al el : Nat) (mc : Int32) (kd : Int32) (e1 e2 : Nat) (sz : Nat)  : Met l yJx4a65c_add_72be8 wsJx4a65c_add_72be8 ({ frames := 3, cells := 1, slots := 10, locals := 83 }) (va_Pc [.ref al, .ref el, .ref (zk 0), .int 0] (zPre (dC, dI) (zT cI cB cR cO) zk [] [(al, .inr (4, [.int mc, .ref (zk 0), .int 0])), (el, .inr (8, [.int kd, .ref e1, .ref e2]))] sz)) (va_Qv (fun _ : Unit => True) (fun _ t => ∃ ed, zEnd (dC, dI) (zT cI cB cR cO) (va_A [(al, .inr (4, [.int mc, .ref (zk 0), .int 0])), (el, .inr (8, [.int kd, .ref e1, .ref e2]))] sz) [(al, .inr (4, [.int mc, .ref ed, .int 1])), (el, .inr (8, [.int kd, .ref e1, .ref e2]))] sz 1 t) (va_A [(al, .inr (4, [.int mc, .ref (zk 0), .int 0])), (el, .inr (8, [.int kd, .ref e1, .ref e2]))] sz)) 1 10 (va_A [(al, .inr (4, [.int mc, .ref (zk 0), .int 0])), (el, .inr (8, [.int kd, .ref e1, .ref e2]))] sz) := by
  refine Met.ofW (cc := cJx4a65c_add_72be8) (maxL := 4) (ret := none) (by decide) rfl ?_
  intro p e s mY args below meth c s₁ B hml hv
  obtain ⟨rfl, hsz, hP, hK, hD0, hZ⟩ := hv
  have hx := B.exec
  have hb := B.bytes
  have hr := B.returns
  have hts := atoms_spec (ws := wsJx4a65c_add_72be8) B.pre
  have hown : s.vm.findClass RJx4a65c = some mY.cls := findClass_of_methodNamed B.named
  have hlocks := B.notSynchronized
  subst hsz
  have hD := hD0.self (sz := s.heap.size)
  generalize hAe : va_A [(al, .inr (4, [.int mc, .ref (zk 0), .int 0])), (el, .inr (8, [.int kd, .ref e1, .ref e2]))] s.heap.size = A at hD hZ ⊢
  have hA : ∀ q : Nat, s.heap.size ≤ q → A q := fun q h => by rw [← hAe]; exact Or.inr h
  have hS : va_S A s.heap s.heap [] := va_S.rf
  have hz : s.heap.size + 0 ≤ s.heap.size := Nat.le_refl _
  have hl := lv_entry ([.ref al, .ref el, .ref (zk 0), .int 0]) (n := 4) (Nat.le_of_ble_eq_true rfl)
  rw [lg_entry_eq]
  generalize (lg_sl ([.ref al, .ref el, .ref (zk 0), .int 0]) ++ List.replicate (4 - (lg_sl ([.ref al, .ref el, .ref (zk 0), .int 0])).length) Slot.unset).toArray = ls at hl ⊢
  have hl : lv_has ls 4 [(0, .ref al), (1, .ref el), (2, .ref (zk 0)), (3, .int 0)] := hl
  have hP : va_P (dC, dI) vwCl [(al, .inr (4, [.int mc, .ref (zk 0), .int 0])), (el, .inr (8, [.int kd, .ref e1, .ref e2]))] s.heap := hP
  have hD : va_D A [(al, .inr (4, [.int mc, .ref (zk 0), .int 0])), (el, .inr (8, [.int kd, .ref e1, .ref e2]))] := hD
  refine lv_iload_n hx hb dJx4a65c_add_72be8_0 rfl (lv_at hl 3 rfl) ?_
  refine lv_aload_n hx hb dJx4a65c_add_72be8_1 rfl (lv_at hl 2 rfl) ?_
  refine va_tlen (v := 0) hx hb hZ.1.2.2.2.1 hS rfl dJx4a65c_add_72be8_2 ?_
  refine lv_icmp_ne (tgt := 11) hx hb dJx4a65c_add_72be8_3 (by decide) (fun c9 => ?_) (fun c9 => ?_)
  · exact absurd (by decide) c9
  refine lv_aload_n hx hb dJx4a65c_add_72be8_6 rfl (lv_at hl 0 rfl) ?_
  have hPc := hP.sub (ws' := [(al, .inr (4, [.int mc, .ref (zk 0), .int 0]))]) [0] rfl
  have hDc := hD.sub (ws' := [(al, .inr (4, [.int mc, .ref (zk 0), .int 0]))]) [0] (by decide) rfl
  have hFc := va_free (wc := [(al, .inr (4, [.int mc, .ref (zk 0), .int 0]))]) hD hS hA [0] rfl
  have hDv := hDc.self (sz := s.heap.size)
  have hpre := zpre (xs' := []) (av := [.ref al]) hPc hK (hDc.weaken (fun _ _ _ h => h)) hZ hS hFc (fun r hr => by cases hr)
  refine va_callr (va_runV (As := []) (rest := []) ⟨hx, hb, hml, hown, hts⟩ (k_grow0 l dC dI cI cB cR cO zk al mc s.heap.size ) (cwV 0 hts gJx4a65c_add_72be8_Jx4a65c_grow_d5877 rfl rfl rfl (by decide +kernel) ⟨Nat.le_of_ble_eq_true rfl, Nat.le_of_ble_eq_true rfl⟩) ⟨zblind, (zrecv_4 hK hPc (q0 := 0) rfl), hpre⟩ rfl rfl hl.1 rfl (lv_room (Nat.le_of_ble_eq_true rfl)) dJx4a65c_add_72be8_7 ⟨Nat.le_of_ble_eq_true rfl, Nat.le_of_ble_eq_true rfl⟩) hS (fun q _ h => hFc q h) hFc (fun u r2 t H1 locs ht hvm hw hB hz1 hk1 hS => ?_)
  obtain ⟨hP1, hK1, hD1, hz2⟩ := hB
  rw [ht] at hP1 hz2
  have hPD9 := va_join (wr := [(el, .inr (8, [.int kd, .ref e1, .ref e2]))]) (w1 := [(al, .inr (4, [.int mc, .ref r2, .int 0])), (r2, .inl (cO, 10, .inr (.inr (.inr (.inr (fun _ => none))))))]) hP hD [0] [1] rfl rfl (by decide) (by decide) hk1 hFc hP1 hD1
  clear hPc hDc hFc hDv hpre hP hD hP1 hK1 hD1
  obtain ⟨hP, hD⟩ := hPD9
  replace hz : s.heap.size + 1 ≤ H1.size := by omega
  clear hz2
  replace hP : va_P (dC, dI) vwCl [(el, .inr (8, [.int kd, .ref e1, .ref e2])), (al, .inr (4, [.int mc, .ref r2, .int 0])), (r2, .inl (cO, 10, .inr (.inr (.inr (.inr (fun _ => none))))))] H1 := hP
  replace hD : va_D A [(el, .inr (8, [.int kd, .ref e1, .ref e2])), (al, .inr (4, [.int mc, .ref r2, .int 0])), (r2, .inl (cO, 10, .inr (.inr (.inr (.inr (fun _ => none))))))] := hD
  refine W.widen (k := 1) (n := 10) (by omega) (by omega) ?_
  refine lv_astore_n (lv' := [(2, .ref r2), (0, .ref al), (1, .ref el), (3, .int 0)]) hx hb dJx4a65c_add_72be8_10 rfl hl (by decide) rfl (fun ls hl => ?_)
  refine lv_aload_n hx hb dJx4a65c_add_72be8_11 rfl (lv_at hl 0 rfl) ?_
  refine lv_iload_n hx hb dJx4a65c_add_72be8_12 rfl (lv_at hl 3 rfl) ?_
  refine lv_aload_n hx hb dJx4a65c_add_72be8_13 rfl (lv_at hl 2 rfl) ?_
  refine va_astqO (D := (dC, dI)) (cl := vwCl) (E := "java/lang/Object") hx hb hK hP hD (zS0 hS) 2 3 0 8 rfl rfl (zt2 hZ) rfl rfl (by unfold vp_in; decide) dJx4a65c_add_72be8_14 (fun H3 locs hP hD hS1 => ?_)
  have hz : s.heap.size + 1 ≤ H3.size := Nat.le_trans hz hS1.1
  have hS := zSS hS hS1
  replace hP : va_P (dC, dI) vwCl [(el, .inr (8, [.int kd, .ref e1, .ref e2])), (al, .inr (4, [.int mc, .ref r2, .int 0])), (r2, .inl (cO, 10, .inr (.inr (.inr (.inr (va_up (fun _ => none) 0 (some el)))))))] H3 := hP
  replace hD : va_D A [(el, .inr (8, [.int kd, .ref e1, .ref e2])), (al, .inr (4, [.int mc, .ref r2, .int 0])), (r2, .inl (cO, 10, .inr (.inr (.inr (.inr (va_up (fun _ => none) 0 (some el)))))))] := hD
  refine lv_aload_n hx hb dJx4a65c_add_72be8_15 rfl (lv_at hl 1 rfl) ?_
  refine lv_iload_n hx hb dJx4a65c_add_72be8_16 rfl (lv_at hl 3 rfl) ?_
  refine lv_iconst (v := 1) hx hb dJx4a65c_add_72be8_17 (by decide) ?_
  refine lv_iadd hx hb dJx4a65c_add_72be8_18 ?_
  refine lv_topi (fun v4 ev4 => ?_)
  obtain rfl : v4 = 1 := ev4.trans (by decide)
  refine va_put (D := (dC, dI)) (ci := 4) (v := .int 1) (ty := .int) (C := RJx4a65c) (T := TJx4a65c) (N := 3) hx hb hts hi_Jx4a65c_add_72be8_Jx4a65c tyJx4a65c tyJx4a65c_ok nmJx4a65c hown hK hP hD (zS0 hS) 1 rfl rfl 2 (by decide) (hts (.fieldLink RJx4a65c 48 "java/util/ArrayList" "size" "I") (List.mem_cons_of_mem _ zw_88)) (fun _ h9 => h9) rfl (by decide +kernel) rfl rfl (Nat.le_of_ble_eq_true rfl) dJx4a65c_add_72be8_19 (fun H5 locs hP hD hS1 => ?_)
  have hz : s.heap.size + 1 ≤ H5.size := Nat.le_trans hz hS1.1
  have hS := zSS hS hS1
  replace hP : va_P (dC, dI) vwCl [(el, .inr (8, [.int kd, .ref e1, .ref e2])), (al, .inr (4, [.int mc, .ref r2, .int 1])), (r2, .inl (cO, 10, .inr (.inr (.inr (.inr (va_up (fun _ => none) 0 (some el)))))))] H5 := hP
  replace hD : va_D A [(el, .inr (8, [.int kd, .ref e1, .ref e2])), (al, .inr (4, [.int mc, .ref r2, .int 1])), (r2, .inl (cO, 10, .inr (.inr (.inr (.inr (va_up (fun _ => none) 0 (some el)))))))] := hD
  have hP9 := hP.sub (ws' := [(al, .inr (4, [.int mc, .ref r2, .int 1])), (el, .inr (8, [.int kd, .ref e1, .ref e2]))]) [1, 0] rfl
  have hD9 := hD.sub (ws' := [(al, .inr (4, [.int mc, .ref r2, .int 1])), (el, .inr (8, [.int kd, .ref e1, .ref e2]))]) [1, 0] (by decide) rfl
  exact W.vret hx hb hr (fun t ht hW => ⟨⟨(), rfl, trivial, ⟨_, ⟨by rw [ht]; exact hP9, va_K.moved hW.alike hK, hD9, by rw [ht]; exact hz⟩⟩⟩, hS.F ht⟩) hS.2.2 dJx4a65c_add_72be8_22

set_option maxHeartbeats 4000000 in
set_option maxRecDepth 100000 in
theorem k_addZX3 (l : Launch) (dC : Nat → ClassId) (dI : Nat → Nat → Nat) (cI cB cR cO : ClassId) (zk : Nat → Nat) (al el : Nat) (mc : Int32) (kd : Int32) (e1 e2 : Nat) (sz : Nat)  : Met l yJx4a65c_add_9ea2d wsJx4a65c_add_9ea2d ({ frames := 4, cells := 1, slots := 10, locals := 106 }) (va_Pc [.ref al, .ref el] (zPre (dC, dI) (zT cI cB cR cO) zk [] [(al, .inr (4, [.int mc, .ref (zk 0), .int 0])), (el, .inr (8, [.int kd, .ref e1, .ref e2]))] sz)) (va_Qi (fun r (_ : Unit) => r = 1) (fun _ t => ∃ ed, ∃ (mc2 : Int32), zEnd (dC, dI) (zT cI cB cR cO) (va_A [(al, .inr (4, [.int mc, .ref (zk 0), .int 0])), (el, .inr (8, [.int kd, .ref e1, .ref e2]))] sz) [(al, .inr (4, [.int mc2, .ref ed, .int 1])), (el, .inr (8, [.int kd, .ref e1, .ref e2]))] sz 1 t) (va_A [(al, .inr (4, [.int mc, .ref (zk 0), .int 0])), (el, .inr (8, [.int kd, .ref e1, .ref e2]))] sz)) 1 10 (va_A [(al, .inr (4, [.int mc, .ref (zk 0), .int 0])), (el, .inr (8, [.int kd, .ref e1, .ref e2]))] sz) := by
  refine Met.ofW (cc := cJx4a65c_add_9ea2d) (maxL := 2) (ret := (some .boolean)) (by decide) rfl ?_
  intro p e s mY args below meth c s₁ B hml hv
  obtain ⟨rfl, hsz, hP, hK, hD0, hZ⟩ := hv
  have hx := B.exec
  have hb := B.bytes
  have hr := B.returns
  have hts := atoms_spec (ws := wsJx4a65c_add_9ea2d) B.pre
  have hown : s.vm.findClass RJx4a65c = some mY.cls := findClass_of_methodNamed B.named
  have hlocks := B.notSynchronized
  subst hsz
  have hD := hD0.self (sz := s.heap.size)
  generalize hAe : va_A [(al, .inr (4, [.int mc, .ref (zk 0), .int 0])), (el, .inr (8, [.int kd, .ref e1, .ref e2]))] s.heap.size = A at hD hZ ⊢
  have hA : ∀ q : Nat, s.heap.size ≤ q → A q := fun q h => by rw [← hAe]; exact Or.inr h
  have hS : va_S A s.heap s.heap [] := va_S.rf
  have hz : s.heap.size + 0 ≤ s.heap.size := Nat.le_refl _
  have hl := lv_entry ([.ref al, .ref el]) (n := 2) (Nat.le_of_ble_eq_true rfl)
  rw [lg_entry_eq]
  generalize (lg_sl ([.ref al, .ref el]) ++ List.replicate (2 - (lg_sl ([.ref al, .ref el])).length) Slot.unset).toArray = ls at hl ⊢
  have hl : lv_has ls 2 [(0, .ref al), (1, .ref el)] := hl
  have hP : va_P (dC, dI) vwCl [(al, .inr (4, [.int mc, .ref (zk 0), .int 0])), (el, .inr (8, [.int kd, .ref e1, .ref e2]))] s.heap := hP
  have hD : va_D A [(al, .inr (4, [.int mc, .ref (zk 0), .int 0])), (el, .inr (8, [.int kd, .ref e1, .ref e2]))] := hD
  refine lv_aload_n hx hb dJx4a65c_add_9ea2d_0 rfl (lv_at hl 0 rfl) ?_
  refine lv_dup hx hb dJx4a65c_add_9ea2d_1 rfl ?_
  refine va_get (D := (dC, dI)) (ci := 4) (v := .int mc) (C := RJx4a65c) (T := TJx4a65c) (N := 3) hx hb hts hi_Jx4a65c_add_9ea2d_Jx4a65c hown hK hP 0 rfl rfl 0 (by decide) (hts (.fieldLink RJx4a65c 63 "java/util/ArrayList" "modCount" "I") (List.mem_cons_of_mem _ zw_90)) (fun x9 h9 => u_same (hts (.sameField "java/util/ArrayList" "java/util/AbstractList" "modCount" "I") (List.mem_cons_of_mem _ zw_91)) x9 h9) rfl dJx4a65c_add_9ea2d_2 ?_
  refine lv_iconst (v := 1) hx hb dJx4a65c_add_9ea2d_5 (by decide) ?_
  refine lv_iadd hx hb dJx4a65c_add_9ea2d_6 ?_
  refine lv_topi (fun v1 ev1 => ?_)
  refine va_put (D := (dC, dI)) (ci := 4) (v := .int v1) (ty := .int) (C := RJx4a65c) (T := TJx4a65c) (N := 3) hx hb hts hi_Jx4a65c_add_9ea2d_Jx4a65c tyJx4a65c tyJx4a65c_ok nmJx4a65c hown hK hP hD (zS0 hS) 0 rfl rfl 0 (by decide) (hts (.fieldLink RJx4a65c 63 "java/util/ArrayList" "modCount" "I") (List.mem_cons_of_mem _ zw_90)) (fun x9 h9 => u_same (hts (.sameField "java/util/ArrayList" "java/util/AbstractList" "modCount" "I") (List.mem_cons_of_mem _ zw_91)) x9 h9) rfl (by decide +kernel) rfl rfl (Nat.le_of_ble_eq_true rfl) dJx4a65c_add_9ea2d_7 (fun H2 locs hP hD hS1 => ?_)
  have hz : s.heap.size + 0 ≤ H2.size := Nat.le_trans hz hS1.1
  have hS := zSS hS hS1
  replace hP : va_P (dC, dI) vwCl [(al, .inr (4, [.int v1, .ref (zk 0), .int 0])), (el, .inr (8, [.int kd, .ref e1, .ref e2]))] H2 := hP
  replace hD : va_D A [(al, .inr (4, [.int v1, .ref (zk 0), .int 0])), (el, .inr (8, [.int kd, .ref e1, .ref e2]))] := hD
  refine lv_aload_n hx hb dJx4a65c_add_9ea2d_10 rfl (lv_at hl 0 rfl) ?_
  refine lv_aload_n hx hb dJx4a65c_add_9ea2d_11 rfl (lv_at hl 1 rfl) ?_
  refine lv_aload_n hx hb dJx4a65c_add_9ea2d_12 rfl (lv_at hl 0 rfl) ?_
  refine va_get (D := (dC, dI)) (ci := 4) (v := .ref (zk 0)) (C := RJx4a65c) (T := TJx4a65c) (N := 3) hx hb hts hi_Jx4a65c_add_9ea2d_Jx4a65c hown hK hP 0 rfl rfl 1 (by decide) (hts (.fieldLink RJx4a65c 9 "java/util/ArrayList" "elementData" "[Ljava/lang/Object;") (List.mem_cons_of_mem _ zw_87)) (fun _ h9 => h9) rfl dJx4a65c_add_9ea2d_13 ?_
  refine lv_aload_n hx hb dJx4a65c_add_9ea2d_16 rfl (lv_at hl 0 rfl) ?_
  refine va_get (D := (dC, dI)) (ci := 4) (v := .int 0) (C := RJx4a65c) (T := TJx4a65c) (N := 3) hx hb hts hi_Jx4a65c_add_9ea2d_Jx4a65c hown hK hP 0 rfl rfl 2 (by decide) (hts (.fieldLink RJx4a65c 48 "java/util/ArrayList" "size" "I") (List.mem_cons_of_mem _ zw_88)) (fun _ h9 => h9) rfl dJx4a65c_add_9ea2d_17 ?_
  have hPc := hP.sub (ws' := [(al, .inr (4, [.int v1, .ref (zk 0), .int 0])), (el, .inr (8, [.int kd, .ref e1, .ref e2]))]) [0, 1] rfl
  have hDc := hD.sub (ws' := [(al, .inr (4, [.int v1, .ref (zk 0), .int 0])), (el, .inr (8, [.int kd, .ref e1, .ref e2]))]) [0, 1] (by decide) rfl
  have hFc := va_free (wc := [(al, .inr (4, [.int v1, .ref (zk 0), .int 0])), (el, .inr (8, [.int kd, .ref e1, .ref e2]))]) hD hS hA [0, 1] rfl
  have hDv := hDc.self (sz := H2.size)
  have hpre := zpre (xs' := []) (av := [.ref al, .ref el, .ref (zk 0), .int 0]) hPc hK (hDc.weaken (fun _ _ _ h => h)) hZ hS hFc (fun r hr => by cases hr)
  refine va_callv (va_runV (As := [.ref el, .ref (zk 0), .int 0]) (rest := []) ⟨hx, hb, hml, hown, hts⟩ (k_ad3ZX3 l dC dI cI cB cR cO zk al el v1 kd e1 e2 H2.size ) (cwV 3 hts gJx4a65c_add_9ea2d_Jx4a65c_add_72be8 rfl rfl rfl (by decide +kernel) ⟨Nat.le_of_ble_eq_true rfl, Nat.le_of_ble_eq_true rfl⟩) ⟨zblind, (zrecv_4 hK hPc (q0 := 0) rfl), hpre⟩ rfl rfl hl.1 rfl (lv_room (Nat.le_of_ble_eq_true rfl)) dJx4a65c_add_9ea2d_20 ⟨Nat.le_of_ble_eq_true rfl, Nat.le_of_ble_eq_true rfl⟩) hS (fun q _ h => hFc q h) hFc (fun u t H3 locs ht hvm hw hB hz1 hk1 hS => ?_)
  obtain ⟨ed5, ⟨hP1, hK1, hD1, hz2⟩⟩ := hB
  rw [ht] at hP1 hz2
  have hPD9 := va_join (wr := []) (w1 := [(al, .inr (4, [.int v1, .ref ed5, .int 1])), (el, .inr (8, [.int kd, .ref e1, .ref e2]))]) hP hD [0, 1] [] rfl rfl (by decide) (by decide) hk1 hFc hP1 hD1
  clear hPc hDc hFc hDv hpre hP hD hP1 hK1 hD1
  obtain ⟨hP, hD⟩ := hPD9
  replace hz : s.heap.size + 1 ≤ H3.size := by omega
  clear hz2
  replace hP : va_P (dC, dI) vwCl [(al, .inr (4, [.int v1, .ref ed5, .int 1])), (el, .inr (8, [.int kd, .ref e1, .ref e2]))] H3 := hP
  replace hD : va_D A [(al, .inr (4, [.int v1, .ref ed5, .int 1])), (el, .inr (8, [.int kd, .ref e1, .ref e2]))] := hD
  refine W.widen (k := 1) (n := 10) (by omega) (by omega) ?_
  refine lv_iconst (v := 1) hx hb dJx4a65c_add_9ea2d_23 (by decide) ?_
  have hP9 := hP.sub (ws' := [(al, .inr (4, [.int v1, .ref ed5, .int 1])), (el, .inr (8, [.int kd, .ref e1, .ref e2]))]) [0, 1] rfl
  have hD9 := hD.sub (ws' := [(al, .inr (4, [.int v1, .ref ed5, .int 1])), (el, .inr (8, [.int kd, .ref e1, .ref e2]))]) [0, 1] (by decide) rfl
  exact W.zret (v := 1) hx hb hr (by decide +kernel) (fun t ht hW => ⟨⟨_, (), rfl, rfl, ⟨_, _, ⟨by rw [ht]; exact hP9, va_K.moved hW.alike hK, hD9, by rw [ht]; exact hz⟩⟩⟩, hS.F ht⟩) hS.2.2 dJx4a65c_add_9ea2d_24

theorem hi_X1_addRow_X1 : ∀ w ∈ u_ws RX1 TX1 8, w ∈ wsX1_addRow := fun w h => List.mem_cons_of_mem _ (zhi_X1 w h)
theorem hi_X1_addRow_X0 : ∀ w ∈ u_ws RX0 TX0 6, w ∈ wsX1_addRow := fun w h => List.mem_cons_of_mem _ (zhi_X0 w h)
set_option maxHeartbeats 4000000 in
set_option maxRecDepth 100000 in
theorem k_adRZ (l : Launch) (dC : Nat → ClassId) (dI : Nat → Nat → Nat) (cI cB cR cO : ClassId) (zk : Nat → Nat) (xo al b1 : Nat) (x1 x2 x3 x4 x5 x7 : Value) (mc : Int32) (el e1 e2 e3 : Nat) (kd ln : Int32) (sz : Nat)  : Met l yX1_addRow wsX1_addRow ({ frames := 5, cells := 1, slots := 10, locals := 127 }) (va_Pc [.ref xo, .ref el] (zPre (dC, dI) (zT cI cB cR cO) zk [] [(xo, .inr (6, [.ref al, x1, x2, x3, x4, x5, .ref b1, x7])), (al, .inr (4, [.int mc, .ref (zk 0), .int 0])), (el, .inr (5, [.int kd, .int ln, .ref e1, .ref e2, .ref e3, .int 0]))] sz)) (va_Qr (fun _ : Unit => True) (fun _ ra t => zEnd (dC, dI) (zT cI cB cR cO) (va_A [(xo, .inr (6, [.ref al, x1, x2, x3, x4, x5, .ref b1, x7])), (al, .inr (4, [.int mc, .ref (zk 0), .int 0])), (el, .inr (5, [.int kd, .int ln, .ref e1, .ref e2, .ref e3, .int 0]))] sz) [(xo, .inr (6, [.ref al, x1, x2, x3, x4, x5, .ref b1, x7])), (el, .inr (5, [.int kd, .int ln, .ref e1, .ref e2, .ref e3, .int 0]))] sz 1 t ∧ ra = el) (va_A [(xo, .inr (6, [.ref al, x1, x2, x3, x4, x5, .ref b1, x7])), (al, .inr (4, [.int mc, .ref (zk 0), .int 0])), (el, .inr (5, [.int kd, .int ln, .ref e1, .ref e2, .ref e3, .int 0]))] sz)) 1 10 (va_A [(xo, .inr (6, [.ref al, x1, x2, x3, x4, x5, .ref b1, x7])), (al, .inr (4, [.int mc, .ref (zk 0), .int 0])), (el, .inr (5, [.int kd, .int ln, .ref e1, .ref e2, .ref e3, .int 0]))] sz) := by
  refine Met.ofW (cc := cX1_addRow) (maxL := 2) (ret := (some (.object "Deeprows$Row"))) (by decide) rfl ?_
  intro p e s mY args below meth c s₁ B hml hv
  obtain ⟨rfl, hsz, hP, hK, hD0, hZ⟩ := hv
  have hx := B.exec
  have hb := B.bytes
  have hr := B.returns
  have hts := atoms_spec (ws := wsX1_addRow) B.pre
  have hown : s.vm.findClass RX1 = some mY.cls := findClass_of_methodNamed B.named
  have hlocks := B.notSynchronized
  subst hsz
  have hD := hD0.self (sz := s.heap.size)
  generalize hAe : va_A [(xo, .inr (6, [.ref al, x1, x2, x3, x4, x5, .ref b1, x7])), (al, .inr (4, [.int mc, .ref (zk 0), .int 0])), (el, .inr (5, [.int kd, .int ln, .ref e1, .ref e2, .ref e3, .int 0]))] s.heap.size = A at hD hZ ⊢
  have hA : ∀ q : Nat, s.heap.size ≤ q → A q := fun q h => by rw [← hAe]; exact Or.inr h
  have hS : va_S A s.heap s.heap [] := va_S.rf
  have hz : s.heap.size + 0 ≤ s.heap.size := Nat.le_refl _
  have hl := lv_entry ([.ref xo, .ref el]) (n := 2) (Nat.le_of_ble_eq_true rfl)
  rw [lg_entry_eq]
  generalize (lg_sl ([.ref xo, .ref el]) ++ List.replicate (2 - (lg_sl ([.ref xo, .ref el])).length) Slot.unset).toArray = ls at hl ⊢
  have hl : lv_has ls 2 [(0, .ref xo), (1, .ref el)] := hl
  have hP : va_P (dC, dI) vwCl [(xo, .inr (6, [.ref al, x1, x2, x3, x4, x5, .ref b1, x7])), (al, .inr (4, [.int mc, .ref (zk 0), .int 0])), (el, .inr (5, [.int kd, .int ln, .ref e1, .ref e2, .ref e3, .int 0]))] s.heap := hP
  have hD : va_D A [(xo, .inr (6, [.ref al, x1, x2, x3, x4, x5, .ref b1, x7])), (al, .inr (4, [.int mc, .ref (zk 0), .int 0])), (el, .inr (5, [.int kd, .int ln, .ref e1, .ref e2, .ref e3, .int 0]))] := hD
  refine lv_aload_n hx hb dX1_addRow_0 rfl (lv_at hl 1 rfl) ?_
  refine lv_aload_n hx hb dX1_addRow_1 rfl (lv_at hl 0 rfl) ?_
  refine va_get (D := (dC, dI)) (ci := 6) (v := .ref al) (C := RX1) (T := TX1) (N := 8) hx hb hts hi_X1_addRow_X1 hown hK hP 0 rfl rfl 0 (by decide) (hts (.fieldLink RX1 12 "Deeprows" "rows" "Ljava/util/ArrayList;") (List.mem_cons_of_mem _ zw_165)) (fun _ h9 => h9) rfl dX1_addRow_2 ?_
  have hPc := hP.sub (ws' := [(al, .inr (4, [.int mc, .ref (zk 0), .int 0]))]) [1] rfl
  have hDc := hD.sub (ws' := [(al, .inr (4, [.int mc, .ref (zk 0), .int 0]))]) [1] (by decide) rfl
  have hFc := va_free (wc := [(al, .inr (4, [.int mc, .ref (zk 0), .int 0]))]) hD hS hA [1] rfl
  have hDv := hDc.self (sz := s.heap.size)
  have hpre := zpre (xs' := []) (av := [.ref al]) hPc hK (hDc.weaken (fun _ _ _ h => h)) hZ hS hFc (fun r hr => by cases hr)
  refine va_calli (va_runV (As := []) (rest := [.ref el]) ⟨hx, hb, hml, hown, hts⟩ (k_size l dC dI cI cB cR cO zk al (zk 0) 0 (.int mc) s.heap.size ) (cwV 0 hts gX1_addRow_Jx4a65c_size_8abf5 rfl rfl rfl (by decide +kernel) ⟨Nat.le_of_ble_eq_true rfl, Nat.le_of_ble_eq_true rfl⟩) ⟨zblind, (zrecv_4 hK hPc (q0 := 0) rfl), hpre⟩ rfl rfl hl.1 rfl (lv_room (Nat.le_of_ble_eq_true rfl)) dX1_addRow_5 ⟨Nat.le_of_ble_eq_true rfl, Nat.le_of_ble_eq_true rfl⟩) hS (fun q _ h => hFc q h) hFc (fun r2 u t H1 locs ht hvm hw hB hz1 hk1 hS => ?_)
  obtain rfl : 0 = r2 := (show r2 = 0 from hw).symm
  obtain ⟨hP1, hK1, hD1, hz2⟩ := hB
  rw [ht] at hP1 hz2
  have hPD9 := va_join (wr := [(xo, .inr (6, [.ref al, x1, x2, x3, x4, x5, .ref b1, x7])), (el, .inr (5, [.int kd, .int ln, .ref e1, .ref e2, .ref e3, .int 0]))]) (w1 := [(al, .inr (4, [.int mc, .ref (zk 0), .int 0]))]) hP hD [1] [0, 2] rfl rfl (by decide) (by decide) hk1 hFc hP1 hD1
  clear hPc hDc hFc hDv hpre hP hD hP1 hK1 hD1
  obtain ⟨hP, hD⟩ := hPD9
  replace hz : s.heap.size + 0 ≤ H1.size := by omega
  clear hz2
  replace hP : va_P (dC, dI) vwCl [(xo, .inr (6, [.ref al, x1, x2, x3, x4, x5, .ref b1, x7])), (el, .inr (5, [.int kd, .int ln, .ref e1, .ref e2, .ref e3, .int 0])), (al, .inr (4, [.int mc, .ref (zk 0), .int 0]))] H1 := hP
  replace hD : va_D A [(xo, .inr (6, [.ref al, x1, x2, x3, x4, x5, .ref b1, x7])), (el, .inr (5, [.int kd, .int ln, .ref e1, .ref e2, .ref e3, .int 0])), (al, .inr (4, [.int mc, .ref (zk 0), .int 0]))] := hD
  refine W.widen (k := 0) (n := 0) (by omega) (by omega) ?_
  refine va_putN (D := (dC, dI)) (ci := 5) (v := .int 0) (ty := .int) (C := RX0) (T := TX0) (N := 6) hx hb hts hi_X1_addRow_X0 tyX0 tyX0_ok nmX0 hown hK hP hD (zS0 hS) 1 rfl rfl 5 (by decide) (zn5 hZ) (fun _ h9 => h9) rfl (by decide +kernel) rfl rfl (Nat.le_of_ble_eq_true rfl) dX1_addRow_8 (fun H3 locs hP hD hS1 => ?_)
  have hz : s.heap.size + 0 ≤ H3.size := Nat.le_trans hz hS1.1
  have hS := zSS hS hS1
  replace hP : va_P (dC, dI) vwCl [(xo, .inr (6, [.ref al, x1, x2, x3, x4, x5, .ref b1, x7])), (el, .inr (5, [.int kd, .int ln, .ref e1, .ref e2, .ref e3, .int 0])), (al, .inr (4, [.int mc, .ref (zk 0), .int 0]))] H3 := hP
  replace hD : va_D A [(xo, .inr (6, [.ref al, x1, x2, x3, x4, x5, .ref b1, x7])), (el, .inr (5, [.int kd, .int ln, .ref e1, .ref e2, .ref e3, .int 0])), (al, .inr (4, [.int mc, .ref (zk 0), .int 0]))] := hD
  refine lv_aload_n hx hb dX1_addRow_11 rfl (lv_at hl 0 rfl) ?_
  refine va_get (D := (dC, dI)) (ci := 6) (v := .ref al) (C := RX1) (T := TX1) (N := 8) hx hb hts hi_X1_addRow_X1 hown hK hP 0 rfl rfl 0 (by decide) (hts (.fieldLink RX1 12 "Deeprows" "rows" "Ljava/util/ArrayList;") (List.mem_cons_of_mem _ zw_165)) (fun _ h9 => h9) rfl dX1_addRow_12 ?_
  refine lv_aload_n hx hb dX1_addRow_15 rfl (lv_at hl 1 rfl) ?_
  have hPc := hP.sub (ws' := [(al, .inr (4, [.int mc, .ref (zk 0), .int 0])), (el, .inr (5, [.int kd, .int ln, .ref e1, .ref e2, .ref e3, .int 0]))]) [2, 1] rfl
  have hDc := hD.sub (ws' := [(al, .inr (4, [.int mc, .ref (zk 0), .int 0])), (el, .inr (5, [.int kd, .int ln, .ref e1, .ref e2, .ref e3, .int 0]))]) [2, 1] (by decide) rfl
  have hFc := va_free (wc := [(al, .inr (4, [.int mc, .ref (zk 0), .int 0])), (el, .inr (5, [.int kd, .int ln, .ref e1, .ref e2, .ref e3, .int 0]))]) hD hS hA [2, 1] rfl
  have hDv := hDc.self (sz := H3.size)
  have hpre := zpre (xs' := []) (av := [.ref al, .ref el]) hPc hK (hDc.weaken (fun _ _ _ h => h)) hZ hS hFc (fun r hr => by cases hr)
  refine va_calli (va_runV (As := [.ref el]) (rest := []) ⟨hx, hb, hml, hown, hts⟩ (k_addZX0 l dC dI cI cB cR cO zk al el mc kd ln 0 e1 e2 e3 H3.size ) (cwV 1 hts gX1_addRow_Jx4a65c_add_9ea2d rfl rfl rfl (by decide +kernel) ⟨Nat.le_of_ble_eq_true rfl, Nat.le_of_ble_eq_true rfl⟩) ⟨zblind, (zrecv_4 hK hPc (q0 := 0) rfl), hpre⟩ rfl rfl hl.1 rfl (lv_room (Nat.le_of_ble_eq_true rfl)) dX1_addRow_16 ⟨Nat.le_of_ble_eq_true rfl, Nat.le_of_ble_eq_true rfl⟩) hS (fun q _ h => hFc q h) hFc (fun r5 u t H4 locs ht hvm hw hB hz1 hk1 hS => ?_)
  obtain rfl : 1 = r5 := (show r5 = 1 from hw).symm
  obtain ⟨ed6, mc7, ⟨hP1, hK1, hD1, hz2⟩⟩ := hB
  rw [ht] at hP1 hz2
  have hPD9 := va_join (wr := [(xo, .inr (6, [.ref al, x1, x2, x3, x4, x5, .ref b1, x7]))]) (w1 := [(al, .inr (4, [.int mc7, .ref ed6, .int 1])), (el, .inr (5, [.int kd, .int ln, .ref e1, .ref e2, .ref e3, .int 0]))]) hP hD [2, 1] [0] rfl rfl (by decide) (by decide) hk1 hFc hP1 hD1
  clear hPc hDc hFc hDv hpre hP hD hP1 hK1 hD1
  obtain ⟨hP, hD⟩ := hPD9
  replace hz : s.heap.size + 1 ≤ H4.size := by omega
  clear hz2
  replace hP : va_P (dC, dI) vwCl [(xo, .inr (6, [.ref al, x1, x2, x3, x4, x5, .ref b1, x7])), (al, .inr (4, [.int mc7, .ref ed6, .int 1])), (el, .inr (5, [.int kd, .int ln, .ref e1, .ref e2, .ref e3, .int 0]))] H4 := hP
  replace hD : va_D A [(xo, .inr (6, [.ref al, x1, x2, x3, x4, x5, .ref b1, x7])), (al, .inr (4, [.int mc7, .ref ed6, .int 1])), (el, .inr (5, [.int kd, .int ln, .ref e1, .ref e2, .ref e3, .int 0]))] := hD
  refine W.widen (k := 1) (n := 10) (by omega) (by omega) ?_
  refine lv_pop hx hb dX1_addRow_19 rfl ?_
  refine lv_aload_n hx hb dX1_addRow_20 rfl (lv_at hl 1 rfl) ?_
  have hP9 := hP.sub (ws' := [(xo, .inr (6, [.ref al, x1, x2, x3, x4, x5, .ref b1, x7])), (el, .inr (5, [.int kd, .int ln, .ref e1, .ref e2, .ref e3, .int 0]))]) [0, 2] rfl
  have hD9 := hD.sub (ws' := [(xo, .inr (6, [.ref al, x1, x2, x3, x4, x5, .ref b1, x7])), (el, .inr (5, [.int kd, .int ln, .ref e1, .ref e2, .ref e3, .int 0]))]) [0, 2] (by decide) rfl
  exact W.aret hx hb hr (by first | exact Or.inl ⟨_, rfl⟩ | exact Or.inr ⟨_, rfl⟩) (Or.inr ⟨_, rfl⟩) (fun t ht hW => ⟨⟨(), _, rfl, trivial, ⟨⟨by rw [ht]; exact hP9, va_K.moved hW.alike hK, hD9, by rw [ht]; exact hz⟩, rfl⟩⟩, hS.F ht⟩) hS.2.2 dX1_addRow_21

theorem hi_X1_make_X0 : ∀ w ∈ u_ws RX0 TX0 6, w ∈ wsX1_make := fun w h => List.mem_cons_of_mem _ (zhi_X0 w h)
set_option maxHeartbeats 4000000 in
set_option maxRecDepth 100000 in
theorem k_mkX04 (l : Launch) (dC : Nat → ClassId) (dI : Nat → Nat → Nat) (cI cB cR cO : ClassId) (zk : Nat → Nat) (xo al b1 : Nat) (x1 x2 x3 x4 x5 x7 : Value) (mc : Int32) (sz : Nat)  : Met l yX1_make wsX1_make ({ frames := 6, cells := 5, slots := 16, locals := 148 }) (va_Pc [.ref xo, .int 4, .int 0] (zPre (dC, dI) (zT cI cB cR cO) zk [] [(xo, .inr (6, [.ref al, x1, x2, x3, x4, x5, .ref b1, x7])), (al, .inr (4, [.int mc, .ref (zk 0), .int 0]))] sz)) (va_Qi (fun r (_ : Unit) => r = 0) (fun _ t => zEnd (dC, dI) (zT cI cB cR cO) (va_A [(xo, .inr (6, [.ref al, x1, x2, x3, x4, x5, .ref b1, x7])), (al, .inr (4, [.int mc, .ref (zk 0), .int 0]))] sz) [(xo, .inr (6, [.ref al, x1, x2, x3, x4, x5, .ref b1, x7]))] sz 4 t) (va_A [(xo, .inr (6, [.ref al, x1, x2, x3, x4, x5, .ref b1, x7])), (al, .inr (4, [.int mc, .ref (zk 0), .int 0]))] sz)) 5 16 (va_A [(xo, .inr (6, [.ref al, x1, x2, x3, x4, x5, .ref b1, x7])), (al, .inr (4, [.int mc, .ref (zk 0), .int 0]))] sz) := by
  refine Met.ofW (cc := cX1_make) (maxL := 3) (ret := (some .int)) (by decide) rfl ?_
  intro p e s mY args below meth c s₁ B hml hv
  obtain ⟨rfl, hsz, hP, hK, hD0, hZ⟩ := hv
  have hx := B.exec
  have hb := B.bytes
  have hr := B.returns
  have hts := atoms_spec (ws := wsX1_make) B.pre
  have hown : s.vm.findClass RX1 = some mY.cls := findClass_of_methodNamed B.named
  have hlocks := B.notSynchronized
  subst hsz
  have hD := hD0.self (sz := s.heap.size)
  generalize hAe : va_A [(xo, .inr (6, [.ref al, x1, x2, x3, x4, x5, .ref b1, x7])), (al, .inr (4, [.int mc, .ref (zk 0), .int 0]))] s.heap.size = A at hD hZ ⊢
  have hA : ∀ q : Nat, s.heap.size ≤ q → A q := fun q h => by rw [← hAe]; exact Or.inr h
  have hS : va_S A s.heap s.heap [] := va_S.rf
  have hz : s.heap.size + 0 ≤ s.heap.size := Nat.le_refl _
  have hl := lv_entry ([.ref xo, .int 4, .int 0]) (n := 3) (Nat.le_of_ble_eq_true rfl)
  rw [lg_entry_eq]
  generalize (lg_sl ([.ref xo, .int 4, .int 0]) ++ List.replicate (3 - (lg_sl ([.ref xo, .int 4, .int 0])).length) Slot.unset).toArray = ls at hl ⊢
  have hl : lv_has ls 3 [(0, .ref xo), (1, .int 4), (2, .int 0)] := hl
  have hP : va_P (dC, dI) vwCl [(xo, .inr (6, [.ref al, x1, x2, x3, x4, x5, .ref b1, x7])), (al, .inr (4, [.int mc, .ref (zk 0), .int 0]))] s.heap := hP
  have hD : va_D A [(xo, .inr (6, [.ref al, x1, x2, x3, x4, x5, .ref b1, x7])), (al, .inr (4, [.int mc, .ref (zk 0), .int 0]))] := hD
  refine lv_iload_n hx hb dX1_make_0 rfl (lv_at hl 1 rfl) ?_
  refine lv_if_lt (tgt := 9) hx hb dX1_make_1 (by decide) (fun c9 => ?_) (fun c9 => ?_)
  · exact absurd c9 (by decide)
  refine lv_iload_n hx hb dX1_make_4 rfl (lv_at hl 1 rfl) ?_
  refine lv_iconst (v := 4) hx hb dX1_make_5 (by decide) ?_
  refine lv_icmp_le (tgt := 19) hx hb dX1_make_6 (by decide) (fun c9 => ?_) (fun c9 => ?_)
  rotate_left
  · exact absurd (by decide) c9
  refine lv_iload_n hx hb dX1_make_19 rfl (lv_at hl 2 rfl) ?_
  have hPc := hP.sub (ws' := []) [] rfl
  have hDc := hD.sub (ws' := []) [] (by decide) rfl
  have hFc := va_free (wc := []) hD hS hA [] rfl
  have hDv := hDc.self (sz := s.heap.size)
  have hpre := zpre (xs' := []) (av := [.int 0]) hPc hK (hDc.weaken (fun _ _ _ h => h)) hZ hS hFc (fun r hr => by cases hr)
  refine va_callv (va_runS (As := [.int 0]) (rest := []) ⟨hx, hb, hml, hown, hts⟩ (k_rqL0 l dC dI cI cB cR cO zk  s.heap.size ) (va_cwS 1 hts gX1_make_X1_requireLength rfl rfl rfl (by decide +kernel) ⟨Nat.le_of_ble_eq_true rfl, Nat.le_of_ble_eq_true rfl⟩) ⟨zblind, hpre⟩ rfl rfl hl.1 rfl (lv_room (Nat.le_of_ble_eq_true rfl)) dX1_make_20 ⟨Nat.le_of_ble_eq_true rfl, Nat.le_of_ble_eq_true rfl⟩) hS (fun q _ h => hFc q h) hFc (fun u t H1 locs ht hvm hw hB hz1 hk1 hS => ?_)
  obtain ⟨hP1, hK1, hD1, hz2⟩ := hB
  rw [ht] at hP1 hz2
  have hPD9 := va_join (wr := [(xo, .inr (6, [.ref al, x1, x2, x3, x4, x5, .ref b1, x7])), (al, .inr (4, [.int mc, .ref (zk 0), .int 0]))]) (w1 := []) hP hD [] [0, 1] rfl rfl (by decide) (by decide) hk1 hFc hP1 hD1
  clear hPc hDc hFc hDv hpre hP hD hP1 hK1 hD1
  obtain ⟨hP, hD⟩ := hPD9
  replace hz : s.heap.size + 0 ≤ H1.size := by omega
  clear hz2
  replace hP : va_P (dC, dI) vwCl [(xo, .inr (6, [.ref al, x1, x2, x3, x4, x5, .ref b1, x7])), (al, .inr (4, [.int mc, .ref (zk 0), .int 0]))] H1 := hP
  replace hD : va_D A [(xo, .inr (6, [.ref al, x1, x2, x3, x4, x5, .ref b1, x7])), (al, .inr (4, [.int mc, .ref (zk 0), .int 0]))] := hD
  refine W.widen (k := 0) (n := 0) (by omega) (by omega) ?_
  refine lv_aload_n hx hb dX1_make_23 rfl (lv_at hl 0 rfl) ?_
  refine lv_iconst (v := 1) hx hb dX1_make_24 (by decide) ?_
  have hPc := hP.sub (ws' := [(xo, .inr (6, [.ref al, x1, x2, x3, x4, x5, .ref b1, x7])), (al, .inr (4, [.int mc, .ref (zk 0), .int 0]))]) [0, 1] rfl
  have hDc := hD.sub (ws' := [(xo, .inr (6, [.ref al, x1, x2, x3, x4, x5, .ref b1, x7])), (al, .inr (4, [.int mc, .ref (zk 0), .int 0]))]) [0, 1] (by decide) rfl
  have hFc := va_free (wc := [(xo, .inr (6, [.ref al, x1, x2, x3, x4, x5, .ref b1, x7])), (al, .inr (4, [.int mc, .ref (zk 0), .int 0]))]) hD hS hA [0, 1] rfl
  have hDv := hDc.self (sz := H1.size)
  have hpre := zpre (xs' := []) (av := [.ref xo, .int 1]) hPc hK (hDc.weaken (fun _ _ _ h => h)) hZ hS hFc (fun r hr => by cases hr)
  refine va_callv (va_runV (As := [.int 1]) (rest := []) ⟨hx, hb, hml, hown, hts⟩ (k_rqR0 l dC dI cI cB cR cO zk xo al b1 x1 x2 x3 x4 x5 x7 (zk 0) mc H1.size ) (cwV 1 hts gX1_make_X1_requireRoom rfl rfl rfl (by decide +kernel) ⟨Nat.le_of_ble_eq_true rfl, Nat.le_of_ble_eq_true rfl⟩) ⟨zblind, (zrecv_6 hK hPc (q0 := 0) rfl), hpre⟩ rfl rfl hl.1 rfl (lv_room (Nat.le_of_ble_eq_true rfl)) dX1_make_25 ⟨Nat.le_of_ble_eq_true rfl, Nat.le_of_ble_eq_true rfl⟩) hS (fun q _ h => hFc q h) hFc (fun u t H3 locs ht hvm hw hB hz1 hk1 hS => ?_)
  obtain ⟨hP1, hK1, hD1, hz2⟩ := hB
  rw [ht] at hP1 hz2
  have hPD9 := va_join (wr := []) (w1 := [(xo, .inr (6, [.ref al, x1, x2, x3, x4, x5, .ref b1, x7])), (al, .inr (4, [.int mc, .ref (zk 0), .int 0]))]) hP hD [0, 1] [] rfl rfl (by decide) (by decide) hk1 hFc hP1 hD1
  clear hPc hDc hFc hDv hpre hP hD hP1 hK1 hD1
  obtain ⟨hP, hD⟩ := hPD9
  replace hz : s.heap.size + 0 ≤ H3.size := by omega
  clear hz2
  replace hP : va_P (dC, dI) vwCl [(xo, .inr (6, [.ref al, x1, x2, x3, x4, x5, .ref b1, x7])), (al, .inr (4, [.int mc, .ref (zk 0), .int 0]))] H3 := hP
  replace hD : va_D A [(xo, .inr (6, [.ref al, x1, x2, x3, x4, x5, .ref b1, x7])), (al, .inr (4, [.int mc, .ref (zk 0), .int 0]))] := hD
  refine W.widen (k := 0) (n := 0) (by omega) (by omega) ?_
  refine lv_aload_n hx hb dX1_make_28 rfl (lv_at hl 0 rfl) ?_
  refine zw_new (ci := 5) (fs := [.int 0, .int 0, .null, .null, .null, .int 0]) (C := RX0) (T := TX0) (N := 6) hx hb hts hi_X1_make_X0 tyX0 tyX0_ok hown (hts (.classLink RX1 26 "Deeprows$Row") (List.mem_cons_of_mem _ zw_99)) (hts (.instantiable RX0 6) (List.mem_cons_of_mem _ zw_100)) (hts (.initialized RX0) (List.mem_cons_of_mem _ zw_39)) hK hP hD hS hA rfl (fun j hj => by rcases (show j = 0 ∨ j = 1 ∨ j = 2 ∨ j = 3 ∨ j = 4 ∨ j = 5 by omega) with rfl | rfl | rfl | rfl | rfl | rfl <;> rfl) (Nat.le_of_ble_eq_true rfl) (Nat.le_of_ble_eq_true rfl) dX1_make_29 hz (fun q5 H6 hP hD hS hz => ?_)
  replace hP : va_P (dC, dI) vwCl [(xo, .inr (6, [.ref al, x1, x2, x3, x4, x5, .ref b1, x7])), (al, .inr (4, [.int mc, .ref (zk 0), .int 0])), (q5, .inr (5, [.int 0, .int 0, .null, .null, .null, .int 0]))] H6 := hP
  replace hD : va_D A [(xo, .inr (6, [.ref al, x1, x2, x3, x4, x5, .ref b1, x7])), (al, .inr (4, [.int mc, .ref (zk 0), .int 0])), (q5, .inr (5, [.int 0, .int 0, .null, .null, .null, .int 0]))] := hD
  refine W.widen (k := 1) (n := 6) (by omega) (by omega) ?_
  refine lv_dup hx hb dX1_make_32 rfl ?_
  refine lv_iload_n hx hb dX1_make_33 rfl (lv_at hl 1 rfl) ?_
  refine lv_iload_n hx hb dX1_make_34 rfl (lv_at hl 2 rfl) ?_
  have hPc := hP.sub (ws' := [(q5, .inr (5, [.int 0, .int 0, .null, .null, .null, .int 0]))]) [2] rfl
  have hDc := hD.sub (ws' := [(q5, .inr (5, [.int 0, .int 0, .null, .null, .null, .int 0]))]) [2] (by decide) rfl
  have hFc := va_free (wc := [(q5, .inr (5, [.int 0, .int 0, .null, .null, .null, .int 0]))]) hD hS hA [2] rfl
  have hDv := hDc.self (sz := H6.size)
  have hpre := zpre (xs' := []) (av := [.ref q5, .int 4, .int 0]) hPc hK (hDc.weaken (fun _ _ _ h => h)) hZ hS hFc (fun r hr => by cases hr)
  refine va_callv (va_runI (As := [.int 4, .int 0]) (rest := [.ref q5, .ref xo]) ⟨hx, hb, hml, hown, hts⟩ (k_rI04 l dC dI cI cB cR cO zk q5 H6.size ) (cwI 2 hts gX1_make_X0_init rfl rfl rfl (hts (.initialized RX0) (List.mem_cons_of_mem _ zw_39)) (hts (.methodLink RX1 28 yX0_init) (List.mem_cons_of_mem _ zw_101)) (hts (.instanceMethod yX0_init) (List.mem_cons_of_mem _ zw_102)) rfl (by decide +kernel) ⟨Nat.le_of_ble_eq_true rfl, Nat.le_of_ble_eq_true rfl⟩) ⟨zblind, hpre⟩ rfl rfl hl.1 rfl (lv_room (Nat.le_of_ble_eq_true rfl)) dX1_make_35 ⟨Nat.le_of_ble_eq_true rfl, Nat.le_of_ble_eq_true rfl⟩) hS (fun q _ h => hFc q h) hFc (fun u t H7 locs ht hvm hw hB hz1 hk1 hS => ?_)
  obtain ⟨w9, v10, h11, ⟨hP1, hK1, hD1, hz2⟩⟩ := hB
  rw [ht] at hP1 hz2
  have hPD9 := va_join (wr := [(xo, .inr (6, [.ref al, x1, x2, x3, x4, x5, .ref b1, x7])), (al, .inr (4, [.int mc, .ref (zk 0), .int 0]))]) (w1 := [(q5, .inr (5, [.int 4, .int 0, .ref w9, .ref v10, .ref h11, .int 0]))]) hP hD [2] [0, 1] rfl rfl (by decide) (by decide) hk1 hFc hP1 hD1
  clear hPc hDc hFc hDv hpre hP hD hP1 hK1 hD1
  obtain ⟨hP, hD⟩ := hPD9
  replace hz : s.heap.size + 4 ≤ H7.size := by omega
  clear hz2
  replace hP : va_P (dC, dI) vwCl [(xo, .inr (6, [.ref al, x1, x2, x3, x4, x5, .ref b1, x7])), (al, .inr (4, [.int mc, .ref (zk 0), .int 0])), (q5, .inr (5, [.int 4, .int 0, .ref w9, .ref v10, .ref h11, .int 0]))] H7 := hP
  replace hD : va_D A [(xo, .inr (6, [.ref al, x1, x2, x3, x4, x5, .ref b1, x7])), (al, .inr (4, [.int mc, .ref (zk 0), .int 0])), (q5, .inr (5, [.int 4, .int 0, .ref w9, .ref v10, .ref h11, .int 0]))] := hD
  refine W.widen (k := 4) (n := 6) (by omega) (by omega) ?_
  have hPc := hP.sub (ws' := [(xo, .inr (6, [.ref al, x1, x2, x3, x4, x5, .ref b1, x7])), (al, .inr (4, [.int mc, .ref (zk 0), .int 0])), (q5, .inr (5, [.int 4, .int 0, .ref w9, .ref v10, .ref h11, .int 0]))]) [0, 1, 2] rfl
  have hDc := hD.sub (ws' := [(xo, .inr (6, [.ref al, x1, x2, x3, x4, x5, .ref b1, x7])), (al, .inr (4, [.int mc, .ref (zk 0), .int 0])), (q5, .inr (5, [.int 4, .int 0, .ref w9, .ref v10, .ref h11, .int 0]))]) [0, 1, 2] (by decide) rfl
  have hFc := va_free (wc := [(xo, .inr (6, [.ref al, x1, x2, x3, x4, x5, .ref b1, x7])), (al, .inr (4, [.int mc, .ref (zk 0), .int 0])), (q5, .inr (5, [.int 4, .int 0, .ref w9, .ref v10, .ref h11, .int 0]))]) hD hS hA [0, 1, 2] rfl
  have hDv := hDc.self (sz := H7.size)
  have hpre := zpre (xs' := []) (av := [.ref xo, .ref q5]) hPc hK (hDc.weaken (fun _ _ _ h => h)) hZ hS hFc (fun r hr => by cases hr)
  refine va_callr (va_runV (As := [.ref q5]) (rest := []) ⟨hx, hb, hml, hown, hts⟩ (k_adRZ l dC dI cI cB cR cO zk xo al b1 x1 x2 x3 x4 x5 x7 mc q5 w9 v10 h11 4 0 H7.size ) (cwV 1 hts gX1_make_X1_addRow rfl rfl rfl (by decide +kernel) ⟨Nat.le_of_ble_eq_true rfl, Nat.le_of_ble_eq_true rfl⟩) ⟨zblind, (zrecv_6 hK hPc (q0 := 0) rfl), hpre⟩ rfl rfl hl.1 rfl (lv_room (Nat.le_of_ble_eq_true rfl)) dX1_make_38 ⟨Nat.le_of_ble_eq_true rfl, Nat.le_of_ble_eq_true rfl⟩) hS (fun q _ h => hFc q h) hFc (fun u r13 t H12 locs ht hvm hw hB hz1 hk1 hS => ?_)
  obtain ⟨⟨hP1, hK1, hD1, hz2⟩, her13⟩ := hB
  rw [ht] at hP1 hz2
  have hPD9 := va_join (wr := []) (w1 := [(xo, .inr (6, [.ref al, x1, x2, x3, x4, x5, .ref b1, x7])), (q5, .inr (5, [.int 4, .int 0, .ref w9, .ref v10, .ref h11, .int 0]))]) hP hD [0, 1, 2] [] rfl rfl (by decide) (by decide) hk1 hFc hP1 hD1
  clear hPc hDc hFc hDv hpre hP hD hP1 hK1 hD1
  obtain ⟨hP, hD⟩ := hPD9
  replace hz : s.heap.size + 4 ≤ H12.size := by omega
  clear hz2
  replace hP : va_P (dC, dI) vwCl [(xo, .inr (6, [.ref al, x1, x2, x3, x4, x5, .ref b1, x7])), (q5, .inr (5, [.int 4, .int 0, .ref w9, .ref v10, .ref h11, .int 0]))] H12 := hP
  replace hD : va_D A [(xo, .inr (6, [.ref al, x1, x2, x3, x4, x5, .ref b1, x7])), (q5, .inr (5, [.int 4, .int 0, .ref w9, .ref v10, .ref h11, .int 0]))] := hD
  refine W.widen (k := 5) (n := 16) (by omega) (by omega) ?_
  obtain rfl := her13.symm
  refine va_getN (D := (dC, dI)) (ci := 5) (v := .int 0) (C := RX0) (T := TX0) (N := 6) hx hb hts hi_X1_make_X0 hown hK hP 1 rfl rfl 5 (by decide) (zn5 hZ) (fun _ h9 => h9) rfl dX1_make_41 ?_
  have hP9 := hP.sub (ws' := [(xo, .inr (6, [.ref al, x1, x2, x3, x4, x5, .ref b1, x7]))]) [0] rfl
  have hD9 := hD.sub (ws' := [(xo, .inr (6, [.ref al, x1, x2, x3, x4, x5, .ref b1, x7]))]) [0] (by decide) rfl
  exact W.iret (v := 0) hx hb hr (fun t ht hW => ⟨⟨_, (), rfl, rfl, ⟨by rw [ht]; exact hP9, va_K.moved hW.alike hK, hD9, by rw [ht]; exact hz⟩⟩, hS.F ht⟩) hS.2.2 dX1_make_44

theorem hi_L_make_X2 : ∀ w ∈ u_ws RX2 TX2 2, w ∈ wsL_make := fun w h => List.mem_cons_of_mem _ (zhi_X2 w h)
set_option maxHeartbeats 4000000 in
set_option maxRecDepth 100000 in
theorem k_mkH04 (l : Launch) (dC : Nat → ClassId) (dI : Nat → Nat → Nat) (cI cB cR cO : ClassId) (zk : Nat → Nat) (ou : Nat) (on so : Value) (xo al b1 : Nat) (x1 x2 x3 x4 x5 x7 : Value) (mc : Int32) (sz : Nat)  : Met l yL_make wsL_make ({ frames := 7, cells := 5, slots := 16, locals := 170 }) (va_Pc [.ref xo, .int 4, .int 0, .ref ou] (zPre (dC, dI) (zT cI cB cR cO) zk [] [(ou, .inr (7, [on, so])), (xo, .inr (6, [.ref al, x1, x2, x3, x4, x5, .ref b1, x7])), (al, .inr (4, [.int mc, .ref (zk 0), .int 0]))] sz)) (va_Qi (fun r (_ : Unit) => r = 0) (fun _ t => zEnd (dC, dI) (zT cI cB cR cO) (va_A [(ou, .inr (7, [on, so])), (xo, .inr (6, [.ref al, x1, x2, x3, x4, x5, .ref b1, x7])), (al, .inr (4, [.int mc, .ref (zk 0), .int 0]))] sz) [(ou, .inr (7, [.long 0, so])), (xo, .inr (6, [.ref al, x1, x2, x3, x4, x5, .ref b1, x7]))] sz 0 t) (va_A [(ou, .inr (7, [on, so])), (xo, .inr (6, [.ref al, x1, x2, x3, x4, x5, .ref b1, x7])), (al, .inr (4, [.int mc, .ref (zk 0), .int 0]))] sz)) 5 16 (va_A [(ou, .inr (7, [on, so])), (xo, .inr (6, [.ref al, x1, x2, x3, x4, x5, .ref b1, x7])), (al, .inr (4, [.int mc, .ref (zk 0), .int 0]))] sz) := by
  refine zofWH (cc := cL_make) (maxL := 5) (ret := (some .int)) (by decide) rfl ?_
  intro p e s mY args below meth c s₁ B hml hv
  obtain ⟨rfl, hsz, hP, hK, hD0, hZ⟩ := hv
  have hx := B.exec
  have hb := B.bytes
  have hr := B.returns
  have hts := atoms_spec (ws := wsL_make) B.pre
  have hown : s.vm.findClass RL = some mY.cls := findClass_of_methodNamed B.named
  have hlocks := B.notSynchronized
  subst hsz
  have hD := hD0.self (sz := s.heap.size)
  generalize hAe : va_A [(ou, .inr (7, [on, so])), (xo, .inr (6, [.ref al, x1, x2, x3, x4, x5, .ref b1, x7])), (al, .inr (4, [.int mc, .ref (zk 0), .int 0]))] s.heap.size = A at hD hZ ⊢
  have hA : ∀ q : Nat, s.heap.size ≤ q → A q := fun q h => by rw [← hAe]; exact Or.inr h
  have hS : va_S A s.heap s.heap [] := va_S.rf
  have hz : s.heap.size + 0 ≤ s.heap.size := Nat.le_refl _
  have hl := lv_entry ([.ref xo, .int 4, .int 0, .ref ou]) (n := 5) (Nat.le_of_ble_eq_true rfl)
  rw [lg_entry_eq]
  generalize (lg_sl ([.ref xo, .int 4, .int 0, .ref ou]) ++ List.replicate (5 - (lg_sl ([.ref xo, .int 4, .int 0, .ref ou])).length) Slot.unset).toArray = ls at hl ⊢
  have hl : lv_has ls 5 [(0, .ref xo), (1, .int 4), (2, .int 0), (3, .ref ou)] := hl
  have hP : va_P (dC, dI) vwCl [(ou, .inr (7, [on, so])), (xo, .inr (6, [.ref al, x1, x2, x3, x4, x5, .ref b1, x7])), (al, .inr (4, [.int mc, .ref (zk 0), .int 0]))] s.heap := hP
  have hD : va_D A [(ou, .inr (7, [on, so])), (xo, .inr (6, [.ref al, x1, x2, x3, x4, x5, .ref b1, x7])), (al, .inr (4, [.int mc, .ref (zk 0), .int 0]))] := hD
  refine lv_aload_n hx hb dL_make_0 rfl (lv_at hl 3 rfl) ?_
  refine lv_aload_n hx hb dL_make_1 rfl (lv_at hl 0 rfl) ?_
  refine lv_iload_n hx hb dL_make_2 rfl (lv_at hl 1 rfl) ?_
  refine lv_iload_n hx hb dL_make_3 rfl (lv_at hl 2 rfl) ?_
  have hPc := hP.sub (ws' := [(xo, .inr (6, [.ref al, x1, x2, x3, x4, x5, .ref b1, x7])), (al, .inr (4, [.int mc, .ref (zk 0), .int 0]))]) [1, 2] rfl
  have hDc := hD.sub (ws' := [(xo, .inr (6, [.ref al, x1, x2, x3, x4, x5, .ref b1, x7])), (al, .inr (4, [.int mc, .ref (zk 0), .int 0]))]) [1, 2] (by decide) rfl
  have hFc := va_free (wc := [(xo, .inr (6, [.ref al, x1, x2, x3, x4, x5, .ref b1, x7])), (al, .inr (4, [.int mc, .ref (zk 0), .int 0]))]) hD hS hA [1, 2] rfl
  have hDv := hDc.self (sz := s.heap.size)
  have hpre := zpre (xs' := []) (av := [.ref xo, .int 4, .int 0]) hPc hK (hDc.weaken (fun _ _ _ h => h)) hZ hS hFc (fun r hr => by cases hr)
  refine va_calli (va_runV (As := [.int 4, .int 0]) (rest := [.ref ou]) ⟨hx, hb, hml, hown, hts⟩ (k_mkX04 l dC dI cI cB cR cO zk xo al b1 x1 x2 x3 x4 x5 x7 mc s.heap.size ) (cwV 2 hts gL_make_X1_make rfl rfl rfl (by decide +kernel) ⟨Nat.le_of_ble_eq_true rfl, Nat.le_of_ble_eq_true rfl⟩) ⟨zblind, (zrecv_6 hK hPc (q0 := 0) rfl), hpre⟩ rfl rfl hl.1 rfl (lv_room (Nat.le_of_ble_eq_true rfl)) dL_make_4 ⟨Nat.le_of_ble_eq_true rfl, Nat.le_of_ble_eq_true rfl⟩) hS (fun q _ h => hFc q h) hFc (fun r2 u t H1 locs ht hvm hw hB hz1 hk1 hS => ?_)
  obtain rfl : 0 = r2 := (show r2 = 0 from hw).symm
  obtain ⟨hP1, hK1, hD1, hz2⟩ := hB
  rw [ht] at hP1 hz2
  have hPD9 := va_join (wr := [(ou, .inr (7, [on, so]))]) (w1 := [(xo, .inr (6, [.ref al, x1, x2, x3, x4, x5, .ref b1, x7]))]) hP hD [1, 2] [0] rfl rfl (by decide) (by decide) hk1 hFc hP1 hD1
  clear hPc hDc hFc hDv hpre hP hD hP1 hK1 hD1
  obtain ⟨hP, hD⟩ := hPD9
  replace hz : s.heap.size + 0 ≤ H1.size := by omega
  clear hz2
  replace hP : va_P (dC, dI) vwCl [(ou, .inr (7, [on, so])), (xo, .inr (6, [.ref al, x1, x2, x3, x4, x5, .ref b1, x7]))] H1 := hP
  replace hD : va_D A [(ou, .inr (7, [on, so])), (xo, .inr (6, [.ref al, x1, x2, x3, x4, x5, .ref b1, x7]))] := hD
  refine W.widen (k := 5) (n := 16) (by omega) (by omega) ?_
  refine lv_i2l (v := 0) hx hb dL_make_7 (by decide) ?_
  refine va_putN (D := (dC, dI)) (ci := 7) (v := .long 0) (ty := .long) (C := RX2) (T := TX2) (N := 2) hx hb hts hi_L_make_X2 tyX2 tyX2_ok nmX2 hown hK hP hD (zS0 hS) 0 rfl rfl 0 (by decide) (zn6 hZ) (fun _ h9 => h9) rfl (by decide +kernel) rfl rfl (Nat.le_of_ble_eq_true rfl) dL_make_8 (fun H3 locs hP hD hS1 => ?_)
  have hz : s.heap.size + 0 ≤ H3.size := Nat.le_trans hz hS1.1
  have hS := zSS hS hS1
  replace hP : va_P (dC, dI) vwCl [(ou, .inr (7, [.long 0, so])), (xo, .inr (6, [.ref al, x1, x2, x3, x4, x5, .ref b1, x7]))] H3 := hP
  replace hD : va_D A [(ou, .inr (7, [.long 0, so])), (xo, .inr (6, [.ref al, x1, x2, x3, x4, x5, .ref b1, x7]))] := hD
  refine lv_goto (tgt := 22) hx hb dL_make_11 (by decide) ?_
  refine lv_iconst (v := 0) hx hb dL_make_22 (by decide) ?_
  have hP9 := hP.sub (ws' := [(ou, .inr (7, [.long 0, so])), (xo, .inr (6, [.ref al, x1, x2, x3, x4, x5, .ref b1, x7]))]) [0, 1] rfl
  have hD9 := hD.sub (ws' := [(ou, .inr (7, [.long 0, so])), (xo, .inr (6, [.ref al, x1, x2, x3, x4, x5, .ref b1, x7]))]) [0, 1] (by decide) rfl
  exact W.iret (v := 0) hx hb hr (fun t ht hW => ⟨⟨_, (), rfl, rfl, ⟨by rw [ht]; exact hP9, va_K.moved hW.alike hK, hD9, by rw [ht]; exact hz⟩⟩, hS.F ht⟩) hS.2.2 dL_make_23

set_option maxHeartbeats 4000000 in
set_option maxRecDepth 100000 in
theorem k_mkX0s (l : Launch) (dC : Nat → ClassId) (dI : Nat → Nat → Nat) (cI cB cR cO : ClassId) (zk : Nat → Nat) (xo al b1 : Nat) (x1 x2 x3 x4 x5 x7 : Value) (mc : Int32) (kd : Int32) (sz : Nat) (hk0 : ¬ kd < 0) (hk4 : kd ≤ 4) (hkd : ¬ kd = 4) : Met l yX1_make wsX1_make ({ frames := 6, cells := 5, slots := 16, locals := 148 }) (va_Pc [.ref xo, .int kd, .int 0] (zPre (dC, dI) (zT cI cB cR cO) zk [] [(xo, .inr (6, [.ref al, x1, x2, x3, x4, x5, .ref b1, x7])), (al, .inr (4, [.int mc, .ref (zk 0), .int 0]))] sz)) (va_Qi (fun r (_ : Unit) => r = 0) (fun _ t => zEnd (dC, dI) (zT cI cB cR cO) (va_A [(xo, .inr (6, [.ref al, x1, x2, x3, x4, x5, .ref b1, x7])), (al, .inr (4, [.int mc, .ref (zk 0), .int 0]))] sz) [(xo, .inr (6, [.ref al, x1, x2, x3, x4, x5, .ref b1, x7]))] sz 4 t) (va_A [(xo, .inr (6, [.ref al, x1, x2, x3, x4, x5, .ref b1, x7])), (al, .inr (4, [.int mc, .ref (zk 0), .int 0]))] sz)) 5 16 (va_A [(xo, .inr (6, [.ref al, x1, x2, x3, x4, x5, .ref b1, x7])), (al, .inr (4, [.int mc, .ref (zk 0), .int 0]))] sz) := by
  refine Met.ofW (cc := cX1_make) (maxL := 3) (ret := (some .int)) (by decide) rfl ?_
  intro p e s mY args below meth c s₁ B hml hv
  obtain ⟨rfl, hsz, hP, hK, hD0, hZ⟩ := hv
  have hx := B.exec
  have hb := B.bytes
  have hr := B.returns
  have hts := atoms_spec (ws := wsX1_make) B.pre
  have hown : s.vm.findClass RX1 = some mY.cls := findClass_of_methodNamed B.named
  have hlocks := B.notSynchronized
  subst hsz
  have hD := hD0.self (sz := s.heap.size)
  generalize hAe : va_A [(xo, .inr (6, [.ref al, x1, x2, x3, x4, x5, .ref b1, x7])), (al, .inr (4, [.int mc, .ref (zk 0), .int 0]))] s.heap.size = A at hD hZ ⊢
  have hA : ∀ q : Nat, s.heap.size ≤ q → A q := fun q h => by rw [← hAe]; exact Or.inr h
  have hS : va_S A s.heap s.heap [] := va_S.rf
  have hz : s.heap.size + 0 ≤ s.heap.size := Nat.le_refl _
  have hl := lv_entry ([.ref xo, .int kd, .int 0]) (n := 3) (Nat.le_of_ble_eq_true rfl)
  rw [lg_entry_eq]
  generalize (lg_sl ([.ref xo, .int kd, .int 0]) ++ List.replicate (3 - (lg_sl ([.ref xo, .int kd, .int 0])).length) Slot.unset).toArray = ls at hl ⊢
  have hl : lv_has ls 3 [(0, .ref xo), (1, .int kd), (2, .int 0)] := hl
  have hP : va_P (dC, dI) vwCl [(xo, .inr (6, [.ref al, x1, x2, x3, x4, x5, .ref b1, x7])), (al, .inr (4, [.int mc, .ref (zk 0), .int 0]))] s.heap := hP
  have hD : va_D A [(xo, .inr (6, [.ref al, x1, x2, x3, x4, x5, .ref b1, x7])), (al, .inr (4, [.int mc, .ref (zk 0), .int 0]))] := hD
  refine lv_iload_n hx hb dX1_make_0 rfl (lv_at hl 1 rfl) ?_
  refine lv_if_lt (tgt := 9) hx hb dX1_make_1 (by decide) (fun c9 => ?_) (fun c9 => ?_)
  · exact absurd c9 (hk0)
  refine lv_iload_n hx hb dX1_make_4 rfl (lv_at hl 1 rfl) ?_
  refine lv_iconst (v := 4) hx hb dX1_make_5 (by decide) ?_
  refine lv_icmp_le (tgt := 19) hx hb dX1_make_6 (by decide) (fun c9 => ?_) (fun c9 => ?_)
  rotate_left
  · exact absurd (hk4) c9
  refine lv_iload_n hx hb dX1_make_19 rfl (lv_at hl 2 rfl) ?_
  have hPc := hP.sub (ws' := []) [] rfl
  have hDc := hD.sub (ws' := []) [] (by decide) rfl
  have hFc := va_free (wc := []) hD hS hA [] rfl
  have hDv := hDc.self (sz := s.heap.size)
  have hpre := zpre (xs' := []) (av := [.int 0]) hPc hK (hDc.weaken (fun _ _ _ h => h)) hZ hS hFc (fun r hr => by cases hr)
  refine va_callv (va_runS (As := [.int 0]) (rest := []) ⟨hx, hb, hml, hown, hts⟩ (k_rqL0 l dC dI cI cB cR cO zk  s.heap.size ) (va_cwS 1 hts gX1_make_X1_requireLength rfl rfl rfl (by decide +kernel) ⟨Nat.le_of_ble_eq_true rfl, Nat.le_of_ble_eq_true rfl⟩) ⟨zblind, hpre⟩ rfl rfl hl.1 rfl (lv_room (Nat.le_of_ble_eq_true rfl)) dX1_make_20 ⟨Nat.le_of_ble_eq_true rfl, Nat.le_of_ble_eq_true rfl⟩) hS (fun q _ h => hFc q h) hFc (fun u t H1 locs ht hvm hw hB hz1 hk1 hS => ?_)
  obtain ⟨hP1, hK1, hD1, hz2⟩ := hB
  rw [ht] at hP1 hz2
  have hPD9 := va_join (wr := [(xo, .inr (6, [.ref al, x1, x2, x3, x4, x5, .ref b1, x7])), (al, .inr (4, [.int mc, .ref (zk 0), .int 0]))]) (w1 := []) hP hD [] [0, 1] rfl rfl (by decide) (by decide) hk1 hFc hP1 hD1
  clear hPc hDc hFc hDv hpre hP hD hP1 hK1 hD1
  obtain ⟨hP, hD⟩ := hPD9
  replace hz : s.heap.size + 0 ≤ H1.size := by omega
  clear hz2
  replace hP : va_P (dC, dI) vwCl [(xo, .inr (6, [.ref al, x1, x2, x3, x4, x5, .ref b1, x7])), (al, .inr (4, [.int mc, .ref (zk 0), .int 0]))] H1 := hP
  replace hD : va_D A [(xo, .inr (6, [.ref al, x1, x2, x3, x4, x5, .ref b1, x7])), (al, .inr (4, [.int mc, .ref (zk 0), .int 0]))] := hD
  refine W.widen (k := 0) (n := 0) (by omega) (by omega) ?_
  refine lv_aload_n hx hb dX1_make_23 rfl (lv_at hl 0 rfl) ?_
  refine lv_iconst (v := 1) hx hb dX1_make_24 (by decide) ?_
  have hPc := hP.sub (ws' := [(xo, .inr (6, [.ref al, x1, x2, x3, x4, x5, .ref b1, x7])), (al, .inr (4, [.int mc, .ref (zk 0), .int 0]))]) [0, 1] rfl
  have hDc := hD.sub (ws' := [(xo, .inr (6, [.ref al, x1, x2, x3, x4, x5, .ref b1, x7])), (al, .inr (4, [.int mc, .ref (zk 0), .int 0]))]) [0, 1] (by decide) rfl
  have hFc := va_free (wc := [(xo, .inr (6, [.ref al, x1, x2, x3, x4, x5, .ref b1, x7])), (al, .inr (4, [.int mc, .ref (zk 0), .int 0]))]) hD hS hA [0, 1] rfl
  have hDv := hDc.self (sz := H1.size)
  have hpre := zpre (xs' := []) (av := [.ref xo, .int 1]) hPc hK (hDc.weaken (fun _ _ _ h => h)) hZ hS hFc (fun r hr => by cases hr)
  refine va_callv (va_runV (As := [.int 1]) (rest := []) ⟨hx, hb, hml, hown, hts⟩ (k_rqR0 l dC dI cI cB cR cO zk xo al b1 x1 x2 x3 x4 x5 x7 (zk 0) mc H1.size ) (cwV 1 hts gX1_make_X1_requireRoom rfl rfl rfl (by decide +kernel) ⟨Nat.le_of_ble_eq_true rfl, Nat.le_of_ble_eq_true rfl⟩) ⟨zblind, (zrecv_6 hK hPc (q0 := 0) rfl), hpre⟩ rfl rfl hl.1 rfl (lv_room (Nat.le_of_ble_eq_true rfl)) dX1_make_25 ⟨Nat.le_of_ble_eq_true rfl, Nat.le_of_ble_eq_true rfl⟩) hS (fun q _ h => hFc q h) hFc (fun u t H3 locs ht hvm hw hB hz1 hk1 hS => ?_)
  obtain ⟨hP1, hK1, hD1, hz2⟩ := hB
  rw [ht] at hP1 hz2
  have hPD9 := va_join (wr := []) (w1 := [(xo, .inr (6, [.ref al, x1, x2, x3, x4, x5, .ref b1, x7])), (al, .inr (4, [.int mc, .ref (zk 0), .int 0]))]) hP hD [0, 1] [] rfl rfl (by decide) (by decide) hk1 hFc hP1 hD1
  clear hPc hDc hFc hDv hpre hP hD hP1 hK1 hD1
  obtain ⟨hP, hD⟩ := hPD9
  replace hz : s.heap.size + 0 ≤ H3.size := by omega
  clear hz2
  replace hP : va_P (dC, dI) vwCl [(xo, .inr (6, [.ref al, x1, x2, x3, x4, x5, .ref b1, x7])), (al, .inr (4, [.int mc, .ref (zk 0), .int 0]))] H3 := hP
  replace hD : va_D A [(xo, .inr (6, [.ref al, x1, x2, x3, x4, x5, .ref b1, x7])), (al, .inr (4, [.int mc, .ref (zk 0), .int 0]))] := hD
  refine W.widen (k := 0) (n := 0) (by omega) (by omega) ?_
  refine lv_aload_n hx hb dX1_make_28 rfl (lv_at hl 0 rfl) ?_
  refine zw_new (ci := 5) (fs := [.int 0, .int 0, .null, .null, .null, .int 0]) (C := RX0) (T := TX0) (N := 6) hx hb hts hi_X1_make_X0 tyX0 tyX0_ok hown (hts (.classLink RX1 26 "Deeprows$Row") (List.mem_cons_of_mem _ zw_99)) (hts (.instantiable RX0 6) (List.mem_cons_of_mem _ zw_100)) (hts (.initialized RX0) (List.mem_cons_of_mem _ zw_39)) hK hP hD hS hA rfl (fun j hj => by rcases (show j = 0 ∨ j = 1 ∨ j = 2 ∨ j = 3 ∨ j = 4 ∨ j = 5 by omega) with rfl | rfl | rfl | rfl | rfl | rfl <;> rfl) (Nat.le_of_ble_eq_true rfl) (Nat.le_of_ble_eq_true rfl) dX1_make_29 hz (fun q5 H6 hP hD hS hz => ?_)
  replace hP : va_P (dC, dI) vwCl [(xo, .inr (6, [.ref al, x1, x2, x3, x4, x5, .ref b1, x7])), (al, .inr (4, [.int mc, .ref (zk 0), .int 0])), (q5, .inr (5, [.int 0, .int 0, .null, .null, .null, .int 0]))] H6 := hP
  replace hD : va_D A [(xo, .inr (6, [.ref al, x1, x2, x3, x4, x5, .ref b1, x7])), (al, .inr (4, [.int mc, .ref (zk 0), .int 0])), (q5, .inr (5, [.int 0, .int 0, .null, .null, .null, .int 0]))] := hD
  refine W.widen (k := 1) (n := 6) (by omega) (by omega) ?_
  refine lv_dup hx hb dX1_make_32 rfl ?_
  refine lv_iload_n hx hb dX1_make_33 rfl (lv_at hl 1 rfl) ?_
  refine lv_iload_n hx hb dX1_make_34 rfl (lv_at hl 2 rfl) ?_
  have hPc := hP.sub (ws' := [(q5, .inr (5, [.int 0, .int 0, .null, .null, .null, .int 0]))]) [2] rfl
  have hDc := hD.sub (ws' := [(q5, .inr (5, [.int 0, .int 0, .null, .null, .null, .int 0]))]) [2] (by decide) rfl
  have hFc := va_free (wc := [(q5, .inr (5, [.int 0, .int 0, .null, .null, .null, .int 0]))]) hD hS hA [2] rfl
  have hDv := hDc.self (sz := H6.size)
  have hpre := zpre (xs' := []) (av := [.ref q5, .int kd, .int 0]) hPc hK (hDc.weaken (fun _ _ _ h => h)) hZ hS hFc (fun r hr => by cases hr)
  refine va_callv (va_runI (As := [.int kd, .int 0]) (rest := [.ref q5, .ref xo]) ⟨hx, hb, hml, hown, hts⟩ (k_rI0s l dC dI cI cB cR cO zk q5 kd H6.size  hkd) (cwI 2 hts gX1_make_X0_init rfl rfl rfl (hts (.initialized RX0) (List.mem_cons_of_mem _ zw_39)) (hts (.methodLink RX1 28 yX0_init) (List.mem_cons_of_mem _ zw_101)) (hts (.instanceMethod yX0_init) (List.mem_cons_of_mem _ zw_102)) rfl (by decide +kernel) ⟨Nat.le_of_ble_eq_true rfl, Nat.le_of_ble_eq_true rfl⟩) ⟨zblind, hpre⟩ rfl rfl hl.1 rfl (lv_room (Nat.le_of_ble_eq_true rfl)) dX1_make_35 ⟨Nat.le_of_ble_eq_true rfl, Nat.le_of_ble_eq_true rfl⟩) hS (fun q _ h => hFc q h) hFc (fun u t H7 locs ht hvm hw hB hz1 hk1 hS => ?_)
  obtain ⟨w9, v10, h11, ⟨hP1, hK1, hD1, hz2⟩⟩ := hB
  rw [ht] at hP1 hz2
  have hPD9 := va_join (wr := [(xo, .inr (6, [.ref al, x1, x2, x3, x4, x5, .ref b1, x7])), (al, .inr (4, [.int mc, .ref (zk 0), .int 0]))]) (w1 := [(q5, .inr (5, [.int kd, .int 0, .ref w9, .ref v10, .ref h11, .int 0]))]) hP hD [2] [0, 1] rfl rfl (by decide) (by decide) hk1 hFc hP1 hD1
  clear hPc hDc hFc hDv hpre hP hD hP1 hK1 hD1
  obtain ⟨hP, hD⟩ := hPD9
  replace hz : s.heap.size + 4 ≤ H7.size := by omega
  clear hz2
  replace hP : va_P (dC, dI) vwCl [(xo, .inr (6, [.ref al, x1, x2, x3, x4, x5, .ref b1, x7])), (al, .inr (4, [.int mc, .ref (zk 0), .int 0])), (q5, .inr (5, [.int kd, .int 0, .ref w9, .ref v10, .ref h11, .int 0]))] H7 := hP
  replace hD : va_D A [(xo, .inr (6, [.ref al, x1, x2, x3, x4, x5, .ref b1, x7])), (al, .inr (4, [.int mc, .ref (zk 0), .int 0])), (q5, .inr (5, [.int kd, .int 0, .ref w9, .ref v10, .ref h11, .int 0]))] := hD
  refine W.widen (k := 4) (n := 6) (by omega) (by omega) ?_
  have hPc := hP.sub (ws' := [(xo, .inr (6, [.ref al, x1, x2, x3, x4, x5, .ref b1, x7])), (al, .inr (4, [.int mc, .ref (zk 0), .int 0])), (q5, .inr (5, [.int kd, .int 0, .ref w9, .ref v10, .ref h11, .int 0]))]) [0, 1, 2] rfl
  have hDc := hD.sub (ws' := [(xo, .inr (6, [.ref al, x1, x2, x3, x4, x5, .ref b1, x7])), (al, .inr (4, [.int mc, .ref (zk 0), .int 0])), (q5, .inr (5, [.int kd, .int 0, .ref w9, .ref v10, .ref h11, .int 0]))]) [0, 1, 2] (by decide) rfl
  have hFc := va_free (wc := [(xo, .inr (6, [.ref al, x1, x2, x3, x4, x5, .ref b1, x7])), (al, .inr (4, [.int mc, .ref (zk 0), .int 0])), (q5, .inr (5, [.int kd, .int 0, .ref w9, .ref v10, .ref h11, .int 0]))]) hD hS hA [0, 1, 2] rfl
  have hDv := hDc.self (sz := H7.size)
  have hpre := zpre (xs' := []) (av := [.ref xo, .ref q5]) hPc hK (hDc.weaken (fun _ _ _ h => h)) hZ hS hFc (fun r hr => by cases hr)
  refine va_callr (va_runV (As := [.ref q5]) (rest := []) ⟨hx, hb, hml, hown, hts⟩ (k_adRZ l dC dI cI cB cR cO zk xo al b1 x1 x2 x3 x4 x5 x7 mc q5 w9 v10 h11 kd 0 H7.size ) (cwV 1 hts gX1_make_X1_addRow rfl rfl rfl (by decide +kernel) ⟨Nat.le_of_ble_eq_true rfl, Nat.le_of_ble_eq_true rfl⟩) ⟨zblind, (zrecv_6 hK hPc (q0 := 0) rfl), hpre⟩ rfl rfl hl.1 rfl (lv_room (Nat.le_of_ble_eq_true rfl)) dX1_make_38 ⟨Nat.le_of_ble_eq_true rfl, Nat.le_of_ble_eq_true rfl⟩) hS (fun q _ h => hFc q h) hFc (fun u r13 t H12 locs ht hvm hw hB hz1 hk1 hS => ?_)
  obtain ⟨⟨hP1, hK1, hD1, hz2⟩, her13⟩ := hB
  rw [ht] at hP1 hz2
  have hPD9 := va_join (wr := []) (w1 := [(xo, .inr (6, [.ref al, x1, x2, x3, x4, x5, .ref b1, x7])), (q5, .inr (5, [.int kd, .int 0, .ref w9, .ref v10, .ref h11, .int 0]))]) hP hD [0, 1, 2] [] rfl rfl (by decide) (by decide) hk1 hFc hP1 hD1
  clear hPc hDc hFc hDv hpre hP hD hP1 hK1 hD1
  obtain ⟨hP, hD⟩ := hPD9
  replace hz : s.heap.size + 4 ≤ H12.size := by omega
  clear hz2
  replace hP : va_P (dC, dI) vwCl [(xo, .inr (6, [.ref al, x1, x2, x3, x4, x5, .ref b1, x7])), (q5, .inr (5, [.int kd, .int 0, .ref w9, .ref v10, .ref h11, .int 0]))] H12 := hP
  replace hD : va_D A [(xo, .inr (6, [.ref al, x1, x2, x3, x4, x5, .ref b1, x7])), (q5, .inr (5, [.int kd, .int 0, .ref w9, .ref v10, .ref h11, .int 0]))] := hD
  refine W.widen (k := 5) (n := 16) (by omega) (by omega) ?_
  obtain rfl := her13.symm
  refine va_getN (D := (dC, dI)) (ci := 5) (v := .int 0) (C := RX0) (T := TX0) (N := 6) hx hb hts hi_X1_make_X0 hown hK hP 1 rfl rfl 5 (by decide) (zn5 hZ) (fun _ h9 => h9) rfl dX1_make_41 ?_
  have hP9 := hP.sub (ws' := [(xo, .inr (6, [.ref al, x1, x2, x3, x4, x5, .ref b1, x7]))]) [0] rfl
  have hD9 := hD.sub (ws' := [(xo, .inr (6, [.ref al, x1, x2, x3, x4, x5, .ref b1, x7]))]) [0] (by decide) rfl
  exact W.iret (v := 0) hx hb hr (fun t ht hW => ⟨⟨_, (), rfl, rfl, ⟨by rw [ht]; exact hP9, va_K.moved hW.alike hK, hD9, by rw [ht]; exact hz⟩⟩, hS.F ht⟩) hS.2.2 dX1_make_44

set_option maxHeartbeats 4000000 in
set_option maxRecDepth 100000 in
theorem k_mkH0s (l : Launch) (dC : Nat → ClassId) (dI : Nat → Nat → Nat) (cI cB cR cO : ClassId) (zk : Nat → Nat) (ou : Nat) (on so : Value) (xo al b1 : Nat) (x1 x2 x3 x4 x5 x7 : Value) (mc : Int32) (kd : Int32) (sz : Nat) (hk0 : ¬ kd < 0) (hk4 : kd ≤ 4) (hkd : ¬ kd = 4) : Met l yL_make wsL_make ({ frames := 7, cells := 5, slots := 16, locals := 170 }) (va_Pc [.ref xo, .int kd, .int 0, .ref ou] (zPre (dC, dI) (zT cI cB cR cO) zk [] [(ou, .inr (7, [on, so])), (xo, .inr (6, [.ref al, x1, x2, x3, x4, x5, .ref b1, x7])), (al, .inr (4, [.int mc, .ref (zk 0), .int 0]))] sz)) (va_Qi (fun r (_ : Unit) => r = 0) (fun _ t => zEnd (dC, dI) (zT cI cB cR cO) (va_A [(ou, .inr (7, [on, so])), (xo, .inr (6, [.ref al, x1, x2, x3, x4, x5, .ref b1, x7])), (al, .inr (4, [.int mc, .ref (zk 0), .int 0]))] sz) [(ou, .inr (7, [.long 0, so])), (xo, .inr (6, [.ref al, x1, x2, x3, x4, x5, .ref b1, x7]))] sz 0 t) (va_A [(ou, .inr (7, [on, so])), (xo, .inr (6, [.ref al, x1, x2, x3, x4, x5, .ref b1, x7])), (al, .inr (4, [.int mc, .ref (zk 0), .int 0]))] sz)) 5 16 (va_A [(ou, .inr (7, [on, so])), (xo, .inr (6, [.ref al, x1, x2, x3, x4, x5, .ref b1, x7])), (al, .inr (4, [.int mc, .ref (zk 0), .int 0]))] sz) := by
  refine zofWH (cc := cL_make) (maxL := 5) (ret := (some .int)) (by decide) rfl ?_
  intro p e s mY args below meth c s₁ B hml hv
  obtain ⟨rfl, hsz, hP, hK, hD0, hZ⟩ := hv
  have hx := B.exec
  have hb := B.bytes
  have hr := B.returns
  have hts := atoms_spec (ws := wsL_make) B.pre
  have hown : s.vm.findClass RL = some mY.cls := findClass_of_methodNamed B.named
  have hlocks := B.notSynchronized
  subst hsz
  have hD := hD0.self (sz := s.heap.size)
  generalize hAe : va_A [(ou, .inr (7, [on, so])), (xo, .inr (6, [.ref al, x1, x2, x3, x4, x5, .ref b1, x7])), (al, .inr (4, [.int mc, .ref (zk 0), .int 0]))] s.heap.size = A at hD hZ ⊢
  have hA : ∀ q : Nat, s.heap.size ≤ q → A q := fun q h => by rw [← hAe]; exact Or.inr h
  have hS : va_S A s.heap s.heap [] := va_S.rf
  have hz : s.heap.size + 0 ≤ s.heap.size := Nat.le_refl _
  have hl := lv_entry ([.ref xo, .int kd, .int 0, .ref ou]) (n := 5) (Nat.le_of_ble_eq_true rfl)
  rw [lg_entry_eq]
  generalize (lg_sl ([.ref xo, .int kd, .int 0, .ref ou]) ++ List.replicate (5 - (lg_sl ([.ref xo, .int kd, .int 0, .ref ou])).length) Slot.unset).toArray = ls at hl ⊢
  have hl : lv_has ls 5 [(0, .ref xo), (1, .int kd), (2, .int 0), (3, .ref ou)] := hl
  have hP : va_P (dC, dI) vwCl [(ou, .inr (7, [on, so])), (xo, .inr (6, [.ref al, x1, x2, x3, x4, x5, .ref b1, x7])), (al, .inr (4, [.int mc, .ref (zk 0), .int 0]))] s.heap := hP
  have hD : va_D A [(ou, .inr (7, [on, so])), (xo, .inr (6, [.ref al, x1, x2, x3, x4, x5, .ref b1, x7])), (al, .inr (4, [.int mc, .ref (zk 0), .int 0]))] := hD
  refine lv_aload_n hx hb dL_make_0 rfl (lv_at hl 3 rfl) ?_
  refine lv_aload_n hx hb dL_make_1 rfl (lv_at hl 0 rfl) ?_
  refine lv_iload_n hx hb dL_make_2 rfl (lv_at hl 1 rfl) ?_
  refine lv_iload_n hx hb dL_make_3 rfl (lv_at hl 2 rfl) ?_
  have hPc := hP.sub (ws' := [(xo, .inr (6, [.ref al, x1, x2, x3, x4, x5, .ref b1, x7])), (al, .inr (4, [.int mc, .ref (zk 0), .int 0]))]) [1, 2] rfl
  have hDc := hD.sub (ws' := [(xo, .inr (6, [.ref al, x1, x2, x3, x4, x5, .ref b1, x7])), (al, .inr (4, [.int mc, .ref (zk 0), .int 0]))]) [1, 2] (by decide) rfl
  have hFc := va_free (wc := [(xo, .inr (6, [.ref al, x1, x2, x3, x4, x5, .ref b1, x7])), (al, .inr (4, [.int mc, .ref (zk 0), .int 0]))]) hD hS hA [1, 2] rfl
  have hDv := hDc.self (sz := s.heap.size)
  have hpre := zpre (xs' := []) (av := [.ref xo, .int kd, .int 0]) hPc hK (hDc.weaken (fun _ _ _ h => h)) hZ hS hFc (fun r hr => by cases hr)
  refine va_calli (va_runV (As := [.int kd, .int 0]) (rest := [.ref ou]) ⟨hx, hb, hml, hown, hts⟩ (k_mkX0s l dC dI cI cB cR cO zk xo al b1 x1 x2 x3 x4 x5 x7 mc kd s.heap.size hk0 hk4 hkd) (cwV 2 hts gL_make_X1_make rfl rfl rfl (by decide +kernel) ⟨Nat.le_of_ble_eq_true rfl, Nat.le_of_ble_eq_true rfl⟩) ⟨zblind, (zrecv_6 hK hPc (q0 := 0) rfl), hpre⟩ rfl rfl hl.1 rfl (lv_room (Nat.le_of_ble_eq_true rfl)) dL_make_4 ⟨Nat.le_of_ble_eq_true rfl, Nat.le_of_ble_eq_true rfl⟩) hS (fun q _ h => hFc q h) hFc (fun r2 u t H1 locs ht hvm hw hB hz1 hk1 hS => ?_)
  obtain rfl : 0 = r2 := (show r2 = 0 from hw).symm
  obtain ⟨hP1, hK1, hD1, hz2⟩ := hB
  rw [ht] at hP1 hz2
  have hPD9 := va_join (wr := [(ou, .inr (7, [on, so]))]) (w1 := [(xo, .inr (6, [.ref al, x1, x2, x3, x4, x5, .ref b1, x7]))]) hP hD [1, 2] [0] rfl rfl (by decide) (by decide) hk1 hFc hP1 hD1
  clear hPc hDc hFc hDv hpre hP hD hP1 hK1 hD1
  obtain ⟨hP, hD⟩ := hPD9
  replace hz : s.heap.size + 0 ≤ H1.size := by omega
  clear hz2
  replace hP : va_P (dC, dI) vwCl [(ou, .inr (7, [on, so])), (xo, .inr (6, [.ref al, x1, x2, x3, x4, x5, .ref b1, x7]))] H1 := hP
  replace hD : va_D A [(ou, .inr (7, [on, so])), (xo, .inr (6, [.ref al, x1, x2, x3, x4, x5, .ref b1, x7]))] := hD
  refine W.widen (k := 5) (n := 16) (by omega) (by omega) ?_
  refine lv_i2l (v := 0) hx hb dL_make_7 (by decide) ?_
  refine va_putN (D := (dC, dI)) (ci := 7) (v := .long 0) (ty := .long) (C := RX2) (T := TX2) (N := 2) hx hb hts hi_L_make_X2 tyX2 tyX2_ok nmX2 hown hK hP hD (zS0 hS) 0 rfl rfl 0 (by decide) (zn6 hZ) (fun _ h9 => h9) rfl (by decide +kernel) rfl rfl (Nat.le_of_ble_eq_true rfl) dL_make_8 (fun H3 locs hP hD hS1 => ?_)
  have hz : s.heap.size + 0 ≤ H3.size := Nat.le_trans hz hS1.1
  have hS := zSS hS hS1
  replace hP : va_P (dC, dI) vwCl [(ou, .inr (7, [.long 0, so])), (xo, .inr (6, [.ref al, x1, x2, x3, x4, x5, .ref b1, x7]))] H3 := hP
  replace hD : va_D A [(ou, .inr (7, [.long 0, so])), (xo, .inr (6, [.ref al, x1, x2, x3, x4, x5, .ref b1, x7]))] := hD
  refine lv_goto (tgt := 22) hx hb dL_make_11 (by decide) ?_
  refine lv_iconst (v := 0) hx hb dL_make_22 (by decide) ?_
  have hP9 := hP.sub (ws' := [(ou, .inr (7, [.long 0, so])), (xo, .inr (6, [.ref al, x1, x2, x3, x4, x5, .ref b1, x7]))]) [0, 1] rfl
  have hD9 := hD.sub (ws' := [(ou, .inr (7, [.long 0, so])), (xo, .inr (6, [.ref al, x1, x2, x3, x4, x5, .ref b1, x7]))]) [0, 1] (by decide) rfl
  exact W.iret (v := 0) hx hb hr (fun t ht hW => ⟨⟨_, (), rfl, rfl, ⟨by rw [ht]; exact hP9, va_K.moved hW.alike hK, hD9, by rw [ht]; exact hz⟩⟩, hS.F ht⟩) hS.2.2 dL_make_23

set_option maxHeartbeats 4000000 in
set_option maxRecDepth 100000 in
theorem k_mkX14 (l : Launch) (dC : Nat → ClassId) (dI : Nat → Nat → Nat) (cI cB cR cO : ClassId) (zk : Nat → Nat) (xo al b1 : Nat) (x1 x2 x3 x4 x5 x7 : Value) (mc : Int32) (sz : Nat)  : Met l yX1_make wsX1_make ({ frames := 6, cells := 5, slots := 19, locals := 148 }) (va_Pc [.ref xo, .int 4, .int 1] (zPre (dC, dI) (zT cI cB cR cO) zk [] [(xo, .inr (6, [.ref al, x1, x2, x3, x4, x5, .ref b1, x7])), (al, .inr (4, [.int mc, .ref (zk 0), .int 0]))] sz)) (va_Qi (fun r (_ : Unit) => r = 0) (fun _ t => zEnd (dC, dI) (zT cI cB cR cO) (va_A [(xo, .inr (6, [.ref al, x1, x2, x3, x4, x5, .ref b1, x7])), (al, .inr (4, [.int mc, .ref (zk 0), .int 0]))] sz) [(xo, .inr (6, [.ref al, x1, x2, x3, x4, x5, .ref b1, x7]))] sz 4 t) (va_A [(xo, .inr (6, [.ref al, x1, x2, x3, x4, x5, .ref b1, x7])), (al, .inr (4, [.int mc, .ref (zk 0), .int 0]))] sz)) 5 19 (va_A [(xo, .inr (6, [.ref al, x1, x2, x3, x4, x5, .ref b1, x7])), (al, .inr (4, [.int mc, .ref (zk 0), .int 0]))] sz) := by
  refine Met.ofW (cc := cX1_make) (maxL := 3) (ret := (some .int)) (by decide) rfl ?_
  intro p e s mY args below meth c s₁ B hml hv
  obtain ⟨rfl, hsz, hP, hK, hD0, hZ⟩ := hv
  have hx := B.exec
  have hb := B.bytes
  have hr := B.returns
  have hts := atoms_spec (ws := wsX1_make) B.pre
  have hown : s.vm.findClass RX1 = some mY.cls := findClass_of_methodNamed B.named
  have hlocks := B.notSynchronized
  subst hsz
  have hD := hD0.self (sz := s.heap.size)
  generalize hAe : va_A [(xo, .inr (6, [.ref al, x1, x2, x3, x4, x5, .ref b1, x7])), (al, .inr (4, [.int mc, .ref (zk 0), .int 0]))] s.heap.size = A at hD hZ ⊢
  have hA : ∀ q : Nat, s.heap.size ≤ q → A q := fun q h => by rw [← hAe]; exact Or.inr h
  have hS : va_S A s.heap s.heap [] := va_S.rf
  have hz : s.heap.size + 0 ≤ s.heap.size := Nat.le_refl _
  have hl := lv_entry ([.ref xo, .int 4, .int 1]) (n := 3) (Nat.le_of_ble_eq_true rfl)
  rw [lg_entry_eq]
  generalize (lg_sl ([.ref xo, .int 4, .int 1]) ++ List.replicate (3 - (lg_sl ([.ref xo, .int 4, .int 1])).length) Slot.unset).toArray = ls at hl ⊢
  have hl : lv_has ls 3 [(0, .ref xo), (1, .int 4), (2, .int 1)] := hl
  have hP : va_P (dC, dI) vwCl [(xo, .inr (6, [.ref al, x1, x2, x3, x4, x5, .ref b1, x7])), (al, .inr (4, [.int mc, .ref (zk 0), .int 0]))] s.heap := hP
  have hD : va_D A [(xo, .inr (6, [.ref al, x1, x2, x3, x4, x5, .ref b1, x7])), (al, .inr (4, [.int mc, .ref (zk 0), .int 0]))] := hD
  refine lv_iload_n hx hb dX1_make_0 rfl (lv_at hl 1 rfl) ?_
  refine lv_if_lt (tgt := 9) hx hb dX1_make_1 (by decide) (fun c9 => ?_) (fun c9 => ?_)
  · exact absurd c9 (by decide)
  refine lv_iload_n hx hb dX1_make_4 rfl (lv_at hl 1 rfl) ?_
  refine lv_iconst (v := 4) hx hb dX1_make_5 (by decide) ?_
  refine lv_icmp_le (tgt := 19) hx hb dX1_make_6 (by decide) (fun c9 => ?_) (fun c9 => ?_)
  rotate_left
  · exact absurd (by decide) c9
  refine lv_iload_n hx hb dX1_make_19 rfl (lv_at hl 2 rfl) ?_
  have hPc := hP.sub (ws' := []) [] rfl
  have hDc := hD.sub (ws' := []) [] (by decide) rfl
  have hFc := va_free (wc := []) hD hS hA [] rfl
  have hDv := hDc.self (sz := s.heap.size)
  have hpre := zpre (xs' := []) (av := [.int 1]) hPc hK (hDc.weaken (fun _ _ _ h => h)) hZ hS hFc (fun r hr => by cases hr)
  refine va_callv (va_runS (As := [.int 1]) (rest := []) ⟨hx, hb, hml, hown, hts⟩ (k_rqL1 l dC dI cI cB cR cO zk  s.heap.size ) (va_cwS 1 hts gX1_make_X1_requireLength rfl rfl rfl (by decide +kernel) ⟨Nat.le_of_ble_eq_true rfl, Nat.le_of_ble_eq_true rfl⟩) ⟨zblind, hpre⟩ rfl rfl hl.1 rfl (lv_room (Nat.le_of_ble_eq_true rfl)) dX1_make_20 ⟨Nat.le_of_ble_eq_true rfl, Nat.le_of_ble_eq_true rfl⟩) hS (fun q _ h => hFc q h) hFc (fun u t H1 locs ht hvm hw hB hz1 hk1 hS => ?_)
  obtain ⟨hP1, hK1, hD1, hz2⟩ := hB
  rw [ht] at hP1 hz2
  have hPD9 := va_join (wr := [(xo, .inr (6, [.ref al, x1, x2, x3, x4, x5, .ref b1, x7])), (al, .inr (4, [.int mc, .ref (zk 0), .int 0]))]) (w1 := []) hP hD [] [0, 1] rfl rfl (by decide) (by decide) hk1 hFc hP1 hD1
  clear hPc hDc hFc hDv hpre hP hD hP1 hK1 hD1
  obtain ⟨hP, hD⟩ := hPD9
  replace hz : s.heap.size + 0 ≤ H1.size := by omega
  clear hz2
  replace hP : va_P (dC, dI) vwCl [(xo, .inr (6, [.ref al, x1, x2, x3, x4, x5, .ref b1, x7])), (al, .inr (4, [.int mc, .ref (zk 0), .int 0]))] H1 := hP
  replace hD : va_D A [(xo, .inr (6, [.ref al, x1, x2, x3, x4, x5, .ref b1, x7])), (al, .inr (4, [.int mc, .ref (zk 0), .int 0]))] := hD
  refine W.widen (k := 0) (n := 0) (by omega) (by omega) ?_
  refine lv_aload_n hx hb dX1_make_23 rfl (lv_at hl 0 rfl) ?_
  refine lv_iconst (v := 1) hx hb dX1_make_24 (by decide) ?_
  have hPc := hP.sub (ws' := [(xo, .inr (6, [.ref al, x1, x2, x3, x4, x5, .ref b1, x7])), (al, .inr (4, [.int mc, .ref (zk 0), .int 0]))]) [0, 1] rfl
  have hDc := hD.sub (ws' := [(xo, .inr (6, [.ref al, x1, x2, x3, x4, x5, .ref b1, x7])), (al, .inr (4, [.int mc, .ref (zk 0), .int 0]))]) [0, 1] (by decide) rfl
  have hFc := va_free (wc := [(xo, .inr (6, [.ref al, x1, x2, x3, x4, x5, .ref b1, x7])), (al, .inr (4, [.int mc, .ref (zk 0), .int 0]))]) hD hS hA [0, 1] rfl
  have hDv := hDc.self (sz := H1.size)
  have hpre := zpre (xs' := []) (av := [.ref xo, .int 1]) hPc hK (hDc.weaken (fun _ _ _ h => h)) hZ hS hFc (fun r hr => by cases hr)
  refine va_callv (va_runV (As := [.int 1]) (rest := []) ⟨hx, hb, hml, hown, hts⟩ (k_rqR0 l dC dI cI cB cR cO zk xo al b1 x1 x2 x3 x4 x5 x7 (zk 0) mc H1.size ) (cwV 1 hts gX1_make_X1_requireRoom rfl rfl rfl (by decide +kernel) ⟨Nat.le_of_ble_eq_true rfl, Nat.le_of_ble_eq_true rfl⟩) ⟨zblind, (zrecv_6 hK hPc (q0 := 0) rfl), hpre⟩ rfl rfl hl.1 rfl (lv_room (Nat.le_of_ble_eq_true rfl)) dX1_make_25 ⟨Nat.le_of_ble_eq_true rfl, Nat.le_of_ble_eq_true rfl⟩) hS (fun q _ h => hFc q h) hFc (fun u t H3 locs ht hvm hw hB hz1 hk1 hS => ?_)
  obtain ⟨hP1, hK1, hD1, hz2⟩ := hB
  rw [ht] at hP1 hz2
  have hPD9 := va_join (wr := []) (w1 := [(xo, .inr (6, [.ref al, x1, x2, x3, x4, x5, .ref b1, x7])), (al, .inr (4, [.int mc, .ref (zk 0), .int 0]))]) hP hD [0, 1] [] rfl rfl (by decide) (by decide) hk1 hFc hP1 hD1
  clear hPc hDc hFc hDv hpre hP hD hP1 hK1 hD1
  obtain ⟨hP, hD⟩ := hPD9
  replace hz : s.heap.size + 0 ≤ H3.size := by omega
  clear hz2
  replace hP : va_P (dC, dI) vwCl [(xo, .inr (6, [.ref al, x1, x2, x3, x4, x5, .ref b1, x7])), (al, .inr (4, [.int mc, .ref (zk 0), .int 0]))] H3 := hP
  replace hD : va_D A [(xo, .inr (6, [.ref al, x1, x2, x3, x4, x5, .ref b1, x7])), (al, .inr (4, [.int mc, .ref (zk 0), .int 0]))] := hD
  refine W.widen (k := 0) (n := 0) (by omega) (by omega) ?_
  refine lv_aload_n hx hb dX1_make_28 rfl (lv_at hl 0 rfl) ?_
  refine zw_new (ci := 5) (fs := [.int 0, .int 0, .null, .null, .null, .int 0]) (C := RX0) (T := TX0) (N := 6) hx hb hts hi_X1_make_X0 tyX0 tyX0_ok hown (hts (.classLink RX1 26 "Deeprows$Row") (List.mem_cons_of_mem _ zw_99)) (hts (.instantiable RX0 6) (List.mem_cons_of_mem _ zw_100)) (hts (.initialized RX0) (List.mem_cons_of_mem _ zw_39)) hK hP hD hS hA rfl (fun j hj => by rcases (show j = 0 ∨ j = 1 ∨ j = 2 ∨ j = 3 ∨ j = 4 ∨ j = 5 by omega) with rfl | rfl | rfl | rfl | rfl | rfl <;> rfl) (Nat.le_of_ble_eq_true rfl) (Nat.le_of_ble_eq_true rfl) dX1_make_29 hz (fun q5 H6 hP hD hS hz => ?_)
  replace hP : va_P (dC, dI) vwCl [(xo, .inr (6, [.ref al, x1, x2, x3, x4, x5, .ref b1, x7])), (al, .inr (4, [.int mc, .ref (zk 0), .int 0])), (q5, .inr (5, [.int 0, .int 0, .null, .null, .null, .int 0]))] H6 := hP
  replace hD : va_D A [(xo, .inr (6, [.ref al, x1, x2, x3, x4, x5, .ref b1, x7])), (al, .inr (4, [.int mc, .ref (zk 0), .int 0])), (q5, .inr (5, [.int 0, .int 0, .null, .null, .null, .int 0]))] := hD
  refine W.widen (k := 1) (n := 6) (by omega) (by omega) ?_
  refine lv_dup hx hb dX1_make_32 rfl ?_
  refine lv_iload_n hx hb dX1_make_33 rfl (lv_at hl 1 rfl) ?_
  refine lv_iload_n hx hb dX1_make_34 rfl (lv_at hl 2 rfl) ?_
  have hPc := hP.sub (ws' := [(q5, .inr (5, [.int 0, .int 0, .null, .null, .null, .int 0]))]) [2] rfl
  have hDc := hD.sub (ws' := [(q5, .inr (5, [.int 0, .int 0, .null, .null, .null, .int 0]))]) [2] (by decide) rfl
  have hFc := va_free (wc := [(q5, .inr (5, [.int 0, .int 0, .null, .null, .null, .int 0]))]) hD hS hA [2] rfl
  have hDv := hDc.self (sz := H6.size)
  have hpre := zpre (xs' := []) (av := [.ref q5, .int 4, .int 1]) hPc hK (hDc.weaken (fun _ _ _ h => h)) hZ hS hFc (fun r hr => by cases hr)
  refine va_callv (va_runI (As := [.int 4, .int 1]) (rest := [.ref q5, .ref xo]) ⟨hx, hb, hml, hown, hts⟩ (k_rI14 l dC dI cI cB cR cO zk q5 H6.size ) (cwI 2 hts gX1_make_X0_init rfl rfl rfl (hts (.initialized RX0) (List.mem_cons_of_mem _ zw_39)) (hts (.methodLink RX1 28 yX0_init) (List.mem_cons_of_mem _ zw_101)) (hts (.instanceMethod yX0_init) (List.mem_cons_of_mem _ zw_102)) rfl (by decide +kernel) ⟨Nat.le_of_ble_eq_true rfl, Nat.le_of_ble_eq_true rfl⟩) ⟨zblind, hpre⟩ rfl rfl hl.1 rfl (lv_room (Nat.le_of_ble_eq_true rfl)) dX1_make_35 ⟨Nat.le_of_ble_eq_true rfl, Nat.le_of_ble_eq_true rfl⟩) hS (fun q _ h => hFc q h) hFc (fun u t H7 locs ht hvm hw hB hz1 hk1 hS => ?_)
  obtain ⟨w9, v10, h11, ⟨hP1, hK1, hD1, hz2⟩⟩ := hB
  rw [ht] at hP1 hz2
  have hPD9 := va_join (wr := [(xo, .inr (6, [.ref al, x1, x2, x3, x4, x5, .ref b1, x7])), (al, .inr (4, [.int mc, .ref (zk 0), .int 0]))]) (w1 := [(q5, .inr (5, [.int 4, .int 1, .ref w9, .ref v10, .ref h11, .int 0]))]) hP hD [2] [0, 1] rfl rfl (by decide) (by decide) hk1 hFc hP1 hD1
  clear hPc hDc hFc hDv hpre hP hD hP1 hK1 hD1
  obtain ⟨hP, hD⟩ := hPD9
  replace hz : s.heap.size + 4 ≤ H7.size := by omega
  clear hz2
  replace hP : va_P (dC, dI) vwCl [(xo, .inr (6, [.ref al, x1, x2, x3, x4, x5, .ref b1, x7])), (al, .inr (4, [.int mc, .ref (zk 0), .int 0])), (q5, .inr (5, [.int 4, .int 1, .ref w9, .ref v10, .ref h11, .int 0]))] H7 := hP
  replace hD : va_D A [(xo, .inr (6, [.ref al, x1, x2, x3, x4, x5, .ref b1, x7])), (al, .inr (4, [.int mc, .ref (zk 0), .int 0])), (q5, .inr (5, [.int 4, .int 1, .ref w9, .ref v10, .ref h11, .int 0]))] := hD
  refine W.widen (k := 4) (n := 9) (by omega) (by omega) ?_
  have hPc := hP.sub (ws' := [(xo, .inr (6, [.ref al, x1, x2, x3, x4, x5, .ref b1, x7])), (al, .inr (4, [.int mc, .ref (zk 0), .int 0])), (q5, .inr (5, [.int 4, .int 1, .ref w9, .ref v10, .ref h11, .int 0]))]) [0, 1, 2] rfl
  have hDc := hD.sub (ws' := [(xo, .inr (6, [.ref al, x1, x2, x3, x4, x5, .ref b1, x7])), (al, .inr (4, [.int mc, .ref (zk 0), .int 0])), (q5, .inr (5, [.int 4, .int 1, .ref w9, .ref v10, .ref h11, .int 0]))]) [0, 1, 2] (by decide) rfl
  have hFc := va_free (wc := [(xo, .inr (6, [.ref al, x1, x2, x3, x4, x5, .ref b1, x7])), (al, .inr (4, [.int mc, .ref (zk 0), .int 0])), (q5, .inr (5, [.int 4, .int 1, .ref w9, .ref v10, .ref h11, .int 0]))]) hD hS hA [0, 1, 2] rfl
  have hDv := hDc.self (sz := H7.size)
  have hpre := zpre (xs' := []) (av := [.ref xo, .ref q5]) hPc hK (hDc.weaken (fun _ _ _ h => h)) hZ hS hFc (fun r hr => by cases hr)
  refine va_callr (va_runV (As := [.ref q5]) (rest := []) ⟨hx, hb, hml, hown, hts⟩ (k_adRZ l dC dI cI cB cR cO zk xo al b1 x1 x2 x3 x4 x5 x7 mc q5 w9 v10 h11 4 1 H7.size ) (cwV 1 hts gX1_make_X1_addRow rfl rfl rfl (by decide +kernel) ⟨Nat.le_of_ble_eq_true rfl, Nat.le_of_ble_eq_true rfl⟩) ⟨zblind, (zrecv_6 hK hPc (q0 := 0) rfl), hpre⟩ rfl rfl hl.1 rfl (lv_room (Nat.le_of_ble_eq_true rfl)) dX1_make_38 ⟨Nat.le_of_ble_eq_true rfl, Nat.le_of_ble_eq_true rfl⟩) hS (fun q _ h => hFc q h) hFc (fun u r13 t H12 locs ht hvm hw hB hz1 hk1 hS => ?_)
  obtain ⟨⟨hP1, hK1, hD1, hz2⟩, her13⟩ := hB
  rw [ht] at hP1 hz2
  have hPD9 := va_join (wr := []) (w1 := [(xo, .inr (6, [.ref al, x1, x2, x3, x4, x5, .ref b1, x7])), (q5, .inr (5, [.int 4, .int 1, .ref w9, .ref v10, .ref h11, .int 0]))]) hP hD [0, 1, 2] [] rfl rfl (by decide) (by decide) hk1 hFc hP1 hD1
  clear hPc hDc hFc hDv hpre hP hD hP1 hK1 hD1
  obtain ⟨hP, hD⟩ := hPD9
  replace hz : s.heap.size + 4 ≤ H12.size := by omega
  clear hz2
  replace hP : va_P (dC, dI) vwCl [(xo, .inr (6, [.ref al, x1, x2, x3, x4, x5, .ref b1, x7])), (q5, .inr (5, [.int 4, .int 1, .ref w9, .ref v10, .ref h11, .int 0]))] H12 := hP
  replace hD : va_D A [(xo, .inr (6, [.ref al, x1, x2, x3, x4, x5, .ref b1, x7])), (q5, .inr (5, [.int 4, .int 1, .ref w9, .ref v10, .ref h11, .int 0]))] := hD
  refine W.widen (k := 5) (n := 19) (by omega) (by omega) ?_
  obtain rfl := her13.symm
  refine va_getN (D := (dC, dI)) (ci := 5) (v := .int 0) (C := RX0) (T := TX0) (N := 6) hx hb hts hi_X1_make_X0 hown hK hP 1 rfl rfl 5 (by decide) (zn5 hZ) (fun _ h9 => h9) rfl dX1_make_41 ?_
  have hP9 := hP.sub (ws' := [(xo, .inr (6, [.ref al, x1, x2, x3, x4, x5, .ref b1, x7]))]) [0] rfl
  have hD9 := hD.sub (ws' := [(xo, .inr (6, [.ref al, x1, x2, x3, x4, x5, .ref b1, x7]))]) [0] (by decide) rfl
  exact W.iret (v := 0) hx hb hr (fun t ht hW => ⟨⟨_, (), rfl, rfl, ⟨by rw [ht]; exact hP9, va_K.moved hW.alike hK, hD9, by rw [ht]; exact hz⟩⟩, hS.F ht⟩) hS.2.2 dX1_make_44

set_option maxHeartbeats 4000000 in
set_option maxRecDepth 100000 in
theorem k_mkH14 (l : Launch) (dC : Nat → ClassId) (dI : Nat → Nat → Nat) (cI cB cR cO : ClassId) (zk : Nat → Nat) (ou : Nat) (on so : Value) (xo al b1 : Nat) (x1 x2 x3 x4 x5 x7 : Value) (mc : Int32) (sz : Nat)  : Met l yL_make wsL_make ({ frames := 7, cells := 5, slots := 19, locals := 170 }) (va_Pc [.ref xo, .int 4, .int 1, .ref ou] (zPre (dC, dI) (zT cI cB cR cO) zk [] [(ou, .inr (7, [on, so])), (xo, .inr (6, [.ref al, x1, x2, x3, x4, x5, .ref b1, x7])), (al, .inr (4, [.int mc, .ref (zk 0), .int 0]))] sz)) (va_Qi (fun r (_ : Unit) => r = 0) (fun _ t => zEnd (dC, dI) (zT cI cB cR cO) (va_A [(ou, .inr (7, [on, so])), (xo, .inr (6, [.ref al, x1, x2, x3, x4, x5, .ref b1, x7])), (al, .inr (4, [.int mc, .ref (zk 0), .int 0]))] sz) [(ou, .inr (7, [.long 0, so])), (xo, .inr (6, [.ref al, x1, x2, x3, x4, x5, .ref b1, x7]))] sz 0 t) (va_A [(ou, .inr (7, [on, so])), (xo, .inr (6, [.ref al, x1, x2, x3, x4, x5, .ref b1, x7])), (al, .inr (4, [.int mc, .ref (zk 0), .int 0]))] sz)) 5 19 (va_A [(ou, .inr (7, [on, so])), (xo, .inr (6, [.ref al, x1, x2, x3, x4, x5, .ref b1, x7])), (al, .inr (4, [.int mc, .ref (zk 0), .int 0]))] sz) := by
  refine zofWH (cc := cL_make) (maxL := 5) (ret := (some .int)) (by decide) rfl ?_
  intro p e s mY args below meth c s₁ B hml hv
  obtain ⟨rfl, hsz, hP, hK, hD0, hZ⟩ := hv
  have hx := B.exec
  have hb := B.bytes
  have hr := B.returns
  have hts := atoms_spec (ws := wsL_make) B.pre
  have hown : s.vm.findClass RL = some mY.cls := findClass_of_methodNamed B.named
  have hlocks := B.notSynchronized
  subst hsz
  have hD := hD0.self (sz := s.heap.size)
  generalize hAe : va_A [(ou, .inr (7, [on, so])), (xo, .inr (6, [.ref al, x1, x2, x3, x4, x5, .ref b1, x7])), (al, .inr (4, [.int mc, .ref (zk 0), .int 0]))] s.heap.size = A at hD hZ ⊢
  have hA : ∀ q : Nat, s.heap.size ≤ q → A q := fun q h => by rw [← hAe]; exact Or.inr h
  have hS : va_S A s.heap s.heap [] := va_S.rf
  have hz : s.heap.size + 0 ≤ s.heap.size := Nat.le_refl _
  have hl := lv_entry ([.ref xo, .int 4, .int 1, .ref ou]) (n := 5) (Nat.le_of_ble_eq_true rfl)
  rw [lg_entry_eq]
  generalize (lg_sl ([.ref xo, .int 4, .int 1, .ref ou]) ++ List.replicate (5 - (lg_sl ([.ref xo, .int 4, .int 1, .ref ou])).length) Slot.unset).toArray = ls at hl ⊢
  have hl : lv_has ls 5 [(0, .ref xo), (1, .int 4), (2, .int 1), (3, .ref ou)] := hl
  have hP : va_P (dC, dI) vwCl [(ou, .inr (7, [on, so])), (xo, .inr (6, [.ref al, x1, x2, x3, x4, x5, .ref b1, x7])), (al, .inr (4, [.int mc, .ref (zk 0), .int 0]))] s.heap := hP
  have hD : va_D A [(ou, .inr (7, [on, so])), (xo, .inr (6, [.ref al, x1, x2, x3, x4, x5, .ref b1, x7])), (al, .inr (4, [.int mc, .ref (zk 0), .int 0]))] := hD
  refine lv_aload_n hx hb dL_make_0 rfl (lv_at hl 3 rfl) ?_
  refine lv_aload_n hx hb dL_make_1 rfl (lv_at hl 0 rfl) ?_
  refine lv_iload_n hx hb dL_make_2 rfl (lv_at hl 1 rfl) ?_
  refine lv_iload_n hx hb dL_make_3 rfl (lv_at hl 2 rfl) ?_
  have hPc := hP.sub (ws' := [(xo, .inr (6, [.ref al, x1, x2, x3, x4, x5, .ref b1, x7])), (al, .inr (4, [.int mc, .ref (zk 0), .int 0]))]) [1, 2] rfl
  have hDc := hD.sub (ws' := [(xo, .inr (6, [.ref al, x1, x2, x3, x4, x5, .ref b1, x7])), (al, .inr (4, [.int mc, .ref (zk 0), .int 0]))]) [1, 2] (by decide) rfl
  have hFc := va_free (wc := [(xo, .inr (6, [.ref al, x1, x2, x3, x4, x5, .ref b1, x7])), (al, .inr (4, [.int mc, .ref (zk 0), .int 0]))]) hD hS hA [1, 2] rfl
  have hDv := hDc.self (sz := s.heap.size)
  have hpre := zpre (xs' := []) (av := [.ref xo, .int 4, .int 1]) hPc hK (hDc.weaken (fun _ _ _ h => h)) hZ hS hFc (fun r hr => by cases hr)
  refine va_calli (va_runV (As := [.int 4, .int 1]) (rest := [.ref ou]) ⟨hx, hb, hml, hown, hts⟩ (k_mkX14 l dC dI cI cB cR cO zk xo al b1 x1 x2 x3 x4 x5 x7 mc s.heap.size ) (cwV 2 hts gL_make_X1_make rfl rfl rfl (by decide +kernel) ⟨Nat.le_of_ble_eq_true rfl, Nat.le_of_ble_eq_true rfl⟩) ⟨zblind, (zrecv_6 hK hPc (q0 := 0) rfl), hpre⟩ rfl rfl hl.1 rfl (lv_room (Nat.le_of_ble_eq_true rfl)) dL_make_4 ⟨Nat.le_of_ble_eq_true rfl, Nat.le_of_ble_eq_true rfl⟩) hS (fun q _ h => hFc q h) hFc (fun r2 u t H1 locs ht hvm hw hB hz1 hk1 hS => ?_)
  obtain rfl : 0 = r2 := (show r2 = 0 from hw).symm
  obtain ⟨hP1, hK1, hD1, hz2⟩ := hB
  rw [ht] at hP1 hz2
  have hPD9 := va_join (wr := [(ou, .inr (7, [on, so]))]) (w1 := [(xo, .inr (6, [.ref al, x1, x2, x3, x4, x5, .ref b1, x7]))]) hP hD [1, 2] [0] rfl rfl (by decide) (by decide) hk1 hFc hP1 hD1
  clear hPc hDc hFc hDv hpre hP hD hP1 hK1 hD1
  obtain ⟨hP, hD⟩ := hPD9
  replace hz : s.heap.size + 0 ≤ H1.size := by omega
  clear hz2
  replace hP : va_P (dC, dI) vwCl [(ou, .inr (7, [on, so])), (xo, .inr (6, [.ref al, x1, x2, x3, x4, x5, .ref b1, x7]))] H1 := hP
  replace hD : va_D A [(ou, .inr (7, [on, so])), (xo, .inr (6, [.ref al, x1, x2, x3, x4, x5, .ref b1, x7]))] := hD
  refine W.widen (k := 5) (n := 19) (by omega) (by omega) ?_
  refine lv_i2l (v := 0) hx hb dL_make_7 (by decide) ?_
  refine va_putN (D := (dC, dI)) (ci := 7) (v := .long 0) (ty := .long) (C := RX2) (T := TX2) (N := 2) hx hb hts hi_L_make_X2 tyX2 tyX2_ok nmX2 hown hK hP hD (zS0 hS) 0 rfl rfl 0 (by decide) (zn6 hZ) (fun _ h9 => h9) rfl (by decide +kernel) rfl rfl (Nat.le_of_ble_eq_true rfl) dL_make_8 (fun H3 locs hP hD hS1 => ?_)
  have hz : s.heap.size + 0 ≤ H3.size := Nat.le_trans hz hS1.1
  have hS := zSS hS hS1
  replace hP : va_P (dC, dI) vwCl [(ou, .inr (7, [.long 0, so])), (xo, .inr (6, [.ref al, x1, x2, x3, x4, x5, .ref b1, x7]))] H3 := hP
  replace hD : va_D A [(ou, .inr (7, [.long 0, so])), (xo, .inr (6, [.ref al, x1, x2, x3, x4, x5, .ref b1, x7]))] := hD
  refine lv_goto (tgt := 22) hx hb dL_make_11 (by decide) ?_
  refine lv_iconst (v := 0) hx hb dL_make_22 (by decide) ?_
  have hP9 := hP.sub (ws' := [(ou, .inr (7, [.long 0, so])), (xo, .inr (6, [.ref al, x1, x2, x3, x4, x5, .ref b1, x7]))]) [0, 1] rfl
  have hD9 := hD.sub (ws' := [(ou, .inr (7, [.long 0, so])), (xo, .inr (6, [.ref al, x1, x2, x3, x4, x5, .ref b1, x7]))]) [0, 1] (by decide) rfl
  exact W.iret (v := 0) hx hb hr (fun t ht hW => ⟨⟨_, (), rfl, rfl, ⟨by rw [ht]; exact hP9, va_K.moved hW.alike hK, hD9, by rw [ht]; exact hz⟩⟩, hS.F ht⟩) hS.2.2 dL_make_23

set_option maxHeartbeats 4000000 in
set_option maxRecDepth 100000 in
theorem k_mkX1s (l : Launch) (dC : Nat → ClassId) (dI : Nat → Nat → Nat) (cI cB cR cO : ClassId) (zk : Nat → Nat) (xo al b1 : Nat) (x1 x2 x3 x4 x5 x7 : Value) (mc : Int32) (kd : Int32) (sz : Nat) (hk0 : ¬ kd < 0) (hk4 : kd ≤ 4) (hkd : ¬ kd = 4) : Met l yX1_make wsX1_make ({ frames := 6, cells := 5, slots := 19, locals := 148 }) (va_Pc [.ref xo, .int kd, .int 1] (zPre (dC, dI) (zT cI cB cR cO) zk [] [(xo, .inr (6, [.ref al, x1, x2, x3, x4, x5, .ref b1, x7])), (al, .inr (4, [.int mc, .ref (zk 0), .int 0]))] sz)) (va_Qi (fun r (_ : Unit) => r = 0) (fun _ t => zEnd (dC, dI) (zT cI cB cR cO) (va_A [(xo, .inr (6, [.ref al, x1, x2, x3, x4, x5, .ref b1, x7])), (al, .inr (4, [.int mc, .ref (zk 0), .int 0]))] sz) [(xo, .inr (6, [.ref al, x1, x2, x3, x4, x5, .ref b1, x7]))] sz 4 t) (va_A [(xo, .inr (6, [.ref al, x1, x2, x3, x4, x5, .ref b1, x7])), (al, .inr (4, [.int mc, .ref (zk 0), .int 0]))] sz)) 5 19 (va_A [(xo, .inr (6, [.ref al, x1, x2, x3, x4, x5, .ref b1, x7])), (al, .inr (4, [.int mc, .ref (zk 0), .int 0]))] sz) := by
  refine Met.ofW (cc := cX1_make) (maxL := 3) (ret := (some .int)) (by decide) rfl ?_
  intro p e s mY args below meth c s₁ B hml hv
  obtain ⟨rfl, hsz, hP, hK, hD0, hZ⟩ := hv
  have hx := B.exec
  have hb := B.bytes
  have hr := B.returns
  have hts := atoms_spec (ws := wsX1_make) B.pre
  have hown : s.vm.findClass RX1 = some mY.cls := findClass_of_methodNamed B.named
  have hlocks := B.notSynchronized
  subst hsz
  have hD := hD0.self (sz := s.heap.size)
  generalize hAe : va_A [(xo, .inr (6, [.ref al, x1, x2, x3, x4, x5, .ref b1, x7])), (al, .inr (4, [.int mc, .ref (zk 0), .int 0]))] s.heap.size = A at hD hZ ⊢
  have hA : ∀ q : Nat, s.heap.size ≤ q → A q := fun q h => by rw [← hAe]; exact Or.inr h
  have hS : va_S A s.heap s.heap [] := va_S.rf
  have hz : s.heap.size + 0 ≤ s.heap.size := Nat.le_refl _
  have hl := lv_entry ([.ref xo, .int kd, .int 1]) (n := 3) (Nat.le_of_ble_eq_true rfl)
  rw [lg_entry_eq]
  generalize (lg_sl ([.ref xo, .int kd, .int 1]) ++ List.replicate (3 - (lg_sl ([.ref xo, .int kd, .int 1])).length) Slot.unset).toArray = ls at hl ⊢
  have hl : lv_has ls 3 [(0, .ref xo), (1, .int kd), (2, .int 1)] := hl
  have hP : va_P (dC, dI) vwCl [(xo, .inr (6, [.ref al, x1, x2, x3, x4, x5, .ref b1, x7])), (al, .inr (4, [.int mc, .ref (zk 0), .int 0]))] s.heap := hP
  have hD : va_D A [(xo, .inr (6, [.ref al, x1, x2, x3, x4, x5, .ref b1, x7])), (al, .inr (4, [.int mc, .ref (zk 0), .int 0]))] := hD
  refine lv_iload_n hx hb dX1_make_0 rfl (lv_at hl 1 rfl) ?_
  refine lv_if_lt (tgt := 9) hx hb dX1_make_1 (by decide) (fun c9 => ?_) (fun c9 => ?_)
  · exact absurd c9 (hk0)
  refine lv_iload_n hx hb dX1_make_4 rfl (lv_at hl 1 rfl) ?_
  refine lv_iconst (v := 4) hx hb dX1_make_5 (by decide) ?_
  refine lv_icmp_le (tgt := 19) hx hb dX1_make_6 (by decide) (fun c9 => ?_) (fun c9 => ?_)
  rotate_left
  · exact absurd (hk4) c9
  refine lv_iload_n hx hb dX1_make_19 rfl (lv_at hl 2 rfl) ?_
  have hPc := hP.sub (ws' := []) [] rfl
  have hDc := hD.sub (ws' := []) [] (by decide) rfl
  have hFc := va_free (wc := []) hD hS hA [] rfl
  have hDv := hDc.self (sz := s.heap.size)
  have hpre := zpre (xs' := []) (av := [.int 1]) hPc hK (hDc.weaken (fun _ _ _ h => h)) hZ hS hFc (fun r hr => by cases hr)
  refine va_callv (va_runS (As := [.int 1]) (rest := []) ⟨hx, hb, hml, hown, hts⟩ (k_rqL1 l dC dI cI cB cR cO zk  s.heap.size ) (va_cwS 1 hts gX1_make_X1_requireLength rfl rfl rfl (by decide +kernel) ⟨Nat.le_of_ble_eq_true rfl, Nat.le_of_ble_eq_true rfl⟩) ⟨zblind, hpre⟩ rfl rfl hl.1 rfl (lv_room (Nat.le_of_ble_eq_true rfl)) dX1_make_20 ⟨Nat.le_of_ble_eq_true rfl, Nat.le_of_ble_eq_true rfl⟩) hS (fun q _ h => hFc q h) hFc (fun u t H1 locs ht hvm hw hB hz1 hk1 hS => ?_)
  obtain ⟨hP1, hK1, hD1, hz2⟩ := hB
  rw [ht] at hP1 hz2
  have hPD9 := va_join (wr := [(xo, .inr (6, [.ref al, x1, x2, x3, x4, x5, .ref b1, x7])), (al, .inr (4, [.int mc, .ref (zk 0), .int 0]))]) (w1 := []) hP hD [] [0, 1] rfl rfl (by decide) (by decide) hk1 hFc hP1 hD1
  clear hPc hDc hFc hDv hpre hP hD hP1 hK1 hD1
  obtain ⟨hP, hD⟩ := hPD9
  replace hz : s.heap.size + 0 ≤ H1.size := by omega
  clear hz2
  replace hP : va_P (dC, dI) vwCl [(xo, .inr (6, [.ref al, x1, x2, x3, x4, x5, .ref b1, x7])), (al, .inr (4, [.int mc, .ref (zk 0), .int 0]))] H1 := hP
  replace hD : va_D A [(xo, .inr (6, [.ref al, x1, x2, x3, x4, x5, .ref b1, x7])), (al, .inr (4, [.int mc, .ref (zk 0), .int 0]))] := hD
  refine W.widen (k := 0) (n := 0) (by omega) (by omega) ?_
  refine lv_aload_n hx hb dX1_make_23 rfl (lv_at hl 0 rfl) ?_
  refine lv_iconst (v := 1) hx hb dX1_make_24 (by decide) ?_
  have hPc := hP.sub (ws' := [(xo, .inr (6, [.ref al, x1, x2, x3, x4, x5, .ref b1, x7])), (al, .inr (4, [.int mc, .ref (zk 0), .int 0]))]) [0, 1] rfl
  have hDc := hD.sub (ws' := [(xo, .inr (6, [.ref al, x1, x2, x3, x4, x5, .ref b1, x7])), (al, .inr (4, [.int mc, .ref (zk 0), .int 0]))]) [0, 1] (by decide) rfl
  have hFc := va_free (wc := [(xo, .inr (6, [.ref al, x1, x2, x3, x4, x5, .ref b1, x7])), (al, .inr (4, [.int mc, .ref (zk 0), .int 0]))]) hD hS hA [0, 1] rfl
  have hDv := hDc.self (sz := H1.size)
  have hpre := zpre (xs' := []) (av := [.ref xo, .int 1]) hPc hK (hDc.weaken (fun _ _ _ h => h)) hZ hS hFc (fun r hr => by cases hr)
  refine va_callv (va_runV (As := [.int 1]) (rest := []) ⟨hx, hb, hml, hown, hts⟩ (k_rqR0 l dC dI cI cB cR cO zk xo al b1 x1 x2 x3 x4 x5 x7 (zk 0) mc H1.size ) (cwV 1 hts gX1_make_X1_requireRoom rfl rfl rfl (by decide +kernel) ⟨Nat.le_of_ble_eq_true rfl, Nat.le_of_ble_eq_true rfl⟩) ⟨zblind, (zrecv_6 hK hPc (q0 := 0) rfl), hpre⟩ rfl rfl hl.1 rfl (lv_room (Nat.le_of_ble_eq_true rfl)) dX1_make_25 ⟨Nat.le_of_ble_eq_true rfl, Nat.le_of_ble_eq_true rfl⟩) hS (fun q _ h => hFc q h) hFc (fun u t H3 locs ht hvm hw hB hz1 hk1 hS => ?_)
  obtain ⟨hP1, hK1, hD1, hz2⟩ := hB
  rw [ht] at hP1 hz2
  have hPD9 := va_join (wr := []) (w1 := [(xo, .inr (6, [.ref al, x1, x2, x3, x4, x5, .ref b1, x7])), (al, .inr (4, [.int mc, .ref (zk 0), .int 0]))]) hP hD [0, 1] [] rfl rfl (by decide) (by decide) hk1 hFc hP1 hD1
  clear hPc hDc hFc hDv hpre hP hD hP1 hK1 hD1
  obtain ⟨hP, hD⟩ := hPD9
  replace hz : s.heap.size + 0 ≤ H3.size := by omega
  clear hz2
  replace hP : va_P (dC, dI) vwCl [(xo, .inr (6, [.ref al, x1, x2, x3, x4, x5, .ref b1, x7])), (al, .inr (4, [.int mc, .ref (zk 0), .int 0]))] H3 := hP
  replace hD : va_D A [(xo, .inr (6, [.ref al, x1, x2, x3, x4, x5, .ref b1, x7])), (al, .inr (4, [.int mc, .ref (zk 0), .int 0]))] := hD
  refine W.widen (k := 0) (n := 0) (by omega) (by omega) ?_
  refine lv_aload_n hx hb dX1_make_28 rfl (lv_at hl 0 rfl) ?_
  refine zw_new (ci := 5) (fs := [.int 0, .int 0, .null, .null, .null, .int 0]) (C := RX0) (T := TX0) (N := 6) hx hb hts hi_X1_make_X0 tyX0 tyX0_ok hown (hts (.classLink RX1 26 "Deeprows$Row") (List.mem_cons_of_mem _ zw_99)) (hts (.instantiable RX0 6) (List.mem_cons_of_mem _ zw_100)) (hts (.initialized RX0) (List.mem_cons_of_mem _ zw_39)) hK hP hD hS hA rfl (fun j hj => by rcases (show j = 0 ∨ j = 1 ∨ j = 2 ∨ j = 3 ∨ j = 4 ∨ j = 5 by omega) with rfl | rfl | rfl | rfl | rfl | rfl <;> rfl) (Nat.le_of_ble_eq_true rfl) (Nat.le_of_ble_eq_true rfl) dX1_make_29 hz (fun q5 H6 hP hD hS hz => ?_)
  replace hP : va_P (dC, dI) vwCl [(xo, .inr (6, [.ref al, x1, x2, x3, x4, x5, .ref b1, x7])), (al, .inr (4, [.int mc, .ref (zk 0), .int 0])), (q5, .inr (5, [.int 0, .int 0, .null, .null, .null, .int 0]))] H6 := hP
  replace hD : va_D A [(xo, .inr (6, [.ref al, x1, x2, x3, x4, x5, .ref b1, x7])), (al, .inr (4, [.int mc, .ref (zk 0), .int 0])), (q5, .inr (5, [.int 0, .int 0, .null, .null, .null, .int 0]))] := hD
  refine W.widen (k := 1) (n := 6) (by omega) (by omega) ?_
  refine lv_dup hx hb dX1_make_32 rfl ?_
  refine lv_iload_n hx hb dX1_make_33 rfl (lv_at hl 1 rfl) ?_
  refine lv_iload_n hx hb dX1_make_34 rfl (lv_at hl 2 rfl) ?_
  have hPc := hP.sub (ws' := [(q5, .inr (5, [.int 0, .int 0, .null, .null, .null, .int 0]))]) [2] rfl
  have hDc := hD.sub (ws' := [(q5, .inr (5, [.int 0, .int 0, .null, .null, .null, .int 0]))]) [2] (by decide) rfl
  have hFc := va_free (wc := [(q5, .inr (5, [.int 0, .int 0, .null, .null, .null, .int 0]))]) hD hS hA [2] rfl
  have hDv := hDc.self (sz := H6.size)
  have hpre := zpre (xs' := []) (av := [.ref q5, .int kd, .int 1]) hPc hK (hDc.weaken (fun _ _ _ h => h)) hZ hS hFc (fun r hr => by cases hr)
  refine va_callv (va_runI (As := [.int kd, .int 1]) (rest := [.ref q5, .ref xo]) ⟨hx, hb, hml, hown, hts⟩ (k_rI1s l dC dI cI cB cR cO zk q5 kd H6.size  hkd) (cwI 2 hts gX1_make_X0_init rfl rfl rfl (hts (.initialized RX0) (List.mem_cons_of_mem _ zw_39)) (hts (.methodLink RX1 28 yX0_init) (List.mem_cons_of_mem _ zw_101)) (hts (.instanceMethod yX0_init) (List.mem_cons_of_mem _ zw_102)) rfl (by decide +kernel) ⟨Nat.le_of_ble_eq_true rfl, Nat.le_of_ble_eq_true rfl⟩) ⟨zblind, hpre⟩ rfl rfl hl.1 rfl (lv_room (Nat.le_of_ble_eq_true rfl)) dX1_make_35 ⟨Nat.le_of_ble_eq_true rfl, Nat.le_of_ble_eq_true rfl⟩) hS (fun q _ h => hFc q h) hFc (fun u t H7 locs ht hvm hw hB hz1 hk1 hS => ?_)
  obtain ⟨w9, v10, h11, ⟨hP1, hK1, hD1, hz2⟩⟩ := hB
  rw [ht] at hP1 hz2
  have hPD9 := va_join (wr := [(xo, .inr (6, [.ref al, x1, x2, x3, x4, x5, .ref b1, x7])), (al, .inr (4, [.int mc, .ref (zk 0), .int 0]))]) (w1 := [(q5, .inr (5, [.int kd, .int 1, .ref w9, .ref v10, .ref h11, .int 0]))]) hP hD [2] [0, 1] rfl rfl (by decide) (by decide) hk1 hFc hP1 hD1
  clear hPc hDc hFc hDv hpre hP hD hP1 hK1 hD1
  obtain ⟨hP, hD⟩ := hPD9
  replace hz : s.heap.size + 4 ≤ H7.size := by omega
  clear hz2
  replace hP : va_P (dC, dI) vwCl [(xo, .inr (6, [.ref al, x1, x2, x3, x4, x5, .ref b1, x7])), (al, .inr (4, [.int mc, .ref (zk 0), .int 0])), (q5, .inr (5, [.int kd, .int 1, .ref w9, .ref v10, .ref h11, .int 0]))] H7 := hP
  replace hD : va_D A [(xo, .inr (6, [.ref al, x1, x2, x3, x4, x5, .ref b1, x7])), (al, .inr (4, [.int mc, .ref (zk 0), .int 0])), (q5, .inr (5, [.int kd, .int 1, .ref w9, .ref v10, .ref h11, .int 0]))] := hD
  refine W.widen (k := 4) (n := 9) (by omega) (by omega) ?_
  have hPc := hP.sub (ws' := [(xo, .inr (6, [.ref al, x1, x2, x3, x4, x5, .ref b1, x7])), (al, .inr (4, [.int mc, .ref (zk 0), .int 0])), (q5, .inr (5, [.int kd, .int 1, .ref w9, .ref v10, .ref h11, .int 0]))]) [0, 1, 2] rfl
  have hDc := hD.sub (ws' := [(xo, .inr (6, [.ref al, x1, x2, x3, x4, x5, .ref b1, x7])), (al, .inr (4, [.int mc, .ref (zk 0), .int 0])), (q5, .inr (5, [.int kd, .int 1, .ref w9, .ref v10, .ref h11, .int 0]))]) [0, 1, 2] (by decide) rfl
  have hFc := va_free (wc := [(xo, .inr (6, [.ref al, x1, x2, x3, x4, x5, .ref b1, x7])), (al, .inr (4, [.int mc, .ref (zk 0), .int 0])), (q5, .inr (5, [.int kd, .int 1, .ref w9, .ref v10, .ref h11, .int 0]))]) hD hS hA [0, 1, 2] rfl
  have hDv := hDc.self (sz := H7.size)
  have hpre := zpre (xs' := []) (av := [.ref xo, .ref q5]) hPc hK (hDc.weaken (fun _ _ _ h => h)) hZ hS hFc (fun r hr => by cases hr)
  refine va_callr (va_runV (As := [.ref q5]) (rest := []) ⟨hx, hb, hml, hown, hts⟩ (k_adRZ l dC dI cI cB cR cO zk xo al b1 x1 x2 x3 x4 x5 x7 mc q5 w9 v10 h11 kd 1 H7.size ) (cwV 1 hts gX1_make_X1_addRow rfl rfl rfl (by decide +kernel) ⟨Nat.le_of_ble_eq_true rfl, Nat.le_of_ble_eq_true rfl⟩) ⟨zblind, (zrecv_6 hK hPc (q0 := 0) rfl), hpre⟩ rfl rfl hl.1 rfl (lv_room (Nat.le_of_ble_eq_true rfl)) dX1_make_38 ⟨Nat.le_of_ble_eq_true rfl, Nat.le_of_ble_eq_true rfl⟩) hS (fun q _ h => hFc q h) hFc (fun u r13 t H12 locs ht hvm hw hB hz1 hk1 hS => ?_)
  obtain ⟨⟨hP1, hK1, hD1, hz2⟩, her13⟩ := hB
  rw [ht] at hP1 hz2
  have hPD9 := va_join (wr := []) (w1 := [(xo, .inr (6, [.ref al, x1, x2, x3, x4, x5, .ref b1, x7])), (q5, .inr (5, [.int kd, .int 1, .ref w9, .ref v10, .ref h11, .int 0]))]) hP hD [0, 1, 2] [] rfl rfl (by decide) (by decide) hk1 hFc hP1 hD1
  clear hPc hDc hFc hDv hpre hP hD hP1 hK1 hD1
  obtain ⟨hP, hD⟩ := hPD9
  replace hz : s.heap.size + 4 ≤ H12.size := by omega
  clear hz2
  replace hP : va_P (dC, dI) vwCl [(xo, .inr (6, [.ref al, x1, x2, x3, x4, x5, .ref b1, x7])), (q5, .inr (5, [.int kd, .int 1, .ref w9, .ref v10, .ref h11, .int 0]))] H12 := hP
  replace hD : va_D A [(xo, .inr (6, [.ref al, x1, x2, x3, x4, x5, .ref b1, x7])), (q5, .inr (5, [.int kd, .int 1, .ref w9, .ref v10, .ref h11, .int 0]))] := hD
  refine W.widen (k := 5) (n := 19) (by omega) (by omega) ?_
  obtain rfl := her13.symm
  refine va_getN (D := (dC, dI)) (ci := 5) (v := .int 0) (C := RX0) (T := TX0) (N := 6) hx hb hts hi_X1_make_X0 hown hK hP 1 rfl rfl 5 (by decide) (zn5 hZ) (fun _ h9 => h9) rfl dX1_make_41 ?_
  have hP9 := hP.sub (ws' := [(xo, .inr (6, [.ref al, x1, x2, x3, x4, x5, .ref b1, x7]))]) [0] rfl
  have hD9 := hD.sub (ws' := [(xo, .inr (6, [.ref al, x1, x2, x3, x4, x5, .ref b1, x7]))]) [0] (by decide) rfl
  exact W.iret (v := 0) hx hb hr (fun t ht hW => ⟨⟨_, (), rfl, rfl, ⟨by rw [ht]; exact hP9, va_K.moved hW.alike hK, hD9, by rw [ht]; exact hz⟩⟩, hS.F ht⟩) hS.2.2 dX1_make_44

set_option maxHeartbeats 4000000 in
set_option maxRecDepth 100000 in
theorem k_mkH1s (l : Launch) (dC : Nat → ClassId) (dI : Nat → Nat → Nat) (cI cB cR cO : ClassId) (zk : Nat → Nat) (ou : Nat) (on so : Value) (xo al b1 : Nat) (x1 x2 x3 x4 x5 x7 : Value) (mc : Int32) (kd : Int32) (sz : Nat) (hk0 : ¬ kd < 0) (hk4 : kd ≤ 4) (hkd : ¬ kd = 4) : Met l yL_make wsL_make ({ frames := 7, cells := 5, slots := 19, locals := 170 }) (va_Pc [.ref xo, .int kd, .int 1, .ref ou] (zPre (dC, dI) (zT cI cB cR cO) zk [] [(ou, .inr (7, [on, so])), (xo, .inr (6, [.ref al, x1, x2, x3, x4, x5, .ref b1, x7])), (al, .inr (4, [.int mc, .ref (zk 0), .int 0]))] sz)) (va_Qi (fun r (_ : Unit) => r = 0) (fun _ t => zEnd (dC, dI) (zT cI cB cR cO) (va_A [(ou, .inr (7, [on, so])), (xo, .inr (6, [.ref al, x1, x2, x3, x4, x5, .ref b1, x7])), (al, .inr (4, [.int mc, .ref (zk 0), .int 0]))] sz) [(ou, .inr (7, [.long 0, so])), (xo, .inr (6, [.ref al, x1, x2, x3, x4, x5, .ref b1, x7]))] sz 0 t) (va_A [(ou, .inr (7, [on, so])), (xo, .inr (6, [.ref al, x1, x2, x3, x4, x5, .ref b1, x7])), (al, .inr (4, [.int mc, .ref (zk 0), .int 0]))] sz)) 5 19 (va_A [(ou, .inr (7, [on, so])), (xo, .inr (6, [.ref al, x1, x2, x3, x4, x5, .ref b1, x7])), (al, .inr (4, [.int mc, .ref (zk 0), .int 0]))] sz) := by
  refine zofWH (cc := cL_make) (maxL := 5) (ret := (some .int)) (by decide) rfl ?_
  intro p e s mY args below meth c s₁ B hml hv
  obtain ⟨rfl, hsz, hP, hK, hD0, hZ⟩ := hv
  have hx := B.exec
  have hb := B.bytes
  have hr := B.returns
  have hts := atoms_spec (ws := wsL_make) B.pre
  have hown : s.vm.findClass RL = some mY.cls := findClass_of_methodNamed B.named
  have hlocks := B.notSynchronized
  subst hsz
  have hD := hD0.self (sz := s.heap.size)
  generalize hAe : va_A [(ou, .inr (7, [on, so])), (xo, .inr (6, [.ref al, x1, x2, x3, x4, x5, .ref b1, x7])), (al, .inr (4, [.int mc, .ref (zk 0), .int 0]))] s.heap.size = A at hD hZ ⊢
  have hA : ∀ q : Nat, s.heap.size ≤ q → A q := fun q h => by rw [← hAe]; exact Or.inr h
  have hS : va_S A s.heap s.heap [] := va_S.rf
  have hz : s.heap.size + 0 ≤ s.heap.size := Nat.le_refl _
  have hl := lv_entry ([.ref xo, .int kd, .int 1, .ref ou]) (n := 5) (Nat.le_of_ble_eq_true rfl)
  rw [lg_entry_eq]
  generalize (lg_sl ([.ref xo, .int kd, .int 1, .ref ou]) ++ List.replicate (5 - (lg_sl ([.ref xo, .int kd, .int 1, .ref ou])).length) Slot.unset).toArray = ls at hl ⊢
  have hl : lv_has ls 5 [(0, .ref xo), (1, .int kd), (2, .int 1), (3, .ref ou)] := hl
  have hP : va_P (dC, dI) vwCl [(ou, .inr (7, [on, so])), (xo, .inr (6, [.ref al, x1, x2, x3, x4, x5, .ref b1, x7])), (al, .inr (4, [.int mc, .ref (zk 0), .int 0]))] s.heap := hP
  have hD : va_D A [(ou, .inr (7, [on, so])), (xo, .inr (6, [.ref al, x1, x2, x3, x4, x5, .ref b1, x7])), (al, .inr (4, [.int mc, .ref (zk 0), .int 0]))] := hD
  refine lv_aload_n hx hb dL_make_0 rfl (lv_at hl 3 rfl) ?_
  refine lv_aload_n hx hb dL_make_1 rfl (lv_at hl 0 rfl) ?_
  refine lv_iload_n hx hb dL_make_2 rfl (lv_at hl 1 rfl) ?_
  refine lv_iload_n hx hb dL_make_3 rfl (lv_at hl 2 rfl) ?_
  have hPc := hP.sub (ws' := [(xo, .inr (6, [.ref al, x1, x2, x3, x4, x5, .ref b1, x7])), (al, .inr (4, [.int mc, .ref (zk 0), .int 0]))]) [1, 2] rfl
  have hDc := hD.sub (ws' := [(xo, .inr (6, [.ref al, x1, x2, x3, x4, x5, .ref b1, x7])), (al, .inr (4, [.int mc, .ref (zk 0), .int 0]))]) [1, 2] (by decide) rfl
  have hFc := va_free (wc := [(xo, .inr (6, [.ref al, x1, x2, x3, x4, x5, .ref b1, x7])), (al, .inr (4, [.int mc, .ref (zk 0), .int 0]))]) hD hS hA [1, 2] rfl
  have hDv := hDc.self (sz := s.heap.size)
  have hpre := zpre (xs' := []) (av := [.ref xo, .int kd, .int 1]) hPc hK (hDc.weaken (fun _ _ _ h => h)) hZ hS hFc (fun r hr => by cases hr)
  refine va_calli (va_runV (As := [.int kd, .int 1]) (rest := [.ref ou]) ⟨hx, hb, hml, hown, hts⟩ (k_mkX1s l dC dI cI cB cR cO zk xo al b1 x1 x2 x3 x4 x5 x7 mc kd s.heap.size hk0 hk4 hkd) (cwV 2 hts gL_make_X1_make rfl rfl rfl (by decide +kernel) ⟨Nat.le_of_ble_eq_true rfl, Nat.le_of_ble_eq_true rfl⟩) ⟨zblind, (zrecv_6 hK hPc (q0 := 0) rfl), hpre⟩ rfl rfl hl.1 rfl (lv_room (Nat.le_of_ble_eq_true rfl)) dL_make_4 ⟨Nat.le_of_ble_eq_true rfl, Nat.le_of_ble_eq_true rfl⟩) hS (fun q _ h => hFc q h) hFc (fun r2 u t H1 locs ht hvm hw hB hz1 hk1 hS => ?_)
  obtain rfl : 0 = r2 := (show r2 = 0 from hw).symm
  obtain ⟨hP1, hK1, hD1, hz2⟩ := hB
  rw [ht] at hP1 hz2
  have hPD9 := va_join (wr := [(ou, .inr (7, [on, so]))]) (w1 := [(xo, .inr (6, [.ref al, x1, x2, x3, x4, x5, .ref b1, x7]))]) hP hD [1, 2] [0] rfl rfl (by decide) (by decide) hk1 hFc hP1 hD1
  clear hPc hDc hFc hDv hpre hP hD hP1 hK1 hD1
  obtain ⟨hP, hD⟩ := hPD9
  replace hz : s.heap.size + 0 ≤ H1.size := by omega
  clear hz2
  replace hP : va_P (dC, dI) vwCl [(ou, .inr (7, [on, so])), (xo, .inr (6, [.ref al, x1, x2, x3, x4, x5, .ref b1, x7]))] H1 := hP
  replace hD : va_D A [(ou, .inr (7, [on, so])), (xo, .inr (6, [.ref al, x1, x2, x3, x4, x5, .ref b1, x7]))] := hD
  refine W.widen (k := 5) (n := 19) (by omega) (by omega) ?_
  refine lv_i2l (v := 0) hx hb dL_make_7 (by decide) ?_
  refine va_putN (D := (dC, dI)) (ci := 7) (v := .long 0) (ty := .long) (C := RX2) (T := TX2) (N := 2) hx hb hts hi_L_make_X2 tyX2 tyX2_ok nmX2 hown hK hP hD (zS0 hS) 0 rfl rfl 0 (by decide) (zn6 hZ) (fun _ h9 => h9) rfl (by decide +kernel) rfl rfl (Nat.le_of_ble_eq_true rfl) dL_make_8 (fun H3 locs hP hD hS1 => ?_)
  have hz : s.heap.size + 0 ≤ H3.size := Nat.le_trans hz hS1.1
  have hS := zSS hS hS1
  replace hP : va_P (dC, dI) vwCl [(ou, .inr (7, [.long 0, so])), (xo, .inr (6, [.ref al, x1, x2, x3, x4, x5, .ref b1, x7]))] H3 := hP
  replace hD : va_D A [(ou, .inr (7, [.long 0, so])), (xo, .inr (6, [.ref al, x1, x2, x3, x4, x5, .ref b1, x7]))] := hD
  refine lv_goto (tgt := 22) hx hb dL_make_11 (by decide) ?_
  refine lv_iconst (v := 0) hx hb dL_make_22 (by decide) ?_
  have hP9 := hP.sub (ws' := [(ou, .inr (7, [.long 0, so])), (xo, .inr (6, [.ref al, x1, x2, x3, x4, x5, .ref b1, x7]))]) [0, 1] rfl
  have hD9 := hD.sub (ws' := [(ou, .inr (7, [.long 0, so])), (xo, .inr (6, [.ref al, x1, x2, x3, x4, x5, .ref b1, x7]))]) [0, 1] (by decide) rfl
  exact W.iret (v := 0) hx hb hr (fun t ht hW => ⟨⟨_, (), rfl, rfl, ⟨by rw [ht]; exact hP9, va_K.moved hW.alike hK, hD9, by rw [ht]; exact hz⟩⟩, hS.F ht⟩) hS.2.2 dL_make_23

set_option maxHeartbeats 4000000 in
set_option maxRecDepth 100000 in
theorem k_mkX24 (l : Launch) (dC : Nat → ClassId) (dI : Nat → Nat → Nat) (cI cB cR cO : ClassId) (zk : Nat → Nat) (xo al b1 : Nat) (x1 x2 x3 x4 x5 x7 : Value) (mc : Int32) (sz : Nat)  : Met l yX1_make wsX1_make ({ frames := 6, cells := 5, slots := 22, locals := 148 }) (va_Pc [.ref xo, .int 4, .int 2] (zPre (dC, dI) (zT cI cB cR cO) zk [] [(xo, .inr (6, [.ref al, x1, x2, x3, x4, x5, .ref b1, x7])), (al, .inr (4, [.int mc, .ref (zk 0), .int 0]))] sz)) (va_Qi (fun r (_ : Unit) => r = 0) (fun _ t => zEnd (dC, dI) (zT cI cB cR cO) (va_A [(xo, .inr (6, [.ref al, x1, x2, x3, x4, x5, .ref b1, x7])), (al, .inr (4, [.int mc, .ref (zk 0), .int 0]))] sz) [(xo, .inr (6, [.ref al, x1, x2, x3, x4, x5, .ref b1, x7]))] sz 4 t) (va_A [(xo, .inr (6, [.ref al, x1, x2, x3, x4, x5, .ref b1, x7])), (al, .inr (4, [.int mc, .ref (zk 0), .int 0]))] sz)) 5 22 (va_A [(xo, .inr (6, [.ref al, x1, x2, x3, x4, x5, .ref b1, x7])), (al, .inr (4, [.int mc, .ref (zk 0), .int 0]))] sz) := by
  refine Met.ofW (cc := cX1_make) (maxL := 3) (ret := (some .int)) (by decide) rfl ?_
  intro p e s mY args below meth c s₁ B hml hv
  obtain ⟨rfl, hsz, hP, hK, hD0, hZ⟩ := hv
  have hx := B.exec
  have hb := B.bytes
  have hr := B.returns
  have hts := atoms_spec (ws := wsX1_make) B.pre
  have hown : s.vm.findClass RX1 = some mY.cls := findClass_of_methodNamed B.named
  have hlocks := B.notSynchronized
  subst hsz
  have hD := hD0.self (sz := s.heap.size)
  generalize hAe : va_A [(xo, .inr (6, [.ref al, x1, x2, x3, x4, x5, .ref b1, x7])), (al, .inr (4, [.int mc, .ref (zk 0), .int 0]))] s.heap.size = A at hD hZ ⊢
  have hA : ∀ q : Nat, s.heap.size ≤ q → A q := fun q h => by rw [← hAe]; exact Or.inr h
  have hS : va_S A s.heap s.heap [] := va_S.rf
  have hz : s.heap.size + 0 ≤ s.heap.size := Nat.le_refl _
  have hl := lv_entry ([.ref xo, .int 4, .int 2]) (n := 3) (Nat.le_of_ble_eq_true rfl)
  rw [lg_entry_eq]
  generalize (lg_sl ([.ref xo, .int 4, .int 2]) ++ List.replicate (3 - (lg_sl ([.ref xo, .int 4, .int 2])).length) Slot.unset).toArray = ls at hl ⊢
  have hl : lv_has ls 3 [(0, .ref xo), (1, .int 4), (2, .int 2)] := hl
  have hP : va_P (dC, dI) vwCl [(xo, .inr (6, [.ref al, x1, x2, x3, x4, x5, .ref b1, x7])), (al, .inr (4, [.int mc, .ref (zk 0), .int 0]))] s.heap := hP
  have hD : va_D A [(xo, .inr (6, [.ref al, x1, x2, x3, x4, x5, .ref b1, x7])), (al, .inr (4, [.int mc, .ref (zk 0), .int 0]))] := hD
  refine lv_iload_n hx hb dX1_make_0 rfl (lv_at hl 1 rfl) ?_
  refine lv_if_lt (tgt := 9) hx hb dX1_make_1 (by decide) (fun c9 => ?_) (fun c9 => ?_)
  · exact absurd c9 (by decide)
  refine lv_iload_n hx hb dX1_make_4 rfl (lv_at hl 1 rfl) ?_
  refine lv_iconst (v := 4) hx hb dX1_make_5 (by decide) ?_
  refine lv_icmp_le (tgt := 19) hx hb dX1_make_6 (by decide) (fun c9 => ?_) (fun c9 => ?_)
  rotate_left
  · exact absurd (by decide) c9
  refine lv_iload_n hx hb dX1_make_19 rfl (lv_at hl 2 rfl) ?_
  have hPc := hP.sub (ws' := []) [] rfl
  have hDc := hD.sub (ws' := []) [] (by decide) rfl
  have hFc := va_free (wc := []) hD hS hA [] rfl
  have hDv := hDc.self (sz := s.heap.size)
  have hpre := zpre (xs' := []) (av := [.int 2]) hPc hK (hDc.weaken (fun _ _ _ h => h)) hZ hS hFc (fun r hr => by cases hr)
  refine va_callv (va_runS (As := [.int 2]) (rest := []) ⟨hx, hb, hml, hown, hts⟩ (k_rqL2 l dC dI cI cB cR cO zk  s.heap.size ) (va_cwS 1 hts gX1_make_X1_requireLength rfl rfl rfl (by decide +kernel) ⟨Nat.le_of_ble_eq_true rfl, Nat.le_of_ble_eq_true rfl⟩) ⟨zblind, hpre⟩ rfl rfl hl.1 rfl (lv_room (Nat.le_of_ble_eq_true rfl)) dX1_make_20 ⟨Nat.le_of_ble_eq_true rfl, Nat.le_of_ble_eq_true rfl⟩) hS (fun q _ h => hFc q h) hFc (fun u t H1 locs ht hvm hw hB hz1 hk1 hS => ?_)
  obtain ⟨hP1, hK1, hD1, hz2⟩ := hB
  rw [ht] at hP1 hz2
  have hPD9 := va_join (wr := [(xo, .inr (6, [.ref al, x1, x2, x3, x4, x5, .ref b1, x7])), (al, .inr (4, [.int mc, .ref (zk 0), .int 0]))]) (w1 := []) hP hD [] [0, 1] rfl rfl (by decide) (by decide) hk1 hFc hP1 hD1
  clear hPc hDc hFc hDv hpre hP hD hP1 hK1 hD1
  obtain ⟨hP, hD⟩ := hPD9
  replace hz : s.heap.size + 0 ≤ H1.size := by omega
  clear hz2
  replace hP : va_P (dC, dI) vwCl [(xo, .inr (6, [.ref al, x1, x2, x3, x4, x5, .ref b1, x7])), (al, .inr (4, [.int mc, .ref (zk 0), .int 0]))] H1 := hP
  replace hD : va_D A [(xo, .inr (6, [.ref al, x1, x2, x3, x4, x5, .ref b1, x7])), (al, .inr (4, [.int mc, .ref (zk 0), .int 0]))] := hD
  refine W.widen (k := 0) (n := 0) (by omega) (by omega) ?_
  refine lv_aload_n hx hb dX1_make_23 rfl (lv_at hl 0 rfl) ?_
  refine lv_iconst (v := 1) hx hb dX1_make_24 (by decide) ?_
  have hPc := hP.sub (ws' := [(xo, .inr (6, [.ref al, x1, x2, x3, x4, x5, .ref b1, x7])), (al, .inr (4, [.int mc, .ref (zk 0), .int 0]))]) [0, 1] rfl
  have hDc := hD.sub (ws' := [(xo, .inr (6, [.ref al, x1, x2, x3, x4, x5, .ref b1, x7])), (al, .inr (4, [.int mc, .ref (zk 0), .int 0]))]) [0, 1] (by decide) rfl
  have hFc := va_free (wc := [(xo, .inr (6, [.ref al, x1, x2, x3, x4, x5, .ref b1, x7])), (al, .inr (4, [.int mc, .ref (zk 0), .int 0]))]) hD hS hA [0, 1] rfl
  have hDv := hDc.self (sz := H1.size)
  have hpre := zpre (xs' := []) (av := [.ref xo, .int 1]) hPc hK (hDc.weaken (fun _ _ _ h => h)) hZ hS hFc (fun r hr => by cases hr)
  refine va_callv (va_runV (As := [.int 1]) (rest := []) ⟨hx, hb, hml, hown, hts⟩ (k_rqR0 l dC dI cI cB cR cO zk xo al b1 x1 x2 x3 x4 x5 x7 (zk 0) mc H1.size ) (cwV 1 hts gX1_make_X1_requireRoom rfl rfl rfl (by decide +kernel) ⟨Nat.le_of_ble_eq_true rfl, Nat.le_of_ble_eq_true rfl⟩) ⟨zblind, (zrecv_6 hK hPc (q0 := 0) rfl), hpre⟩ rfl rfl hl.1 rfl (lv_room (Nat.le_of_ble_eq_true rfl)) dX1_make_25 ⟨Nat.le_of_ble_eq_true rfl, Nat.le_of_ble_eq_true rfl⟩) hS (fun q _ h => hFc q h) hFc (fun u t H3 locs ht hvm hw hB hz1 hk1 hS => ?_)
  obtain ⟨hP1, hK1, hD1, hz2⟩ := hB
  rw [ht] at hP1 hz2
  have hPD9 := va_join (wr := []) (w1 := [(xo, .inr (6, [.ref al, x1, x2, x3, x4, x5, .ref b1, x7])), (al, .inr (4, [.int mc, .ref (zk 0), .int 0]))]) hP hD [0, 1] [] rfl rfl (by decide) (by decide) hk1 hFc hP1 hD1
  clear hPc hDc hFc hDv hpre hP hD hP1 hK1 hD1
  obtain ⟨hP, hD⟩ := hPD9
  replace hz : s.heap.size + 0 ≤ H3.size := by omega
  clear hz2
  replace hP : va_P (dC, dI) vwCl [(xo, .inr (6, [.ref al, x1, x2, x3, x4, x5, .ref b1, x7])), (al, .inr (4, [.int mc, .ref (zk 0), .int 0]))] H3 := hP
  replace hD : va_D A [(xo, .inr (6, [.ref al, x1, x2, x3, x4, x5, .ref b1, x7])), (al, .inr (4, [.int mc, .ref (zk 0), .int 0]))] := hD
  refine W.widen (k := 0) (n := 0) (by omega) (by omega) ?_
  refine lv_aload_n hx hb dX1_make_28 rfl (lv_at hl 0 rfl) ?_
  refine zw_new (ci := 5) (fs := [.int 0, .int 0, .null, .null, .null, .int 0]) (C := RX0) (T := TX0) (N := 6) hx hb hts hi_X1_make_X0 tyX0 tyX0_ok hown (hts (.classLink RX1 26 "Deeprows$Row") (List.mem_cons_of_mem _ zw_99)) (hts (.instantiable RX0 6) (List.mem_cons_of_mem _ zw_100)) (hts (.initialized RX0) (List.mem_cons_of_mem _ zw_39)) hK hP hD hS hA rfl (fun j hj => by rcases (show j = 0 ∨ j = 1 ∨ j = 2 ∨ j = 3 ∨ j = 4 ∨ j = 5 by omega) with rfl | rfl | rfl | rfl | rfl | rfl <;> rfl) (Nat.le_of_ble_eq_true rfl) (Nat.le_of_ble_eq_true rfl) dX1_make_29 hz (fun q5 H6 hP hD hS hz => ?_)
  replace hP : va_P (dC, dI) vwCl [(xo, .inr (6, [.ref al, x1, x2, x3, x4, x5, .ref b1, x7])), (al, .inr (4, [.int mc, .ref (zk 0), .int 0])), (q5, .inr (5, [.int 0, .int 0, .null, .null, .null, .int 0]))] H6 := hP
  replace hD : va_D A [(xo, .inr (6, [.ref al, x1, x2, x3, x4, x5, .ref b1, x7])), (al, .inr (4, [.int mc, .ref (zk 0), .int 0])), (q5, .inr (5, [.int 0, .int 0, .null, .null, .null, .int 0]))] := hD
  refine W.widen (k := 1) (n := 6) (by omega) (by omega) ?_
  refine lv_dup hx hb dX1_make_32 rfl ?_
  refine lv_iload_n hx hb dX1_make_33 rfl (lv_at hl 1 rfl) ?_
  refine lv_iload_n hx hb dX1_make_34 rfl (lv_at hl 2 rfl) ?_
  have hPc := hP.sub (ws' := [(q5, .inr (5, [.int 0, .int 0, .null, .null, .null, .int 0]))]) [2] rfl
  have hDc := hD.sub (ws' := [(q5, .inr (5, [.int 0, .int 0, .null, .null, .null, .int 0]))]) [2] (by decide) rfl
  have hFc := va_free (wc := [(q5, .inr (5, [.int 0, .int 0, .null, .null, .null, .int 0]))]) hD hS hA [2] rfl
  have hDv := hDc.self (sz := H6.size)
  have hpre := zpre (xs' := []) (av := [.ref q5, .int 4, .int 2]) hPc hK (hDc.weaken (fun _ _ _ h => h)) hZ hS hFc (fun r hr => by cases hr)
  refine va_callv (va_runI (As := [.int 4, .int 2]) (rest := [.ref q5, .ref xo]) ⟨hx, hb, hml, hown, hts⟩ (k_rI24 l dC dI cI cB cR cO zk q5 H6.size ) (cwI 2 hts gX1_make_X0_init rfl rfl rfl (hts (.initialized RX0) (List.mem_cons_of_mem _ zw_39)) (hts (.methodLink RX1 28 yX0_init) (List.mem_cons_of_mem _ zw_101)) (hts (.instanceMethod yX0_init) (List.mem_cons_of_mem _ zw_102)) rfl (by decide +kernel) ⟨Nat.le_of_ble_eq_true rfl, Nat.le_of_ble_eq_true rfl⟩) ⟨zblind, hpre⟩ rfl rfl hl.1 rfl (lv_room (Nat.le_of_ble_eq_true rfl)) dX1_make_35 ⟨Nat.le_of_ble_eq_true rfl, Nat.le_of_ble_eq_true rfl⟩) hS (fun q _ h => hFc q h) hFc (fun u t H7 locs ht hvm hw hB hz1 hk1 hS => ?_)
  obtain ⟨w9, v10, h11, ⟨hP1, hK1, hD1, hz2⟩⟩ := hB
  rw [ht] at hP1 hz2
  have hPD9 := va_join (wr := [(xo, .inr (6, [.ref al, x1, x2, x3, x4, x5, .ref b1, x7])), (al, .inr (4, [.int mc, .ref (zk 0), .int 0]))]) (w1 := [(q5, .inr (5, [.int 4, .int 2, .ref w9, .ref v10, .ref h11, .int 0]))]) hP hD [2] [0, 1] rfl rfl (by decide) (by decide) hk1 hFc hP1 hD1
  clear hPc hDc hFc hDv hpre hP hD hP1 hK1 hD1
  obtain ⟨hP, hD⟩ := hPD9
  replace hz : s.heap.size + 4 ≤ H7.size := by omega
  clear hz2
  replace hP : va_P (dC, dI) vwCl [(xo, .inr (6, [.ref al, x1, x2, x3, x4, x5, .ref b1, x7])), (al, .inr (4, [.int mc, .ref (zk 0), .int 0])), (q5, .inr (5, [.int 4, .int 2, .ref w9, .ref v10, .ref h11, .int 0]))] H7 := hP
  replace hD : va_D A [(xo, .inr (6, [.ref al, x1, x2, x3, x4, x5, .ref b1, x7])), (al, .inr (4, [.int mc, .ref (zk 0), .int 0])), (q5, .inr (5, [.int 4, .int 2, .ref w9, .ref v10, .ref h11, .int 0]))] := hD
  refine W.widen (k := 4) (n := 12) (by omega) (by omega) ?_
  have hPc := hP.sub (ws' := [(xo, .inr (6, [.ref al, x1, x2, x3, x4, x5, .ref b1, x7])), (al, .inr (4, [.int mc, .ref (zk 0), .int 0])), (q5, .inr (5, [.int 4, .int 2, .ref w9, .ref v10, .ref h11, .int 0]))]) [0, 1, 2] rfl
  have hDc := hD.sub (ws' := [(xo, .inr (6, [.ref al, x1, x2, x3, x4, x5, .ref b1, x7])), (al, .inr (4, [.int mc, .ref (zk 0), .int 0])), (q5, .inr (5, [.int 4, .int 2, .ref w9, .ref v10, .ref h11, .int 0]))]) [0, 1, 2] (by decide) rfl
  have hFc := va_free (wc := [(xo, .inr (6, [.ref al, x1, x2, x3, x4, x5, .ref b1, x7])), (al, .inr (4, [.int mc, .ref (zk 0), .int 0])), (q5, .inr (5, [.int 4, .int 2, .ref w9, .ref v10, .ref h11, .int 0]))]) hD hS hA [0, 1, 2] rfl
  have hDv := hDc.self (sz := H7.size)
  have hpre := zpre (xs' := []) (av := [.ref xo, .ref q5]) hPc hK (hDc.weaken (fun _ _ _ h => h)) hZ hS hFc (fun r hr => by cases hr)
  refine va_callr (va_runV (As := [.ref q5]) (rest := []) ⟨hx, hb, hml, hown, hts⟩ (k_adRZ l dC dI cI cB cR cO zk xo al b1 x1 x2 x3 x4 x5 x7 mc q5 w9 v10 h11 4 2 H7.size ) (cwV 1 hts gX1_make_X1_addRow rfl rfl rfl (by decide +kernel) ⟨Nat.le_of_ble_eq_true rfl, Nat.le_of_ble_eq_true rfl⟩) ⟨zblind, (zrecv_6 hK hPc (q0 := 0) rfl), hpre⟩ rfl rfl hl.1 rfl (lv_room (Nat.le_of_ble_eq_true rfl)) dX1_make_38 ⟨Nat.le_of_ble_eq_true rfl, Nat.le_of_ble_eq_true rfl⟩) hS (fun q _ h => hFc q h) hFc (fun u r13 t H12 locs ht hvm hw hB hz1 hk1 hS => ?_)
  obtain ⟨⟨hP1, hK1, hD1, hz2⟩, her13⟩ := hB
  rw [ht] at hP1 hz2
  have hPD9 := va_join (wr := []) (w1 := [(xo, .inr (6, [.ref al, x1, x2, x3, x4, x5, .ref b1, x7])), (q5, .inr (5, [.int 4, .int 2, .ref w9, .ref v10, .ref h11, .int 0]))]) hP hD [0, 1, 2] [] rfl rfl (by decide) (by decide) hk1 hFc hP1 hD1
  clear hPc hDc hFc hDv hpre hP hD hP1 hK1 hD1
  obtain ⟨hP, hD⟩ := hPD9
  replace hz : s.heap.size + 4 ≤ H12.size := by omega
  clear hz2
  replace hP : va_P (dC, dI) vwCl [(xo, .inr (6, [.ref al, x1, x2, x3, x4, x5, .ref b1, x7])), (q5, .inr (5, [.int 4, .int 2, .ref w9, .ref v10, .ref h11, .int 0]))] H12 := hP
  replace hD : va_D A [(xo, .inr (6, [.ref al, x1, x2, x3, x4, x5, .ref b1, x7])), (q5, .inr (5, [.int 4, .int 2, .ref w9, .ref v10, .ref h11, .int 0]))] := hD
  refine W.widen (k := 5) (n := 22) (by omega) (by omega) ?_
  obtain rfl := her13.symm
  refine va_getN (D := (dC, dI)) (ci := 5) (v := .int 0) (C := RX0) (T := TX0) (N := 6) hx hb hts hi_X1_make_X0 hown hK hP 1 rfl rfl 5 (by decide) (zn5 hZ) (fun _ h9 => h9) rfl dX1_make_41 ?_
  have hP9 := hP.sub (ws' := [(xo, .inr (6, [.ref al, x1, x2, x3, x4, x5, .ref b1, x7]))]) [0] rfl
  have hD9 := hD.sub (ws' := [(xo, .inr (6, [.ref al, x1, x2, x3, x4, x5, .ref b1, x7]))]) [0] (by decide) rfl
  exact W.iret (v := 0) hx hb hr (fun t ht hW => ⟨⟨_, (), rfl, rfl, ⟨by rw [ht]; exact hP9, va_K.moved hW.alike hK, hD9, by rw [ht]; exact hz⟩⟩, hS.F ht⟩) hS.2.2 dX1_make_44

set_option maxHeartbeats 4000000 in
set_option maxRecDepth 100000 in
theorem k_mkH24 (l : Launch) (dC : Nat → ClassId) (dI : Nat → Nat → Nat) (cI cB cR cO : ClassId) (zk : Nat → Nat) (ou : Nat) (on so : Value) (xo al b1 : Nat) (x1 x2 x3 x4 x5 x7 : Value) (mc : Int32) (sz : Nat)  : Met l yL_make wsL_make ({ frames := 7, cells := 5, slots := 22, locals := 170 }) (va_Pc [.ref xo, .int 4, .int 2, .ref ou] (zPre (dC, dI) (zT cI cB cR cO) zk [] [(ou, .inr (7, [on, so])), (xo, .inr (6, [.ref al, x1, x2, x3, x4, x5, .ref b1, x7])), (al, .inr (4, [.int mc, .ref (zk 0), .int 0]))] sz)) (va_Qi (fun r (_ : Unit) => r = 0) (fun _ t => zEnd (dC, dI) (zT cI cB cR cO) (va_A [(ou, .inr (7, [on, so])), (xo, .inr (6, [.ref al, x1, x2, x3, x4, x5, .ref b1, x7])), (al, .inr (4, [.int mc, .ref (zk 0), .int 0]))] sz) [(ou, .inr (7, [.long 0, so])), (xo, .inr (6, [.ref al, x1, x2, x3, x4, x5, .ref b1, x7]))] sz 0 t) (va_A [(ou, .inr (7, [on, so])), (xo, .inr (6, [.ref al, x1, x2, x3, x4, x5, .ref b1, x7])), (al, .inr (4, [.int mc, .ref (zk 0), .int 0]))] sz)) 5 22 (va_A [(ou, .inr (7, [on, so])), (xo, .inr (6, [.ref al, x1, x2, x3, x4, x5, .ref b1, x7])), (al, .inr (4, [.int mc, .ref (zk 0), .int 0]))] sz) := by
  refine zofWH (cc := cL_make) (maxL := 5) (ret := (some .int)) (by decide) rfl ?_
  intro p e s mY args below meth c s₁ B hml hv
  obtain ⟨rfl, hsz, hP, hK, hD0, hZ⟩ := hv
  have hx := B.exec
  have hb := B.bytes
  have hr := B.returns
  have hts := atoms_spec (ws := wsL_make) B.pre
  have hown : s.vm.findClass RL = some mY.cls := findClass_of_methodNamed B.named
  have hlocks := B.notSynchronized
  subst hsz
  have hD := hD0.self (sz := s.heap.size)
  generalize hAe : va_A [(ou, .inr (7, [on, so])), (xo, .inr (6, [.ref al, x1, x2, x3, x4, x5, .ref b1, x7])), (al, .inr (4, [.int mc, .ref (zk 0), .int 0]))] s.heap.size = A at hD hZ ⊢
  have hA : ∀ q : Nat, s.heap.size ≤ q → A q := fun q h => by rw [← hAe]; exact Or.inr h
  have hS : va_S A s.heap s.heap [] := va_S.rf
  have hz : s.heap.size + 0 ≤ s.heap.size := Nat.le_refl _
  have hl := lv_entry ([.ref xo, .int 4, .int 2, .ref ou]) (n := 5) (Nat.le_of_ble_eq_true rfl)
  rw [lg_entry_eq]
  generalize (lg_sl ([.ref xo, .int 4, .int 2, .ref ou]) ++ List.replicate (5 - (lg_sl ([.ref xo, .int 4, .int 2, .ref ou])).length) Slot.unset).toArray = ls at hl ⊢
  have hl : lv_has ls 5 [(0, .ref xo), (1, .int 4), (2, .int 2), (3, .ref ou)] := hl
  have hP : va_P (dC, dI) vwCl [(ou, .inr (7, [on, so])), (xo, .inr (6, [.ref al, x1, x2, x3, x4, x5, .ref b1, x7])), (al, .inr (4, [.int mc, .ref (zk 0), .int 0]))] s.heap := hP
  have hD : va_D A [(ou, .inr (7, [on, so])), (xo, .inr (6, [.ref al, x1, x2, x3, x4, x5, .ref b1, x7])), (al, .inr (4, [.int mc, .ref (zk 0), .int 0]))] := hD
  refine lv_aload_n hx hb dL_make_0 rfl (lv_at hl 3 rfl) ?_
  refine lv_aload_n hx hb dL_make_1 rfl (lv_at hl 0 rfl) ?_
  refine lv_iload_n hx hb dL_make_2 rfl (lv_at hl 1 rfl) ?_
  refine lv_iload_n hx hb dL_make_3 rfl (lv_at hl 2 rfl) ?_
  have hPc := hP.sub (ws' := [(xo, .inr (6, [.ref al, x1, x2, x3, x4, x5, .ref b1, x7])), (al, .inr (4, [.int mc, .ref (zk 0), .int 0]))]) [1, 2] rfl
  have hDc := hD.sub (ws' := [(xo, .inr (6, [.ref al, x1, x2, x3, x4, x5, .ref b1, x7])), (al, .inr (4, [.int mc, .ref (zk 0), .int 0]))]) [1, 2] (by decide) rfl
  have hFc := va_free (wc := [(xo, .inr (6, [.ref al, x1, x2, x3, x4, x5, .ref b1, x7])), (al, .inr (4, [.int mc, .ref (zk 0), .int 0]))]) hD hS hA [1, 2] rfl
  have hDv := hDc.self (sz := s.heap.size)
  have hpre := zpre (xs' := []) (av := [.ref xo, .int 4, .int 2]) hPc hK (hDc.weaken (fun _ _ _ h => h)) hZ hS hFc (fun r hr => by cases hr)
  refine va_calli (va_runV (As := [.int 4, .int 2]) (rest := [.ref ou]) ⟨hx, hb, hml, hown, hts⟩ (k_mkX24 l dC dI cI cB cR cO zk xo al b1 x1 x2 x3 x4 x5 x7 mc s.heap.size ) (cwV 2 hts gL_make_X1_make rfl rfl rfl (by decide +kernel) ⟨Nat.le_of_ble_eq_true rfl, Nat.le_of_ble_eq_true rfl⟩) ⟨zblind, (zrecv_6 hK hPc (q0 := 0) rfl), hpre⟩ rfl rfl hl.1 rfl (lv_room (Nat.le_of_ble_eq_true rfl)) dL_make_4 ⟨Nat.le_of_ble_eq_true rfl, Nat.le_of_ble_eq_true rfl⟩) hS (fun q _ h => hFc q h) hFc (fun r2 u t H1 locs ht hvm hw hB hz1 hk1 hS => ?_)
  obtain rfl : 0 = r2 := (show r2 = 0 from hw).symm
  obtain ⟨hP1, hK1, hD1, hz2⟩ := hB
  rw [ht] at hP1 hz2
  have hPD9 := va_join (wr := [(ou, .inr (7, [on, so]))]) (w1 := [(xo, .inr (6, [.ref al, x1, x2, x3, x4, x5, .ref b1, x7]))]) hP hD [1, 2] [0] rfl rfl (by decide) (by decide) hk1 hFc hP1 hD1
  clear hPc hDc hFc hDv hpre hP hD hP1 hK1 hD1
  obtain ⟨hP, hD⟩ := hPD9
  replace hz : s.heap.size + 0 ≤ H1.size := by omega
  clear hz2
  replace hP : va_P (dC, dI) vwCl [(ou, .inr (7, [on, so])), (xo, .inr (6, [.ref al, x1, x2, x3, x4, x5, .ref b1, x7]))] H1 := hP
  replace hD : va_D A [(ou, .inr (7, [on, so])), (xo, .inr (6, [.ref al, x1, x2, x3, x4, x5, .ref b1, x7]))] := hD
  refine W.widen (k := 5) (n := 22) (by omega) (by omega) ?_
  refine lv_i2l (v := 0) hx hb dL_make_7 (by decide) ?_
  refine va_putN (D := (dC, dI)) (ci := 7) (v := .long 0) (ty := .long) (C := RX2) (T := TX2) (N := 2) hx hb hts hi_L_make_X2 tyX2 tyX2_ok nmX2 hown hK hP hD (zS0 hS) 0 rfl rfl 0 (by decide) (zn6 hZ) (fun _ h9 => h9) rfl (by decide +kernel) rfl rfl (Nat.le_of_ble_eq_true rfl) dL_make_8 (fun H3 locs hP hD hS1 => ?_)
  have hz : s.heap.size + 0 ≤ H3.size := Nat.le_trans hz hS1.1
  have hS := zSS hS hS1
  replace hP : va_P (dC, dI) vwCl [(ou, .inr (7, [.long 0, so])), (xo, .inr (6, [.ref al, x1, x2, x3, x4, x5, .ref b1, x7]))] H3 := hP
  replace hD : va_D A [(ou, .inr (7, [.long 0, so])), (xo, .inr (6, [.ref al, x1, x2, x3, x4, x5, .ref b1, x7]))] := hD
  refine lv_goto (tgt := 22) hx hb dL_make_11 (by decide) ?_
  refine lv_iconst (v := 0) hx hb dL_make_22 (by decide) ?_
  have hP9 := hP.sub (ws' := [(ou, .inr (7, [.long 0, so])), (xo, .inr (6, [.ref al, x1, x2, x3, x4, x5, .ref b1, x7]))]) [0, 1] rfl
  have hD9 := hD.sub (ws' := [(ou, .inr (7, [.long 0, so])), (xo, .inr (6, [.ref al, x1, x2, x3, x4, x5, .ref b1, x7]))]) [0, 1] (by decide) rfl
  exact W.iret (v := 0) hx hb hr (fun t ht hW => ⟨⟨_, (), rfl, rfl, ⟨by rw [ht]; exact hP9, va_K.moved hW.alike hK, hD9, by rw [ht]; exact hz⟩⟩, hS.F ht⟩) hS.2.2 dL_make_23

set_option maxHeartbeats 4000000 in
set_option maxRecDepth 100000 in
theorem k_mkX2s (l : Launch) (dC : Nat → ClassId) (dI : Nat → Nat → Nat) (cI cB cR cO : ClassId) (zk : Nat → Nat) (xo al b1 : Nat) (x1 x2 x3 x4 x5 x7 : Value) (mc : Int32) (kd : Int32) (sz : Nat) (hk0 : ¬ kd < 0) (hk4 : kd ≤ 4) (hkd : ¬ kd = 4) : Met l yX1_make wsX1_make ({ frames := 6, cells := 5, slots := 22, locals := 148 }) (va_Pc [.ref xo, .int kd, .int 2] (zPre (dC, dI) (zT cI cB cR cO) zk [] [(xo, .inr (6, [.ref al, x1, x2, x3, x4, x5, .ref b1, x7])), (al, .inr (4, [.int mc, .ref (zk 0), .int 0]))] sz)) (va_Qi (fun r (_ : Unit) => r = 0) (fun _ t => zEnd (dC, dI) (zT cI cB cR cO) (va_A [(xo, .inr (6, [.ref al, x1, x2, x3, x4, x5, .ref b1, x7])), (al, .inr (4, [.int mc, .ref (zk 0), .int 0]))] sz) [(xo, .inr (6, [.ref al, x1, x2, x3, x4, x5, .ref b1, x7]))] sz 4 t) (va_A [(xo, .inr (6, [.ref al, x1, x2, x3, x4, x5, .ref b1, x7])), (al, .inr (4, [.int mc, .ref (zk 0), .int 0]))] sz)) 5 22 (va_A [(xo, .inr (6, [.ref al, x1, x2, x3, x4, x5, .ref b1, x7])), (al, .inr (4, [.int mc, .ref (zk 0), .int 0]))] sz) := by
  refine Met.ofW (cc := cX1_make) (maxL := 3) (ret := (some .int)) (by decide) rfl ?_
  intro p e s mY args below meth c s₁ B hml hv
  obtain ⟨rfl, hsz, hP, hK, hD0, hZ⟩ := hv
  have hx := B.exec
  have hb := B.bytes
  have hr := B.returns
  have hts := atoms_spec (ws := wsX1_make) B.pre
  have hown : s.vm.findClass RX1 = some mY.cls := findClass_of_methodNamed B.named
  have hlocks := B.notSynchronized
  subst hsz
  have hD := hD0.self (sz := s.heap.size)
  generalize hAe : va_A [(xo, .inr (6, [.ref al, x1, x2, x3, x4, x5, .ref b1, x7])), (al, .inr (4, [.int mc, .ref (zk 0), .int 0]))] s.heap.size = A at hD hZ ⊢
  have hA : ∀ q : Nat, s.heap.size ≤ q → A q := fun q h => by rw [← hAe]; exact Or.inr h
  have hS : va_S A s.heap s.heap [] := va_S.rf
  have hz : s.heap.size + 0 ≤ s.heap.size := Nat.le_refl _
  have hl := lv_entry ([.ref xo, .int kd, .int 2]) (n := 3) (Nat.le_of_ble_eq_true rfl)
  rw [lg_entry_eq]
  generalize (lg_sl ([.ref xo, .int kd, .int 2]) ++ List.replicate (3 - (lg_sl ([.ref xo, .int kd, .int 2])).length) Slot.unset).toArray = ls at hl ⊢
  have hl : lv_has ls 3 [(0, .ref xo), (1, .int kd), (2, .int 2)] := hl
  have hP : va_P (dC, dI) vwCl [(xo, .inr (6, [.ref al, x1, x2, x3, x4, x5, .ref b1, x7])), (al, .inr (4, [.int mc, .ref (zk 0), .int 0]))] s.heap := hP
  have hD : va_D A [(xo, .inr (6, [.ref al, x1, x2, x3, x4, x5, .ref b1, x7])), (al, .inr (4, [.int mc, .ref (zk 0), .int 0]))] := hD
  refine lv_iload_n hx hb dX1_make_0 rfl (lv_at hl 1 rfl) ?_
  refine lv_if_lt (tgt := 9) hx hb dX1_make_1 (by decide) (fun c9 => ?_) (fun c9 => ?_)
  · exact absurd c9 (hk0)
  refine lv_iload_n hx hb dX1_make_4 rfl (lv_at hl 1 rfl) ?_
  refine lv_iconst (v := 4) hx hb dX1_make_5 (by decide) ?_
  refine lv_icmp_le (tgt := 19) hx hb dX1_make_6 (by decide) (fun c9 => ?_) (fun c9 => ?_)
  rotate_left
  · exact absurd (hk4) c9
  refine lv_iload_n hx hb dX1_make_19 rfl (lv_at hl 2 rfl) ?_
  have hPc := hP.sub (ws' := []) [] rfl
  have hDc := hD.sub (ws' := []) [] (by decide) rfl
  have hFc := va_free (wc := []) hD hS hA [] rfl
  have hDv := hDc.self (sz := s.heap.size)
  have hpre := zpre (xs' := []) (av := [.int 2]) hPc hK (hDc.weaken (fun _ _ _ h => h)) hZ hS hFc (fun r hr => by cases hr)
  refine va_callv (va_runS (As := [.int 2]) (rest := []) ⟨hx, hb, hml, hown, hts⟩ (k_rqL2 l dC dI cI cB cR cO zk  s.heap.size ) (va_cwS 1 hts gX1_make_X1_requireLength rfl rfl rfl (by decide +kernel) ⟨Nat.le_of_ble_eq_true rfl, Nat.le_of_ble_eq_true rfl⟩) ⟨zblind, hpre⟩ rfl rfl hl.1 rfl (lv_room (Nat.le_of_ble_eq_true rfl)) dX1_make_20 ⟨Nat.le_of_ble_eq_true rfl, Nat.le_of_ble_eq_true rfl⟩) hS (fun q _ h => hFc q h) hFc (fun u t H1 locs ht hvm hw hB hz1 hk1 hS => ?_)
  obtain ⟨hP1, hK1, hD1, hz2⟩ := hB
  rw [ht] at hP1 hz2
  have hPD9 := va_join (wr := [(xo, .inr (6, [.ref al, x1, x2, x3, x4, x5, .ref b1, x7])), (al, .inr (4, [.int mc, .ref (zk 0), .int 0]))]) (w1 := []) hP hD [] [0, 1] rfl rfl (by decide) (by decide) hk1 hFc hP1 hD1
  clear hPc hDc hFc hDv hpre hP hD hP1 hK1 hD1
  obtain ⟨hP, hD⟩ := hPD9
  replace hz : s.heap.size + 0 ≤ H1.size := by omega
  clear hz2
  replace hP : va_P (dC, dI) vwCl [(xo, .inr (6, [.ref al, x1, x2, x3, x4, x5, .ref b1, x7])), (al, .inr (4, [.int mc, .ref (zk 0), .int 0]))] H1 := hP
  replace hD : va_D A [(xo, .inr (6, [.ref al, x1, x2, x3, x4, x5, .ref b1, x7])), (al, .inr (4, [.int mc, .ref (zk 0), .int 0]))] := hD
  refine W.widen (k := 0) (n := 0) (by omega) (by omega) ?_
  refine lv_aload_n hx hb dX1_make_23 rfl (lv_at hl 0 rfl) ?_
  refine lv_iconst (v := 1) hx hb dX1_make_24 (by decide) ?_
  have hPc := hP.sub (ws' := [(xo, .inr (6, [.ref al, x1, x2, x3, x4, x5, .ref b1, x7])), (al, .inr (4, [.int mc, .ref (zk 0), .int 0]))]) [0, 1] rfl
  have hDc := hD.sub (ws' := [(xo, .inr (6, [.ref al, x1, x2, x3, x4, x5, .ref b1, x7])), (al, .inr (4, [.int mc, .ref (zk 0), .int 0]))]) [0, 1] (by decide) rfl
  have hFc := va_free (wc := [(xo, .inr (6, [.ref al, x1, x2, x3, x4, x5, .ref b1, x7])), (al, .inr (4, [.int mc, .ref (zk 0), .int 0]))]) hD hS hA [0, 1] rfl
  have hDv := hDc.self (sz := H1.size)
  have hpre := zpre (xs' := []) (av := [.ref xo, .int 1]) hPc hK (hDc.weaken (fun _ _ _ h => h)) hZ hS hFc (fun r hr => by cases hr)
  refine va_callv (va_runV (As := [.int 1]) (rest := []) ⟨hx, hb, hml, hown, hts⟩ (k_rqR0 l dC dI cI cB cR cO zk xo al b1 x1 x2 x3 x4 x5 x7 (zk 0) mc H1.size ) (cwV 1 hts gX1_make_X1_requireRoom rfl rfl rfl (by decide +kernel) ⟨Nat.le_of_ble_eq_true rfl, Nat.le_of_ble_eq_true rfl⟩) ⟨zblind, (zrecv_6 hK hPc (q0 := 0) rfl), hpre⟩ rfl rfl hl.1 rfl (lv_room (Nat.le_of_ble_eq_true rfl)) dX1_make_25 ⟨Nat.le_of_ble_eq_true rfl, Nat.le_of_ble_eq_true rfl⟩) hS (fun q _ h => hFc q h) hFc (fun u t H3 locs ht hvm hw hB hz1 hk1 hS => ?_)
  obtain ⟨hP1, hK1, hD1, hz2⟩ := hB
  rw [ht] at hP1 hz2
  have hPD9 := va_join (wr := []) (w1 := [(xo, .inr (6, [.ref al, x1, x2, x3, x4, x5, .ref b1, x7])), (al, .inr (4, [.int mc, .ref (zk 0), .int 0]))]) hP hD [0, 1] [] rfl rfl (by decide) (by decide) hk1 hFc hP1 hD1
  clear hPc hDc hFc hDv hpre hP hD hP1 hK1 hD1
  obtain ⟨hP, hD⟩ := hPD9
  replace hz : s.heap.size + 0 ≤ H3.size := by omega
  clear hz2
  replace hP : va_P (dC, dI) vwCl [(xo, .inr (6, [.ref al, x1, x2, x3, x4, x5, .ref b1, x7])), (al, .inr (4, [.int mc, .ref (zk 0), .int 0]))] H3 := hP
  replace hD : va_D A [(xo, .inr (6, [.ref al, x1, x2, x3, x4, x5, .ref b1, x7])), (al, .inr (4, [.int mc, .ref (zk 0), .int 0]))] := hD
  refine W.widen (k := 0) (n := 0) (by omega) (by omega) ?_
  refine lv_aload_n hx hb dX1_make_28 rfl (lv_at hl 0 rfl) ?_
  refine zw_new (ci := 5) (fs := [.int 0, .int 0, .null, .null, .null, .int 0]) (C := RX0) (T := TX0) (N := 6) hx hb hts hi_X1_make_X0 tyX0 tyX0_ok hown (hts (.classLink RX1 26 "Deeprows$Row") (List.mem_cons_of_mem _ zw_99)) (hts (.instantiable RX0 6) (List.mem_cons_of_mem _ zw_100)) (hts (.initialized RX0) (List.mem_cons_of_mem _ zw_39)) hK hP hD hS hA rfl (fun j hj => by rcases (show j = 0 ∨ j = 1 ∨ j = 2 ∨ j = 3 ∨ j = 4 ∨ j = 5 by omega) with rfl | rfl | rfl | rfl | rfl | rfl <;> rfl) (Nat.le_of_ble_eq_true rfl) (Nat.le_of_ble_eq_true rfl) dX1_make_29 hz (fun q5 H6 hP hD hS hz => ?_)
  replace hP : va_P (dC, dI) vwCl [(xo, .inr (6, [.ref al, x1, x2, x3, x4, x5, .ref b1, x7])), (al, .inr (4, [.int mc, .ref (zk 0), .int 0])), (q5, .inr (5, [.int 0, .int 0, .null, .null, .null, .int 0]))] H6 := hP
  replace hD : va_D A [(xo, .inr (6, [.ref al, x1, x2, x3, x4, x5, .ref b1, x7])), (al, .inr (4, [.int mc, .ref (zk 0), .int 0])), (q5, .inr (5, [.int 0, .int 0, .null, .null, .null, .int 0]))] := hD
  refine W.widen (k := 1) (n := 6) (by omega) (by omega) ?_
  refine lv_dup hx hb dX1_make_32 rfl ?_
  refine lv_iload_n hx hb dX1_make_33 rfl (lv_at hl 1 rfl) ?_
  refine lv_iload_n hx hb dX1_make_34 rfl (lv_at hl 2 rfl) ?_
  have hPc := hP.sub (ws' := [(q5, .inr (5, [.int 0, .int 0, .null, .null, .null, .int 0]))]) [2] rfl
  have hDc := hD.sub (ws' := [(q5, .inr (5, [.int 0, .int 0, .null, .null, .null, .int 0]))]) [2] (by decide) rfl
  have hFc := va_free (wc := [(q5, .inr (5, [.int 0, .int 0, .null, .null, .null, .int 0]))]) hD hS hA [2] rfl
  have hDv := hDc.self (sz := H6.size)
  have hpre := zpre (xs' := []) (av := [.ref q5, .int kd, .int 2]) hPc hK (hDc.weaken (fun _ _ _ h => h)) hZ hS hFc (fun r hr => by cases hr)
  refine va_callv (va_runI (As := [.int kd, .int 2]) (rest := [.ref q5, .ref xo]) ⟨hx, hb, hml, hown, hts⟩ (k_rI2s l dC dI cI cB cR cO zk q5 kd H6.size  hkd) (cwI 2 hts gX1_make_X0_init rfl rfl rfl (hts (.initialized RX0) (List.mem_cons_of_mem _ zw_39)) (hts (.methodLink RX1 28 yX0_init) (List.mem_cons_of_mem _ zw_101)) (hts (.instanceMethod yX0_init) (List.mem_cons_of_mem _ zw_102)) rfl (by decide +kernel) ⟨Nat.le_of_ble_eq_true rfl, Nat.le_of_ble_eq_true rfl⟩) ⟨zblind, hpre⟩ rfl rfl hl.1 rfl (lv_room (Nat.le_of_ble_eq_true rfl)) dX1_make_35 ⟨Nat.le_of_ble_eq_true rfl, Nat.le_of_ble_eq_true rfl⟩) hS (fun q _ h => hFc q h) hFc (fun u t H7 locs ht hvm hw hB hz1 hk1 hS => ?_)
  obtain ⟨w9, v10, h11, ⟨hP1, hK1, hD1, hz2⟩⟩ := hB
  rw [ht] at hP1 hz2
  have hPD9 := va_join (wr := [(xo, .inr (6, [.ref al, x1, x2, x3, x4, x5, .ref b1, x7])), (al, .inr (4, [.int mc, .ref (zk 0), .int 0]))]) (w1 := [(q5, .inr (5, [.int kd, .int 2, .ref w9, .ref v10, .ref h11, .int 0]))]) hP hD [2] [0, 1] rfl rfl (by decide) (by decide) hk1 hFc hP1 hD1
  clear hPc hDc hFc hDv hpre hP hD hP1 hK1 hD1
  obtain ⟨hP, hD⟩ := hPD9
  replace hz : s.heap.size + 4 ≤ H7.size := by omega
  clear hz2
  replace hP : va_P (dC, dI) vwCl [(xo, .inr (6, [.ref al, x1, x2, x3, x4, x5, .ref b1, x7])), (al, .inr (4, [.int mc, .ref (zk 0), .int 0])), (q5, .inr (5, [.int kd, .int 2, .ref w9, .ref v10, .ref h11, .int 0]))] H7 := hP
  replace hD : va_D A [(xo, .inr (6, [.ref al, x1, x2, x3, x4, x5, .ref b1, x7])), (al, .inr (4, [.int mc, .ref (zk 0), .int 0])), (q5, .inr (5, [.int kd, .int 2, .ref w9, .ref v10, .ref h11, .int 0]))] := hD
  refine W.widen (k := 4) (n := 12) (by omega) (by omega) ?_
  have hPc := hP.sub (ws' := [(xo, .inr (6, [.ref al, x1, x2, x3, x4, x5, .ref b1, x7])), (al, .inr (4, [.int mc, .ref (zk 0), .int 0])), (q5, .inr (5, [.int kd, .int 2, .ref w9, .ref v10, .ref h11, .int 0]))]) [0, 1, 2] rfl
  have hDc := hD.sub (ws' := [(xo, .inr (6, [.ref al, x1, x2, x3, x4, x5, .ref b1, x7])), (al, .inr (4, [.int mc, .ref (zk 0), .int 0])), (q5, .inr (5, [.int kd, .int 2, .ref w9, .ref v10, .ref h11, .int 0]))]) [0, 1, 2] (by decide) rfl
  have hFc := va_free (wc := [(xo, .inr (6, [.ref al, x1, x2, x3, x4, x5, .ref b1, x7])), (al, .inr (4, [.int mc, .ref (zk 0), .int 0])), (q5, .inr (5, [.int kd, .int 2, .ref w9, .ref v10, .ref h11, .int 0]))]) hD hS hA [0, 1, 2] rfl
  have hDv := hDc.self (sz := H7.size)
  have hpre := zpre (xs' := []) (av := [.ref xo, .ref q5]) hPc hK (hDc.weaken (fun _ _ _ h => h)) hZ hS hFc (fun r hr => by cases hr)
  refine va_callr (va_runV (As := [.ref q5]) (rest := []) ⟨hx, hb, hml, hown, hts⟩ (k_adRZ l dC dI cI cB cR cO zk xo al b1 x1 x2 x3 x4 x5 x7 mc q5 w9 v10 h11 kd 2 H7.size ) (cwV 1 hts gX1_make_X1_addRow rfl rfl rfl (by decide +kernel) ⟨Nat.le_of_ble_eq_true rfl, Nat.le_of_ble_eq_true rfl⟩) ⟨zblind, (zrecv_6 hK hPc (q0 := 0) rfl), hpre⟩ rfl rfl hl.1 rfl (lv_room (Nat.le_of_ble_eq_true rfl)) dX1_make_38 ⟨Nat.le_of_ble_eq_true rfl, Nat.le_of_ble_eq_true rfl⟩) hS (fun q _ h => hFc q h) hFc (fun u r13 t H12 locs ht hvm hw hB hz1 hk1 hS => ?_)
  obtain ⟨⟨hP1, hK1, hD1, hz2⟩, her13⟩ := hB
  rw [ht] at hP1 hz2
  have hPD9 := va_join (wr := []) (w1 := [(xo, .inr (6, [.ref al, x1, x2, x3, x4, x5, .ref b1, x7])), (q5, .inr (5, [.int kd, .int 2, .ref w9, .ref v10, .ref h11, .int 0]))]) hP hD [0, 1, 2] [] rfl rfl (by decide) (by decide) hk1 hFc hP1 hD1
  clear hPc hDc hFc hDv hpre hP hD hP1 hK1 hD1
  obtain ⟨hP, hD⟩ := hPD9
  replace hz : s.heap.size + 4 ≤ H12.size := by omega
  clear hz2
  replace hP : va_P (dC, dI) vwCl [(xo, .inr (6, [.ref al, x1, x2, x3, x4, x5, .ref b1, x7])), (q5, .inr (5, [.int kd, .int 2, .ref w9, .ref v10, .ref h11, .int 0]))] H12 := hP
  replace hD : va_D A [(xo, .inr (6, [.ref al, x1, x2, x3, x4, x5, .ref b1, x7])), (q5, .inr (5, [.int kd, .int 2, .ref w9, .ref v10, .ref h11, .int 0]))] := hD
  refine W.widen (k := 5) (n := 22) (by omega) (by omega) ?_
  obtain rfl := her13.symm
  refine va_getN (D := (dC, dI)) (ci := 5) (v := .int 0) (C := RX0) (T := TX0) (N := 6) hx hb hts hi_X1_make_X0 hown hK hP 1 rfl rfl 5 (by decide) (zn5 hZ) (fun _ h9 => h9) rfl dX1_make_41 ?_
  have hP9 := hP.sub (ws' := [(xo, .inr (6, [.ref al, x1, x2, x3, x4, x5, .ref b1, x7]))]) [0] rfl
  have hD9 := hD.sub (ws' := [(xo, .inr (6, [.ref al, x1, x2, x3, x4, x5, .ref b1, x7]))]) [0] (by decide) rfl
  exact W.iret (v := 0) hx hb hr (fun t ht hW => ⟨⟨_, (), rfl, rfl, ⟨by rw [ht]; exact hP9, va_K.moved hW.alike hK, hD9, by rw [ht]; exact hz⟩⟩, hS.F ht⟩) hS.2.2 dX1_make_44

set_option maxHeartbeats 4000000 in
set_option maxRecDepth 100000 in
theorem k_mkH2s (l : Launch) (dC : Nat → ClassId) (dI : Nat → Nat → Nat) (cI cB cR cO : ClassId) (zk : Nat → Nat) (ou : Nat) (on so : Value) (xo al b1 : Nat) (x1 x2 x3 x4 x5 x7 : Value) (mc : Int32) (kd : Int32) (sz : Nat) (hk0 : ¬ kd < 0) (hk4 : kd ≤ 4) (hkd : ¬ kd = 4) : Met l yL_make wsL_make ({ frames := 7, cells := 5, slots := 22, locals := 170 }) (va_Pc [.ref xo, .int kd, .int 2, .ref ou] (zPre (dC, dI) (zT cI cB cR cO) zk [] [(ou, .inr (7, [on, so])), (xo, .inr (6, [.ref al, x1, x2, x3, x4, x5, .ref b1, x7])), (al, .inr (4, [.int mc, .ref (zk 0), .int 0]))] sz)) (va_Qi (fun r (_ : Unit) => r = 0) (fun _ t => zEnd (dC, dI) (zT cI cB cR cO) (va_A [(ou, .inr (7, [on, so])), (xo, .inr (6, [.ref al, x1, x2, x3, x4, x5, .ref b1, x7])), (al, .inr (4, [.int mc, .ref (zk 0), .int 0]))] sz) [(ou, .inr (7, [.long 0, so])), (xo, .inr (6, [.ref al, x1, x2, x3, x4, x5, .ref b1, x7]))] sz 0 t) (va_A [(ou, .inr (7, [on, so])), (xo, .inr (6, [.ref al, x1, x2, x3, x4, x5, .ref b1, x7])), (al, .inr (4, [.int mc, .ref (zk 0), .int 0]))] sz)) 5 22 (va_A [(ou, .inr (7, [on, so])), (xo, .inr (6, [.ref al, x1, x2, x3, x4, x5, .ref b1, x7])), (al, .inr (4, [.int mc, .ref (zk 0), .int 0]))] sz) := by
  refine zofWH (cc := cL_make) (maxL := 5) (ret := (some .int)) (by decide) rfl ?_
  intro p e s mY args below meth c s₁ B hml hv
  obtain ⟨rfl, hsz, hP, hK, hD0, hZ⟩ := hv
  have hx := B.exec
  have hb := B.bytes
  have hr := B.returns
  have hts := atoms_spec (ws := wsL_make) B.pre
  have hown : s.vm.findClass RL = some mY.cls := findClass_of_methodNamed B.named
  have hlocks := B.notSynchronized
  subst hsz
  have hD := hD0.self (sz := s.heap.size)
  generalize hAe : va_A [(ou, .inr (7, [on, so])), (xo, .inr (6, [.ref al, x1, x2, x3, x4, x5, .ref b1, x7])), (al, .inr (4, [.int mc, .ref (zk 0), .int 0]))] s.heap.size = A at hD hZ ⊢
  have hA : ∀ q : Nat, s.heap.size ≤ q → A q := fun q h => by rw [← hAe]; exact Or.inr h
  have hS : va_S A s.heap s.heap [] := va_S.rf
  have hz : s.heap.size + 0 ≤ s.heap.size := Nat.le_refl _
  have hl := lv_entry ([.ref xo, .int kd, .int 2, .ref ou]) (n := 5) (Nat.le_of_ble_eq_true rfl)
  rw [lg_entry_eq]
  generalize (lg_sl ([.ref xo, .int kd, .int 2, .ref ou]) ++ List.replicate (5 - (lg_sl ([.ref xo, .int kd, .int 2, .ref ou])).length) Slot.unset).toArray = ls at hl ⊢
  have hl : lv_has ls 5 [(0, .ref xo), (1, .int kd), (2, .int 2), (3, .ref ou)] := hl
  have hP : va_P (dC, dI) vwCl [(ou, .inr (7, [on, so])), (xo, .inr (6, [.ref al, x1, x2, x3, x4, x5, .ref b1, x7])), (al, .inr (4, [.int mc, .ref (zk 0), .int 0]))] s.heap := hP
  have hD : va_D A [(ou, .inr (7, [on, so])), (xo, .inr (6, [.ref al, x1, x2, x3, x4, x5, .ref b1, x7])), (al, .inr (4, [.int mc, .ref (zk 0), .int 0]))] := hD
  refine lv_aload_n hx hb dL_make_0 rfl (lv_at hl 3 rfl) ?_
  refine lv_aload_n hx hb dL_make_1 rfl (lv_at hl 0 rfl) ?_
  refine lv_iload_n hx hb dL_make_2 rfl (lv_at hl 1 rfl) ?_
  refine lv_iload_n hx hb dL_make_3 rfl (lv_at hl 2 rfl) ?_
  have hPc := hP.sub (ws' := [(xo, .inr (6, [.ref al, x1, x2, x3, x4, x5, .ref b1, x7])), (al, .inr (4, [.int mc, .ref (zk 0), .int 0]))]) [1, 2] rfl
  have hDc := hD.sub (ws' := [(xo, .inr (6, [.ref al, x1, x2, x3, x4, x5, .ref b1, x7])), (al, .inr (4, [.int mc, .ref (zk 0), .int 0]))]) [1, 2] (by decide) rfl
  have hFc := va_free (wc := [(xo, .inr (6, [.ref al, x1, x2, x3, x4, x5, .ref b1, x7])), (al, .inr (4, [.int mc, .ref (zk 0), .int 0]))]) hD hS hA [1, 2] rfl
  have hDv := hDc.self (sz := s.heap.size)
  have hpre := zpre (xs' := []) (av := [.ref xo, .int kd, .int 2]) hPc hK (hDc.weaken (fun _ _ _ h => h)) hZ hS hFc (fun r hr => by cases hr)
  refine va_calli (va_runV (As := [.int kd, .int 2]) (rest := [.ref ou]) ⟨hx, hb, hml, hown, hts⟩ (k_mkX2s l dC dI cI cB cR cO zk xo al b1 x1 x2 x3 x4 x5 x7 mc kd s.heap.size hk0 hk4 hkd) (cwV 2 hts gL_make_X1_make rfl rfl rfl (by decide +kernel) ⟨Nat.le_of_ble_eq_true rfl, Nat.le_of_ble_eq_true rfl⟩) ⟨zblind, (zrecv_6 hK hPc (q0 := 0) rfl), hpre⟩ rfl rfl hl.1 rfl (lv_room (Nat.le_of_ble_eq_true rfl)) dL_make_4 ⟨Nat.le_of_ble_eq_true rfl, Nat.le_of_ble_eq_true rfl⟩) hS (fun q _ h => hFc q h) hFc (fun r2 u t H1 locs ht hvm hw hB hz1 hk1 hS => ?_)
  obtain rfl : 0 = r2 := (show r2 = 0 from hw).symm
  obtain ⟨hP1, hK1, hD1, hz2⟩ := hB
  rw [ht] at hP1 hz2
  have hPD9 := va_join (wr := [(ou, .inr (7, [on, so]))]) (w1 := [(xo, .inr (6, [.ref al, x1, x2, x3, x4, x5, .ref b1, x7]))]) hP hD [1, 2] [0] rfl rfl (by decide) (by decide) hk1 hFc hP1 hD1
  clear hPc hDc hFc hDv hpre hP hD hP1 hK1 hD1
  obtain ⟨hP, hD⟩ := hPD9
  replace hz : s.heap.size + 0 ≤ H1.size := by omega
  clear hz2
  replace hP : va_P (dC, dI) vwCl [(ou, .inr (7, [on, so])), (xo, .inr (6, [.ref al, x1, x2, x3, x4, x5, .ref b1, x7]))] H1 := hP
  replace hD : va_D A [(ou, .inr (7, [on, so])), (xo, .inr (6, [.ref al, x1, x2, x3, x4, x5, .ref b1, x7]))] := hD
  refine W.widen (k := 5) (n := 22) (by omega) (by omega) ?_
  refine lv_i2l (v := 0) hx hb dL_make_7 (by decide) ?_
  refine va_putN (D := (dC, dI)) (ci := 7) (v := .long 0) (ty := .long) (C := RX2) (T := TX2) (N := 2) hx hb hts hi_L_make_X2 tyX2 tyX2_ok nmX2 hown hK hP hD (zS0 hS) 0 rfl rfl 0 (by decide) (zn6 hZ) (fun _ h9 => h9) rfl (by decide +kernel) rfl rfl (Nat.le_of_ble_eq_true rfl) dL_make_8 (fun H3 locs hP hD hS1 => ?_)
  have hz : s.heap.size + 0 ≤ H3.size := Nat.le_trans hz hS1.1
  have hS := zSS hS hS1
  replace hP : va_P (dC, dI) vwCl [(ou, .inr (7, [.long 0, so])), (xo, .inr (6, [.ref al, x1, x2, x3, x4, x5, .ref b1, x7]))] H3 := hP
  replace hD : va_D A [(ou, .inr (7, [.long 0, so])), (xo, .inr (6, [.ref al, x1, x2, x3, x4, x5, .ref b1, x7]))] := hD
  refine lv_goto (tgt := 22) hx hb dL_make_11 (by decide) ?_
  refine lv_iconst (v := 0) hx hb dL_make_22 (by decide) ?_
  have hP9 := hP.sub (ws' := [(ou, .inr (7, [.long 0, so])), (xo, .inr (6, [.ref al, x1, x2, x3, x4, x5, .ref b1, x7]))]) [0, 1] rfl
  have hD9 := hD.sub (ws' := [(ou, .inr (7, [.long 0, so])), (xo, .inr (6, [.ref al, x1, x2, x3, x4, x5, .ref b1, x7]))]) [0, 1] (by decide) rfl
  exact W.iret (v := 0) hx hb hr (fun t ht hW => ⟨⟨_, (), rfl, rfl, ⟨by rw [ht]; exact hP9, va_K.moved hW.alike hK, hD9, by rw [ht]; exact hz⟩⟩, hS.F ht⟩) hS.2.2 dL_make_23

set_option maxHeartbeats 4000000 in
set_option maxRecDepth 100000 in
theorem k_mkX34 (l : Launch) (dC : Nat → ClassId) (dI : Nat → Nat → Nat) (cI cB cR cO : ClassId) (zk : Nat → Nat) (xo al b1 : Nat) (x1 x2 x3 x4 x5 x7 : Value) (mc : Int32) (sz : Nat)  : Met l yX1_make wsX1_make ({ frames := 6, cells := 5, slots := 25, locals := 148 }) (va_Pc [.ref xo, .int 4, .int 3] (zPre (dC, dI) (zT cI cB cR cO) zk [] [(xo, .inr (6, [.ref al, x1, x2, x3, x4, x5, .ref b1, x7])), (al, .inr (4, [.int mc, .ref (zk 0), .int 0]))] sz)) (va_Qi (fun r (_ : Unit) => r = 0) (fun _ t => zEnd (dC, dI) (zT cI cB cR cO) (va_A [(xo, .inr (6, [.ref al, x1, x2, x3, x4, x5, .ref b1, x7])), (al, .inr (4, [.int mc, .ref (zk 0), .int 0]))] sz) [(xo, .inr (6, [.ref al, x1, x2, x3, x4, x5, .ref b1, x7]))] sz 4 t) (va_A [(xo, .inr (6, [.ref al, x1, x2, x3, x4, x5, .ref b1, x7])), (al, .inr (4, [.int mc, .ref (zk 0), .int 0]))] sz)) 5 25 (va_A [(xo, .inr (6, [.ref al, x1, x2, x3, x4, x5, .ref b1, x7])), (al, .inr (4, [.int mc, .ref (zk 0), .int 0]))] sz) := by
  refine Met.ofW (cc := cX1_make) (maxL := 3) (ret := (some .int)) (by decide) rfl ?_
  intro p e s mY args below meth c s₁ B hml hv
  obtain ⟨rfl, hsz, hP, hK, hD0, hZ⟩ := hv
  have hx := B.exec
  have hb := B.bytes
  have hr := B.returns
  have hts := atoms_spec (ws := wsX1_make) B.pre
  have hown : s.vm.findClass RX1 = some mY.cls := findClass_of_methodNamed B.named
  have hlocks := B.notSynchronized
  subst hsz
  have hD := hD0.self (sz := s.heap.size)
  generalize hAe : va_A [(xo, .inr (6, [.ref al, x1, x2, x3, x4, x5, .ref b1, x7])), (al, .inr (4, [.int mc, .ref (zk 0), .int 0]))] s.heap.size = A at hD hZ ⊢
  have hA : ∀ q : Nat, s.heap.size ≤ q → A q := fun q h => by rw [← hAe]; exact Or.inr h
  have hS : va_S A s.heap s.heap [] := va_S.rf
  have hz : s.heap.size + 0 ≤ s.heap.size := Nat.le_refl _
  have hl := lv_entry ([.ref xo, .int 4, .int 3]) (n := 3) (Nat.le_of_ble_eq_true rfl)
  rw [lg_entry_eq]
  generalize (lg_sl ([.ref xo, .int 4, .int 3]) ++ List.replicate (3 - (lg_sl ([.ref xo, .int 4, .int 3])).length) Slot.unset).toArray = ls at hl ⊢
  have hl : lv_has ls 3 [(0, .ref xo), (1, .int 4), (2, .int 3)] := hl
  have hP : va_P (dC, dI) vwCl [(xo, .inr (6, [.ref al, x1, x2, x3, x4, x5, .ref b1, x7])), (al, .inr (4, [.int mc, .ref (zk 0), .int 0]))] s.heap := hP
  have hD : va_D A [(xo, .inr (6, [.ref al, x1, x2, x3, x4, x5, .ref b1, x7])), (al, .inr (4, [.int mc, .ref (zk 0), .int 0]))] := hD
  refine lv_iload_n hx hb dX1_make_0 rfl (lv_at hl 1 rfl) ?_
  refine lv_if_lt (tgt := 9) hx hb dX1_make_1 (by decide) (fun c9 => ?_) (fun c9 => ?_)
  · exact absurd c9 (by decide)
  refine lv_iload_n hx hb dX1_make_4 rfl (lv_at hl 1 rfl) ?_
  refine lv_iconst (v := 4) hx hb dX1_make_5 (by decide) ?_
  refine lv_icmp_le (tgt := 19) hx hb dX1_make_6 (by decide) (fun c9 => ?_) (fun c9 => ?_)
  rotate_left
  · exact absurd (by decide) c9
  refine lv_iload_n hx hb dX1_make_19 rfl (lv_at hl 2 rfl) ?_
  have hPc := hP.sub (ws' := []) [] rfl
  have hDc := hD.sub (ws' := []) [] (by decide) rfl
  have hFc := va_free (wc := []) hD hS hA [] rfl
  have hDv := hDc.self (sz := s.heap.size)
  have hpre := zpre (xs' := []) (av := [.int 3]) hPc hK (hDc.weaken (fun _ _ _ h => h)) hZ hS hFc (fun r hr => by cases hr)
  refine va_callv (va_runS (As := [.int 3]) (rest := []) ⟨hx, hb, hml, hown, hts⟩ (k_rqL3 l dC dI cI cB cR cO zk  s.heap.size ) (va_cwS 1 hts gX1_make_X1_requireLength rfl rfl rfl (by decide +kernel) ⟨Nat.le_of_ble_eq_true rfl, Nat.le_of_ble_eq_true rfl⟩) ⟨zblind, hpre⟩ rfl rfl hl.1 rfl (lv_room (Nat.le_of_ble_eq_true rfl)) dX1_make_20 ⟨Nat.le_of_ble_eq_true rfl, Nat.le_of_ble_eq_true rfl⟩) hS (fun q _ h => hFc q h) hFc (fun u t H1 locs ht hvm hw hB hz1 hk1 hS => ?_)
  obtain ⟨hP1, hK1, hD1, hz2⟩ := hB
  rw [ht] at hP1 hz2
  have hPD9 := va_join (wr := [(xo, .inr (6, [.ref al, x1, x2, x3, x4, x5, .ref b1, x7])), (al, .inr (4, [.int mc, .ref (zk 0), .int 0]))]) (w1 := []) hP hD [] [0, 1] rfl rfl (by decide) (by decide) hk1 hFc hP1 hD1
  clear hPc hDc hFc hDv hpre hP hD hP1 hK1 hD1
  obtain ⟨hP, hD⟩ := hPD9
  replace hz : s.heap.size + 0 ≤ H1.size := by omega
  clear hz2
  replace hP : va_P (dC, dI) vwCl [(xo, .inr (6, [.ref al, x1, x2, x3, x4, x5, .ref b1, x7])), (al, .inr (4, [.int mc, .ref (zk 0), .int 0]))] H1 := hP
  replace hD : va_D A [(xo, .inr (6, [.ref al, x1, x2, x3, x4, x5, .ref b1, x7])), (al, .inr (4, [.int mc, .ref (zk 0), .int 0]))] := hD
  refine W.widen (k := 0) (n := 0) (by omega) (by omega) ?_
  refine lv_aload_n hx hb dX1_make_23 rfl (lv_at hl 0 rfl) ?_
  refine lv_iconst (v := 1) hx hb dX1_make_24 (by decide) ?_
  have hPc := hP.sub (ws' := [(xo, .inr (6, [.ref al, x1, x2, x3, x4, x5, .ref b1, x7])), (al, .inr (4, [.int mc, .ref (zk 0), .int 0]))]) [0, 1] rfl
  have hDc := hD.sub (ws' := [(xo, .inr (6, [.ref al, x1, x2, x3, x4, x5, .ref b1, x7])), (al, .inr (4, [.int mc, .ref (zk 0), .int 0]))]) [0, 1] (by decide) rfl
  have hFc := va_free (wc := [(xo, .inr (6, [.ref al, x1, x2, x3, x4, x5, .ref b1, x7])), (al, .inr (4, [.int mc, .ref (zk 0), .int 0]))]) hD hS hA [0, 1] rfl
  have hDv := hDc.self (sz := H1.size)
  have hpre := zpre (xs' := []) (av := [.ref xo, .int 1]) hPc hK (hDc.weaken (fun _ _ _ h => h)) hZ hS hFc (fun r hr => by cases hr)
  refine va_callv (va_runV (As := [.int 1]) (rest := []) ⟨hx, hb, hml, hown, hts⟩ (k_rqR0 l dC dI cI cB cR cO zk xo al b1 x1 x2 x3 x4 x5 x7 (zk 0) mc H1.size ) (cwV 1 hts gX1_make_X1_requireRoom rfl rfl rfl (by decide +kernel) ⟨Nat.le_of_ble_eq_true rfl, Nat.le_of_ble_eq_true rfl⟩) ⟨zblind, (zrecv_6 hK hPc (q0 := 0) rfl), hpre⟩ rfl rfl hl.1 rfl (lv_room (Nat.le_of_ble_eq_true rfl)) dX1_make_25 ⟨Nat.le_of_ble_eq_true rfl, Nat.le_of_ble_eq_true rfl⟩) hS (fun q _ h => hFc q h) hFc (fun u t H3 locs ht hvm hw hB hz1 hk1 hS => ?_)
  obtain ⟨hP1, hK1, hD1, hz2⟩ := hB
  rw [ht] at hP1 hz2
  have hPD9 := va_join (wr := []) (w1 := [(xo, .inr (6, [.ref al, x1, x2, x3, x4, x5, .ref b1, x7])), (al, .inr (4, [.int mc, .ref (zk 0), .int 0]))]) hP hD [0, 1] [] rfl rfl (by decide) (by decide) hk1 hFc hP1 hD1
  clear hPc hDc hFc hDv hpre hP hD hP1 hK1 hD1
  obtain ⟨hP, hD⟩ := hPD9
  replace hz : s.heap.size + 0 ≤ H3.size := by omega
  clear hz2
  replace hP : va_P (dC, dI) vwCl [(xo, .inr (6, [.ref al, x1, x2, x3, x4, x5, .ref b1, x7])), (al, .inr (4, [.int mc, .ref (zk 0), .int 0]))] H3 := hP
  replace hD : va_D A [(xo, .inr (6, [.ref al, x1, x2, x3, x4, x5, .ref b1, x7])), (al, .inr (4, [.int mc, .ref (zk 0), .int 0]))] := hD
  refine W.widen (k := 0) (n := 0) (by omega) (by omega) ?_
  refine lv_aload_n hx hb dX1_make_28 rfl (lv_at hl 0 rfl) ?_
  refine zw_new (ci := 5) (fs := [.int 0, .int 0, .null, .null, .null, .int 0]) (C := RX0) (T := TX0) (N := 6) hx hb hts hi_X1_make_X0 tyX0 tyX0_ok hown (hts (.classLink RX1 26 "Deeprows$Row") (List.mem_cons_of_mem _ zw_99)) (hts (.instantiable RX0 6) (List.mem_cons_of_mem _ zw_100)) (hts (.initialized RX0) (List.mem_cons_of_mem _ zw_39)) hK hP hD hS hA rfl (fun j hj => by rcases (show j = 0 ∨ j = 1 ∨ j = 2 ∨ j = 3 ∨ j = 4 ∨ j = 5 by omega) with rfl | rfl | rfl | rfl | rfl | rfl <;> rfl) (Nat.le_of_ble_eq_true rfl) (Nat.le_of_ble_eq_true rfl) dX1_make_29 hz (fun q5 H6 hP hD hS hz => ?_)
  replace hP : va_P (dC, dI) vwCl [(xo, .inr (6, [.ref al, x1, x2, x3, x4, x5, .ref b1, x7])), (al, .inr (4, [.int mc, .ref (zk 0), .int 0])), (q5, .inr (5, [.int 0, .int 0, .null, .null, .null, .int 0]))] H6 := hP
  replace hD : va_D A [(xo, .inr (6, [.ref al, x1, x2, x3, x4, x5, .ref b1, x7])), (al, .inr (4, [.int mc, .ref (zk 0), .int 0])), (q5, .inr (5, [.int 0, .int 0, .null, .null, .null, .int 0]))] := hD
  refine W.widen (k := 1) (n := 6) (by omega) (by omega) ?_
  refine lv_dup hx hb dX1_make_32 rfl ?_
  refine lv_iload_n hx hb dX1_make_33 rfl (lv_at hl 1 rfl) ?_
  refine lv_iload_n hx hb dX1_make_34 rfl (lv_at hl 2 rfl) ?_
  have hPc := hP.sub (ws' := [(q5, .inr (5, [.int 0, .int 0, .null, .null, .null, .int 0]))]) [2] rfl
  have hDc := hD.sub (ws' := [(q5, .inr (5, [.int 0, .int 0, .null, .null, .null, .int 0]))]) [2] (by decide) rfl
  have hFc := va_free (wc := [(q5, .inr (5, [.int 0, .int 0, .null, .null, .null, .int 0]))]) hD hS hA [2] rfl
  have hDv := hDc.self (sz := H6.size)
  have hpre := zpre (xs' := []) (av := [.ref q5, .int 4, .int 3]) hPc hK (hDc.weaken (fun _ _ _ h => h)) hZ hS hFc (fun r hr => by cases hr)
  refine va_callv (va_runI (As := [.int 4, .int 3]) (rest := [.ref q5, .ref xo]) ⟨hx, hb, hml, hown, hts⟩ (k_rI34 l dC dI cI cB cR cO zk q5 H6.size ) (cwI 2 hts gX1_make_X0_init rfl rfl rfl (hts (.initialized RX0) (List.mem_cons_of_mem _ zw_39)) (hts (.methodLink RX1 28 yX0_init) (List.mem_cons_of_mem _ zw_101)) (hts (.instanceMethod yX0_init) (List.mem_cons_of_mem _ zw_102)) rfl (by decide +kernel) ⟨Nat.le_of_ble_eq_true rfl, Nat.le_of_ble_eq_true rfl⟩) ⟨zblind, hpre⟩ rfl rfl hl.1 rfl (lv_room (Nat.le_of_ble_eq_true rfl)) dX1_make_35 ⟨Nat.le_of_ble_eq_true rfl, Nat.le_of_ble_eq_true rfl⟩) hS (fun q _ h => hFc q h) hFc (fun u t H7 locs ht hvm hw hB hz1 hk1 hS => ?_)
  obtain ⟨w9, v10, h11, ⟨hP1, hK1, hD1, hz2⟩⟩ := hB
  rw [ht] at hP1 hz2
  have hPD9 := va_join (wr := [(xo, .inr (6, [.ref al, x1, x2, x3, x4, x5, .ref b1, x7])), (al, .inr (4, [.int mc, .ref (zk 0), .int 0]))]) (w1 := [(q5, .inr (5, [.int 4, .int 3, .ref w9, .ref v10, .ref h11, .int 0]))]) hP hD [2] [0, 1] rfl rfl (by decide) (by decide) hk1 hFc hP1 hD1
  clear hPc hDc hFc hDv hpre hP hD hP1 hK1 hD1
  obtain ⟨hP, hD⟩ := hPD9
  replace hz : s.heap.size + 4 ≤ H7.size := by omega
  clear hz2
  replace hP : va_P (dC, dI) vwCl [(xo, .inr (6, [.ref al, x1, x2, x3, x4, x5, .ref b1, x7])), (al, .inr (4, [.int mc, .ref (zk 0), .int 0])), (q5, .inr (5, [.int 4, .int 3, .ref w9, .ref v10, .ref h11, .int 0]))] H7 := hP
  replace hD : va_D A [(xo, .inr (6, [.ref al, x1, x2, x3, x4, x5, .ref b1, x7])), (al, .inr (4, [.int mc, .ref (zk 0), .int 0])), (q5, .inr (5, [.int 4, .int 3, .ref w9, .ref v10, .ref h11, .int 0]))] := hD
  refine W.widen (k := 4) (n := 15) (by omega) (by omega) ?_
  have hPc := hP.sub (ws' := [(xo, .inr (6, [.ref al, x1, x2, x3, x4, x5, .ref b1, x7])), (al, .inr (4, [.int mc, .ref (zk 0), .int 0])), (q5, .inr (5, [.int 4, .int 3, .ref w9, .ref v10, .ref h11, .int 0]))]) [0, 1, 2] rfl
  have hDc := hD.sub (ws' := [(xo, .inr (6, [.ref al, x1, x2, x3, x4, x5, .ref b1, x7])), (al, .inr (4, [.int mc, .ref (zk 0), .int 0])), (q5, .inr (5, [.int 4, .int 3, .ref w9, .ref v10, .ref h11, .int 0]))]) [0, 1, 2] (by decide) rfl
  have hFc := va_free (wc := [(xo, .inr (6, [.ref al, x1, x2, x3, x4, x5, .ref b1, x7])), (al, .inr (4, [.int mc, .ref (zk 0), .int 0])), (q5, .inr (5, [.int 4, .int 3, .ref w9, .ref v10, .ref h11, .int 0]))]) hD hS hA [0, 1, 2] rfl
  have hDv := hDc.self (sz := H7.size)
  have hpre := zpre (xs' := []) (av := [.ref xo, .ref q5]) hPc hK (hDc.weaken (fun _ _ _ h => h)) hZ hS hFc (fun r hr => by cases hr)
  refine va_callr (va_runV (As := [.ref q5]) (rest := []) ⟨hx, hb, hml, hown, hts⟩ (k_adRZ l dC dI cI cB cR cO zk xo al b1 x1 x2 x3 x4 x5 x7 mc q5 w9 v10 h11 4 3 H7.size ) (cwV 1 hts gX1_make_X1_addRow rfl rfl rfl (by decide +kernel) ⟨Nat.le_of_ble_eq_true rfl, Nat.le_of_ble_eq_true rfl⟩) ⟨zblind, (zrecv_6 hK hPc (q0 := 0) rfl), hpre⟩ rfl rfl hl.1 rfl (lv_room (Nat.le_of_ble_eq_true rfl)) dX1_make_38 ⟨Nat.le_of_ble_eq_true rfl, Nat.le_of_ble_eq_true rfl⟩) hS (fun q _ h => hFc q h) hFc (fun u r13 t H12 locs ht hvm hw hB hz1 hk1 hS => ?_)
  obtain ⟨⟨hP1, hK1, hD1, hz2⟩, her13⟩ := hB
  rw [ht] at hP1 hz2
  have hPD9 := va_join (wr := []) (w1 := [(xo, .inr (6, [.ref al, x1, x2, x3, x4, x5, .ref b1, x7])), (q5, .inr (5, [.int 4, .int 3, .ref w9, .ref v10, .ref h11, .int 0]))]) hP hD [0, 1, 2] [] rfl rfl (by decide) (by decide) hk1 hFc hP1 hD1
  clear hPc hDc hFc hDv hpre hP hD hP1 hK1 hD1
  obtain ⟨hP, hD⟩ := hPD9
  replace hz : s.heap.size + 4 ≤ H12.size := by omega
  clear hz2
  replace hP : va_P (dC, dI) vwCl [(xo, .inr (6, [.ref al, x1, x2, x3, x4, x5, .ref b1, x7])), (q5, .inr (5, [.int 4, .int 3, .ref w9, .ref v10, .ref h11, .int 0]))] H12 := hP
  replace hD : va_D A [(xo, .inr (6, [.ref al, x1, x2, x3, x4, x5, .ref b1, x7])), (q5, .inr (5, [.int 4, .int 3, .ref w9, .ref v10, .ref h11, .int 0]))] := hD
  refine W.widen (k := 5) (n := 25) (by omega) (by omega) ?_
  obtain rfl := her13.symm
  refine va_getN (D := (dC, dI)) (ci := 5) (v := .int 0) (C := RX0) (T := TX0) (N := 6) hx hb hts hi_X1_make_X0 hown hK hP 1 rfl rfl 5 (by decide) (zn5 hZ) (fun _ h9 => h9) rfl dX1_make_41 ?_
  have hP9 := hP.sub (ws' := [(xo, .inr (6, [.ref al, x1, x2, x3, x4, x5, .ref b1, x7]))]) [0] rfl
  have hD9 := hD.sub (ws' := [(xo, .inr (6, [.ref al, x1, x2, x3, x4, x5, .ref b1, x7]))]) [0] (by decide) rfl
  exact W.iret (v := 0) hx hb hr (fun t ht hW => ⟨⟨_, (), rfl, rfl, ⟨by rw [ht]; exact hP9, va_K.moved hW.alike hK, hD9, by rw [ht]; exact hz⟩⟩, hS.F ht⟩) hS.2.2 dX1_make_44

set_option maxHeartbeats 4000000 in
set_option maxRecDepth 100000 in
theorem k_mkH34 (l : Launch) (dC : Nat → ClassId) (dI : Nat → Nat → Nat) (cI cB cR cO : ClassId) (zk : Nat → Nat) (ou : Nat) (on so : Value) (xo al b1 : Nat) (x1 x2 x3 x4 x5 x7 : Value) (mc : Int32) (sz : Nat)  : Met l yL_make wsL_make ({ frames := 7, cells := 5, slots := 25, locals := 170 }) (va_Pc [.ref xo, .int 4, .int 3, .ref ou] (zPre (dC, dI) (zT cI cB cR cO) zk [] [(ou, .inr (7, [on, so])), (xo, .inr (6, [.ref al, x1, x2, x3, x4, x5, .ref b1, x7])), (al, .inr (4, [.int mc, .ref (zk 0), .int 0]))] sz)) (va_Qi (fun r (_ : Unit) => r = 0) (fun _ t => zEnd (dC, dI) (zT cI cB cR cO) (va_A [(ou, .inr (7, [on, so])), (xo, .inr (6, [.ref al, x1, x2, x3, x4, x5, .ref b1, x7])), (al, .inr (4, [.int mc, .ref (zk 0), .int 0]))] sz) [(ou, .inr (7, [.long 0, so])), (xo, .inr (6, [.ref al, x1, x2, x3, x4, x5, .ref b1, x7]))] sz 0 t) (va_A [(ou, .inr (7, [on, so])), (xo, .inr (6, [.ref al, x1, x2, x3, x4, x5, .ref b1, x7])), (al, .inr (4, [.int mc, .ref (zk 0), .int 0]))] sz)) 5 25 (va_A [(ou, .inr (7, [on, so])), (xo, .inr (6, [.ref al, x1, x2, x3, x4, x5, .ref b1, x7])), (al, .inr (4, [.int mc, .ref (zk 0), .int 0]))] sz) := by
  refine zofWH (cc := cL_make) (maxL := 5) (ret := (some .int)) (by decide) rfl ?_
  intro p e s mY args below meth c s₁ B hml hv
  obtain ⟨rfl, hsz, hP, hK, hD0, hZ⟩ := hv
  have hx := B.exec
  have hb := B.bytes
  have hr := B.returns
  have hts := atoms_spec (ws := wsL_make) B.pre
  have hown : s.vm.findClass RL = some mY.cls := findClass_of_methodNamed B.named
  have hlocks := B.notSynchronized
  subst hsz
  have hD := hD0.self (sz := s.heap.size)
  generalize hAe : va_A [(ou, .inr (7, [on, so])), (xo, .inr (6, [.ref al, x1, x2, x3, x4, x5, .ref b1, x7])), (al, .inr (4, [.int mc, .ref (zk 0), .int 0]))] s.heap.size = A at hD hZ ⊢
  have hA : ∀ q : Nat, s.heap.size ≤ q → A q := fun q h => by rw [← hAe]; exact Or.inr h
  have hS : va_S A s.heap s.heap [] := va_S.rf
  have hz : s.heap.size + 0 ≤ s.heap.size := Nat.le_refl _
  have hl := lv_entry ([.ref xo, .int 4, .int 3, .ref ou]) (n := 5) (Nat.le_of_ble_eq_true rfl)
  rw [lg_entry_eq]
  generalize (lg_sl ([.ref xo, .int 4, .int 3, .ref ou]) ++ List.replicate (5 - (lg_sl ([.ref xo, .int 4, .int 3, .ref ou])).length) Slot.unset).toArray = ls at hl ⊢
  have hl : lv_has ls 5 [(0, .ref xo), (1, .int 4), (2, .int 3), (3, .ref ou)] := hl
  have hP : va_P (dC, dI) vwCl [(ou, .inr (7, [on, so])), (xo, .inr (6, [.ref al, x1, x2, x3, x4, x5, .ref b1, x7])), (al, .inr (4, [.int mc, .ref (zk 0), .int 0]))] s.heap := hP
  have hD : va_D A [(ou, .inr (7, [on, so])), (xo, .inr (6, [.ref al, x1, x2, x3, x4, x5, .ref b1, x7])), (al, .inr (4, [.int mc, .ref (zk 0), .int 0]))] := hD
  refine lv_aload_n hx hb dL_make_0 rfl (lv_at hl 3 rfl) ?_
  refine lv_aload_n hx hb dL_make_1 rfl (lv_at hl 0 rfl) ?_
  refine lv_iload_n hx hb dL_make_2 rfl (lv_at hl 1 rfl) ?_
  refine lv_iload_n hx hb dL_make_3 rfl (lv_at hl 2 rfl) ?_
  have hPc := hP.sub (ws' := [(xo, .inr (6, [.ref al, x1, x2, x3, x4, x5, .ref b1, x7])), (al, .inr (4, [.int mc, .ref (zk 0), .int 0]))]) [1, 2] rfl
  have hDc := hD.sub (ws' := [(xo, .inr (6, [.ref al, x1, x2, x3, x4, x5, .ref b1, x7])), (al, .inr (4, [.int mc, .ref (zk 0), .int 0]))]) [1, 2] (by decide) rfl
  have hFc := va_free (wc := [(xo, .inr (6, [.ref al, x1, x2, x3, x4, x5, .ref b1, x7])), (al, .inr (4, [.int mc, .ref (zk 0), .int 0]))]) hD hS hA [1, 2] rfl
  have hDv := hDc.self (sz := s.heap.size)
  have hpre := zpre (xs' := []) (av := [.ref xo, .int 4, .int 3]) hPc hK (hDc.weaken (fun _ _ _ h => h)) hZ hS hFc (fun r hr => by cases hr)
  refine va_calli (va_runV (As := [.int 4, .int 3]) (rest := [.ref ou]) ⟨hx, hb, hml, hown, hts⟩ (k_mkX34 l dC dI cI cB cR cO zk xo al b1 x1 x2 x3 x4 x5 x7 mc s.heap.size ) (cwV 2 hts gL_make_X1_make rfl rfl rfl (by decide +kernel) ⟨Nat.le_of_ble_eq_true rfl, Nat.le_of_ble_eq_true rfl⟩) ⟨zblind, (zrecv_6 hK hPc (q0 := 0) rfl), hpre⟩ rfl rfl hl.1 rfl (lv_room (Nat.le_of_ble_eq_true rfl)) dL_make_4 ⟨Nat.le_of_ble_eq_true rfl, Nat.le_of_ble_eq_true rfl⟩) hS (fun q _ h => hFc q h) hFc (fun r2 u t H1 locs ht hvm hw hB hz1 hk1 hS => ?_)
  obtain rfl : 0 = r2 := (show r2 = 0 from hw).symm
  obtain ⟨hP1, hK1, hD1, hz2⟩ := hB
  rw [ht] at hP1 hz2
  have hPD9 := va_join (wr := [(ou, .inr (7, [on, so]))]) (w1 := [(xo, .inr (6, [.ref al, x1, x2, x3, x4, x5, .ref b1, x7]))]) hP hD [1, 2] [0] rfl rfl (by decide) (by decide) hk1 hFc hP1 hD1
  clear hPc hDc hFc hDv hpre hP hD hP1 hK1 hD1
  obtain ⟨hP, hD⟩ := hPD9
  replace hz : s.heap.size + 0 ≤ H1.size := by omega
  clear hz2
  replace hP : va_P (dC, dI) vwCl [(ou, .inr (7, [on, so])), (xo, .inr (6, [.ref al, x1, x2, x3, x4, x5, .ref b1, x7]))] H1 := hP
  replace hD : va_D A [(ou, .inr (7, [on, so])), (xo, .inr (6, [.ref al, x1, x2, x3, x4, x5, .ref b1, x7]))] := hD
  refine W.widen (k := 5) (n := 25) (by omega) (by omega) ?_
  refine lv_i2l (v := 0) hx hb dL_make_7 (by decide) ?_
  refine va_putN (D := (dC, dI)) (ci := 7) (v := .long 0) (ty := .long) (C := RX2) (T := TX2) (N := 2) hx hb hts hi_L_make_X2 tyX2 tyX2_ok nmX2 hown hK hP hD (zS0 hS) 0 rfl rfl 0 (by decide) (zn6 hZ) (fun _ h9 => h9) rfl (by decide +kernel) rfl rfl (Nat.le_of_ble_eq_true rfl) dL_make_8 (fun H3 locs hP hD hS1 => ?_)
  have hz : s.heap.size + 0 ≤ H3.size := Nat.le_trans hz hS1.1
  have hS := zSS hS hS1
  replace hP : va_P (dC, dI) vwCl [(ou, .inr (7, [.long 0, so])), (xo, .inr (6, [.ref al, x1, x2, x3, x4, x5, .ref b1, x7]))] H3 := hP
  replace hD : va_D A [(ou, .inr (7, [.long 0, so])), (xo, .inr (6, [.ref al, x1, x2, x3, x4, x5, .ref b1, x7]))] := hD
  refine lv_goto (tgt := 22) hx hb dL_make_11 (by decide) ?_
  refine lv_iconst (v := 0) hx hb dL_make_22 (by decide) ?_
  have hP9 := hP.sub (ws' := [(ou, .inr (7, [.long 0, so])), (xo, .inr (6, [.ref al, x1, x2, x3, x4, x5, .ref b1, x7]))]) [0, 1] rfl
  have hD9 := hD.sub (ws' := [(ou, .inr (7, [.long 0, so])), (xo, .inr (6, [.ref al, x1, x2, x3, x4, x5, .ref b1, x7]))]) [0, 1] (by decide) rfl
  exact W.iret (v := 0) hx hb hr (fun t ht hW => ⟨⟨_, (), rfl, rfl, ⟨by rw [ht]; exact hP9, va_K.moved hW.alike hK, hD9, by rw [ht]; exact hz⟩⟩, hS.F ht⟩) hS.2.2 dL_make_23

set_option maxHeartbeats 4000000 in
set_option maxRecDepth 100000 in
theorem k_mkX3s (l : Launch) (dC : Nat → ClassId) (dI : Nat → Nat → Nat) (cI cB cR cO : ClassId) (zk : Nat → Nat) (xo al b1 : Nat) (x1 x2 x3 x4 x5 x7 : Value) (mc : Int32) (kd : Int32) (sz : Nat) (hk0 : ¬ kd < 0) (hk4 : kd ≤ 4) (hkd : ¬ kd = 4) : Met l yX1_make wsX1_make ({ frames := 6, cells := 5, slots := 25, locals := 148 }) (va_Pc [.ref xo, .int kd, .int 3] (zPre (dC, dI) (zT cI cB cR cO) zk [] [(xo, .inr (6, [.ref al, x1, x2, x3, x4, x5, .ref b1, x7])), (al, .inr (4, [.int mc, .ref (zk 0), .int 0]))] sz)) (va_Qi (fun r (_ : Unit) => r = 0) (fun _ t => zEnd (dC, dI) (zT cI cB cR cO) (va_A [(xo, .inr (6, [.ref al, x1, x2, x3, x4, x5, .ref b1, x7])), (al, .inr (4, [.int mc, .ref (zk 0), .int 0]))] sz) [(xo, .inr (6, [.ref al, x1, x2, x3, x4, x5, .ref b1, x7]))] sz 4 t) (va_A [(xo, .inr (6, [.ref al, x1, x2, x3, x4, x5, .ref b1, x7])), (al, .inr (4, [.int mc, .ref (zk 0), .int 0]))] sz)) 5 25 (va_A [(xo, .inr (6, [.ref al, x1, x2, x3, x4, x5, .ref b1, x7])), (al, .inr (4, [.int mc, .ref (zk 0), .int 0]))] sz) := by
  refine Met.ofW (cc := cX1_make) (maxL := 3) (ret := (some .int)) (by decide) rfl ?_
  intro p e s mY args below meth c s₁ B hml hv
  obtain ⟨rfl, hsz, hP, hK, hD0, hZ⟩ := hv
  have hx := B.exec
  have hb := B.bytes
  have hr := B.returns
  have hts := atoms_spec (ws := wsX1_make) B.pre
  have hown : s.vm.findClass RX1 = some mY.cls := findClass_of_methodNamed B.named
  have hlocks := B.notSynchronized
  subst hsz
  have hD := hD0.self (sz := s.heap.size)
  generalize hAe : va_A [(xo, .inr (6, [.ref al, x1, x2, x3, x4, x5, .ref b1, x7])), (al, .inr (4, [.int mc, .ref (zk 0), .int 0]))] s.heap.size = A at hD hZ ⊢
  have hA : ∀ q : Nat, s.heap.size ≤ q → A q := fun q h => by rw [← hAe]; exact Or.inr h
  have hS : va_S A s.heap s.heap [] := va_S.rf
  have hz : s.heap.size + 0 ≤ s.heap.size := Nat.le_refl _
  have hl := lv_entry ([.ref xo, .int kd, .int 3]) (n := 3) (Nat.le_of_ble_eq_true rfl)
  rw [lg_entry_eq]
  generalize (lg_sl ([.ref xo, .int kd, .int 3]) ++ List.replicate (3 - (lg_sl ([.ref xo, .int kd, .int 3])).length) Slot.unset).toArray = ls at hl ⊢
  have hl : lv_has ls 3 [(0, .ref xo), (1, .int kd), (2, .int 3)] := hl
  have hP : va_P (dC, dI) vwCl [(xo, .inr (6, [.ref al, x1, x2, x3, x4, x5, .ref b1, x7])), (al, .inr (4, [.int mc, .ref (zk 0), .int 0]))] s.heap := hP
  have hD : va_D A [(xo, .inr (6, [.ref al, x1, x2, x3, x4, x5, .ref b1, x7])), (al, .inr (4, [.int mc, .ref (zk 0), .int 0]))] := hD
  refine lv_iload_n hx hb dX1_make_0 rfl (lv_at hl 1 rfl) ?_
  refine lv_if_lt (tgt := 9) hx hb dX1_make_1 (by decide) (fun c9 => ?_) (fun c9 => ?_)
  · exact absurd c9 (hk0)
  refine lv_iload_n hx hb dX1_make_4 rfl (lv_at hl 1 rfl) ?_
  refine lv_iconst (v := 4) hx hb dX1_make_5 (by decide) ?_
  refine lv_icmp_le (tgt := 19) hx hb dX1_make_6 (by decide) (fun c9 => ?_) (fun c9 => ?_)
  rotate_left
  · exact absurd (hk4) c9
  refine lv_iload_n hx hb dX1_make_19 rfl (lv_at hl 2 rfl) ?_
  have hPc := hP.sub (ws' := []) [] rfl
  have hDc := hD.sub (ws' := []) [] (by decide) rfl
  have hFc := va_free (wc := []) hD hS hA [] rfl
  have hDv := hDc.self (sz := s.heap.size)
  have hpre := zpre (xs' := []) (av := [.int 3]) hPc hK (hDc.weaken (fun _ _ _ h => h)) hZ hS hFc (fun r hr => by cases hr)
  refine va_callv (va_runS (As := [.int 3]) (rest := []) ⟨hx, hb, hml, hown, hts⟩ (k_rqL3 l dC dI cI cB cR cO zk  s.heap.size ) (va_cwS 1 hts gX1_make_X1_requireLength rfl rfl rfl (by decide +kernel) ⟨Nat.le_of_ble_eq_true rfl, Nat.le_of_ble_eq_true rfl⟩) ⟨zblind, hpre⟩ rfl rfl hl.1 rfl (lv_room (Nat.le_of_ble_eq_true rfl)) dX1_make_20 ⟨Nat.le_of_ble_eq_true rfl, Nat.le_of_ble_eq_true rfl⟩) hS (fun q _ h => hFc q h) hFc (fun u t H1 locs ht hvm hw hB hz1 hk1 hS => ?_)
  obtain ⟨hP1, hK1, hD1, hz2⟩ := hB
  rw [ht] at hP1 hz2
  have hPD9 := va_join (wr := [(xo, .inr (6, [.ref al, x1, x2, x3, x4, x5, .ref b1, x7])), (al, .inr (4, [.int mc, .ref (zk 0), .int 0]))]) (w1 := []) hP hD [] [0, 1] rfl rfl (by decide) (by decide) hk1 hFc hP1 hD1
  clear hPc hDc hFc hDv hpre hP hD hP1 hK1 hD1
  obtain ⟨hP, hD⟩ := hPD9
  replace hz : s.heap.size + 0 ≤ H1.size := by omega
  clear hz2
  replace hP : va_P (dC, dI) vwCl [(xo, .inr (6, [.ref al, x1, x2, x3, x4, x5, .ref b1, x7])), (al, .inr (4, [.int mc, .ref (zk 0), .int 0]))] H1 := hP
  replace hD : va_D A [(xo, .inr (6, [.ref al, x1, x2, x3, x4, x5, .ref b1, x7])), (al, .inr (4, [.int mc, .ref (zk 0), .int 0]))] := hD
  refine W.widen (k := 0) (n := 0) (by omega) (by omega) ?_
  refine lv_aload_n hx hb dX1_make_23 rfl (lv_at hl 0 rfl) ?_
  refine lv_iconst (v := 1) hx hb dX1_make_24 (by decide) ?_
  have hPc := hP.sub (ws' := [(xo, .inr (6, [.ref al, x1, x2, x3, x4, x5, .ref b1, x7])), (al, .inr (4, [.int mc, .ref (zk 0), .int 0]))]) [0, 1] rfl
  have hDc := hD.sub (ws' := [(xo, .inr (6, [.ref al, x1, x2, x3, x4, x5, .ref b1, x7])), (al, .inr (4, [.int mc, .ref (zk 0), .int 0]))]) [0, 1] (by decide) rfl
  have hFc := va_free (wc := [(xo, .inr (6, [.ref al, x1, x2, x3, x4, x5, .ref b1, x7])), (al, .inr (4, [.int mc, .ref (zk 0), .int 0]))]) hD hS hA [0, 1] rfl
  have hDv := hDc.self (sz := H1.size)
  have hpre := zpre (xs' := []) (av := [.ref xo, .int 1]) hPc hK (hDc.weaken (fun _ _ _ h => h)) hZ hS hFc (fun r hr => by cases hr)
  refine va_callv (va_runV (As := [.int 1]) (rest := []) ⟨hx, hb, hml, hown, hts⟩ (k_rqR0 l dC dI cI cB cR cO zk xo al b1 x1 x2 x3 x4 x5 x7 (zk 0) mc H1.size ) (cwV 1 hts gX1_make_X1_requireRoom rfl rfl rfl (by decide +kernel) ⟨Nat.le_of_ble_eq_true rfl, Nat.le_of_ble_eq_true rfl⟩) ⟨zblind, (zrecv_6 hK hPc (q0 := 0) rfl), hpre⟩ rfl rfl hl.1 rfl (lv_room (Nat.le_of_ble_eq_true rfl)) dX1_make_25 ⟨Nat.le_of_ble_eq_true rfl, Nat.le_of_ble_eq_true rfl⟩) hS (fun q _ h => hFc q h) hFc (fun u t H3 locs ht hvm hw hB hz1 hk1 hS => ?_)
  obtain ⟨hP1, hK1, hD1, hz2⟩ := hB
  rw [ht] at hP1 hz2
  have hPD9 := va_join (wr := []) (w1 := [(xo, .inr (6, [.ref al, x1, x2, x3, x4, x5, .ref b1, x7])), (al, .inr (4, [.int mc, .ref (zk 0), .int 0]))]) hP hD [0, 1] [] rfl rfl (by decide) (by decide) hk1 hFc hP1 hD1
  clear hPc hDc hFc hDv hpre hP hD hP1 hK1 hD1
  obtain ⟨hP, hD⟩ := hPD9
  replace hz : s.heap.size + 0 ≤ H3.size := by omega
  clear hz2
  replace hP : va_P (dC, dI) vwCl [(xo, .inr (6, [.ref al, x1, x2, x3, x4, x5, .ref b1, x7])), (al, .inr (4, [.int mc, .ref (zk 0), .int 0]))] H3 := hP
  replace hD : va_D A [(xo, .inr (6, [.ref al, x1, x2, x3, x4, x5, .ref b1, x7])), (al, .inr (4, [.int mc, .ref (zk 0), .int 0]))] := hD
  refine W.widen (k := 0) (n := 0) (by omega) (by omega) ?_
  refine lv_aload_n hx hb dX1_make_28 rfl (lv_at hl 0 rfl) ?_
  refine zw_new (ci := 5) (fs := [.int 0, .int 0, .null, .null, .null, .int 0]) (C := RX0) (T := TX0) (N := 6) hx hb hts hi_X1_make_X0 tyX0 tyX0_ok hown (hts (.classLink RX1 26 "Deeprows$Row") (List.mem_cons_of_mem _ zw_99)) (hts (.instantiable RX0 6) (List.mem_cons_of_mem _ zw_100)) (hts (.initialized RX0) (List.mem_cons_of_mem _ zw_39)) hK hP hD hS hA rfl (fun j hj => by rcases (show j = 0 ∨ j = 1 ∨ j = 2 ∨ j = 3 ∨ j = 4 ∨ j = 5 by omega) with rfl | rfl | rfl | rfl | rfl | rfl <;> rfl) (Nat.le_of_ble_eq_true rfl) (Nat.le_of_ble_eq_true rfl) dX1_make_29 hz (fun q5 H6 hP hD hS hz => ?_)
  replace hP : va_P (dC, dI) vwCl [(xo, .inr (6, [.ref al, x1, x2, x3, x4, x5, .ref b1, x7])), (al, .inr (4, [.int mc, .ref (zk 0), .int 0])), (q5, .inr (5, [.int 0, .int 0, .null, .null, .null, .int 0]))] H6 := hP
  replace hD : va_D A [(xo, .inr (6, [.ref al, x1, x2, x3, x4, x5, .ref b1, x7])), (al, .inr (4, [.int mc, .ref (zk 0), .int 0])), (q5, .inr (5, [.int 0, .int 0, .null, .null, .null, .int 0]))] := hD
  refine W.widen (k := 1) (n := 6) (by omega) (by omega) ?_
  refine lv_dup hx hb dX1_make_32 rfl ?_
  refine lv_iload_n hx hb dX1_make_33 rfl (lv_at hl 1 rfl) ?_
  refine lv_iload_n hx hb dX1_make_34 rfl (lv_at hl 2 rfl) ?_
  have hPc := hP.sub (ws' := [(q5, .inr (5, [.int 0, .int 0, .null, .null, .null, .int 0]))]) [2] rfl
  have hDc := hD.sub (ws' := [(q5, .inr (5, [.int 0, .int 0, .null, .null, .null, .int 0]))]) [2] (by decide) rfl
  have hFc := va_free (wc := [(q5, .inr (5, [.int 0, .int 0, .null, .null, .null, .int 0]))]) hD hS hA [2] rfl
  have hDv := hDc.self (sz := H6.size)
  have hpre := zpre (xs' := []) (av := [.ref q5, .int kd, .int 3]) hPc hK (hDc.weaken (fun _ _ _ h => h)) hZ hS hFc (fun r hr => by cases hr)
  refine va_callv (va_runI (As := [.int kd, .int 3]) (rest := [.ref q5, .ref xo]) ⟨hx, hb, hml, hown, hts⟩ (k_rI3s l dC dI cI cB cR cO zk q5 kd H6.size  hkd) (cwI 2 hts gX1_make_X0_init rfl rfl rfl (hts (.initialized RX0) (List.mem_cons_of_mem _ zw_39)) (hts (.methodLink RX1 28 yX0_init) (List.mem_cons_of_mem _ zw_101)) (hts (.instanceMethod yX0_init) (List.mem_cons_of_mem _ zw_102)) rfl (by decide +kernel) ⟨Nat.le_of_ble_eq_true rfl, Nat.le_of_ble_eq_true rfl⟩) ⟨zblind, hpre⟩ rfl rfl hl.1 rfl (lv_room (Nat.le_of_ble_eq_true rfl)) dX1_make_35 ⟨Nat.le_of_ble_eq_true rfl, Nat.le_of_ble_eq_true rfl⟩) hS (fun q _ h => hFc q h) hFc (fun u t H7 locs ht hvm hw hB hz1 hk1 hS => ?_)
  obtain ⟨w9, v10, h11, ⟨hP1, hK1, hD1, hz2⟩⟩ := hB
  rw [ht] at hP1 hz2
  have hPD9 := va_join (wr := [(xo, .inr (6, [.ref al, x1, x2, x3, x4, x5, .ref b1, x7])), (al, .inr (4, [.int mc, .ref (zk 0), .int 0]))]) (w1 := [(q5, .inr (5, [.int kd, .int 3, .ref w9, .ref v10, .ref h11, .int 0]))]) hP hD [2] [0, 1] rfl rfl (by decide) (by decide) hk1 hFc hP1 hD1
  clear hPc hDc hFc hDv hpre hP hD hP1 hK1 hD1
  obtain ⟨hP, hD⟩ := hPD9
  replace hz : s.heap.size + 4 ≤ H7.size := by omega
  clear hz2
  replace hP : va_P (dC, dI) vwCl [(xo, .inr (6, [.ref al, x1, x2, x3, x4, x5, .ref b1, x7])), (al, .inr (4, [.int mc, .ref (zk 0), .int 0])), (q5, .inr (5, [.int kd, .int 3, .ref w9, .ref v10, .ref h11, .int 0]))] H7 := hP
  replace hD : va_D A [(xo, .inr (6, [.ref al, x1, x2, x3, x4, x5, .ref b1, x7])), (al, .inr (4, [.int mc, .ref (zk 0), .int 0])), (q5, .inr (5, [.int kd, .int 3, .ref w9, .ref v10, .ref h11, .int 0]))] := hD
  refine W.widen (k := 4) (n := 15) (by omega) (by omega) ?_
  have hPc := hP.sub (ws' := [(xo, .inr (6, [.ref al, x1, x2, x3, x4, x5, .ref b1, x7])), (al, .inr (4, [.int mc, .ref (zk 0), .int 0])), (q5, .inr (5, [.int kd, .int 3, .ref w9, .ref v10, .ref h11, .int 0]))]) [0, 1, 2] rfl
  have hDc := hD.sub (ws' := [(xo, .inr (6, [.ref al, x1, x2, x3, x4, x5, .ref b1, x7])), (al, .inr (4, [.int mc, .ref (zk 0), .int 0])), (q5, .inr (5, [.int kd, .int 3, .ref w9, .ref v10, .ref h11, .int 0]))]) [0, 1, 2] (by decide) rfl
  have hFc := va_free (wc := [(xo, .inr (6, [.ref al, x1, x2, x3, x4, x5, .ref b1, x7])), (al, .inr (4, [.int mc, .ref (zk 0), .int 0])), (q5, .inr (5, [.int kd, .int 3, .ref w9, .ref v10, .ref h11, .int 0]))]) hD hS hA [0, 1, 2] rfl
  have hDv := hDc.self (sz := H7.size)
  have hpre := zpre (xs' := []) (av := [.ref xo, .ref q5]) hPc hK (hDc.weaken (fun _ _ _ h => h)) hZ hS hFc (fun r hr => by cases hr)
  refine va_callr (va_runV (As := [.ref q5]) (rest := []) ⟨hx, hb, hml, hown, hts⟩ (k_adRZ l dC dI cI cB cR cO zk xo al b1 x1 x2 x3 x4 x5 x7 mc q5 w9 v10 h11 kd 3 H7.size ) (cwV 1 hts gX1_make_X1_addRow rfl rfl rfl (by decide +kernel) ⟨Nat.le_of_ble_eq_true rfl, Nat.le_of_ble_eq_true rfl⟩) ⟨zblind, (zrecv_6 hK hPc (q0 := 0) rfl), hpre⟩ rfl rfl hl.1 rfl (lv_room (Nat.le_of_ble_eq_true rfl)) dX1_make_38 ⟨Nat.le_of_ble_eq_true rfl, Nat.le_of_ble_eq_true rfl⟩) hS (fun q _ h => hFc q h) hFc (fun u r13 t H12 locs ht hvm hw hB hz1 hk1 hS => ?_)
  obtain ⟨⟨hP1, hK1, hD1, hz2⟩, her13⟩ := hB
  rw [ht] at hP1 hz2
  have hPD9 := va_join (wr := []) (w1 := [(xo, .inr (6, [.ref al, x1, x2, x3, x4, x5, .ref b1, x7])), (q5, .inr (5, [.int kd, .int 3, .ref w9, .ref v10, .ref h11, .int 0]))]) hP hD [0, 1, 2] [] rfl rfl (by decide) (by decide) hk1 hFc hP1 hD1
  clear hPc hDc hFc hDv hpre hP hD hP1 hK1 hD1
  obtain ⟨hP, hD⟩ := hPD9
  replace hz : s.heap.size + 4 ≤ H12.size := by omega
  clear hz2
  replace hP : va_P (dC, dI) vwCl [(xo, .inr (6, [.ref al, x1, x2, x3, x4, x5, .ref b1, x7])), (q5, .inr (5, [.int kd, .int 3, .ref w9, .ref v10, .ref h11, .int 0]))] H12 := hP
  replace hD : va_D A [(xo, .inr (6, [.ref al, x1, x2, x3, x4, x5, .ref b1, x7])), (q5, .inr (5, [.int kd, .int 3, .ref w9, .ref v10, .ref h11, .int 0]))] := hD
  refine W.widen (k := 5) (n := 25) (by omega) (by omega) ?_
  obtain rfl := her13.symm
  refine va_getN (D := (dC, dI)) (ci := 5) (v := .int 0) (C := RX0) (T := TX0) (N := 6) hx hb hts hi_X1_make_X0 hown hK hP 1 rfl rfl 5 (by decide) (zn5 hZ) (fun _ h9 => h9) rfl dX1_make_41 ?_
  have hP9 := hP.sub (ws' := [(xo, .inr (6, [.ref al, x1, x2, x3, x4, x5, .ref b1, x7]))]) [0] rfl
  have hD9 := hD.sub (ws' := [(xo, .inr (6, [.ref al, x1, x2, x3, x4, x5, .ref b1, x7]))]) [0] (by decide) rfl
  exact W.iret (v := 0) hx hb hr (fun t ht hW => ⟨⟨_, (), rfl, rfl, ⟨by rw [ht]; exact hP9, va_K.moved hW.alike hK, hD9, by rw [ht]; exact hz⟩⟩, hS.F ht⟩) hS.2.2 dX1_make_44

set_option maxHeartbeats 4000000 in
set_option maxRecDepth 100000 in
theorem k_mkH3s (l : Launch) (dC : Nat → ClassId) (dI : Nat → Nat → Nat) (cI cB cR cO : ClassId) (zk : Nat → Nat) (ou : Nat) (on so : Value) (xo al b1 : Nat) (x1 x2 x3 x4 x5 x7 : Value) (mc : Int32) (kd : Int32) (sz : Nat) (hk0 : ¬ kd < 0) (hk4 : kd ≤ 4) (hkd : ¬ kd = 4) : Met l yL_make wsL_make ({ frames := 7, cells := 5, slots := 25, locals := 170 }) (va_Pc [.ref xo, .int kd, .int 3, .ref ou] (zPre (dC, dI) (zT cI cB cR cO) zk [] [(ou, .inr (7, [on, so])), (xo, .inr (6, [.ref al, x1, x2, x3, x4, x5, .ref b1, x7])), (al, .inr (4, [.int mc, .ref (zk 0), .int 0]))] sz)) (va_Qi (fun r (_ : Unit) => r = 0) (fun _ t => zEnd (dC, dI) (zT cI cB cR cO) (va_A [(ou, .inr (7, [on, so])), (xo, .inr (6, [.ref al, x1, x2, x3, x4, x5, .ref b1, x7])), (al, .inr (4, [.int mc, .ref (zk 0), .int 0]))] sz) [(ou, .inr (7, [.long 0, so])), (xo, .inr (6, [.ref al, x1, x2, x3, x4, x5, .ref b1, x7]))] sz 0 t) (va_A [(ou, .inr (7, [on, so])), (xo, .inr (6, [.ref al, x1, x2, x3, x4, x5, .ref b1, x7])), (al, .inr (4, [.int mc, .ref (zk 0), .int 0]))] sz)) 5 25 (va_A [(ou, .inr (7, [on, so])), (xo, .inr (6, [.ref al, x1, x2, x3, x4, x5, .ref b1, x7])), (al, .inr (4, [.int mc, .ref (zk 0), .int 0]))] sz) := by
  refine zofWH (cc := cL_make) (maxL := 5) (ret := (some .int)) (by decide) rfl ?_
  intro p e s mY args below meth c s₁ B hml hv
  obtain ⟨rfl, hsz, hP, hK, hD0, hZ⟩ := hv
  have hx := B.exec
  have hb := B.bytes
  have hr := B.returns
  have hts := atoms_spec (ws := wsL_make) B.pre
  have hown : s.vm.findClass RL = some mY.cls := findClass_of_methodNamed B.named
  have hlocks := B.notSynchronized
  subst hsz
  have hD := hD0.self (sz := s.heap.size)
  generalize hAe : va_A [(ou, .inr (7, [on, so])), (xo, .inr (6, [.ref al, x1, x2, x3, x4, x5, .ref b1, x7])), (al, .inr (4, [.int mc, .ref (zk 0), .int 0]))] s.heap.size = A at hD hZ ⊢
  have hA : ∀ q : Nat, s.heap.size ≤ q → A q := fun q h => by rw [← hAe]; exact Or.inr h
  have hS : va_S A s.heap s.heap [] := va_S.rf
  have hz : s.heap.size + 0 ≤ s.heap.size := Nat.le_refl _
  have hl := lv_entry ([.ref xo, .int kd, .int 3, .ref ou]) (n := 5) (Nat.le_of_ble_eq_true rfl)
  rw [lg_entry_eq]
  generalize (lg_sl ([.ref xo, .int kd, .int 3, .ref ou]) ++ List.replicate (5 - (lg_sl ([.ref xo, .int kd, .int 3, .ref ou])).length) Slot.unset).toArray = ls at hl ⊢
  have hl : lv_has ls 5 [(0, .ref xo), (1, .int kd), (2, .int 3), (3, .ref ou)] := hl
  have hP : va_P (dC, dI) vwCl [(ou, .inr (7, [on, so])), (xo, .inr (6, [.ref al, x1, x2, x3, x4, x5, .ref b1, x7])), (al, .inr (4, [.int mc, .ref (zk 0), .int 0]))] s.heap := hP
  have hD : va_D A [(ou, .inr (7, [on, so])), (xo, .inr (6, [.ref al, x1, x2, x3, x4, x5, .ref b1, x7])), (al, .inr (4, [.int mc, .ref (zk 0), .int 0]))] := hD
  refine lv_aload_n hx hb dL_make_0 rfl (lv_at hl 3 rfl) ?_
  refine lv_aload_n hx hb dL_make_1 rfl (lv_at hl 0 rfl) ?_
  refine lv_iload_n hx hb dL_make_2 rfl (lv_at hl 1 rfl) ?_
  refine lv_iload_n hx hb dL_make_3 rfl (lv_at hl 2 rfl) ?_
  have hPc := hP.sub (ws' := [(xo, .inr (6, [.ref al, x1, x2, x3, x4, x5, .ref b1, x7])), (al, .inr (4, [.int mc, .ref (zk 0), .int 0]))]) [1, 2] rfl
  have hDc := hD.sub (ws' := [(xo, .inr (6, [.ref al, x1, x2, x3, x4, x5, .ref b1, x7])), (al, .inr (4, [.int mc, .ref (zk 0), .int 0]))]) [1, 2] (by decide) rfl
  have hFc := va_free (wc := [(xo, .inr (6, [.ref al, x1, x2, x3, x4, x5, .ref b1, x7])), (al, .inr (4, [.int mc, .ref (zk 0), .int 0]))]) hD hS hA [1, 2] rfl
  have hDv := hDc.self (sz := s.heap.size)
  have hpre := zpre (xs' := []) (av := [.ref xo, .int kd, .int 3]) hPc hK (hDc.weaken (fun _ _ _ h => h)) hZ hS hFc (fun r hr => by cases hr)
  refine va_calli (va_runV (As := [.int kd, .int 3]) (rest := [.ref ou]) ⟨hx, hb, hml, hown, hts⟩ (k_mkX3s l dC dI cI cB cR cO zk xo al b1 x1 x2 x3 x4 x5 x7 mc kd s.heap.size hk0 hk4 hkd) (cwV 2 hts gL_make_X1_make rfl rfl rfl (by decide +kernel) ⟨Nat.le_of_ble_eq_true rfl, Nat.le_of_ble_eq_true rfl⟩) ⟨zblind, (zrecv_6 hK hPc (q0 := 0) rfl), hpre⟩ rfl rfl hl.1 rfl (lv_room (Nat.le_of_ble_eq_true rfl)) dL_make_4 ⟨Nat.le_of_ble_eq_true rfl, Nat.le_of_ble_eq_true rfl⟩) hS (fun q _ h => hFc q h) hFc (fun r2 u t H1 locs ht hvm hw hB hz1 hk1 hS => ?_)
  obtain rfl : 0 = r2 := (show r2 = 0 from hw).symm
  obtain ⟨hP1, hK1, hD1, hz2⟩ := hB
  rw [ht] at hP1 hz2
  have hPD9 := va_join (wr := [(ou, .inr (7, [on, so]))]) (w1 := [(xo, .inr (6, [.ref al, x1, x2, x3, x4, x5, .ref b1, x7]))]) hP hD [1, 2] [0] rfl rfl (by decide) (by decide) hk1 hFc hP1 hD1
  clear hPc hDc hFc hDv hpre hP hD hP1 hK1 hD1
  obtain ⟨hP, hD⟩ := hPD9
  replace hz : s.heap.size + 0 ≤ H1.size := by omega
  clear hz2
  replace hP : va_P (dC, dI) vwCl [(ou, .inr (7, [on, so])), (xo, .inr (6, [.ref al, x1, x2, x3, x4, x5, .ref b1, x7]))] H1 := hP
  replace hD : va_D A [(ou, .inr (7, [on, so])), (xo, .inr (6, [.ref al, x1, x2, x3, x4, x5, .ref b1, x7]))] := hD
  refine W.widen (k := 5) (n := 25) (by omega) (by omega) ?_
  refine lv_i2l (v := 0) hx hb dL_make_7 (by decide) ?_
  refine va_putN (D := (dC, dI)) (ci := 7) (v := .long 0) (ty := .long) (C := RX2) (T := TX2) (N := 2) hx hb hts hi_L_make_X2 tyX2 tyX2_ok nmX2 hown hK hP hD (zS0 hS) 0 rfl rfl 0 (by decide) (zn6 hZ) (fun _ h9 => h9) rfl (by decide +kernel) rfl rfl (Nat.le_of_ble_eq_true rfl) dL_make_8 (fun H3 locs hP hD hS1 => ?_)
  have hz : s.heap.size + 0 ≤ H3.size := Nat.le_trans hz hS1.1
  have hS := zSS hS hS1
  replace hP : va_P (dC, dI) vwCl [(ou, .inr (7, [.long 0, so])), (xo, .inr (6, [.ref al, x1, x2, x3, x4, x5, .ref b1, x7]))] H3 := hP
  replace hD : va_D A [(ou, .inr (7, [.long 0, so])), (xo, .inr (6, [.ref al, x1, x2, x3, x4, x5, .ref b1, x7]))] := hD
  refine lv_goto (tgt := 22) hx hb dL_make_11 (by decide) ?_
  refine lv_iconst (v := 0) hx hb dL_make_22 (by decide) ?_
  have hP9 := hP.sub (ws' := [(ou, .inr (7, [.long 0, so])), (xo, .inr (6, [.ref al, x1, x2, x3, x4, x5, .ref b1, x7]))]) [0, 1] rfl
  have hD9 := hD.sub (ws' := [(ou, .inr (7, [.long 0, so])), (xo, .inr (6, [.ref al, x1, x2, x3, x4, x5, .ref b1, x7]))]) [0, 1] (by decide) rfl
  exact W.iret (v := 0) hx hb hr (fun t ht hW => ⟨⟨_, (), rfl, rfl, ⟨by rw [ht]; exact hP9, va_K.moved hW.alike hK, hD9, by rw [ht]; exact hz⟩⟩, hS.F ht⟩) hS.2.2 dL_make_23

set_option maxHeartbeats 4000000 in
set_option maxRecDepth 100000 in
theorem k_mkX44 (l : Launch) (dC : Nat → ClassId) (dI : Nat → Nat → Nat) (cI cB cR cO : ClassId) (zk : Nat → Nat) (xo al b1 : Nat) (x1 x2 x3 x4 x5 x7 : Value) (mc : Int32) (sz : Nat)  : Met l yX1_make wsX1_make ({ frames := 6, cells := 5, slots := 28, locals := 148 }) (va_Pc [.ref xo, .int 4, .int 4] (zPre (dC, dI) (zT cI cB cR cO) zk [] [(xo, .inr (6, [.ref al, x1, x2, x3, x4, x5, .ref b1, x7])), (al, .inr (4, [.int mc, .ref (zk 0), .int 0]))] sz)) (va_Qi (fun r (_ : Unit) => r = 0) (fun _ t => zEnd (dC, dI) (zT cI cB cR cO) (va_A [(xo, .inr (6, [.ref al, x1, x2, x3, x4, x5, .ref b1, x7])), (al, .inr (4, [.int mc, .ref (zk 0), .int 0]))] sz) [(xo, .inr (6, [.ref al, x1, x2, x3, x4, x5, .ref b1, x7]))] sz 4 t) (va_A [(xo, .inr (6, [.ref al, x1, x2, x3, x4, x5, .ref b1, x7])), (al, .inr (4, [.int mc, .ref (zk 0), .int 0]))] sz)) 5 28 (va_A [(xo, .inr (6, [.ref al, x1, x2, x3, x4, x5, .ref b1, x7])), (al, .inr (4, [.int mc, .ref (zk 0), .int 0]))] sz) := by
  refine Met.ofW (cc := cX1_make) (maxL := 3) (ret := (some .int)) (by decide) rfl ?_
  intro p e s mY args below meth c s₁ B hml hv
  obtain ⟨rfl, hsz, hP, hK, hD0, hZ⟩ := hv
  have hx := B.exec
  have hb := B.bytes
  have hr := B.returns
  have hts := atoms_spec (ws := wsX1_make) B.pre
  have hown : s.vm.findClass RX1 = some mY.cls := findClass_of_methodNamed B.named
  have hlocks := B.notSynchronized
  subst hsz
  have hD := hD0.self (sz := s.heap.size)
  generalize hAe : va_A [(xo, .inr (6, [.ref al, x1, x2, x3, x4, x5, .ref b1, x7])), (al, .inr (4, [.int mc, .ref (zk 0), .int 0]))] s.heap.size = A at hD hZ ⊢
  have hA : ∀ q : Nat, s.heap.size ≤ q → A q := fun q h => by rw [← hAe]; exact Or.inr h
  have hS : va_S A s.heap s.heap [] := va_S.rf
  have hz : s.heap.size + 0 ≤ s.heap.size := Nat.le_refl _
  have hl := lv_entry ([.ref xo, .int 4, .int 4]) (n := 3) (Nat.le_of_ble_eq_true rfl)
  rw [lg_entry_eq]
  generalize (lg_sl ([.ref xo, .int 4, .int 4]) ++ List.replicate (3 - (lg_sl ([.ref xo, .int 4, .int 4])).length) Slot.unset).toArray = ls at hl ⊢
  have hl : lv_has ls 3 [(0, .ref xo), (1, .int 4), (2, .int 4)] := hl
  have hP : va_P (dC, dI) vwCl [(xo, .inr (6, [.ref al, x1, x2, x3, x4, x5, .ref b1, x7])), (al, .inr (4, [.int mc, .ref (zk 0), .int 0]))] s.heap := hP
  have hD : va_D A [(xo, .inr (6, [.ref al, x1, x2, x3, x4, x5, .ref b1, x7])), (al, .inr (4, [.int mc, .ref (zk 0), .int 0]))] := hD
  refine lv_iload_n hx hb dX1_make_0 rfl (lv_at hl 1 rfl) ?_
  refine lv_if_lt (tgt := 9) hx hb dX1_make_1 (by decide) (fun c9 => ?_) (fun c9 => ?_)
  · exact absurd c9 (by decide)
  refine lv_iload_n hx hb dX1_make_4 rfl (lv_at hl 1 rfl) ?_
  refine lv_iconst (v := 4) hx hb dX1_make_5 (by decide) ?_
  refine lv_icmp_le (tgt := 19) hx hb dX1_make_6 (by decide) (fun c9 => ?_) (fun c9 => ?_)
  rotate_left
  · exact absurd (by decide) c9
  refine lv_iload_n hx hb dX1_make_19 rfl (lv_at hl 2 rfl) ?_
  have hPc := hP.sub (ws' := []) [] rfl
  have hDc := hD.sub (ws' := []) [] (by decide) rfl
  have hFc := va_free (wc := []) hD hS hA [] rfl
  have hDv := hDc.self (sz := s.heap.size)
  have hpre := zpre (xs' := []) (av := [.int 4]) hPc hK (hDc.weaken (fun _ _ _ h => h)) hZ hS hFc (fun r hr => by cases hr)
  refine va_callv (va_runS (As := [.int 4]) (rest := []) ⟨hx, hb, hml, hown, hts⟩ (k_rqL4 l dC dI cI cB cR cO zk  s.heap.size ) (va_cwS 1 hts gX1_make_X1_requireLength rfl rfl rfl (by decide +kernel) ⟨Nat.le_of_ble_eq_true rfl, Nat.le_of_ble_eq_true rfl⟩) ⟨zblind, hpre⟩ rfl rfl hl.1 rfl (lv_room (Nat.le_of_ble_eq_true rfl)) dX1_make_20 ⟨Nat.le_of_ble_eq_true rfl, Nat.le_of_ble_eq_true rfl⟩) hS (fun q _ h => hFc q h) hFc (fun u t H1 locs ht hvm hw hB hz1 hk1 hS => ?_)
  obtain ⟨hP1, hK1, hD1, hz2⟩ := hB
  rw [ht] at hP1 hz2
  have hPD9 := va_join (wr := [(xo, .inr (6, [.ref al, x1, x2, x3, x4, x5, .ref b1, x7])), (al, .inr (4, [.int mc, .ref (zk 0), .int 0]))]) (w1 := []) hP hD [] [0, 1] rfl rfl (by decide) (by decide) hk1 hFc hP1 hD1
  clear hPc hDc hFc hDv hpre hP hD hP1 hK1 hD1
  obtain ⟨hP, hD⟩ := hPD9
  replace hz : s.heap.size + 0 ≤ H1.size := by omega
  clear hz2
  replace hP : va_P (dC, dI) vwCl [(xo, .inr (6, [.ref al, x1, x2, x3, x4, x5, .ref b1, x7])), (al, .inr (4, [.int mc, .ref (zk 0), .int 0]))] H1 := hP
  replace hD : va_D A [(xo, .inr (6, [.ref al, x1, x2, x3, x4, x5, .ref b1, x7])), (al, .inr (4, [.int mc, .ref (zk 0), .int 0]))] := hD
  refine W.widen (k := 0) (n := 0) (by omega) (by omega) ?_
  refine lv_aload_n hx hb dX1_make_23 rfl (lv_at hl 0 rfl) ?_
  refine lv_iconst (v := 1) hx hb dX1_make_24 (by decide) ?_
  have hPc := hP.sub (ws' := [(xo, .inr (6, [.ref al, x1, x2, x3, x4, x5, .ref b1, x7])), (al, .inr (4, [.int mc, .ref (zk 0), .int 0]))]) [0, 1] rfl
  have hDc := hD.sub (ws' := [(xo, .inr (6, [.ref al, x1, x2, x3, x4, x5, .ref b1, x7])), (al, .inr (4, [.int mc, .ref (zk 0), .int 0]))]) [0, 1] (by decide) rfl
  have hFc := va_free (wc := [(xo, .inr (6, [.ref al, x1, x2, x3, x4, x5, .ref b1, x7])), (al, .inr (4, [.int mc, .ref (zk 0), .int 0]))]) hD hS hA [0, 1] rfl
  have hDv := hDc.self (sz := H1.size)
  have hpre := zpre (xs' := []) (av := [.ref xo, .int 1]) hPc hK (hDc.weaken (fun _ _ _ h => h)) hZ hS hFc (fun r hr => by cases hr)
  refine va_callv (va_runV (As := [.int 1]) (rest := []) ⟨hx, hb, hml, hown, hts⟩ (k_rqR0 l dC dI cI cB cR cO zk xo al b1 x1 x2 x3 x4 x5 x7 (zk 0) mc H1.size ) (cwV 1 hts gX1_make_X1_requireRoom rfl rfl rfl (by decide +kernel) ⟨Nat.le_of_ble_eq_true rfl, Nat.le_of_ble_eq_true rfl⟩) ⟨zblind, (zrecv_6 hK hPc (q0 := 0) rfl), hpre⟩ rfl rfl hl.1 rfl (lv_room (Nat.le_of_ble_eq_true rfl)) dX1_make_25 ⟨Nat.le_of_ble_eq_true rfl, Nat.le_of_ble_eq_true rfl⟩) hS (fun q _ h => hFc q h) hFc (fun u t H3 locs ht hvm hw hB hz1 hk1 hS => ?_)
  obtain ⟨hP1, hK1, hD1, hz2⟩ := hB
  rw [ht] at hP1 hz2
  have hPD9 := va_join (wr := []) (w1 := [(xo, .inr (6, [.ref al, x1, x2, x3, x4, x5, .ref b1, x7])), (al, .inr (4, [.int mc, .ref (zk 0), .int 0]))]) hP hD [0, 1] [] rfl rfl (by decide) (by decide) hk1 hFc hP1 hD1
  clear hPc hDc hFc hDv hpre hP hD hP1 hK1 hD1
  obtain ⟨hP, hD⟩ := hPD9
  replace hz : s.heap.size + 0 ≤ H3.size := by omega
  clear hz2
  replace hP : va_P (dC, dI) vwCl [(xo, .inr (6, [.ref al, x1, x2, x3, x4, x5, .ref b1, x7])), (al, .inr (4, [.int mc, .ref (zk 0), .int 0]))] H3 := hP
  replace hD : va_D A [(xo, .inr (6, [.ref al, x1, x2, x3, x4, x5, .ref b1, x7])), (al, .inr (4, [.int mc, .ref (zk 0), .int 0]))] := hD
  refine W.widen (k := 0) (n := 0) (by omega) (by omega) ?_
  refine lv_aload_n hx hb dX1_make_28 rfl (lv_at hl 0 rfl) ?_
  refine zw_new (ci := 5) (fs := [.int 0, .int 0, .null, .null, .null, .int 0]) (C := RX0) (T := TX0) (N := 6) hx hb hts hi_X1_make_X0 tyX0 tyX0_ok hown (hts (.classLink RX1 26 "Deeprows$Row") (List.mem_cons_of_mem _ zw_99)) (hts (.instantiable RX0 6) (List.mem_cons_of_mem _ zw_100)) (hts (.initialized RX0) (List.mem_cons_of_mem _ zw_39)) hK hP hD hS hA rfl (fun j hj => by rcases (show j = 0 ∨ j = 1 ∨ j = 2 ∨ j = 3 ∨ j = 4 ∨ j = 5 by omega) with rfl | rfl | rfl | rfl | rfl | rfl <;> rfl) (Nat.le_of_ble_eq_true rfl) (Nat.le_of_ble_eq_true rfl) dX1_make_29 hz (fun q5 H6 hP hD hS hz => ?_)
  replace hP : va_P (dC, dI) vwCl [(xo, .inr (6, [.ref al, x1, x2, x3, x4, x5, .ref b1, x7])), (al, .inr (4, [.int mc, .ref (zk 0), .int 0])), (q5, .inr (5, [.int 0, .int 0, .null, .null, .null, .int 0]))] H6 := hP
  replace hD : va_D A [(xo, .inr (6, [.ref al, x1, x2, x3, x4, x5, .ref b1, x7])), (al, .inr (4, [.int mc, .ref (zk 0), .int 0])), (q5, .inr (5, [.int 0, .int 0, .null, .null, .null, .int 0]))] := hD
  refine W.widen (k := 1) (n := 6) (by omega) (by omega) ?_
  refine lv_dup hx hb dX1_make_32 rfl ?_
  refine lv_iload_n hx hb dX1_make_33 rfl (lv_at hl 1 rfl) ?_
  refine lv_iload_n hx hb dX1_make_34 rfl (lv_at hl 2 rfl) ?_
  have hPc := hP.sub (ws' := [(q5, .inr (5, [.int 0, .int 0, .null, .null, .null, .int 0]))]) [2] rfl
  have hDc := hD.sub (ws' := [(q5, .inr (5, [.int 0, .int 0, .null, .null, .null, .int 0]))]) [2] (by decide) rfl
  have hFc := va_free (wc := [(q5, .inr (5, [.int 0, .int 0, .null, .null, .null, .int 0]))]) hD hS hA [2] rfl
  have hDv := hDc.self (sz := H6.size)
  have hpre := zpre (xs' := []) (av := [.ref q5, .int 4, .int 4]) hPc hK (hDc.weaken (fun _ _ _ h => h)) hZ hS hFc (fun r hr => by cases hr)
  refine va_callv (va_runI (As := [.int 4, .int 4]) (rest := [.ref q5, .ref xo]) ⟨hx, hb, hml, hown, hts⟩ (k_rI44 l dC dI cI cB cR cO zk q5 H6.size ) (cwI 2 hts gX1_make_X0_init rfl rfl rfl (hts (.initialized RX0) (List.mem_cons_of_mem _ zw_39)) (hts (.methodLink RX1 28 yX0_init) (List.mem_cons_of_mem _ zw_101)) (hts (.instanceMethod yX0_init) (List.mem_cons_of_mem _ zw_102)) rfl (by decide +kernel) ⟨Nat.le_of_ble_eq_true rfl, Nat.le_of_ble_eq_true rfl⟩) ⟨zblind, hpre⟩ rfl rfl hl.1 rfl (lv_room (Nat.le_of_ble_eq_true rfl)) dX1_make_35 ⟨Nat.le_of_ble_eq_true rfl, Nat.le_of_ble_eq_true rfl⟩) hS (fun q _ h => hFc q h) hFc (fun u t H7 locs ht hvm hw hB hz1 hk1 hS => ?_)
  obtain ⟨w9, v10, h11, ⟨hP1, hK1, hD1, hz2⟩⟩ := hB
  rw [ht] at hP1 hz2
  have hPD9 := va_join (wr := [(xo, .inr (6, [.ref al, x1, x2, x3, x4, x5, .ref b1, x7])), (al, .inr (4, [.int mc, .ref (zk 0), .int 0]))]) (w1 := [(q5, .inr (5, [.int 4, .int 4, .ref w9, .ref v10, .ref h11, .int 0]))]) hP hD [2] [0, 1] rfl rfl (by decide) (by decide) hk1 hFc hP1 hD1
  clear hPc hDc hFc hDv hpre hP hD hP1 hK1 hD1
  obtain ⟨hP, hD⟩ := hPD9
  replace hz : s.heap.size + 4 ≤ H7.size := by omega
  clear hz2
  replace hP : va_P (dC, dI) vwCl [(xo, .inr (6, [.ref al, x1, x2, x3, x4, x5, .ref b1, x7])), (al, .inr (4, [.int mc, .ref (zk 0), .int 0])), (q5, .inr (5, [.int 4, .int 4, .ref w9, .ref v10, .ref h11, .int 0]))] H7 := hP
  replace hD : va_D A [(xo, .inr (6, [.ref al, x1, x2, x3, x4, x5, .ref b1, x7])), (al, .inr (4, [.int mc, .ref (zk 0), .int 0])), (q5, .inr (5, [.int 4, .int 4, .ref w9, .ref v10, .ref h11, .int 0]))] := hD
  refine W.widen (k := 4) (n := 18) (by omega) (by omega) ?_
  have hPc := hP.sub (ws' := [(xo, .inr (6, [.ref al, x1, x2, x3, x4, x5, .ref b1, x7])), (al, .inr (4, [.int mc, .ref (zk 0), .int 0])), (q5, .inr (5, [.int 4, .int 4, .ref w9, .ref v10, .ref h11, .int 0]))]) [0, 1, 2] rfl
  have hDc := hD.sub (ws' := [(xo, .inr (6, [.ref al, x1, x2, x3, x4, x5, .ref b1, x7])), (al, .inr (4, [.int mc, .ref (zk 0), .int 0])), (q5, .inr (5, [.int 4, .int 4, .ref w9, .ref v10, .ref h11, .int 0]))]) [0, 1, 2] (by decide) rfl
  have hFc := va_free (wc := [(xo, .inr (6, [.ref al, x1, x2, x3, x4, x5, .ref b1, x7])), (al, .inr (4, [.int mc, .ref (zk 0), .int 0])), (q5, .inr (5, [.int 4, .int 4, .ref w9, .ref v10, .ref h11, .int 0]))]) hD hS hA [0, 1, 2] rfl
  have hDv := hDc.self (sz := H7.size)
  have hpre := zpre (xs' := []) (av := [.ref xo, .ref q5]) hPc hK (hDc.weaken (fun _ _ _ h => h)) hZ hS hFc (fun r hr => by cases hr)
  refine va_callr (va_runV (As := [.ref q5]) (rest := []) ⟨hx, hb, hml, hown, hts⟩ (k_adRZ l dC dI cI cB cR cO zk xo al b1 x1 x2 x3 x4 x5 x7 mc q5 w9 v10 h11 4 4 H7.size ) (cwV 1 hts gX1_make_X1_addRow rfl rfl rfl (by decide +kernel) ⟨Nat.le_of_ble_eq_true rfl, Nat.le_of_ble_eq_true rfl⟩) ⟨zblind, (zrecv_6 hK hPc (q0 := 0) rfl), hpre⟩ rfl rfl hl.1 rfl (lv_room (Nat.le_of_ble_eq_true rfl)) dX1_make_38 ⟨Nat.le_of_ble_eq_true rfl, Nat.le_of_ble_eq_true rfl⟩) hS (fun q _ h => hFc q h) hFc (fun u r13 t H12 locs ht hvm hw hB hz1 hk1 hS => ?_)
  obtain ⟨⟨hP1, hK1, hD1, hz2⟩, her13⟩ := hB
  rw [ht] at hP1 hz2
  have hPD9 := va_join (wr := []) (w1 := [(xo, .inr (6, [.ref al, x1, x2, x3, x4, x5, .ref b1, x7])), (q5, .inr (5, [.int 4, .int 4, .ref w9, .ref v10, .ref h11, .int 0]))]) hP hD [0, 1, 2] [] rfl rfl (by decide) (by decide) hk1 hFc hP1 hD1
  clear hPc hDc hFc hDv hpre hP hD hP1 hK1 hD1
  obtain ⟨hP, hD⟩ := hPD9
  replace hz : s.heap.size + 4 ≤ H12.size := by omega
  clear hz2
  replace hP : va_P (dC, dI) vwCl [(xo, .inr (6, [.ref al, x1, x2, x3, x4, x5, .ref b1, x7])), (q5, .inr (5, [.int 4, .int 4, .ref w9, .ref v10, .ref h11, .int 0]))] H12 := hP
  replace hD : va_D A [(xo, .inr (6, [.ref al, x1, x2, x3, x4, x5, .ref b1, x7])), (q5, .inr (5, [.int 4, .int 4, .ref w9, .ref v10, .ref h11, .int 0]))] := hD
  refine W.widen (k := 5) (n := 28) (by omega) (by omega) ?_
  obtain rfl := her13.symm
  refine va_getN (D := (dC, dI)) (ci := 5) (v := .int 0) (C := RX0) (T := TX0) (N := 6) hx hb hts hi_X1_make_X0 hown hK hP 1 rfl rfl 5 (by decide) (zn5 hZ) (fun _ h9 => h9) rfl dX1_make_41 ?_
  have hP9 := hP.sub (ws' := [(xo, .inr (6, [.ref al, x1, x2, x3, x4, x5, .ref b1, x7]))]) [0] rfl
  have hD9 := hD.sub (ws' := [(xo, .inr (6, [.ref al, x1, x2, x3, x4, x5, .ref b1, x7]))]) [0] (by decide) rfl
  exact W.iret (v := 0) hx hb hr (fun t ht hW => ⟨⟨_, (), rfl, rfl, ⟨by rw [ht]; exact hP9, va_K.moved hW.alike hK, hD9, by rw [ht]; exact hz⟩⟩, hS.F ht⟩) hS.2.2 dX1_make_44

set_option maxHeartbeats 4000000 in
set_option maxRecDepth 100000 in
theorem k_mkH44 (l : Launch) (dC : Nat → ClassId) (dI : Nat → Nat → Nat) (cI cB cR cO : ClassId) (zk : Nat → Nat) (ou : Nat) (on so : Value) (xo al b1 : Nat) (x1 x2 x3 x4 x5 x7 : Value) (mc : Int32) (sz : Nat)  : Met l yL_make wsL_make ({ frames := 7, cells := 5, slots := 28, locals := 170 }) (va_Pc [.ref xo, .int 4, .int 4, .ref ou] (zPre (dC, dI) (zT cI cB cR cO) zk [] [(ou, .inr (7, [on, so])), (xo, .inr (6, [.ref al, x1, x2, x3, x4, x5, .ref b1, x7])), (al, .inr (4, [.int mc, .ref (zk 0), .int 0]))] sz)) (va_Qi (fun r (_ : Unit) => r = 0) (fun _ t => zEnd (dC, dI) (zT cI cB cR cO) (va_A [(ou, .inr (7, [on, so])), (xo, .inr (6, [.ref al, x1, x2, x3, x4, x5, .ref b1, x7])), (al, .inr (4, [.int mc, .ref (zk 0), .int 0]))] sz) [(ou, .inr (7, [.long 0, so])), (xo, .inr (6, [.ref al, x1, x2, x3, x4, x5, .ref b1, x7]))] sz 0 t) (va_A [(ou, .inr (7, [on, so])), (xo, .inr (6, [.ref al, x1, x2, x3, x4, x5, .ref b1, x7])), (al, .inr (4, [.int mc, .ref (zk 0), .int 0]))] sz)) 5 28 (va_A [(ou, .inr (7, [on, so])), (xo, .inr (6, [.ref al, x1, x2, x3, x4, x5, .ref b1, x7])), (al, .inr (4, [.int mc, .ref (zk 0), .int 0]))] sz) := by
  refine zofWH (cc := cL_make) (maxL := 5) (ret := (some .int)) (by decide) rfl ?_
  intro p e s mY args below meth c s₁ B hml hv
  obtain ⟨rfl, hsz, hP, hK, hD0, hZ⟩ := hv
  have hx := B.exec
  have hb := B.bytes
  have hr := B.returns
  have hts := atoms_spec (ws := wsL_make) B.pre
  have hown : s.vm.findClass RL = some mY.cls := findClass_of_methodNamed B.named
  have hlocks := B.notSynchronized
  subst hsz
  have hD := hD0.self (sz := s.heap.size)
  generalize hAe : va_A [(ou, .inr (7, [on, so])), (xo, .inr (6, [.ref al, x1, x2, x3, x4, x5, .ref b1, x7])), (al, .inr (4, [.int mc, .ref (zk 0), .int 0]))] s.heap.size = A at hD hZ ⊢
  have hA : ∀ q : Nat, s.heap.size ≤ q → A q := fun q h => by rw [← hAe]; exact Or.inr h
  have hS : va_S A s.heap s.heap [] := va_S.rf
  have hz : s.heap.size + 0 ≤ s.heap.size := Nat.le_refl _
  have hl := lv_entry ([.ref xo, .int 4, .int 4, .ref ou]) (n := 5) (Nat.le_of_ble_eq_true rfl)
  rw [lg_entry_eq]
  generalize (lg_sl ([.ref xo, .int 4, .int 4, .ref ou]) ++ List.replicate (5 - (lg_sl ([.ref xo, .int 4, .int 4, .ref ou])).length) Slot.unset).toArray = ls at hl ⊢
  have hl : lv_has ls 5 [(0, .ref xo), (1, .int 4), (2, .int 4), (3, .ref ou)] := hl
  have hP : va_P (dC, dI) vwCl [(ou, .inr (7, [on, so])), (xo, .inr (6, [.ref al, x1, x2, x3, x4, x5, .ref b1, x7])), (al, .inr (4, [.int mc, .ref (zk 0), .int 0]))] s.heap := hP
  have hD : va_D A [(ou, .inr (7, [on, so])), (xo, .inr (6, [.ref al, x1, x2, x3, x4, x5, .ref b1, x7])), (al, .inr (4, [.int mc, .ref (zk 0), .int 0]))] := hD
  refine lv_aload_n hx hb dL_make_0 rfl (lv_at hl 3 rfl) ?_
  refine lv_aload_n hx hb dL_make_1 rfl (lv_at hl 0 rfl) ?_
  refine lv_iload_n hx hb dL_make_2 rfl (lv_at hl 1 rfl) ?_
  refine lv_iload_n hx hb dL_make_3 rfl (lv_at hl 2 rfl) ?_
  have hPc := hP.sub (ws' := [(xo, .inr (6, [.ref al, x1, x2, x3, x4, x5, .ref b1, x7])), (al, .inr (4, [.int mc, .ref (zk 0), .int 0]))]) [1, 2] rfl
  have hDc := hD.sub (ws' := [(xo, .inr (6, [.ref al, x1, x2, x3, x4, x5, .ref b1, x7])), (al, .inr (4, [.int mc, .ref (zk 0), .int 0]))]) [1, 2] (by decide) rfl
  have hFc := va_free (wc := [(xo, .inr (6, [.ref al, x1, x2, x3, x4, x5, .ref b1, x7])), (al, .inr (4, [.int mc, .ref (zk 0), .int 0]))]) hD hS hA [1, 2] rfl
  have hDv := hDc.self (sz := s.heap.size)
  have hpre := zpre (xs' := []) (av := [.ref xo, .int 4, .int 4]) hPc hK (hDc.weaken (fun _ _ _ h => h)) hZ hS hFc (fun r hr => by cases hr)
  refine va_calli (va_runV (As := [.int 4, .int 4]) (rest := [.ref ou]) ⟨hx, hb, hml, hown, hts⟩ (k_mkX44 l dC dI cI cB cR cO zk xo al b1 x1 x2 x3 x4 x5 x7 mc s.heap.size ) (cwV 2 hts gL_make_X1_make rfl rfl rfl (by decide +kernel) ⟨Nat.le_of_ble_eq_true rfl, Nat.le_of_ble_eq_true rfl⟩) ⟨zblind, (zrecv_6 hK hPc (q0 := 0) rfl), hpre⟩ rfl rfl hl.1 rfl (lv_room (Nat.le_of_ble_eq_true rfl)) dL_make_4 ⟨Nat.le_of_ble_eq_true rfl, Nat.le_of_ble_eq_true rfl⟩) hS (fun q _ h => hFc q h) hFc (fun r2 u t H1 locs ht hvm hw hB hz1 hk1 hS => ?_)
  obtain rfl : 0 = r2 := (show r2 = 0 from hw).symm
  obtain ⟨hP1, hK1, hD1, hz2⟩ := hB
  rw [ht] at hP1 hz2
  have hPD9 := va_join (wr := [(ou, .inr (7, [on, so]))]) (w1 := [(xo, .inr (6, [.ref al, x1, x2, x3, x4, x5, .ref b1, x7]))]) hP hD [1, 2] [0] rfl rfl (by decide) (by decide) hk1 hFc hP1 hD1
  clear hPc hDc hFc hDv hpre hP hD hP1 hK1 hD1
  obtain ⟨hP, hD⟩ := hPD9
  replace hz : s.heap.size + 0 ≤ H1.size := by omega
  clear hz2
  replace hP : va_P (dC, dI) vwCl [(ou, .inr (7, [on, so])), (xo, .inr (6, [.ref al, x1, x2, x3, x4, x5, .ref b1, x7]))] H1 := hP
  replace hD : va_D A [(ou, .inr (7, [on, so])), (xo, .inr (6, [.ref al, x1, x2, x3, x4, x5, .ref b1, x7]))] := hD
  refine W.widen (k := 5) (n := 28) (by omega) (by omega) ?_
  refine lv_i2l (v := 0) hx hb dL_make_7 (by decide) ?_
  refine va_putN (D := (dC, dI)) (ci := 7) (v := .long 0) (ty := .long) (C := RX2) (T := TX2) (N := 2) hx hb hts hi_L_make_X2 tyX2 tyX2_ok nmX2 hown hK hP hD (zS0 hS) 0 rfl rfl 0 (by decide) (zn6 hZ) (fun _ h9 => h9) rfl (by decide +kernel) rfl rfl (Nat.le_of_ble_eq_true rfl) dL_make_8 (fun H3 locs hP hD hS1 => ?_)
  have hz : s.heap.size + 0 ≤ H3.size := Nat.le_trans hz hS1.1
  have hS := zSS hS hS1
  replace hP : va_P (dC, dI) vwCl [(ou, .inr (7, [.long 0, so])), (xo, .inr (6, [.ref al, x1, x2, x3, x4, x5, .ref b1, x7]))] H3 := hP
  replace hD : va_D A [(ou, .inr (7, [.long 0, so])), (xo, .inr (6, [.ref al, x1, x2, x3, x4, x5, .ref b1, x7]))] := hD
  refine lv_goto (tgt := 22) hx hb dL_make_11 (by decide) ?_
  refine lv_iconst (v := 0) hx hb dL_make_22 (by decide) ?_
  have hP9 := hP.sub (ws' := [(ou, .inr (7, [.long 0, so])), (xo, .inr (6, [.ref al, x1, x2, x3, x4, x5, .ref b1, x7]))]) [0, 1] rfl
  have hD9 := hD.sub (ws' := [(ou, .inr (7, [.long 0, so])), (xo, .inr (6, [.ref al, x1, x2, x3, x4, x5, .ref b1, x7]))]) [0, 1] (by decide) rfl
  exact W.iret (v := 0) hx hb hr (fun t ht hW => ⟨⟨_, (), rfl, rfl, ⟨by rw [ht]; exact hP9, va_K.moved hW.alike hK, hD9, by rw [ht]; exact hz⟩⟩, hS.F ht⟩) hS.2.2 dL_make_23

set_option maxHeartbeats 4000000 in
set_option maxRecDepth 100000 in
theorem k_mkX4s (l : Launch) (dC : Nat → ClassId) (dI : Nat → Nat → Nat) (cI cB cR cO : ClassId) (zk : Nat → Nat) (xo al b1 : Nat) (x1 x2 x3 x4 x5 x7 : Value) (mc : Int32) (kd : Int32) (sz : Nat) (hk0 : ¬ kd < 0) (hk4 : kd ≤ 4) (hkd : ¬ kd = 4) : Met l yX1_make wsX1_make ({ frames := 6, cells := 5, slots := 28, locals := 148 }) (va_Pc [.ref xo, .int kd, .int 4] (zPre (dC, dI) (zT cI cB cR cO) zk [] [(xo, .inr (6, [.ref al, x1, x2, x3, x4, x5, .ref b1, x7])), (al, .inr (4, [.int mc, .ref (zk 0), .int 0]))] sz)) (va_Qi (fun r (_ : Unit) => r = 0) (fun _ t => zEnd (dC, dI) (zT cI cB cR cO) (va_A [(xo, .inr (6, [.ref al, x1, x2, x3, x4, x5, .ref b1, x7])), (al, .inr (4, [.int mc, .ref (zk 0), .int 0]))] sz) [(xo, .inr (6, [.ref al, x1, x2, x3, x4, x5, .ref b1, x7]))] sz 4 t) (va_A [(xo, .inr (6, [.ref al, x1, x2, x3, x4, x5, .ref b1, x7])), (al, .inr (4, [.int mc, .ref (zk 0), .int 0]))] sz)) 5 28 (va_A [(xo, .inr (6, [.ref al, x1, x2, x3, x4, x5, .ref b1, x7])), (al, .inr (4, [.int mc, .ref (zk 0), .int 0]))] sz) := by
  refine Met.ofW (cc := cX1_make) (maxL := 3) (ret := (some .int)) (by decide) rfl ?_
  intro p e s mY args below meth c s₁ B hml hv
  obtain ⟨rfl, hsz, hP, hK, hD0, hZ⟩ := hv
  have hx := B.exec
  have hb := B.bytes
  have hr := B.returns
  have hts := atoms_spec (ws := wsX1_make) B.pre
  have hown : s.vm.findClass RX1 = some mY.cls := findClass_of_methodNamed B.named
  have hlocks := B.notSynchronized
  subst hsz
  have hD := hD0.self (sz := s.heap.size)
  generalize hAe : va_A [(xo, .inr (6, [.ref al, x1, x2, x3, x4, x5, .ref b1, x7])), (al, .inr (4, [.int mc, .ref (zk 0), .int 0]))] s.heap.size = A at hD hZ ⊢
  have hA : ∀ q : Nat, s.heap.size ≤ q → A q := fun q h => by rw [← hAe]; exact Or.inr h
  have hS : va_S A s.heap s.heap [] := va_S.rf
  have hz : s.heap.size + 0 ≤ s.heap.size := Nat.le_refl _
  have hl := lv_entry ([.ref xo, .int kd, .int 4]) (n := 3) (Nat.le_of_ble_eq_true rfl)
  rw [lg_entry_eq]
  generalize (lg_sl ([.ref xo, .int kd, .int 4]) ++ List.replicate (3 - (lg_sl ([.ref xo, .int kd, .int 4])).length) Slot.unset).toArray = ls at hl ⊢
  have hl : lv_has ls 3 [(0, .ref xo), (1, .int kd), (2, .int 4)] := hl
  have hP : va_P (dC, dI) vwCl [(xo, .inr (6, [.ref al, x1, x2, x3, x4, x5, .ref b1, x7])), (al, .inr (4, [.int mc, .ref (zk 0), .int 0]))] s.heap := hP
  have hD : va_D A [(xo, .inr (6, [.ref al, x1, x2, x3, x4, x5, .ref b1, x7])), (al, .inr (4, [.int mc, .ref (zk 0), .int 0]))] := hD
  refine lv_iload_n hx hb dX1_make_0 rfl (lv_at hl 1 rfl) ?_
  refine lv_if_lt (tgt := 9) hx hb dX1_make_1 (by decide) (fun c9 => ?_) (fun c9 => ?_)
  · exact absurd c9 (hk0)
  refine lv_iload_n hx hb dX1_make_4 rfl (lv_at hl 1 rfl) ?_
  refine lv_iconst (v := 4) hx hb dX1_make_5 (by decide) ?_
  refine lv_icmp_le (tgt := 19) hx hb dX1_make_6 (by decide) (fun c9 => ?_) (fun c9 => ?_)
  rotate_left
  · exact absurd (hk4) c9
  refine lv_iload_n hx hb dX1_make_19 rfl (lv_at hl 2 rfl) ?_
  have hPc := hP.sub (ws' := []) [] rfl
  have hDc := hD.sub (ws' := []) [] (by decide) rfl
  have hFc := va_free (wc := []) hD hS hA [] rfl
  have hDv := hDc.self (sz := s.heap.size)
  have hpre := zpre (xs' := []) (av := [.int 4]) hPc hK (hDc.weaken (fun _ _ _ h => h)) hZ hS hFc (fun r hr => by cases hr)
  refine va_callv (va_runS (As := [.int 4]) (rest := []) ⟨hx, hb, hml, hown, hts⟩ (k_rqL4 l dC dI cI cB cR cO zk  s.heap.size ) (va_cwS 1 hts gX1_make_X1_requireLength rfl rfl rfl (by decide +kernel) ⟨Nat.le_of_ble_eq_true rfl, Nat.le_of_ble_eq_true rfl⟩) ⟨zblind, hpre⟩ rfl rfl hl.1 rfl (lv_room (Nat.le_of_ble_eq_true rfl)) dX1_make_20 ⟨Nat.le_of_ble_eq_true rfl, Nat.le_of_ble_eq_true rfl⟩) hS (fun q _ h => hFc q h) hFc (fun u t H1 locs ht hvm hw hB hz1 hk1 hS => ?_)
  obtain ⟨hP1, hK1, hD1, hz2⟩ := hB
  rw [ht] at hP1 hz2
  have hPD9 := va_join (wr := [(xo, .inr (6, [.ref al, x1, x2, x3, x4, x5, .ref b1, x7])), (al, .inr (4, [.int mc, .ref (zk 0), .int 0]))]) (w1 := []) hP hD [] [0, 1] rfl rfl (by decide) (by decide) hk1 hFc hP1 hD1
  clear hPc hDc hFc hDv hpre hP hD hP1 hK1 hD1
  obtain ⟨hP, hD⟩ := hPD9
  replace hz : s.heap.size + 0 ≤ H1.size := by omega
  clear hz2
  replace hP : va_P (dC, dI) vwCl [(xo, .inr (6, [.ref al, x1, x2, x3, x4, x5, .ref b1, x7])), (al, .inr (4, [.int mc, .ref (zk 0), .int 0]))] H1 := hP
  replace hD : va_D A [(xo, .inr (6, [.ref al, x1, x2, x3, x4, x5, .ref b1, x7])), (al, .inr (4, [.int mc, .ref (zk 0), .int 0]))] := hD
  refine W.widen (k := 0) (n := 0) (by omega) (by omega) ?_
  refine lv_aload_n hx hb dX1_make_23 rfl (lv_at hl 0 rfl) ?_
  refine lv_iconst (v := 1) hx hb dX1_make_24 (by decide) ?_
  have hPc := hP.sub (ws' := [(xo, .inr (6, [.ref al, x1, x2, x3, x4, x5, .ref b1, x7])), (al, .inr (4, [.int mc, .ref (zk 0), .int 0]))]) [0, 1] rfl
  have hDc := hD.sub (ws' := [(xo, .inr (6, [.ref al, x1, x2, x3, x4, x5, .ref b1, x7])), (al, .inr (4, [.int mc, .ref (zk 0), .int 0]))]) [0, 1] (by decide) rfl
  have hFc := va_free (wc := [(xo, .inr (6, [.ref al, x1, x2, x3, x4, x5, .ref b1, x7])), (al, .inr (4, [.int mc, .ref (zk 0), .int 0]))]) hD hS hA [0, 1] rfl
  have hDv := hDc.self (sz := H1.size)
  have hpre := zpre (xs' := []) (av := [.ref xo, .int 1]) hPc hK (hDc.weaken (fun _ _ _ h => h)) hZ hS hFc (fun r hr => by cases hr)
  refine va_callv (va_runV (As := [.int 1]) (rest := []) ⟨hx, hb, hml, hown, hts⟩ (k_rqR0 l dC dI cI cB cR cO zk xo al b1 x1 x2 x3 x4 x5 x7 (zk 0) mc H1.size ) (cwV 1 hts gX1_make_X1_requireRoom rfl rfl rfl (by decide +kernel) ⟨Nat.le_of_ble_eq_true rfl, Nat.le_of_ble_eq_true rfl⟩) ⟨zblind, (zrecv_6 hK hPc (q0 := 0) rfl), hpre⟩ rfl rfl hl.1 rfl (lv_room (Nat.le_of_ble_eq_true rfl)) dX1_make_25 ⟨Nat.le_of_ble_eq_true rfl, Nat.le_of_ble_eq_true rfl⟩) hS (fun q _ h => hFc q h) hFc (fun u t H3 locs ht hvm hw hB hz1 hk1 hS => ?_)
  obtain ⟨hP1, hK1, hD1, hz2⟩ := hB
  rw [ht] at hP1 hz2
  have hPD9 := va_join (wr := []) (w1 := [(xo, .inr (6, [.ref al, x1, x2, x3, x4, x5, .ref b1, x7])), (al, .inr (4, [.int mc, .ref (zk 0), .int 0]))]) hP hD [0, 1] [] rfl rfl (by decide) (by decide) hk1 hFc hP1 hD1
  clear hPc hDc hFc hDv hpre hP hD hP1 hK1 hD1
  obtain ⟨hP, hD⟩ := hPD9
  replace hz : s.heap.size + 0 ≤ H3.size := by omega
  clear hz2
  replace hP : va_P (dC, dI) vwCl [(xo, .inr (6, [.ref al, x1, x2, x3, x4, x5, .ref b1, x7])), (al, .inr (4, [.int mc, .ref (zk 0), .int 0]))] H3 := hP
  replace hD : va_D A [(xo, .inr (6, [.ref al, x1, x2, x3, x4, x5, .ref b1, x7])), (al, .inr (4, [.int mc, .ref (zk 0), .int 0]))] := hD
  refine W.widen (k := 0) (n := 0) (by omega) (by omega) ?_
  refine lv_aload_n hx hb dX1_make_28 rfl (lv_at hl 0 rfl) ?_
  refine zw_new (ci := 5) (fs := [.int 0, .int 0, .null, .null, .null, .int 0]) (C := RX0) (T := TX0) (N := 6) hx hb hts hi_X1_make_X0 tyX0 tyX0_ok hown (hts (.classLink RX1 26 "Deeprows$Row") (List.mem_cons_of_mem _ zw_99)) (hts (.instantiable RX0 6) (List.mem_cons_of_mem _ zw_100)) (hts (.initialized RX0) (List.mem_cons_of_mem _ zw_39)) hK hP hD hS hA rfl (fun j hj => by rcases (show j = 0 ∨ j = 1 ∨ j = 2 ∨ j = 3 ∨ j = 4 ∨ j = 5 by omega) with rfl | rfl | rfl | rfl | rfl | rfl <;> rfl) (Nat.le_of_ble_eq_true rfl) (Nat.le_of_ble_eq_true rfl) dX1_make_29 hz (fun q5 H6 hP hD hS hz => ?_)
  replace hP : va_P (dC, dI) vwCl [(xo, .inr (6, [.ref al, x1, x2, x3, x4, x5, .ref b1, x7])), (al, .inr (4, [.int mc, .ref (zk 0), .int 0])), (q5, .inr (5, [.int 0, .int 0, .null, .null, .null, .int 0]))] H6 := hP
  replace hD : va_D A [(xo, .inr (6, [.ref al, x1, x2, x3, x4, x5, .ref b1, x7])), (al, .inr (4, [.int mc, .ref (zk 0), .int 0])), (q5, .inr (5, [.int 0, .int 0, .null, .null, .null, .int 0]))] := hD
  refine W.widen (k := 1) (n := 6) (by omega) (by omega) ?_
  refine lv_dup hx hb dX1_make_32 rfl ?_
  refine lv_iload_n hx hb dX1_make_33 rfl (lv_at hl 1 rfl) ?_
  refine lv_iload_n hx hb dX1_make_34 rfl (lv_at hl 2 rfl) ?_
  have hPc := hP.sub (ws' := [(q5, .inr (5, [.int 0, .int 0, .null, .null, .null, .int 0]))]) [2] rfl
  have hDc := hD.sub (ws' := [(q5, .inr (5, [.int 0, .int 0, .null, .null, .null, .int 0]))]) [2] (by decide) rfl
  have hFc := va_free (wc := [(q5, .inr (5, [.int 0, .int 0, .null, .null, .null, .int 0]))]) hD hS hA [2] rfl
  have hDv := hDc.self (sz := H6.size)
  have hpre := zpre (xs' := []) (av := [.ref q5, .int kd, .int 4]) hPc hK (hDc.weaken (fun _ _ _ h => h)) hZ hS hFc (fun r hr => by cases hr)
  refine va_callv (va_runI (As := [.int kd, .int 4]) (rest := [.ref q5, .ref xo]) ⟨hx, hb, hml, hown, hts⟩ (k_rI4s l dC dI cI cB cR cO zk q5 kd H6.size  hkd) (cwI 2 hts gX1_make_X0_init rfl rfl rfl (hts (.initialized RX0) (List.mem_cons_of_mem _ zw_39)) (hts (.methodLink RX1 28 yX0_init) (List.mem_cons_of_mem _ zw_101)) (hts (.instanceMethod yX0_init) (List.mem_cons_of_mem _ zw_102)) rfl (by decide +kernel) ⟨Nat.le_of_ble_eq_true rfl, Nat.le_of_ble_eq_true rfl⟩) ⟨zblind, hpre⟩ rfl rfl hl.1 rfl (lv_room (Nat.le_of_ble_eq_true rfl)) dX1_make_35 ⟨Nat.le_of_ble_eq_true rfl, Nat.le_of_ble_eq_true rfl⟩) hS (fun q _ h => hFc q h) hFc (fun u t H7 locs ht hvm hw hB hz1 hk1 hS => ?_)
  obtain ⟨w9, v10, h11, ⟨hP1, hK1, hD1, hz2⟩⟩ := hB
  rw [ht] at hP1 hz2
  have hPD9 := va_join (wr := [(xo, .inr (6, [.ref al, x1, x2, x3, x4, x5, .ref b1, x7])), (al, .inr (4, [.int mc, .ref (zk 0), .int 0]))]) (w1 := [(q5, .inr (5, [.int kd, .int 4, .ref w9, .ref v10, .ref h11, .int 0]))]) hP hD [2] [0, 1] rfl rfl (by decide) (by decide) hk1 hFc hP1 hD1
  clear hPc hDc hFc hDv hpre hP hD hP1 hK1 hD1
  obtain ⟨hP, hD⟩ := hPD9
  replace hz : s.heap.size + 4 ≤ H7.size := by omega
  clear hz2
  replace hP : va_P (dC, dI) vwCl [(xo, .inr (6, [.ref al, x1, x2, x3, x4, x5, .ref b1, x7])), (al, .inr (4, [.int mc, .ref (zk 0), .int 0])), (q5, .inr (5, [.int kd, .int 4, .ref w9, .ref v10, .ref h11, .int 0]))] H7 := hP
  replace hD : va_D A [(xo, .inr (6, [.ref al, x1, x2, x3, x4, x5, .ref b1, x7])), (al, .inr (4, [.int mc, .ref (zk 0), .int 0])), (q5, .inr (5, [.int kd, .int 4, .ref w9, .ref v10, .ref h11, .int 0]))] := hD
  refine W.widen (k := 4) (n := 18) (by omega) (by omega) ?_
  have hPc := hP.sub (ws' := [(xo, .inr (6, [.ref al, x1, x2, x3, x4, x5, .ref b1, x7])), (al, .inr (4, [.int mc, .ref (zk 0), .int 0])), (q5, .inr (5, [.int kd, .int 4, .ref w9, .ref v10, .ref h11, .int 0]))]) [0, 1, 2] rfl
  have hDc := hD.sub (ws' := [(xo, .inr (6, [.ref al, x1, x2, x3, x4, x5, .ref b1, x7])), (al, .inr (4, [.int mc, .ref (zk 0), .int 0])), (q5, .inr (5, [.int kd, .int 4, .ref w9, .ref v10, .ref h11, .int 0]))]) [0, 1, 2] (by decide) rfl
  have hFc := va_free (wc := [(xo, .inr (6, [.ref al, x1, x2, x3, x4, x5, .ref b1, x7])), (al, .inr (4, [.int mc, .ref (zk 0), .int 0])), (q5, .inr (5, [.int kd, .int 4, .ref w9, .ref v10, .ref h11, .int 0]))]) hD hS hA [0, 1, 2] rfl
  have hDv := hDc.self (sz := H7.size)
  have hpre := zpre (xs' := []) (av := [.ref xo, .ref q5]) hPc hK (hDc.weaken (fun _ _ _ h => h)) hZ hS hFc (fun r hr => by cases hr)
  refine va_callr (va_runV (As := [.ref q5]) (rest := []) ⟨hx, hb, hml, hown, hts⟩ (k_adRZ l dC dI cI cB cR cO zk xo al b1 x1 x2 x3 x4 x5 x7 mc q5 w9 v10 h11 kd 4 H7.size ) (cwV 1 hts gX1_make_X1_addRow rfl rfl rfl (by decide +kernel) ⟨Nat.le_of_ble_eq_true rfl, Nat.le_of_ble_eq_true rfl⟩) ⟨zblind, (zrecv_6 hK hPc (q0 := 0) rfl), hpre⟩ rfl rfl hl.1 rfl (lv_room (Nat.le_of_ble_eq_true rfl)) dX1_make_38 ⟨Nat.le_of_ble_eq_true rfl, Nat.le_of_ble_eq_true rfl⟩) hS (fun q _ h => hFc q h) hFc (fun u r13 t H12 locs ht hvm hw hB hz1 hk1 hS => ?_)
  obtain ⟨⟨hP1, hK1, hD1, hz2⟩, her13⟩ := hB
  rw [ht] at hP1 hz2
  have hPD9 := va_join (wr := []) (w1 := [(xo, .inr (6, [.ref al, x1, x2, x3, x4, x5, .ref b1, x7])), (q5, .inr (5, [.int kd, .int 4, .ref w9, .ref v10, .ref h11, .int 0]))]) hP hD [0, 1, 2] [] rfl rfl (by decide) (by decide) hk1 hFc hP1 hD1
  clear hPc hDc hFc hDv hpre hP hD hP1 hK1 hD1
  obtain ⟨hP, hD⟩ := hPD9
  replace hz : s.heap.size + 4 ≤ H12.size := by omega
  clear hz2
  replace hP : va_P (dC, dI) vwCl [(xo, .inr (6, [.ref al, x1, x2, x3, x4, x5, .ref b1, x7])), (q5, .inr (5, [.int kd, .int 4, .ref w9, .ref v10, .ref h11, .int 0]))] H12 := hP
  replace hD : va_D A [(xo, .inr (6, [.ref al, x1, x2, x3, x4, x5, .ref b1, x7])), (q5, .inr (5, [.int kd, .int 4, .ref w9, .ref v10, .ref h11, .int 0]))] := hD
  refine W.widen (k := 5) (n := 28) (by omega) (by omega) ?_
  obtain rfl := her13.symm
  refine va_getN (D := (dC, dI)) (ci := 5) (v := .int 0) (C := RX0) (T := TX0) (N := 6) hx hb hts hi_X1_make_X0 hown hK hP 1 rfl rfl 5 (by decide) (zn5 hZ) (fun _ h9 => h9) rfl dX1_make_41 ?_
  have hP9 := hP.sub (ws' := [(xo, .inr (6, [.ref al, x1, x2, x3, x4, x5, .ref b1, x7]))]) [0] rfl
  have hD9 := hD.sub (ws' := [(xo, .inr (6, [.ref al, x1, x2, x3, x4, x5, .ref b1, x7]))]) [0] (by decide) rfl
  exact W.iret (v := 0) hx hb hr (fun t ht hW => ⟨⟨_, (), rfl, rfl, ⟨by rw [ht]; exact hP9, va_K.moved hW.alike hK, hD9, by rw [ht]; exact hz⟩⟩, hS.F ht⟩) hS.2.2 dX1_make_44

set_option maxHeartbeats 4000000 in
set_option maxRecDepth 100000 in
theorem k_mkH4s (l : Launch) (dC : Nat → ClassId) (dI : Nat → Nat → Nat) (cI cB cR cO : ClassId) (zk : Nat → Nat) (ou : Nat) (on so : Value) (xo al b1 : Nat) (x1 x2 x3 x4 x5 x7 : Value) (mc : Int32) (kd : Int32) (sz : Nat) (hk0 : ¬ kd < 0) (hk4 : kd ≤ 4) (hkd : ¬ kd = 4) : Met l yL_make wsL_make ({ frames := 7, cells := 5, slots := 28, locals := 170 }) (va_Pc [.ref xo, .int kd, .int 4, .ref ou] (zPre (dC, dI) (zT cI cB cR cO) zk [] [(ou, .inr (7, [on, so])), (xo, .inr (6, [.ref al, x1, x2, x3, x4, x5, .ref b1, x7])), (al, .inr (4, [.int mc, .ref (zk 0), .int 0]))] sz)) (va_Qi (fun r (_ : Unit) => r = 0) (fun _ t => zEnd (dC, dI) (zT cI cB cR cO) (va_A [(ou, .inr (7, [on, so])), (xo, .inr (6, [.ref al, x1, x2, x3, x4, x5, .ref b1, x7])), (al, .inr (4, [.int mc, .ref (zk 0), .int 0]))] sz) [(ou, .inr (7, [.long 0, so])), (xo, .inr (6, [.ref al, x1, x2, x3, x4, x5, .ref b1, x7]))] sz 0 t) (va_A [(ou, .inr (7, [on, so])), (xo, .inr (6, [.ref al, x1, x2, x3, x4, x5, .ref b1, x7])), (al, .inr (4, [.int mc, .ref (zk 0), .int 0]))] sz)) 5 28 (va_A [(ou, .inr (7, [on, so])), (xo, .inr (6, [.ref al, x1, x2, x3, x4, x5, .ref b1, x7])), (al, .inr (4, [.int mc, .ref (zk 0), .int 0]))] sz) := by
  refine zofWH (cc := cL_make) (maxL := 5) (ret := (some .int)) (by decide) rfl ?_
  intro p e s mY args below meth c s₁ B hml hv
  obtain ⟨rfl, hsz, hP, hK, hD0, hZ⟩ := hv
  have hx := B.exec
  have hb := B.bytes
  have hr := B.returns
  have hts := atoms_spec (ws := wsL_make) B.pre
  have hown : s.vm.findClass RL = some mY.cls := findClass_of_methodNamed B.named
  have hlocks := B.notSynchronized
  subst hsz
  have hD := hD0.self (sz := s.heap.size)
  generalize hAe : va_A [(ou, .inr (7, [on, so])), (xo, .inr (6, [.ref al, x1, x2, x3, x4, x5, .ref b1, x7])), (al, .inr (4, [.int mc, .ref (zk 0), .int 0]))] s.heap.size = A at hD hZ ⊢
  have hA : ∀ q : Nat, s.heap.size ≤ q → A q := fun q h => by rw [← hAe]; exact Or.inr h
  have hS : va_S A s.heap s.heap [] := va_S.rf
  have hz : s.heap.size + 0 ≤ s.heap.size := Nat.le_refl _
  have hl := lv_entry ([.ref xo, .int kd, .int 4, .ref ou]) (n := 5) (Nat.le_of_ble_eq_true rfl)
  rw [lg_entry_eq]
  generalize (lg_sl ([.ref xo, .int kd, .int 4, .ref ou]) ++ List.replicate (5 - (lg_sl ([.ref xo, .int kd, .int 4, .ref ou])).length) Slot.unset).toArray = ls at hl ⊢
  have hl : lv_has ls 5 [(0, .ref xo), (1, .int kd), (2, .int 4), (3, .ref ou)] := hl
  have hP : va_P (dC, dI) vwCl [(ou, .inr (7, [on, so])), (xo, .inr (6, [.ref al, x1, x2, x3, x4, x5, .ref b1, x7])), (al, .inr (4, [.int mc, .ref (zk 0), .int 0]))] s.heap := hP
  have hD : va_D A [(ou, .inr (7, [on, so])), (xo, .inr (6, [.ref al, x1, x2, x3, x4, x5, .ref b1, x7])), (al, .inr (4, [.int mc, .ref (zk 0), .int 0]))] := hD
  refine lv_aload_n hx hb dL_make_0 rfl (lv_at hl 3 rfl) ?_
  refine lv_aload_n hx hb dL_make_1 rfl (lv_at hl 0 rfl) ?_
  refine lv_iload_n hx hb dL_make_2 rfl (lv_at hl 1 rfl) ?_
  refine lv_iload_n hx hb dL_make_3 rfl (lv_at hl 2 rfl) ?_
  have hPc := hP.sub (ws' := [(xo, .inr (6, [.ref al, x1, x2, x3, x4, x5, .ref b1, x7])), (al, .inr (4, [.int mc, .ref (zk 0), .int 0]))]) [1, 2] rfl
  have hDc := hD.sub (ws' := [(xo, .inr (6, [.ref al, x1, x2, x3, x4, x5, .ref b1, x7])), (al, .inr (4, [.int mc, .ref (zk 0), .int 0]))]) [1, 2] (by decide) rfl
  have hFc := va_free (wc := [(xo, .inr (6, [.ref al, x1, x2, x3, x4, x5, .ref b1, x7])), (al, .inr (4, [.int mc, .ref (zk 0), .int 0]))]) hD hS hA [1, 2] rfl
  have hDv := hDc.self (sz := s.heap.size)
  have hpre := zpre (xs' := []) (av := [.ref xo, .int kd, .int 4]) hPc hK (hDc.weaken (fun _ _ _ h => h)) hZ hS hFc (fun r hr => by cases hr)
  refine va_calli (va_runV (As := [.int kd, .int 4]) (rest := [.ref ou]) ⟨hx, hb, hml, hown, hts⟩ (k_mkX4s l dC dI cI cB cR cO zk xo al b1 x1 x2 x3 x4 x5 x7 mc kd s.heap.size hk0 hk4 hkd) (cwV 2 hts gL_make_X1_make rfl rfl rfl (by decide +kernel) ⟨Nat.le_of_ble_eq_true rfl, Nat.le_of_ble_eq_true rfl⟩) ⟨zblind, (zrecv_6 hK hPc (q0 := 0) rfl), hpre⟩ rfl rfl hl.1 rfl (lv_room (Nat.le_of_ble_eq_true rfl)) dL_make_4 ⟨Nat.le_of_ble_eq_true rfl, Nat.le_of_ble_eq_true rfl⟩) hS (fun q _ h => hFc q h) hFc (fun r2 u t H1 locs ht hvm hw hB hz1 hk1 hS => ?_)
  obtain rfl : 0 = r2 := (show r2 = 0 from hw).symm
  obtain ⟨hP1, hK1, hD1, hz2⟩ := hB
  rw [ht] at hP1 hz2
  have hPD9 := va_join (wr := [(ou, .inr (7, [on, so]))]) (w1 := [(xo, .inr (6, [.ref al, x1, x2, x3, x4, x5, .ref b1, x7]))]) hP hD [1, 2] [0] rfl rfl (by decide) (by decide) hk1 hFc hP1 hD1
  clear hPc hDc hFc hDv hpre hP hD hP1 hK1 hD1
  obtain ⟨hP, hD⟩ := hPD9
  replace hz : s.heap.size + 0 ≤ H1.size := by omega
  clear hz2
  replace hP : va_P (dC, dI) vwCl [(ou, .inr (7, [on, so])), (xo, .inr (6, [.ref al, x1, x2, x3, x4, x5, .ref b1, x7]))] H1 := hP
  replace hD : va_D A [(ou, .inr (7, [on, so])), (xo, .inr (6, [.ref al, x1, x2, x3, x4, x5, .ref b1, x7]))] := hD
  refine W.widen (k := 5) (n := 28) (by omega) (by omega) ?_
  refine lv_i2l (v := 0) hx hb dL_make_7 (by decide) ?_
  refine va_putN (D := (dC, dI)) (ci := 7) (v := .long 0) (ty := .long) (C := RX2) (T := TX2) (N := 2) hx hb hts hi_L_make_X2 tyX2 tyX2_ok nmX2 hown hK hP hD (zS0 hS) 0 rfl rfl 0 (by decide) (zn6 hZ) (fun _ h9 => h9) rfl (by decide +kernel) rfl rfl (Nat.le_of_ble_eq_true rfl) dL_make_8 (fun H3 locs hP hD hS1 => ?_)
  have hz : s.heap.size + 0 ≤ H3.size := Nat.le_trans hz hS1.1
  have hS := zSS hS hS1
  replace hP : va_P (dC, dI) vwCl [(ou, .inr (7, [.long 0, so])), (xo, .inr (6, [.ref al, x1, x2, x3, x4, x5, .ref b1, x7]))] H3 := hP
  replace hD : va_D A [(ou, .inr (7, [.long 0, so])), (xo, .inr (6, [.ref al, x1, x2, x3, x4, x5, .ref b1, x7]))] := hD
  refine lv_goto (tgt := 22) hx hb dL_make_11 (by decide) ?_
  refine lv_iconst (v := 0) hx hb dL_make_22 (by decide) ?_
  have hP9 := hP.sub (ws' := [(ou, .inr (7, [.long 0, so])), (xo, .inr (6, [.ref al, x1, x2, x3, x4, x5, .ref b1, x7]))]) [0, 1] rfl
  have hD9 := hD.sub (ws' := [(ou, .inr (7, [.long 0, so])), (xo, .inr (6, [.ref al, x1, x2, x3, x4, x5, .ref b1, x7]))]) [0, 1] (by decide) rfl
  exact W.iret (v := 0) hx hb hr (fun t ht hW => ⟨⟨_, (), rfl, rfl, ⟨by rw [ht]; exact hP9, va_K.moved hW.alike hK, hD9, by rw [ht]; exact hz⟩⟩, hS.F ht⟩) hS.2.2 dL_make_23

set_option maxHeartbeats 4000000 in
set_option maxRecDepth 100000 in
theorem k_rqLx (l : Launch) (dC : Nat → ClassId) (dI : Nat → Nat → Nat) (cI cB cR cO : ClassId) (zk : Nat → Nat) (hfl : l.stackTraces = false) (ln : Int32) (sz : Nat) (hp : ln < 0 ∨ ¬ ln ≤ 4) : vx_Met l yX1_requireLength wsX1_requireLength ({ frames := 6, cells := 1, slots := 6, locals := 90 }) (va_Pc [.int ln] (zPre (dC, dI) (zT cI cB cR cO) zk [] [] sz)) (va_Qv (fun (_ : Unit) => False) (fun _ _ => True) (va_A [] sz)) (vx_X (fun _ : Unit => True) (fun E9 _ t => E9 = "java/lang/IllegalArgumentException" ∧ zEnd (dC, dI) (zT cI cB cR cO) (va_A [] sz) [] sz 0 t) (va_A [] sz)) 1 6 (va_A [] sz) := by
  refine vx_ofW (cc := cX1_requireLength) (maxL := 1) (ret := none) (by decide) rfl ?_
  intro p e s mY args below meth c s₁ B hml hntab hv
  obtain ⟨rfl, hsz, hP, hK, hD0, hZ⟩ := hv
  have hx := B.exec
  have hb := B.bytes
  have hr := B.returns
  have hts := atoms_spec (ws := wsX1_requireLength) B.pre
  have hown : s.vm.findClass RX1 = some mY.cls := findClass_of_methodNamed B.named
  have hlocks := B.notSynchronized
  subst hsz
  have hD := hD0.self (sz := s.heap.size)
  generalize hAe : va_A [] s.heap.size = A at hD hZ ⊢
  have hA : ∀ q : Nat, s.heap.size ≤ q → A q := fun q h => by rw [← hAe]; exact Or.inr h
  have hS : va_S A s.heap s.heap [] := va_S.rf
  have hz : s.heap.size + 0 ≤ s.heap.size := Nat.le_refl _
  have hl := lv_entry ([.int ln]) (n := 1) (Nat.le_of_ble_eq_true rfl)
  rw [lg_entry_eq]
  generalize (lg_sl ([.int ln]) ++ List.replicate (1 - (lg_sl ([.int ln])).length) Slot.unset).toArray = ls at hl ⊢
  have hl : lv_has ls 1 [(0, .int ln)] := hl
  have hP : va_P (dC, dI) vwCl [] s.heap := hP
  have hD : va_D A [] := hD
  refine lv_iload_n hx hb dX1_requireLength_0 rfl (lv_at hl 0 rfl) ?_
  refine lv_if_lt (tgt := 9) hx hb dX1_requireLength_1 (by decide) (fun c9 => ?_) (fun c8 => ?_)
  · have hP9 := hP.sub (ws' := []) [] rfl
    have hD9 := hD.sub (ws' := []) [] (by decide) rfl
    exact vx_throwSW (text := "no such length") (names := ["java/lang/RuntimeException", "java/lang/Exception"]) hx hb hfl hown rfl (by decide) (hts (.classLink RX1 48 "java/lang/IllegalArgumentException") (List.mem_cons_of_mem _ zw_723)) (hts (.initialized "java/lang/IllegalArgumentException") (List.mem_cons_of_mem _ zw_49)) (zl2 hZ) (zat2 hts (fun w hw => List.mem_cons_of_mem _ hw) hZ) zgd2 hZ.1.2.1 hZ.1.2.2.2.2.1 hS (hl.1.trans hml.symm) dX1_requireLength_9 dX1_requireLength_12 dX1_requireLength_13 dX1_requireLength_16 dX1_requireLength_19 (fun x hx9 => (hntab x hx9).elim) (Nat.le_of_ble_eq_true rfl) (Nat.le_of_ble_eq_true rfl) (Nat.le_of_ble_eq_true rfl) (Nat.le_of_ble_eq_true rfl) hlocks (fun t hal hs9 hq9 => ⟨(), trivial, ⟨rfl, hP9.kept (fun k9 x9 h9 => hq9 x9.1 (hP9 k9 x9 h9).lt), va_K.moved hal hK, hD9, Nat.le_trans hz hs9⟩, zF hS hs9 hq9⟩) hS.2.2 (Nat.le_of_ble_eq_true rfl) (Nat.le_of_ble_eq_true rfl)
  · refine lv_iload_n hx hb dX1_requireLength_4 rfl (lv_at hl 0 rfl) ?_
    refine lv_iconst (v := 4) hx hb dX1_requireLength_5 (by decide) ?_
    refine lv_icmp_le (tgt := 20) hx hb dX1_requireLength_6 (by decide) (fun c9 => ?_) (fun c9 => ?_)
    · exact absurd c9 (hp.resolve_left c8)
    have hP9 := hP.sub (ws' := []) [] rfl
    have hD9 := hD.sub (ws' := []) [] (by decide) rfl
    exact vx_throwSW (text := "no such length") (names := ["java/lang/RuntimeException", "java/lang/Exception"]) hx hb hfl hown rfl (by decide) (hts (.classLink RX1 48 "java/lang/IllegalArgumentException") (List.mem_cons_of_mem _ zw_723)) (hts (.initialized "java/lang/IllegalArgumentException") (List.mem_cons_of_mem _ zw_49)) (zl2 hZ) (zat2 hts (fun w hw => List.mem_cons_of_mem _ hw) hZ) zgd2 hZ.1.2.1 hZ.1.2.2.2.2.1 hS (hl.1.trans hml.symm) dX1_requireLength_9 dX1_requireLength_12 dX1_requireLength_13 dX1_requireLength_16 dX1_requireLength_19 (fun x hx9 => (hntab x hx9).elim) (Nat.le_of_ble_eq_true rfl) (Nat.le_of_ble_eq_true rfl) (Nat.le_of_ble_eq_true rfl) (Nat.le_of_ble_eq_true rfl) hlocks (fun t hal hs9 hq9 => ⟨(), trivial, ⟨rfl, hP9.kept (fun k9 x9 h9 => hq9 x9.1 (hP9 k9 x9 h9).lt), va_K.moved hal hK, hD9, Nat.le_trans hz hs9⟩, zF hS hs9 hq9⟩) hS.2.2 (Nat.le_of_ble_eq_true rfl) (Nat.le_of_ble_eq_true rfl)

set_option maxHeartbeats 4000000 in
set_option maxRecDepth 100000 in
theorem k_mkKX (l : Launch) (dC : Nat → ClassId) (dI : Nat → Nat → Nat) (cI cB cR cO : ClassId) (zk : Nat → Nat) (hfl : l.stackTraces = false) (xo al b1 : Nat) (x1 x2 x3 x4 x5 x7 : Value) (mc : Int32) (kd ln : Int32) (sz : Nat) (hp : kd < 0 ∨ ¬ kd ≤ 4) : vx_Met l yX1_make wsX1_make ({ frames := 6, cells := 1, slots := 6, locals := 90 }) (va_Pc [.ref xo, .int kd, .int ln] (zPre (dC, dI) (zT cI cB cR cO) zk [] [(xo, .inr (6, [.ref al, x1, x2, x3, x4, x5, .ref b1, x7])), (al, .inr (4, [.int mc, .ref (zk 0), .int 0]))] sz)) (va_Qi (fun (_ : Int32) (_ : Unit) => False) (fun _ _ => True) (va_A [(xo, .inr (6, [.ref al, x1, x2, x3, x4, x5, .ref b1, x7])), (al, .inr (4, [.int mc, .ref (zk 0), .int 0]))] sz)) (vx_X (fun _ : Unit => True) (fun E9 _ t => E9 = "java/lang/IllegalArgumentException" ∧ zEnd (dC, dI) (zT cI cB cR cO) (va_A [(xo, .inr (6, [.ref al, x1, x2, x3, x4, x5, .ref b1, x7])), (al, .inr (4, [.int mc, .ref (zk 0), .int 0]))] sz) [(xo, .inr (6, [.ref al, x1, x2, x3, x4, x5, .ref b1, x7])), (al, .inr (4, [.int mc, .ref (zk 0), .int 0]))] sz 0 t) (va_A [(xo, .inr (6, [.ref al, x1, x2, x3, x4, x5, .ref b1, x7])), (al, .inr (4, [.int mc, .ref (zk 0), .int 0]))] sz)) 1 6 (va_A [(xo, .inr (6, [.ref al, x1, x2, x3, x4, x5, .ref b1, x7])), (al, .inr (4, [.int mc, .ref (zk 0), .int 0]))] sz) := by
  refine vx_ofW (cc := cX1_make) (maxL := 3) (ret := (some .int)) (by decide) rfl ?_
  intro p e s mY args below meth c s₁ B hml hntab hv
  obtain ⟨rfl, hsz, hP, hK, hD0, hZ⟩ := hv
  have hx := B.exec
  have hb := B.bytes
  have hr := B.returns
  have hts := atoms_spec (ws := wsX1_make) B.pre
  have hown : s.vm.findClass RX1 = some mY.cls := findClass_of_methodNamed B.named
  have hlocks := B.notSynchronized
  subst hsz
  have hD := hD0.self (sz := s.heap.size)
  generalize hAe : va_A [(xo, .inr (6, [.ref al, x1, x2, x3, x4, x5, .ref b1, x7])), (al, .inr (4, [.int mc, .ref (zk 0), .int 0]))] s.heap.size = A at hD hZ ⊢
  have hA : ∀ q : Nat, s.heap.size ≤ q → A q := fun q h => by rw [← hAe]; exact Or.inr h
  have hS : va_S A s.heap s.heap [] := va_S.rf
  have hz : s.heap.size + 0 ≤ s.heap.size := Nat.le_refl _
  have hl := lv_entry ([.ref xo, .int kd, .int ln]) (n := 3) (Nat.le_of_ble_eq_true rfl)
  rw [lg_entry_eq]
  generalize (lg_sl ([.ref xo, .int kd, .int ln]) ++ List.replicate (3 - (lg_sl ([.ref xo, .int kd, .int ln])).length) Slot.unset).toArray = ls at hl ⊢
  have hl : lv_has ls 3 [(0, .ref xo), (1, .int kd), (2, .int ln)] := hl
  have hP : va_P (dC, dI) vwCl [(xo, .inr (6, [.ref al, x1, x2, x3, x4, x5, .ref b1, x7])), (al, .inr (4, [.int mc, .ref (zk 0), .int 0]))] s.heap := hP
  have hD : va_D A [(xo, .inr (6, [.ref al, x1, x2, x3, x4, x5, .ref b1, x7])), (al, .inr (4, [.int mc, .ref (zk 0), .int 0]))] := hD
  refine lv_iload_n hx hb dX1_make_0 rfl (lv_at hl 1 rfl) ?_
  refine lv_if_lt (tgt := 9) hx hb dX1_make_1 (by decide) (fun c9 => ?_) (fun c8 => ?_)
  · have hP9 := hP.sub (ws' := [(xo, .inr (6, [.ref al, x1, x2, x3, x4, x5, .ref b1, x7])), (al, .inr (4, [.int mc, .ref (zk 0), .int 0]))]) [0, 1] rfl
    have hD9 := hD.sub (ws' := [(xo, .inr (6, [.ref al, x1, x2, x3, x4, x5, .ref b1, x7])), (al, .inr (4, [.int mc, .ref (zk 0), .int 0]))]) [0, 1] (by decide) rfl
    exact vx_throwS (text := "no such kind") (names := ["java/lang/RuntimeException", "java/lang/Exception"]) hx hb hfl hown rfl (by decide) (hts (.classLink RX1 48 "java/lang/IllegalArgumentException") (List.mem_cons_of_mem _ zw_723)) (hts (.initialized "java/lang/IllegalArgumentException") (List.mem_cons_of_mem _ zw_49)) (zl1 hZ) (zat2 hts (fun w hw => List.mem_cons_of_mem _ hw) hZ) zgd2 hZ.1.2.1 hZ.1.2.2.2.2.1 hS (hl.1.trans hml.symm) dX1_make_9 dX1_make_12 dX1_make_13 dX1_make_15 dX1_make_18 (fun x hx9 => (hntab x hx9).elim) (Nat.le_of_ble_eq_true rfl) (Nat.le_of_ble_eq_true rfl) (Nat.le_of_ble_eq_true rfl) (Nat.le_of_ble_eq_true rfl) hlocks (fun t hal hs9 hq9 => ⟨(), trivial, ⟨rfl, hP9.kept (fun k9 x9 h9 => hq9 x9.1 (hP9 k9 x9 h9).lt), va_K.moved hal hK, hD9, Nat.le_trans hz hs9⟩, zF hS hs9 hq9⟩) hS.2.2 (Nat.le_of_ble_eq_true rfl) (Nat.le_of_ble_eq_true rfl)
  · refine lv_iload_n hx hb dX1_make_4 rfl (lv_at hl 1 rfl) ?_
    refine lv_iconst (v := 4) hx hb dX1_make_5 (by decide) ?_
    refine lv_icmp_le (tgt := 19) hx hb dX1_make_6 (by decide) (fun c9 => ?_) (fun c9 => ?_)
    · exact absurd c9 (hp.resolve_left c8)
    have hP9 := hP.sub (ws' := [(xo, .inr (6, [.ref al, x1, x2, x3, x4, x5, .ref b1, x7])), (al, .inr (4, [.int mc, .ref (zk 0), .int 0]))]) [0, 1] rfl
    have hD9 := hD.sub (ws' := [(xo, .inr (6, [.ref al, x1, x2, x3, x4, x5, .ref b1, x7])), (al, .inr (4, [.int mc, .ref (zk 0), .int 0]))]) [0, 1] (by decide) rfl
    exact vx_throwS (text := "no such kind") (names := ["java/lang/RuntimeException", "java/lang/Exception"]) hx hb hfl hown rfl (by decide) (hts (.classLink RX1 48 "java/lang/IllegalArgumentException") (List.mem_cons_of_mem _ zw_723)) (hts (.initialized "java/lang/IllegalArgumentException") (List.mem_cons_of_mem _ zw_49)) (zl1 hZ) (zat2 hts (fun w hw => List.mem_cons_of_mem _ hw) hZ) zgd2 hZ.1.2.1 hZ.1.2.2.2.2.1 hS (hl.1.trans hml.symm) dX1_make_9 dX1_make_12 dX1_make_13 dX1_make_15 dX1_make_18 (fun x hx9 => (hntab x hx9).elim) (Nat.le_of_ble_eq_true rfl) (Nat.le_of_ble_eq_true rfl) (Nat.le_of_ble_eq_true rfl) (Nat.le_of_ble_eq_true rfl) hlocks (fun t hal hs9 hq9 => ⟨(), trivial, ⟨rfl, hP9.kept (fun k9 x9 h9 => hq9 x9.1 (hP9 k9 x9 h9).lt), va_K.moved hal hK, hD9, Nat.le_trans hz hs9⟩, zF hS hs9 hq9⟩) hS.2.2 (Nat.le_of_ble_eq_true rfl) (Nat.le_of_ble_eq_true rfl)

set_option maxHeartbeats 4000000 in
set_option maxRecDepth 100000 in
theorem k_mkLX (l : Launch) (dC : Nat → ClassId) (dI : Nat → Nat → Nat) (cI cB cR cO : ClassId) (zk : Nat → Nat) (hfl : l.stackTraces = false) (xo al b1 : Nat) (x1 x2 x3 x4 x5 x7 : Value) (mc : Int32) (kd ln : Int32) (sz : Nat) (hk0 : ¬ kd < 0) (hk4 : kd ≤ 4) (hp : ln < 0 ∨ ¬ ln ≤ 4) : vx_Met l yX1_make wsX1_make ({ frames := 7, cells := 1, slots := 6, locals := 110 }) (va_Pc [.ref xo, .int kd, .int ln] (zPre (dC, dI) (zT cI cB cR cO) zk [] [(xo, .inr (6, [.ref al, x1, x2, x3, x4, x5, .ref b1, x7])), (al, .inr (4, [.int mc, .ref (zk 0), .int 0]))] sz)) (va_Qi (fun (_ : Int32) (_ : Unit) => False) (fun _ _ => True) (va_A [(xo, .inr (6, [.ref al, x1, x2, x3, x4, x5, .ref b1, x7])), (al, .inr (4, [.int mc, .ref (zk 0), .int 0]))] sz)) (vx_X (fun _ : Unit => True) (fun E9 _ t => E9 = "java/lang/IllegalArgumentException" ∧ zEnd (dC, dI) (zT cI cB cR cO) (va_A [(xo, .inr (6, [.ref al, x1, x2, x3, x4, x5, .ref b1, x7])), (al, .inr (4, [.int mc, .ref (zk 0), .int 0]))] sz) [(xo, .inr (6, [.ref al, x1, x2, x3, x4, x5, .ref b1, x7])), (al, .inr (4, [.int mc, .ref (zk 0), .int 0]))] sz 0 t) (va_A [(xo, .inr (6, [.ref al, x1, x2, x3, x4, x5, .ref b1, x7])), (al, .inr (4, [.int mc, .ref (zk 0), .int 0]))] sz)) 1 6 (va_A [(xo, .inr (6, [.ref al, x1, x2, x3, x4, x5, .ref b1, x7])), (al, .inr (4, [.int mc, .ref (zk 0), .int 0]))] sz) := by
  refine vx_ofW (cc := cX1_make) (maxL := 3) (ret := (some .int)) (by decide) rfl ?_
  intro p e s mY args below meth c s₁ B hml hntab hv
  obtain ⟨rfl, hsz, hP, hK, hD0, hZ⟩ := hv
  have hx := B.exec
  have hb := B.bytes
  have hr := B.returns
  have hts := atoms_spec (ws := wsX1_make) B.pre
  have hown : s.vm.findClass RX1 = some mY.cls := findClass_of_methodNamed B.named
  have hlocks := B.notSynchronized
  subst hsz
  have hD := hD0.self (sz := s.heap.size)
  generalize hAe : va_A [(xo, .inr (6, [.ref al, x1, x2, x3, x4, x5, .ref b1, x7])), (al, .inr (4, [.int mc, .ref (zk 0), .int 0]))] s.heap.size = A at hD hZ ⊢
  have hA : ∀ q : Nat, s.heap.size ≤ q → A q := fun q h => by rw [← hAe]; exact Or.inr h
  have hS : va_S A s.heap s.heap [] := va_S.rf
  have hz : s.heap.size + 0 ≤ s.heap.size := Nat.le_refl _
  have hl := lv_entry ([.ref xo, .int kd, .int ln]) (n := 3) (Nat.le_of_ble_eq_true rfl)
  rw [lg_entry_eq]
  generalize (lg_sl ([.ref xo, .int kd, .int ln]) ++ List.replicate (3 - (lg_sl ([.ref xo, .int kd, .int ln])).length) Slot.unset).toArray = ls at hl ⊢
  have hl : lv_has ls 3 [(0, .ref xo), (1, .int kd), (2, .int ln)] := hl
  have hP : va_P (dC, dI) vwCl [(xo, .inr (6, [.ref al, x1, x2, x3, x4, x5, .ref b1, x7])), (al, .inr (4, [.int mc, .ref (zk 0), .int 0]))] s.heap := hP
  have hD : va_D A [(xo, .inr (6, [.ref al, x1, x2, x3, x4, x5, .ref b1, x7])), (al, .inr (4, [.int mc, .ref (zk 0), .int 0]))] := hD
  refine lv_iload_n hx hb dX1_make_0 rfl (lv_at hl 1 rfl) ?_
  refine lv_if_lt (tgt := 9) hx hb dX1_make_1 (by decide) (fun c9 => ?_) (fun c9 => ?_)
  · exact absurd c9 (hk0)
  refine lv_iload_n hx hb dX1_make_4 rfl (lv_at hl 1 rfl) ?_
  refine lv_iconst (v := 4) hx hb dX1_make_5 (by decide) ?_
  refine lv_icmp_le (tgt := 19) hx hb dX1_make_6 (by decide) (fun c9 => ?_) (fun c9 => ?_)
  rotate_left
  · exact absurd (hk4) c9
  refine lv_iload_n hx hb dX1_make_19 rfl (lv_at hl 2 rfl) ?_
  have hPc := hP.sub (ws' := []) [] rfl
  have hDc := hD.sub (ws' := []) [] (by decide) rfl
  have hFc := va_free (wc := []) hD hS hA [] rfl
  have hDv := hDc.self (sz := s.heap.size)
  have hpre := zpre (xs' := []) (av := [.int ln]) hPc hK (hDc.weaken (fun _ _ _ h => h)) hZ hS hFc (fun r hr => by cases hr)
  refine vx_callv (vx_runS (As := [.int ln]) (rest := []) ⟨hx, hb, hml, hown, hts⟩ (k_rqLx l dC dI cI cB cR cO zk hfl ln s.heap.size hp) (va_cwS 1 hts gX1_make_X1_requireLength rfl rfl rfl (by decide +kernel) ⟨(Nat.le_of_ble_eq_true rfl), (Nat.le_of_ble_eq_true rfl)⟩) ⟨zblind, hpre⟩ rfl rfl hl.1 rfl (lv_room (Nat.le_of_ble_eq_true rfl)) dX1_make_20 ⟨(Nat.le_of_ble_eq_true rfl), (Nat.le_of_ble_eq_true rfl)⟩) hS (fun q _ h => hFc q h) hFc (fun q _ h => hFc q h) (fun E9 ce q9 u t H1 locs ht hvm hu hB hz1 hk1 hS hcell hcv hcl => ?_) (fun _ _ _ _ _ _ hw9 _ _ _ _ => hw9.elim)
  obtain ⟨hE9, hP1, hK1, hD1, hz2⟩ := hB
  subst hE9
  rw [ht] at hP1 hz2
  have hPD9 := va_join (wr := [(xo, .inr (6, [.ref al, x1, x2, x3, x4, x5, .ref b1, x7])), (al, .inr (4, [.int mc, .ref (zk 0), .int 0]))]) (w1 := []) hP hD [] [0, 1] rfl rfl (by decide) (by decide) hk1 hFc hP1 hD1
  clear hPc hDc hFc hDv hpre hP hD hP1 hK1 hD1
  obtain ⟨hP, hD⟩ := hPD9
  replace hz : s.heap.size + 0 ≤ H1.size := by omega
  clear hz2
  replace hP : va_P (dC, dI) vwCl [(xo, .inr (6, [.ref al, x1, x2, x3, x4, x5, .ref b1, x7])), (al, .inr (4, [.int mc, .ref (zk 0), .int 0]))] H1 := hP
  replace hD : va_D A [(xo, .inr (6, [.ref al, x1, x2, x3, x4, x5, .ref b1, x7])), (al, .inr (4, [.int mc, .ref (zk 0), .int 0]))] := hD
  have hP9 := hP.sub (ws' := [(xo, .inr (6, [.ref al, x1, x2, x3, x4, x5, .ref b1, x7])), (al, .inr (4, [.int mc, .ref (zk 0), .int 0]))]) [0, 1] rfl
  have hD9 := hD.sub (ws' := [(xo, .inr (6, [.ref al, x1, x2, x3, x4, x5, .ref b1, x7])), (al, .inr (4, [.int mc, .ref (zk 0), .int 0]))]) [0, 1] (by decide) rfl
  exact vx_out (fun x hx9 => (hntab x hx9).elim) hlocks hcell hcv hcl (fun t ht hal => ⟨(), trivial, ⟨rfl, by rw [ht]; exact hP9, va_K.moved hal hK, hD9, by rw [ht]; exact hz⟩, hS.F ht⟩) hS.2.2 (Nat.le_of_ble_eq_true rfl) (Nat.le_of_ble_eq_true rfl)

set_option maxHeartbeats 4000000 in
set_option maxRecDepth 100000 in
theorem k_mkKH (l : Launch) (dC : Nat → ClassId) (dI : Nat → Nat → Nat) (cI cB cR cO : ClassId) (zk : Nat → Nat) (hfl : l.stackTraces = false) (xo al b1 : Nat) (x1 x2 x3 x4 x5 x7 : Value) (mc : Int32) (kd ln : Int32) (ou : Nat) (sz : Nat) (hp : kd < 0 ∨ ¬ kd ≤ 4) : Met l yL_make wsL_make ({ frames := 7, cells := 1, slots := 6, locals := 112 }) (va_Pc [.ref xo, .int kd, .int ln, .ref ou] (zPre (dC, dI) (zT cI cB cR cO) zk [] [(xo, .inr (6, [.ref al, x1, x2, x3, x4, x5, .ref b1, x7])), (al, .inr (4, [.int mc, .ref (zk 0), .int 0]))] sz)) (va_Qi (fun r (_ : Unit) => r = 1) (fun _ t => zEnd (dC, dI) (zT cI cB cR cO) (va_A [(xo, .inr (6, [.ref al, x1, x2, x3, x4, x5, .ref b1, x7])), (al, .inr (4, [.int mc, .ref (zk 0), .int 0]))] sz) [(xo, .inr (6, [.ref al, x1, x2, x3, x4, x5, .ref b1, x7])), (al, .inr (4, [.int mc, .ref (zk 0), .int 0]))] sz 0 t) (va_A [(xo, .inr (6, [.ref al, x1, x2, x3, x4, x5, .ref b1, x7])), (al, .inr (4, [.int mc, .ref (zk 0), .int 0]))] sz)) 1 6 (va_A [(xo, .inr (6, [.ref al, x1, x2, x3, x4, x5, .ref b1, x7])), (al, .inr (4, [.int mc, .ref (zk 0), .int 0]))] sz) := by
  refine zofWHt (cc := cL_make) (maxL := 5) (ret := (some .int)) (by decide) rfl ?_
  intro p e s mY args below meth c s₁ B hml htab hv
  obtain ⟨rfl, hsz, hP, hK, hD0, hZ⟩ := hv
  have hx := B.exec
  have hb := B.bytes
  have hr := B.returns
  have hts := atoms_spec (ws := wsL_make) B.pre
  have hown : s.vm.findClass RL = some mY.cls := findClass_of_methodNamed B.named
  have hlocks := B.notSynchronized
  subst hsz
  have hD := hD0.self (sz := s.heap.size)
  generalize hAe : va_A [(xo, .inr (6, [.ref al, x1, x2, x3, x4, x5, .ref b1, x7])), (al, .inr (4, [.int mc, .ref (zk 0), .int 0]))] s.heap.size = A at hD hZ ⊢
  have hA : ∀ q : Nat, s.heap.size ≤ q → A q := fun q h => by rw [← hAe]; exact Or.inr h
  have hS : va_S A s.heap s.heap [] := va_S.rf
  have hz : s.heap.size + 0 ≤ s.heap.size := Nat.le_refl _
  have hl := lv_entry ([.ref xo, .int kd, .int ln, .ref ou]) (n := 5) (Nat.le_of_ble_eq_true rfl)
  rw [lg_entry_eq]
  generalize (lg_sl ([.ref xo, .int kd, .int ln, .ref ou]) ++ List.replicate (5 - (lg_sl ([.ref xo, .int kd, .int ln, .ref ou])).length) Slot.unset).toArray = ls at hl ⊢
  have hl : lv_has ls 5 [(0, .ref xo), (1, .int kd), (2, .int ln), (3, .ref ou)] := hl
  have hP : va_P (dC, dI) vwCl [(xo, .inr (6, [.ref al, x1, x2, x3, x4, x5, .ref b1, x7])), (al, .inr (4, [.int mc, .ref (zk 0), .int 0]))] s.heap := hP
  have hD : va_D A [(xo, .inr (6, [.ref al, x1, x2, x3, x4, x5, .ref b1, x7])), (al, .inr (4, [.int mc, .ref (zk 0), .int 0]))] := hD
  refine lv_aload_n hx hb dL_make_0 rfl (lv_at hl 3 rfl) ?_
  refine lv_aload_n hx hb dL_make_1 rfl (lv_at hl 0 rfl) ?_
  refine lv_iload_n hx hb dL_make_2 rfl (lv_at hl 1 rfl) ?_
  refine lv_iload_n hx hb dL_make_3 rfl (lv_at hl 2 rfl) ?_
  have hPc := hP.sub (ws' := [(xo, .inr (6, [.ref al, x1, x2, x3, x4, x5, .ref b1, x7])), (al, .inr (4, [.int mc, .ref (zk 0), .int 0]))]) [0, 1] rfl
  have hDc := hD.sub (ws' := [(xo, .inr (6, [.ref al, x1, x2, x3, x4, x5, .ref b1, x7])), (al, .inr (4, [.int mc, .ref (zk 0), .int 0]))]) [0, 1] (by decide) rfl
  have hFc := va_free (wc := [(xo, .inr (6, [.ref al, x1, x2, x3, x4, x5, .ref b1, x7])), (al, .inr (4, [.int mc, .ref (zk 0), .int 0]))]) hD hS hA [0, 1] rfl
  have hDv := hDc.self (sz := s.heap.size)
  have hpre := zpre (xs' := []) (av := [.ref xo, .int kd, .int ln]) hPc hK (hDc.weaken (fun _ _ _ h => h)) hZ hS hFc (fun r hr => by cases hr)
  refine vx_calli (vx_runV (As := [.int kd, .int ln]) (rest := [.ref ou]) ⟨hx, hb, hml, hown, hts⟩ (k_mkKX l dC dI cI cB cR cO zk hfl xo al b1 x1 x2 x3 x4 x5 x7 mc kd ln s.heap.size hp) (cwV 2 hts gL_make_X1_make rfl rfl rfl (by decide +kernel) ⟨(Nat.le_of_ble_eq_true rfl), (Nat.le_of_ble_eq_true rfl)⟩) ⟨zblind, (zrecv_6 hK hPc (q0 := 0) rfl), hpre⟩ rfl rfl hl.1 rfl (lv_room (Nat.le_of_ble_eq_true rfl)) dL_make_4 ⟨(Nat.le_of_ble_eq_true rfl), (Nat.le_of_ble_eq_true rfl)⟩) hS (fun q _ h => hFc q h) hFc (fun q _ h => hFc q h) (fun E9 ce q9 u t H1 locs ht hvm hu hB hz1 hk1 hS hcell hcv hcl => ?_) (fun _ _ _ _ _ _ _ hw9 _ _ _ _ => hw9.elim)
  obtain ⟨hE9, hP1, hK1, hD1, hz2⟩ := hB
  subst hE9
  rw [ht] at hP1 hz2
  have hPD9 := va_join (wr := []) (w1 := [(xo, .inr (6, [.ref al, x1, x2, x3, x4, x5, .ref b1, x7])), (al, .inr (4, [.int mc, .ref (zk 0), .int 0]))]) hP hD [0, 1] [] rfl rfl (by decide) (by decide) hk1 hFc hP1 hD1
  clear hPc hDc hFc hDv hpre hP hD hP1 hK1 hD1
  obtain ⟨hP, hD⟩ := hPD9
  replace hz : s.heap.size + 0 ≤ H1.size := by omega
  clear hz2
  replace hP : va_P (dC, dI) vwCl [(xo, .inr (6, [.ref al, x1, x2, x3, x4, x5, .ref b1, x7])), (al, .inr (4, [.int mc, .ref (zk 0), .int 0]))] H1 := hP
  replace hD : va_D A [(xo, .inr (6, [.ref al, x1, x2, x3, x4, x5, .ref b1, x7])), (al, .inr (4, [.int mc, .ref (zk 0), .int 0]))] := hD
  refine vx_catch hown [] ⟨0, 11, 14, 19⟩ [⟨0, 11, 18, 21⟩] htab (fun z hz9 => absurd hz9 List.not_mem_nil) (by decide) (by decide) (hts (.classLink RL 19 "java/lang/IllegalArgumentException") (List.mem_cons_of_mem _ zw_780)) (zce1 hZ) hcell hcv hcl ?_
  refine W.eq (g2 := F0 mY 14 ls [.ref q9]) rfl ?_
  refine lv_astore (lv' := [(4, .ref q9), (0, .ref xo), (1, .int kd), (2, .int ln), (3, .ref ou)]) hx hb dL_make_14 hl (by decide) rfl (fun ls hl => ?_)
  refine lv_iconst (v := 1) hx hb dL_make_16 (by decide) ?_
  have hP9 := hP.sub (ws' := [(xo, .inr (6, [.ref al, x1, x2, x3, x4, x5, .ref b1, x7])), (al, .inr (4, [.int mc, .ref (zk 0), .int 0]))]) [0, 1] rfl
  have hD9 := hD.sub (ws' := [(xo, .inr (6, [.ref al, x1, x2, x3, x4, x5, .ref b1, x7])), (al, .inr (4, [.int mc, .ref (zk 0), .int 0]))]) [0, 1] (by decide) rfl
  exact W.iret (v := 1) hx hb hr (fun t ht hW => ⟨⟨_, (), rfl, rfl, ⟨by rw [ht]; exact hP9, va_K.moved hW.alike hK, hD9, by rw [ht]; exact hz⟩⟩, hS.F ht⟩) hS.2.2 dL_make_17

set_option maxHeartbeats 4000000 in
set_option maxRecDepth 100000 in
theorem k_mkLH (l : Launch) (dC : Nat → ClassId) (dI : Nat → Nat → Nat) (cI cB cR cO : ClassId) (zk : Nat → Nat) (hfl : l.stackTraces = false) (xo al b1 : Nat) (x1 x2 x3 x4 x5 x7 : Value) (mc : Int32) (kd ln : Int32) (ou : Nat) (sz : Nat) (hk0 : ¬ kd < 0) (hk4 : kd ≤ 4) (hp : ln < 0 ∨ ¬ ln ≤ 4) : Met l yL_make wsL_make ({ frames := 8, cells := 1, slots := 6, locals := 132 }) (va_Pc [.ref xo, .int kd, .int ln, .ref ou] (zPre (dC, dI) (zT cI cB cR cO) zk [] [(xo, .inr (6, [.ref al, x1, x2, x3, x4, x5, .ref b1, x7])), (al, .inr (4, [.int mc, .ref (zk 0), .int 0]))] sz)) (va_Qi (fun r (_ : Unit) => r = 1) (fun _ t => zEnd (dC, dI) (zT cI cB cR cO) (va_A [(xo, .inr (6, [.ref al, x1, x2, x3, x4, x5, .ref b1, x7])), (al, .inr (4, [.int mc, .ref (zk 0), .int 0]))] sz) [(xo, .inr (6, [.ref al, x1, x2, x3, x4, x5, .ref b1, x7])), (al, .inr (4, [.int mc, .ref (zk 0), .int 0]))] sz 0 t) (va_A [(xo, .inr (6, [.ref al, x1, x2, x3, x4, x5, .ref b1, x7])), (al, .inr (4, [.int mc, .ref (zk 0), .int 0]))] sz)) 1 6 (va_A [(xo, .inr (6, [.ref al, x1, x2, x3, x4, x5, .ref b1, x7])), (al, .inr (4, [.int mc, .ref (zk 0), .int 0]))] sz) := by
  refine zofWHt (cc := cL_make) (maxL := 5) (ret := (some .int)) (by decide) rfl ?_
  intro p e s mY args below meth c s₁ B hml htab hv
  obtain ⟨rfl, hsz, hP, hK, hD0, hZ⟩ := hv
  have hx := B.exec
  have hb := B.bytes
  have hr := B.returns
  have hts := atoms_spec (ws := wsL_make) B.pre
  have hown : s.vm.findClass RL = some mY.cls := findClass_of_methodNamed B.named
  have hlocks := B.notSynchronized
  subst hsz
  have hD := hD0.self (sz := s.heap.size)
  generalize hAe : va_A [(xo, .inr (6, [.ref al, x1, x2, x3, x4, x5, .ref b1, x7])), (al, .inr (4, [.int mc, .ref (zk 0), .int 0]))] s.heap.size = A at hD hZ ⊢
  have hA : ∀ q : Nat, s.heap.size ≤ q → A q := fun q h => by rw [← hAe]; exact Or.inr h
  have hS : va_S A s.heap s.heap [] := va_S.rf
  have hz : s.heap.size + 0 ≤ s.heap.size := Nat.le_refl _
  have hl := lv_entry ([.ref xo, .int kd, .int ln, .ref ou]) (n := 5) (Nat.le_of_ble_eq_true rfl)
  rw [lg_entry_eq]
  generalize (lg_sl ([.ref xo, .int kd, .int ln, .ref ou]) ++ List.replicate (5 - (lg_sl ([.ref xo, .int kd, .int ln, .ref ou])).length) Slot.unset).toArray = ls at hl ⊢
  have hl : lv_has ls 5 [(0, .ref xo), (1, .int kd), (2, .int ln), (3, .ref ou)] := hl
  have hP : va_P (dC, dI) vwCl [(xo, .inr (6, [.ref al, x1, x2, x3, x4, x5, .ref b1, x7])), (al, .inr (4, [.int mc, .ref (zk 0), .int 0]))] s.heap := hP
  have hD : va_D A [(xo, .inr (6, [.ref al, x1, x2, x3, x4, x5, .ref b1, x7])), (al, .inr (4, [.int mc, .ref (zk 0), .int 0]))] := hD
  refine lv_aload_n hx hb dL_make_0 rfl (lv_at hl 3 rfl) ?_
  refine lv_aload_n hx hb dL_make_1 rfl (lv_at hl 0 rfl) ?_
  refine lv_iload_n hx hb dL_make_2 rfl (lv_at hl 1 rfl) ?_
  refine lv_iload_n hx hb dL_make_3 rfl (lv_at hl 2 rfl) ?_
  have hPc := hP.sub (ws' := [(xo, .inr (6, [.ref al, x1, x2, x3, x4, x5, .ref b1, x7])), (al, .inr (4, [.int mc, .ref (zk 0), .int 0]))]) [0, 1] rfl
  have hDc := hD.sub (ws' := [(xo, .inr (6, [.ref al, x1, x2, x3, x4, x5, .ref b1, x7])), (al, .inr (4, [.int mc, .ref (zk 0), .int 0]))]) [0, 1] (by decide) rfl
  have hFc := va_free (wc := [(xo, .inr (6, [.ref al, x1, x2, x3, x4, x5, .ref b1, x7])), (al, .inr (4, [.int mc, .ref (zk 0), .int 0]))]) hD hS hA [0, 1] rfl
  have hDv := hDc.self (sz := s.heap.size)
  have hpre := zpre (xs' := []) (av := [.ref xo, .int kd, .int ln]) hPc hK (hDc.weaken (fun _ _ _ h => h)) hZ hS hFc (fun r hr => by cases hr)
  refine vx_calli (vx_runV (As := [.int kd, .int ln]) (rest := [.ref ou]) ⟨hx, hb, hml, hown, hts⟩ (k_mkLX l dC dI cI cB cR cO zk hfl xo al b1 x1 x2 x3 x4 x5 x7 mc kd ln s.heap.size hk0 hk4 hp) (cwV 2 hts gL_make_X1_make rfl rfl rfl (by decide +kernel) ⟨(Nat.le_of_ble_eq_true rfl), (Nat.le_of_ble_eq_true rfl)⟩) ⟨zblind, (zrecv_6 hK hPc (q0 := 0) rfl), hpre⟩ rfl rfl hl.1 rfl (lv_room (Nat.le_of_ble_eq_true rfl)) dL_make_4 ⟨(Nat.le_of_ble_eq_true rfl), (Nat.le_of_ble_eq_true rfl)⟩) hS (fun q _ h => hFc q h) hFc (fun q _ h => hFc q h) (fun E9 ce q9 u t H1 locs ht hvm hu hB hz1 hk1 hS hcell hcv hcl => ?_) (fun _ _ _ _ _ _ _ hw9 _ _ _ _ => hw9.elim)
  obtain ⟨hE9, hP1, hK1, hD1, hz2⟩ := hB
  subst hE9
  rw [ht] at hP1 hz2
  have hPD9 := va_join (wr := []) (w1 := [(xo, .inr (6, [.ref al, x1, x2, x3, x4, x5, .ref b1, x7])), (al, .inr (4, [.int mc, .ref (zk 0), .int 0]))]) hP hD [0, 1] [] rfl rfl (by decide) (by decide) hk1 hFc hP1 hD1
  clear hPc hDc hFc hDv hpre hP hD hP1 hK1 hD1
  obtain ⟨hP, hD⟩ := hPD9
  replace hz : s.heap.size + 0 ≤ H1.size := by omega
  clear hz2
  replace hP : va_P (dC, dI) vwCl [(xo, .inr (6, [.ref al, x1, x2, x3, x4, x5, .ref b1, x7])), (al, .inr (4, [.int mc, .ref (zk 0), .int 0]))] H1 := hP
  replace hD : va_D A [(xo, .inr (6, [.ref al, x1, x2, x3, x4, x5, .ref b1, x7])), (al, .inr (4, [.int mc, .ref (zk 0), .int 0]))] := hD
  refine vx_catch hown [] ⟨0, 11, 14, 19⟩ [⟨0, 11, 18, 21⟩] htab (fun z hz9 => absurd hz9 List.not_mem_nil) (by decide) (by decide) (hts (.classLink RL 19 "java/lang/IllegalArgumentException") (List.mem_cons_of_mem _ zw_780)) (zce1 hZ) hcell hcv hcl ?_
  refine W.eq (g2 := F0 mY 14 ls [.ref q9]) rfl ?_
  refine lv_astore (lv' := [(4, .ref q9), (0, .ref xo), (1, .int kd), (2, .int ln), (3, .ref ou)]) hx hb dL_make_14 hl (by decide) rfl (fun ls hl => ?_)
  refine lv_iconst (v := 1) hx hb dL_make_16 (by decide) ?_
  have hP9 := hP.sub (ws' := [(xo, .inr (6, [.ref al, x1, x2, x3, x4, x5, .ref b1, x7])), (al, .inr (4, [.int mc, .ref (zk 0), .int 0]))]) [0, 1] rfl
  have hD9 := hD.sub (ws' := [(xo, .inr (6, [.ref al, x1, x2, x3, x4, x5, .ref b1, x7])), (al, .inr (4, [.int mc, .ref (zk 0), .int 0]))]) [0, 1] (by decide) rfl
  exact W.iret (v := 1) hx hb hr (fun t ht hW => ⟨⟨_, (), rfl, rfl, ⟨by rw [ht]; exact hP9, va_K.moved hW.alike hK, hD9, by rw [ht]; exact hz⟩⟩, hS.F ht⟩) hS.2.2 dL_make_17

set_option maxHeartbeats 4000000 in
set_option maxRecDepth 100000 in
theorem k_isInT4 (l : Launch) (dC : Nat → ClassId) (dI : Nat → Nat → Nat) (cI cB cR cO : ClassId) (zk : Nat → Nat) (p0 : Int32) (sz : Nat) (h0 : ¬ p0 < 0) (h4 : p0 ≤ 4) : Met l yX4_isIn wsX4_isIn ({ frames := 0, cells := 0, slots := 0, locals := 0 }) (va_Pc [.int p0, .int 0, .int 4] (zPre (dC, dI) (zT cI cB cR cO) zk [] [] sz)) (va_Qi (fun r (_ : Unit) => r = 1) (fun _ t => zEnd (dC, dI) (zT cI cB cR cO) (va_A [] sz) [] sz 0 t) (va_A [] sz)) 0 0 (va_A [] sz) := by
  refine Met.ofW (cc := cX4_isIn) (maxL := 3) (ret := (some .boolean)) (by decide) rfl ?_
  intro p e s mY args below meth c s₁ B hml hv
  obtain ⟨rfl, hsz, hP, hK, hD0, hZ⟩ := hv
  have hx := B.exec
  have hb := B.bytes
  have hr := B.returns
  have hts := atoms_spec (ws := wsX4_isIn) B.pre
  have hown : s.vm.findClass RX4 = some mY.cls := findClass_of_methodNamed B.named
  have hlocks := B.notSynchronized
  subst hsz
  have hD := hD0.self (sz := s.heap.size)
  generalize hAe : va_A [] s.heap.size = A at hD hZ ⊢
  have hA : ∀ q : Nat, s.heap.size ≤ q → A q := fun q h => by rw [← hAe]; exact Or.inr h
  have hS : va_S A s.heap s.heap [] := va_S.rf
  have hz : s.heap.size + 0 ≤ s.heap.size := Nat.le_refl _
  have hl := lv_entry ([.int p0, .int 0, .int 4]) (n := 3) (Nat.le_of_ble_eq_true rfl)
  rw [lg_entry_eq]
  generalize (lg_sl ([.int p0, .int 0, .int 4]) ++ List.replicate (3 - (lg_sl ([.int p0, .int 0, .int 4])).length) Slot.unset).toArray = ls at hl ⊢
  have hl : lv_has ls 3 [(0, .int p0), (1, .int 0), (2, .int 4)] := hl
  have hP : va_P (dC, dI) vwCl [] s.heap := hP
  have hD : va_D A [] := hD
  refine lv_iload_n hx hb dX4_isIn_0 rfl (lv_at hl 0 rfl) ?_
  refine lv_iload_n hx hb dX4_isIn_1 rfl (lv_at hl 1 rfl) ?_
  refine lv_icmp_lt (tgt := 14) hx hb dX4_isIn_2 (by decide) (fun c9 => ?_) (fun c9 => ?_)
  · exact absurd c9 (h0)
  refine lv_iload_n hx hb dX4_isIn_5 rfl (lv_at hl 0 rfl) ?_
  refine lv_iload_n hx hb dX4_isIn_6 rfl (lv_at hl 2 rfl) ?_
  refine lv_icmp_gt (tgt := 14) hx hb dX4_isIn_7 (by decide) (fun c9 => ?_) (fun c9 => ?_)
  · exact absurd c9 (Int32.not_lt.mpr h4)
  refine lv_iconst (v := 1) hx hb dX4_isIn_10 (by decide) ?_
  refine lv_goto (tgt := 15) hx hb dX4_isIn_11 (by decide) ?_
  have hP9 := hP.sub (ws' := []) [] rfl
  have hD9 := hD.sub (ws' := []) [] (by decide) rfl
  exact W.zret (v := 1) hx hb hr (by decide +kernel) (fun t ht hW => ⟨⟨_, (), rfl, rfl, ⟨by rw [ht]; exact hP9, va_K.moved hW.alike hK, hD9, by rw [ht]; exact hz⟩⟩, hS.F ht⟩) hS.2.2 dX4_isIn_15

set_option maxHeartbeats 4000000 in
set_option maxRecDepth 100000 in
theorem k_isInX4 (l : Launch) (dC : Nat → ClassId) (dI : Nat → Nat → Nat) (cI cB cR cO : ClassId) (zk : Nat → Nat) (p0 : Int32) (sz : Nat) (hp : p0 < 0 ∨ ¬ p0 ≤ 4) : Met l yX4_isIn wsX4_isIn ({ frames := 0, cells := 0, slots := 0, locals := 0 }) (va_Pc [.int p0, .int 0, .int 4] (zPre (dC, dI) (zT cI cB cR cO) zk [] [] sz)) (va_Qi (fun r (_ : Unit) => r = 0) (fun _ t => zEnd (dC, dI) (zT cI cB cR cO) (va_A [] sz) [] sz 0 t) (va_A [] sz)) 0 0 (va_A [] sz) := by
  refine Met.ofW (cc := cX4_isIn) (maxL := 3) (ret := (some .boolean)) (by decide) rfl ?_
  intro p e s mY args below meth c s₁ B hml hv
  obtain ⟨rfl, hsz, hP, hK, hD0, hZ⟩ := hv
  have hx := B.exec
  have hb := B.bytes
  have hr := B.returns
  have hts := atoms_spec (ws := wsX4_isIn) B.pre
  have hown : s.vm.findClass RX4 = some mY.cls := findClass_of_methodNamed B.named
  have hlocks := B.notSynchronized
  subst hsz
  have hD := hD0.self (sz := s.heap.size)
  generalize hAe : va_A [] s.heap.size = A at hD hZ ⊢
  have hA : ∀ q : Nat, s.heap.size ≤ q → A q := fun q h => by rw [← hAe]; exact Or.inr h
  have hS : va_S A s.heap s.heap [] := va_S.rf
  have hz : s.heap.size + 0 ≤ s.heap.size := Nat.le_refl _
  have hl := lv_entry ([.int p0, .int 0, .int 4]) (n := 3) (Nat.le_of_ble_eq_true rfl)
  rw [lg_entry_eq]
  generalize (lg_sl ([.int p0, .int 0, .int 4]) ++ List.replicate (3 - (lg_sl ([.int p0, .int 0, .int 4])).length) Slot.unset).toArray = ls at hl ⊢
  have hl : lv_has ls 3 [(0, .int p0), (1, .int 0), (2, .int 4)] := hl
  have hP : va_P (dC, dI) vwCl [] s.heap := hP
  have hD : va_D A [] := hD
  refine lv_iload_n hx hb dX4_isIn_0 rfl (lv_at hl 0 rfl) ?_
  refine lv_iload_n hx hb dX4_isIn_1 rfl (lv_at hl 1 rfl) ?_
  refine lv_icmp_lt (tgt := 14) hx hb dX4_isIn_2 (by decide) (fun c9 => ?_) (fun c8 => ?_)
  · refine lv_iconst (v := 0) hx hb dX4_isIn_14 (by decide) ?_
    have hP9 := hP.sub (ws' := []) [] rfl
    have hD9 := hD.sub (ws' := []) [] (by decide) rfl
    exact W.zret (v := 0) hx hb hr (by decide +kernel) (fun t ht hW => ⟨⟨_, (), rfl, rfl, ⟨by rw [ht]; exact hP9, va_K.moved hW.alike hK, hD9, by rw [ht]; exact hz⟩⟩, hS.F ht⟩) hS.2.2 dX4_isIn_15
  · refine lv_iload_n hx hb dX4_isIn_5 rfl (lv_at hl 0 rfl) ?_
    refine lv_iload_n hx hb dX4_isIn_6 rfl (lv_at hl 2 rfl) ?_
    refine lv_icmp_gt (tgt := 14) hx hb dX4_isIn_7 (by decide) (fun c9 => ?_) (fun c9 => ?_)
    rotate_left
    · exact absurd (Int32.not_le.mp (hp.resolve_left c8)) c9
    refine lv_iconst (v := 0) hx hb dX4_isIn_14 (by decide) ?_
    have hP9 := hP.sub (ws' := []) [] rfl
    have hD9 := hD.sub (ws' := []) [] (by decide) rfl
    exact W.zret (v := 0) hx hb hr (by decide +kernel) (fun t ht hW => ⟨⟨_, (), rfl, rfl, ⟨by rw [ht]; exact hP9, va_K.moved hW.alike hK, hD9, by rw [ht]; exact hz⟩⟩, hS.F ht⟩) hS.2.2 dX4_isIn_15

set_option maxHeartbeats 4000000 in
set_option maxRecDepth 100000 in
theorem k_ref02 (l : Launch) (dC : Nat → ClassId) (dI : Nat → Nat → Nat) (cI cB cR cO : ClassId) (zk : Nat → Nat) (mo am : Nat) (sz : Nat)  : Met l yX4_refuse wsX4_refuse ({ frames := 0, cells := 0, slots := 0, locals := 0 }) (va_Pc [.ref mo, .int 0, .int 2] (zPre (dC, dI) (zT cI cB cR cO) zk [] [(mo, .inr (9, [.int 0, .ref am, .int 0, .int 0, .int 0]))] sz)) (va_Qi (fun r (_ : Unit) => r = 0) (fun _ t => zEnd (dC, dI) (zT cI cB cR cO) (va_A [(mo, .inr (9, [.int 0, .ref am, .int 0, .int 0, .int 0]))] sz) [(mo, .inr (9, [.int 0, .ref am, .int 0, .int 0, .int 0]))] sz 0 t) (va_A [(mo, .inr (9, [.int 0, .ref am, .int 0, .int 0, .int 0]))] sz)) 0 0 (va_A [(mo, .inr (9, [.int 0, .ref am, .int 0, .int 0, .int 0]))] sz) := by
  refine Met.ofW (cc := cX4_refuse) (maxL := 3) (ret := (some .boolean)) (by decide) rfl ?_
  intro p e s mY args below meth c s₁ B hml hv
  obtain ⟨rfl, hsz, hP, hK, hD0, hZ⟩ := hv
  have hx := B.exec
  have hb := B.bytes
  have hr := B.returns
  have hts := atoms_spec (ws := wsX4_refuse) B.pre
  have hown : s.vm.findClass RX4 = some mY.cls := findClass_of_methodNamed B.named
  have hlocks := B.notSynchronized
  subst hsz
  have hD := hD0.self (sz := s.heap.size)
  generalize hAe : va_A [(mo, .inr (9, [.int 0, .ref am, .int 0, .int 0, .int 0]))] s.heap.size = A at hD hZ ⊢
  have hA : ∀ q : Nat, s.heap.size ≤ q → A q := fun q h => by rw [← hAe]; exact Or.inr h
  have hS : va_S A s.heap s.heap [] := va_S.rf
  have hz : s.heap.size + 0 ≤ s.heap.size := Nat.le_refl _
  have hl := lv_entry ([.ref mo, .int 0, .int 2]) (n := 3) (Nat.le_of_ble_eq_true rfl)
  rw [lg_entry_eq]
  generalize (lg_sl ([.ref mo, .int 0, .int 2]) ++ List.replicate (3 - (lg_sl ([.ref mo, .int 0, .int 2])).length) Slot.unset).toArray = ls at hl ⊢
  have hl : lv_has ls 3 [(0, .ref mo), (1, .int 0), (2, .int 2)] := hl
  have hP : va_P (dC, dI) vwCl [(mo, .inr (9, [.int 0, .ref am, .int 0, .int 0, .int 0]))] s.heap := hP
  have hD : va_D A [(mo, .inr (9, [.int 0, .ref am, .int 0, .int 0, .int 0]))] := hD
  refine lv_iload_n hx hb dX4_refuse_0 rfl (lv_at hl 1 rfl) ?_
  refine lv_if_eq (tgt := 16) hx hb dX4_refuse_1 (by decide) (fun c9 => ?_) (fun c9 => ?_)
  rotate_left
  · exact absurd (by decide) c9
  refine lv_aload_n hx hb dX4_refuse_16 rfl (lv_at hl 0 rfl) ?_
  refine va_get (D := (dC, dI)) (ci := 9) (v := .int 0) (C := RX4) (T := TX4) (N := 5) hx hb hts hi_X4_refuse_X4 hown hK hP 0 rfl rfl 0 (by decide) (hts (.fieldLink RX4 16 "DeeprowsModel" "thrown" "I") (List.mem_cons_of_mem _ zw_1127)) (fun _ h9 => h9) rfl dX4_refuse_17 ?_
  refine lv_if_le (tgt := 27) hx hb dX4_refuse_20 (by decide) (fun c9 => ?_) (fun c9 => ?_)
  rotate_left
  · exact absurd (by decide) c9
  refine lv_iconst (v := 0) hx hb dX4_refuse_27 (by decide) ?_
  have hP9 := hP.sub (ws' := [(mo, .inr (9, [.int 0, .ref am, .int 0, .int 0, .int 0]))]) [0] rfl
  have hD9 := hD.sub (ws' := [(mo, .inr (9, [.int 0, .ref am, .int 0, .int 0, .int 0]))]) [0] (by decide) rfl
  exact W.zret (v := 0) hx hb hr (by decide +kernel) (fun t ht hW => ⟨⟨_, (), rfl, rfl, ⟨by rw [ht]; exact hP9, va_K.moved hW.alike hK, hD9, by rw [ht]; exact hz⟩⟩, hS.F ht⟩) hS.2.2 dX4_refuse_28

theorem hi_X3_put_X3 : ∀ w ∈ u_ws RX3 TX3 3, w ∈ wsX3_put := fun w h => List.mem_cons_of_mem _ (zhi_X3 w h)
set_option maxHeartbeats 4000000 in
set_option maxRecDepth 100000 in
theorem k_mpZ1_0 (l : Launch) (dC : Nat → ClassId) (dI : Nat → Nat → Nat) (cI cB cR cO : ClassId) (zk : Nat → Nat) (a wa na : Nat) (kd wt nm : Int32) (fw fn : Nat → Int32) (sz : Nat)  : Met l yX3_put wsX3_put ({ frames := 0, cells := 0, slots := 0, locals := 0 }) (va_Pc [.ref a, .int 0, .int wt, .int nm] (zPre (dC, dI) (zT cI cB cR cO) zk [] [(a, .inr (8, [.int kd, .ref wa, .ref na])), (wa, .inl (cI, 1, .inl fw)), (na, .inl (cI, 1, .inl fn))] sz)) (va_Qv (fun _ : Unit => True) (fun _ t => zEnd (dC, dI) (zT cI cB cR cO) (va_A [(a, .inr (8, [.int kd, .ref wa, .ref na])), (wa, .inl (cI, 1, .inl fw)), (na, .inl (cI, 1, .inl fn))] sz) [(a, .inr (8, [.int kd, .ref wa, .ref na])), (wa, .inl (cI, 1, .inl (upd fw 0 wt))), (na, .inl (cI, 1, .inl (upd fn 0 nm)))] sz 0 t) (va_A [(a, .inr (8, [.int kd, .ref wa, .ref na])), (wa, .inl (cI, 1, .inl fw)), (na, .inl (cI, 1, .inl fn))] sz)) 0 0 (va_A [(a, .inr (8, [.int kd, .ref wa, .ref na])), (wa, .inl (cI, 1, .inl fw)), (na, .inl (cI, 1, .inl fn))] sz) := by
  refine Met.ofW (cc := cX3_put) (maxL := 4) (ret := none) (by decide) rfl ?_
  intro p e s mY args below meth c s₁ B hml hv
  obtain ⟨rfl, hsz, hP, hK, hD0, hZ⟩ := hv
  have hx := B.exec
  have hb := B.bytes
  have hr := B.returns
  have hts := atoms_spec (ws := wsX3_put) B.pre
  have hown : s.vm.findClass RX3 = some mY.cls := findClass_of_methodNamed B.named
  have hlocks := B.notSynchronized
  subst hsz
  have hD := hD0.self (sz := s.heap.size)
  generalize hAe : va_A [(a, .inr (8, [.int kd, .ref wa, .ref na])), (wa, .inl (cI, 1, .inl fw)), (na, .inl (cI, 1, .inl fn))] s.heap.size = A at hD hZ ⊢
  have hA : ∀ q : Nat, s.heap.size ≤ q → A q := fun q h => by rw [← hAe]; exact Or.inr h
  have hS : va_S A s.heap s.heap [] := va_S.rf
  have hz : s.heap.size + 0 ≤ s.heap.size := Nat.le_refl _
  have hl := lv_entry ([.ref a, .int 0, .int wt, .int nm]) (n := 4) (Nat.le_of_ble_eq_true rfl)
  rw [lg_entry_eq]
  generalize (lg_sl ([.ref a, .int 0, .int wt, .int nm]) ++ List.replicate (4 - (lg_sl ([.ref a, .int 0, .int wt, .int nm])).length) Slot.unset).toArray = ls at hl ⊢
  have hl : lv_has ls 4 [(0, .ref a), (1, .int 0), (2, .int wt), (3, .int nm)] := hl
  have hP : va_P (dC, dI) vwCl [(a, .inr (8, [.int kd, .ref wa, .ref na])), (wa, .inl (cI, 1, .inl fw)), (na, .inl (cI, 1, .inl fn))] s.heap := hP
  have hD : va_D A [(a, .inr (8, [.int kd, .ref wa, .ref na])), (wa, .inl (cI, 1, .inl fw)), (na, .inl (cI, 1, .inl fn))] := hD
  refine lv_aload_n hx hb dX3_put_0 rfl (lv_at hl 0 rfl) ?_
  refine va_get (D := (dC, dI)) (ci := 8) (v := .ref wa) (C := RX3) (T := TX3) (N := 3) hx hb hts hi_X3_put_X3 hown hK hP 0 rfl rfl 1 (by decide) (hts (.fieldLink RX3 15 "DeeprowsModel$Row" "whats" "[I") (List.mem_cons_of_mem _ zw_1175)) (fun _ h9 => h9) rfl dX3_put_1 ?_
  refine lv_iload_n hx hb dX3_put_4 rfl (lv_at hl 1 rfl) ?_
  refine lv_iload_n hx hb dX3_put_5 rfl (lv_at hl 2 rfl) ?_
  refine va_iast (D := (dC, dI)) (cl := vwCl) hx hb hK hP hD (zS0 hS) 1 0 rfl rfl (by unfold vp_in; decide) dX3_put_6 (fun H1 locs hP hD hS1 => ?_)
  have hz : s.heap.size + 0 ≤ H1.size := Nat.le_trans hz hS1.1
  have hS := zSS hS hS1
  replace hP : va_P (dC, dI) vwCl [(a, .inr (8, [.int kd, .ref wa, .ref na])), (wa, .inl (cI, 1, .inl (upd fw 0 wt))), (na, .inl (cI, 1, .inl fn))] H1 := hP
  replace hD : va_D A [(a, .inr (8, [.int kd, .ref wa, .ref na])), (wa, .inl (cI, 1, .inl (upd fw 0 wt))), (na, .inl (cI, 1, .inl fn))] := hD
  refine lv_aload_n hx hb dX3_put_7 rfl (lv_at hl 0 rfl) ?_
  refine va_get (D := (dC, dI)) (ci := 8) (v := .ref na) (C := RX3) (T := TX3) (N := 3) hx hb hts hi_X3_put_X3 hown hK hP 0 rfl rfl 2 (by decide) (hts (.fieldLink RX3 19 "DeeprowsModel$Row" "numbers" "[I") (List.mem_cons_of_mem _ zw_1177)) (fun _ h9 => h9) rfl dX3_put_8 ?_
  refine lv_iload_n hx hb dX3_put_11 rfl (lv_at hl 1 rfl) ?_
  refine lv_iload_n hx hb dX3_put_12 rfl (lv_at hl 3 rfl) ?_
  refine va_iast (D := (dC, dI)) (cl := vwCl) hx hb hK hP hD (zS0 hS) 2 0 rfl rfl (by unfold vp_in; decide) dX3_put_13 (fun H2 locs hP hD hS1 => ?_)
  have hz : s.heap.size + 0 ≤ H2.size := Nat.le_trans hz hS1.1
  have hS := zSS hS hS1
  replace hP : va_P (dC, dI) vwCl [(a, .inr (8, [.int kd, .ref wa, .ref na])), (wa, .inl (cI, 1, .inl (upd fw 0 wt))), (na, .inl (cI, 1, .inl (upd fn 0 nm)))] H2 := hP
  replace hD : va_D A [(a, .inr (8, [.int kd, .ref wa, .ref na])), (wa, .inl (cI, 1, .inl (upd fw 0 wt))), (na, .inl (cI, 1, .inl (upd fn 0 nm)))] := hD
  have hP9 := hP.sub (ws' := [(a, .inr (8, [.int kd, .ref wa, .ref na])), (wa, .inl (cI, 1, .inl (upd fw 0 wt))), (na, .inl (cI, 1, .inl (upd fn 0 nm)))]) [0, 1, 2] rfl
  have hD9 := hD.sub (ws' := [(a, .inr (8, [.int kd, .ref wa, .ref na])), (wa, .inl (cI, 1, .inl (upd fw 0 wt))), (na, .inl (cI, 1, .inl (upd fn 0 nm)))]) [0, 1, 2] (by decide) rfl
  exact W.vret hx hb hr (fun t ht hW => ⟨⟨(), rfl, trivial, ⟨by rw [ht]; exact hP9, va_K.moved hW.alike hK, hD9, by rw [ht]; exact hz⟩⟩, hS.F ht⟩) hS.2.2 dX3_put_14

set_option maxHeartbeats 4000000 in
set_option maxRecDepth 100000 in
theorem k_mpZ2_0 (l : Launch) (dC : Nat → ClassId) (dI : Nat → Nat → Nat) (cI cB cR cO : ClassId) (zk : Nat → Nat) (a wa na : Nat) (kd wt nm : Int32) (fw fn : Nat → Int32) (sz : Nat)  : Met l yX3_put wsX3_put ({ frames := 0, cells := 0, slots := 0, locals := 0 }) (va_Pc [.ref a, .int 0, .int wt, .int nm] (zPre (dC, dI) (zT cI cB cR cO) zk [] [(a, .inr (8, [.int kd, .ref wa, .ref na])), (wa, .inl (cI, 2, .inl fw)), (na, .inl (cI, 2, .inl fn))] sz)) (va_Qv (fun _ : Unit => True) (fun _ t => zEnd (dC, dI) (zT cI cB cR cO) (va_A [(a, .inr (8, [.int kd, .ref wa, .ref na])), (wa, .inl (cI, 2, .inl fw)), (na, .inl (cI, 2, .inl fn))] sz) [(a, .inr (8, [.int kd, .ref wa, .ref na])), (wa, .inl (cI, 2, .inl (upd fw 0 wt))), (na, .inl (cI, 2, .inl (upd fn 0 nm)))] sz 0 t) (va_A [(a, .inr (8, [.int kd, .ref wa, .ref na])), (wa, .inl (cI, 2, .inl fw)), (na, .inl (cI, 2, .inl fn))] sz)) 0 0 (va_A [(a, .inr (8, [.int kd, .ref wa, .ref na])), (wa, .inl (cI, 2, .inl fw)), (na, .inl (cI, 2, .inl fn))] sz) := by
  refine Met.ofW (cc := cX3_put) (maxL := 4) (ret := none) (by decide) rfl ?_
  intro p e s mY args below meth c s₁ B hml hv
  obtain ⟨rfl, hsz, hP, hK, hD0, hZ⟩ := hv
  have hx := B.exec
  have hb := B.bytes
  have hr := B.returns
  have hts := atoms_spec (ws := wsX3_put) B.pre
  have hown : s.vm.findClass RX3 = some mY.cls := findClass_of_methodNamed B.named
  have hlocks := B.notSynchronized
  subst hsz
  have hD := hD0.self (sz := s.heap.size)
  generalize hAe : va_A [(a, .inr (8, [.int kd, .ref wa, .ref na])), (wa, .inl (cI, 2, .inl fw)), (na, .inl (cI, 2, .inl fn))] s.heap.size = A at hD hZ ⊢
  have hA : ∀ q : Nat, s.heap.size ≤ q → A q := fun q h => by rw [← hAe]; exact Or.inr h
  have hS : va_S A s.heap s.heap [] := va_S.rf
  have hz : s.heap.size + 0 ≤ s.heap.size := Nat.le_refl _
  have hl := lv_entry ([.ref a, .int 0, .int wt, .int nm]) (n := 4) (Nat.le_of_ble_eq_true rfl)
  rw [lg_entry_eq]
  generalize (lg_sl ([.ref a, .int 0, .int wt, .int nm]) ++ List.replicate (4 - (lg_sl ([.ref a, .int 0, .int wt, .int nm])).length) Slot.unset).toArray = ls at hl ⊢
  have hl : lv_has ls 4 [(0, .ref a), (1, .int 0), (2, .int wt), (3, .int nm)] := hl
  have hP : va_P (dC, dI) vwCl [(a, .inr (8, [.int kd, .ref wa, .ref na])), (wa, .inl (cI, 2, .inl fw)), (na, .inl (cI, 2, .inl fn))] s.heap := hP
  have hD : va_D A [(a, .inr (8, [.int kd, .ref wa, .ref na])), (wa, .inl (cI, 2, .inl fw)), (na, .inl (cI, 2, .inl fn))] := hD
  refine lv_aload_n hx hb dX3_put_0 rfl (lv_at hl 0 rfl) ?_
  refine va_get (D := (dC, dI)) (ci := 8) (v := .ref wa) (C := RX3) (T := TX3) (N := 3) hx hb hts hi_X3_put_X3 hown hK hP 0 rfl rfl 1 (by decide) (hts (.fieldLink RX3 15 "DeeprowsModel$Row" "whats" "[I") (List.mem_cons_of_mem _ zw_1175)) (fun _ h9 => h9) rfl dX3_put_1 ?_
  refine lv_iload_n hx hb dX3_put_4 rfl (lv_at hl 1 rfl) ?_
  refine lv_iload_n hx hb dX3_put_5 rfl (lv_at hl 2 rfl) ?_
  refine va_iast (D := (dC, dI)) (cl := vwCl) hx hb hK hP hD (zS0 hS) 1 0 rfl rfl (by unfold vp_in; decide) dX3_put_6 (fun H1 locs hP hD hS1 => ?_)
  have hz : s.heap.size + 0 ≤ H1.size := Nat.le_trans hz hS1.1
  have hS := zSS hS hS1
  replace hP : va_P (dC, dI) vwCl [(a, .inr (8, [.int kd, .ref wa, .ref na])), (wa, .inl (cI, 2, .inl (upd fw 0 wt))), (na, .inl (cI, 2, .inl fn))] H1 := hP
  replace hD : va_D A [(a, .inr (8, [.int kd, .ref wa, .ref na])), (wa, .inl (cI, 2, .inl (upd fw 0 wt))), (na, .inl (cI, 2, .inl fn))] := hD
  refine lv_aload_n hx hb dX3_put_7 rfl (lv_at hl 0 rfl) ?_
  refine va_get (D := (dC, dI)) (ci := 8) (v := .ref na) (C := RX3) (T := TX3) (N := 3) hx hb hts hi_X3_put_X3 hown hK hP 0 rfl rfl 2 (by decide) (hts (.fieldLink RX3 19 "DeeprowsModel$Row" "numbers" "[I") (List.mem_cons_of_mem _ zw_1177)) (fun _ h9 => h9) rfl dX3_put_8 ?_
  refine lv_iload_n hx hb dX3_put_11 rfl (lv_at hl 1 rfl) ?_
  refine lv_iload_n hx hb dX3_put_12 rfl (lv_at hl 3 rfl) ?_
  refine va_iast (D := (dC, dI)) (cl := vwCl) hx hb hK hP hD (zS0 hS) 2 0 rfl rfl (by unfold vp_in; decide) dX3_put_13 (fun H2 locs hP hD hS1 => ?_)
  have hz : s.heap.size + 0 ≤ H2.size := Nat.le_trans hz hS1.1
  have hS := zSS hS hS1
  replace hP : va_P (dC, dI) vwCl [(a, .inr (8, [.int kd, .ref wa, .ref na])), (wa, .inl (cI, 2, .inl (upd fw 0 wt))), (na, .inl (cI, 2, .inl (upd fn 0 nm)))] H2 := hP
  replace hD : va_D A [(a, .inr (8, [.int kd, .ref wa, .ref na])), (wa, .inl (cI, 2, .inl (upd fw 0 wt))), (na, .inl (cI, 2, .inl (upd fn 0 nm)))] := hD
  have hP9 := hP.sub (ws' := [(a, .inr (8, [.int kd, .ref wa, .ref na])), (wa, .inl (cI, 2, .inl (upd fw 0 wt))), (na, .inl (cI, 2, .inl (upd fn 0 nm)))]) [0, 1, 2] rfl
  have hD9 := hD.sub (ws' := [(a, .inr (8, [.int kd, .ref wa, .ref na])), (wa, .inl (cI, 2, .inl (upd fw 0 wt))), (na, .inl (cI, 2, .inl (upd fn 0 nm)))]) [0, 1, 2] (by decide) rfl
  exact W.vret hx hb hr (fun t ht hW => ⟨⟨(), rfl, trivial, ⟨by rw [ht]; exact hP9, va_K.moved hW.alike hK, hD9, by rw [ht]; exact hz⟩⟩, hS.F ht⟩) hS.2.2 dX3_put_14

set_option maxHeartbeats 4000000 in
set_option maxRecDepth 100000 in
theorem k_mpZ2_1 (l : Launch) (dC : Nat → ClassId) (dI : Nat → Nat → Nat) (cI cB cR cO : ClassId) (zk : Nat → Nat) (a wa na : Nat) (kd wt nm : Int32) (fw fn : Nat → Int32) (sz : Nat)  : Met l yX3_put wsX3_put ({ frames := 0, cells := 0, slots := 0, locals := 0 }) (va_Pc [.ref a, .int 1, .int wt, .int nm] (zPre (dC, dI) (zT cI cB cR cO) zk [] [(a, .inr (8, [.int kd, .ref wa, .ref na])), (wa, .inl (cI, 2, .inl fw)), (na, .inl (cI, 2, .inl fn))] sz)) (va_Qv (fun _ : Unit => True) (fun _ t => zEnd (dC, dI) (zT cI cB cR cO) (va_A [(a, .inr (8, [.int kd, .ref wa, .ref na])), (wa, .inl (cI, 2, .inl fw)), (na, .inl (cI, 2, .inl fn))] sz) [(a, .inr (8, [.int kd, .ref wa, .ref na])), (wa, .inl (cI, 2, .inl (upd fw 1 wt))), (na, .inl (cI, 2, .inl (upd fn 1 nm)))] sz 0 t) (va_A [(a, .inr (8, [.int kd, .ref wa, .ref na])), (wa, .inl (cI, 2, .inl fw)), (na, .inl (cI, 2, .inl fn))] sz)) 0 0 (va_A [(a, .inr (8, [.int kd, .ref wa, .ref na])), (wa, .inl (cI, 2, .inl fw)), (na, .inl (cI, 2, .inl fn))] sz) := by
  refine Met.ofW (cc := cX3_put) (maxL := 4) (ret := none) (by decide) rfl ?_
  intro p e s mY args below meth c s₁ B hml hv
  obtain ⟨rfl, hsz, hP, hK, hD0, hZ⟩ := hv
  have hx := B.exec
  have hb := B.bytes
  have hr := B.returns
  have hts := atoms_spec (ws := wsX3_put) B.pre
  have hown : s.vm.findClass RX3 = some mY.cls := findClass_of_methodNamed B.named
  have hlocks := B.notSynchronized
  subst hsz
  have hD := hD0.self (sz := s.heap.size)
  generalize hAe : va_A [(a, .inr (8, [.int kd, .ref wa, .ref na])), (wa, .inl (cI, 2, .inl fw)), (na, .inl (cI, 2, .inl fn))] s.heap.size = A at hD hZ ⊢
  have hA : ∀ q : Nat, s.heap.size ≤ q → A q := fun q h => by rw [← hAe]; exact Or.inr h
  have hS : va_S A s.heap s.heap [] := va_S.rf
  have hz : s.heap.size + 0 ≤ s.heap.size := Nat.le_refl _
  have hl := lv_entry ([.ref a, .int 1, .int wt, .int nm]) (n := 4) (Nat.le_of_ble_eq_true rfl)
  rw [lg_entry_eq]
  generalize (lg_sl ([.ref a, .int 1, .int wt, .int nm]) ++ List.replicate (4 - (lg_sl ([.ref a, .int 1, .int wt, .int nm])).length) Slot.unset).toArray = ls at hl ⊢
  have hl : lv_has ls 4 [(0, .ref a), (1, .int 1), (2, .int wt), (3, .int nm)] := hl
  have hP : va_P (dC, dI) vwCl [(a, .inr (8, [.int kd, .ref wa, .ref na])), (wa, .inl (cI, 2, .inl fw)), (na, .inl (cI, 2, .inl fn))] s.heap := hP
  have hD : va_D A [(a, .inr (8, [.int kd, .ref wa, .ref na])), (wa, .inl (cI, 2, .inl fw)), (na, .inl (cI, 2, .inl fn))] := hD
  refine lv_aload_n hx hb dX3_put_0 rfl (lv_at hl 0 rfl) ?_
  refine va_get (D := (dC, dI)) (ci := 8) (v := .ref wa) (C := RX3) (T := TX3) (N := 3) hx hb hts hi_X3_put_X3 hown hK hP 0 rfl rfl 1 (by decide) (hts (.fieldLink RX3 15 "DeeprowsModel$Row" "whats" "[I") (List.mem_cons_of_mem _ zw_1175)) (fun _ h9 => h9) rfl dX3_put_1 ?_
  refine lv_iload_n hx hb dX3_put_4 rfl (lv_at hl 1 rfl) ?_
  refine lv_iload_n hx hb dX3_put_5 rfl (lv_at hl 2 rfl) ?_
  refine va_iast (D := (dC, dI)) (cl := vwCl) hx hb hK hP hD (zS0 hS) 1 0 rfl rfl (by unfold vp_in; decide) dX3_put_6 (fun H1 locs hP hD hS1 => ?_)
  have hz : s.heap.size + 0 ≤ H1.size := Nat.le_trans hz hS1.1
  have hS := zSS hS hS1
  replace hP : va_P (dC, dI) vwCl [(a, .inr (8, [.int kd, .ref wa, .ref na])), (wa, .inl (cI, 2, .inl (upd fw 1 wt))), (na, .inl (cI, 2, .inl fn))] H1 := hP
  replace hD : va_D A [(a, .inr (8, [.int kd, .ref wa, .ref na])), (wa, .inl (cI, 2, .inl (upd fw 1 wt))), (na, .inl (cI, 2, .inl fn))] := hD
  refine lv_aload_n hx hb dX3_put_7 rfl (lv_at hl 0 rfl) ?_
  refine va_get (D := (dC, dI)) (ci := 8) (v := .ref na) (C := RX3) (T := TX3) (N := 3) hx hb hts hi_X3_put_X3 hown hK hP 0 rfl rfl 2 (by decide) (hts (.fieldLink RX3 19 "DeeprowsModel$Row" "numbers" "[I") (List.mem_cons_of_mem _ zw_1177)) (fun _ h9 => h9) rfl dX3_put_8 ?_
  refine lv_iload_n hx hb dX3_put_11 rfl (lv_at hl 1 rfl) ?_
  refine lv_iload_n hx hb dX3_put_12 rfl (lv_at hl 3 rfl) ?_
  refine va_iast (D := (dC, dI)) (cl := vwCl) hx hb hK hP hD (zS0 hS) 2 0 rfl rfl (by unfold vp_in; decide) dX3_put_13 (fun H2 locs hP hD hS1 => ?_)
  have hz : s.heap.size + 0 ≤ H2.size := Nat.le_trans hz hS1.1
  have hS := zSS hS hS1
  replace hP : va_P (dC, dI) vwCl [(a, .inr (8, [.int kd, .ref wa, .ref na])), (wa, .inl (cI, 2, .inl (upd fw 1 wt))), (na, .inl (cI, 2, .inl (upd fn 1 nm)))] H2 := hP
  replace hD : va_D A [(a, .inr (8, [.int kd, .ref wa, .ref na])), (wa, .inl (cI, 2, .inl (upd fw 1 wt))), (na, .inl (cI, 2, .inl (upd fn 1 nm)))] := hD
  have hP9 := hP.sub (ws' := [(a, .inr (8, [.int kd, .ref wa, .ref na])), (wa, .inl (cI, 2, .inl (upd fw 1 wt))), (na, .inl (cI, 2, .inl (upd fn 1 nm)))]) [0, 1, 2] rfl
  have hD9 := hD.sub (ws' := [(a, .inr (8, [.int kd, .ref wa, .ref na])), (wa, .inl (cI, 2, .inl (upd fw 1 wt))), (na, .inl (cI, 2, .inl (upd fn 1 nm)))]) [0, 1, 2] (by decide) rfl
  exact W.vret hx hb hr (fun t ht hW => ⟨⟨(), rfl, trivial, ⟨by rw [ht]; exact hP9, va_K.moved hW.alike hK, hD9, by rw [ht]; exact hz⟩⟩, hS.F ht⟩) hS.2.2 dX3_put_14

set_option maxHeartbeats 4000000 in
set_option maxRecDepth 100000 in
theorem k_mpZ3_0 (l : Launch) (dC : Nat → ClassId) (dI : Nat → Nat → Nat) (cI cB cR cO : ClassId) (zk : Nat → Nat) (a wa na : Nat) (kd wt nm : Int32) (fw fn : Nat → Int32) (sz : Nat)  : Met l yX3_put wsX3_put ({ frames := 0, cells := 0, slots := 0, locals := 0 }) (va_Pc [.ref a, .int 0, .int wt, .int nm] (zPre (dC, dI) (zT cI cB cR cO) zk [] [(a, .inr (8, [.int kd, .ref wa, .ref na])), (wa, .inl (cI, 3, .inl fw)), (na, .inl (cI, 3, .inl fn))] sz)) (va_Qv (fun _ : Unit => True) (fun _ t => zEnd (dC, dI) (zT cI cB cR cO) (va_A [(a, .inr (8, [.int kd, .ref wa, .ref na])), (wa, .inl (cI, 3, .inl fw)), (na, .inl (cI, 3, .inl fn))] sz) [(a, .inr (8, [.int kd, .ref wa, .ref na])), (wa, .inl (cI, 3, .inl (upd fw 0 wt))), (na, .inl (cI, 3, .inl (upd fn 0 nm)))] sz 0 t) (va_A [(a, .inr (8, [.int kd, .ref wa, .ref na])), (wa, .inl (cI, 3, .inl fw)), (na, .inl (cI, 3, .inl fn))] sz)) 0 0 (va_A [(a, .inr (8, [.int kd, .ref wa, .ref na])), (wa, .inl (cI, 3, .inl fw)), (na, .inl (cI, 3, .inl fn))] sz) := by
  refine Met.ofW (cc := cX3_put) (maxL := 4) (ret := none) (by decide) rfl ?_
  intro p e s mY args below meth c s₁ B hml hv
  obtain ⟨rfl, hsz, hP, hK, hD0, hZ⟩ := hv
  have hx := B.exec
  have hb := B.bytes
  have hr := B.returns
  have hts := atoms_spec (ws := wsX3_put) B.pre
  have hown : s.vm.findClass RX3 = some mY.cls := findClass_of_methodNamed B.named
  have hlocks := B.notSynchronized
  subst hsz
  have hD := hD0.self (sz := s.heap.size)
  generalize hAe : va_A [(a, .inr (8, [.int kd, .ref wa, .ref na])), (wa, .inl (cI, 3, .inl fw)), (na, .inl (cI, 3, .inl fn))] s.heap.size = A at hD hZ ⊢
  have hA : ∀ q : Nat, s.heap.size ≤ q → A q := fun q h => by rw [← hAe]; exact Or.inr h
  have hS : va_S A s.heap s.heap [] := va_S.rf
  have hz : s.heap.size + 0 ≤ s.heap.size := Nat.le_refl _
  have hl := lv_entry ([.ref a, .int 0, .int wt, .int nm]) (n := 4) (Nat.le_of_ble_eq_true rfl)
  rw [lg_entry_eq]
  generalize (lg_sl ([.ref a, .int 0, .int wt, .int nm]) ++ List.replicate (4 - (lg_sl ([.ref a, .int 0, .int wt, .int nm])).length) Slot.unset).toArray = ls at hl ⊢
  have hl : lv_has ls 4 [(0, .ref a), (1, .int 0), (2, .int wt), (3, .int nm)] := hl
  have hP : va_P (dC, dI) vwCl [(a, .inr (8, [.int kd, .ref wa, .ref na])), (wa, .inl (cI, 3, .inl fw)), (na, .inl (cI, 3, .inl fn))] s.heap := hP
  have hD : va_D A [(a, .inr (8, [.int kd, .ref wa, .ref na])), (wa, .inl (cI, 3, .inl fw)), (na, .inl (cI, 3, .inl fn))] := hD
  refine lv_aload_n hx hb dX3_put_0 rfl (lv_at hl 0 rfl) ?_
  refine va_get (D := (dC, dI)) (ci := 8) (v := .ref wa) (C := RX3) (T := TX3) (N := 3) hx hb hts hi_X3_put_X3 hown hK hP 0 rfl rfl 1 (by decide) (hts (.fieldLink RX3 15 "DeeprowsModel$Row" "whats" "[I") (List.mem_cons_of_mem _ zw_1175)) (fun _ h9 => h9) rfl dX3_put_1 ?_
  refine lv_iload_n hx hb dX3_put_4 rfl (lv_at hl 1 rfl) ?_
  refine lv_iload_n hx hb dX3_put_5 rfl (lv_at hl 2 rfl) ?_
  refine va_iast (D := (dC, dI)) (cl := vwCl) hx hb hK hP hD (zS0 hS) 1 0 rfl rfl (by unfold vp_in; decide) dX3_put_6 (fun H1 locs hP hD hS1 => ?_)
  have hz : s.heap.size + 0 ≤ H1.size := Nat.le_trans hz hS1.1
  have hS := zSS hS hS1
  replace hP : va_P (dC, dI) vwCl [(a, .inr (8, [.int kd, .ref wa, .ref na])), (wa, .inl (cI, 3, .inl (upd fw 0 wt))), (na, .inl (cI, 3, .inl fn))] H1 := hP
  replace hD : va_D A [(a, .inr (8, [.int kd, .ref wa, .ref na])), (wa, .inl (cI, 3, .inl (upd fw 0 wt))), (na, .inl (cI, 3, .inl fn))] := hD
  refine lv_aload_n hx hb dX3_put_7 rfl (lv_at hl 0 rfl) ?_
  refine va_get (D := (dC, dI)) (ci := 8) (v := .ref na) (C := RX3) (T := TX3) (N := 3) hx hb hts hi_X3_put_X3 hown hK hP 0 rfl rfl 2 (by decide) (hts (.fieldLink RX3 19 "DeeprowsModel$Row" "numbers" "[I") (List.mem_cons_of_mem _ zw_1177)) (fun _ h9 => h9) rfl dX3_put_8 ?_
  refine lv_iload_n hx hb dX3_put_11 rfl (lv_at hl 1 rfl) ?_
  refine lv_iload_n hx hb dX3_put_12 rfl (lv_at hl 3 rfl) ?_
  refine va_iast (D := (dC, dI)) (cl := vwCl) hx hb hK hP hD (zS0 hS) 2 0 rfl rfl (by unfold vp_in; decide) dX3_put_13 (fun H2 locs hP hD hS1 => ?_)
  have hz : s.heap.size + 0 ≤ H2.size := Nat.le_trans hz hS1.1
  have hS := zSS hS hS1
  replace hP : va_P (dC, dI) vwCl [(a, .inr (8, [.int kd, .ref wa, .ref na])), (wa, .inl (cI, 3, .inl (upd fw 0 wt))), (na, .inl (cI, 3, .inl (upd fn 0 nm)))] H2 := hP
  replace hD : va_D A [(a, .inr (8, [.int kd, .ref wa, .ref na])), (wa, .inl (cI, 3, .inl (upd fw 0 wt))), (na, .inl (cI, 3, .inl (upd fn 0 nm)))] := hD
  have hP9 := hP.sub (ws' := [(a, .inr (8, [.int kd, .ref wa, .ref na])), (wa, .inl (cI, 3, .inl (upd fw 0 wt))), (na, .inl (cI, 3, .inl (upd fn 0 nm)))]) [0, 1, 2] rfl
  have hD9 := hD.sub (ws' := [(a, .inr (8, [.int kd, .ref wa, .ref na])), (wa, .inl (cI, 3, .inl (upd fw 0 wt))), (na, .inl (cI, 3, .inl (upd fn 0 nm)))]) [0, 1, 2] (by decide) rfl
  exact W.vret hx hb hr (fun t ht hW => ⟨⟨(), rfl, trivial, ⟨by rw [ht]; exact hP9, va_K.moved hW.alike hK, hD9, by rw [ht]; exact hz⟩⟩, hS.F ht⟩) hS.2.2 dX3_put_14

set_option maxHeartbeats 4000000 in
set_option maxRecDepth 100000 in
theorem k_mpZ3_1 (l : Launch) (dC : Nat → ClassId) (dI : Nat → Nat → Nat) (cI cB cR cO : ClassId) (zk : Nat → Nat) (a wa na : Nat) (kd wt nm : Int32) (fw fn : Nat → Int32) (sz : Nat)  : Met l yX3_put wsX3_put ({ frames := 0, cells := 0, slots := 0, locals := 0 }) (va_Pc [.ref a, .int 1, .int wt, .int nm] (zPre (dC, dI) (zT cI cB cR cO) zk [] [(a, .inr (8, [.int kd, .ref wa, .ref na])), (wa, .inl (cI, 3, .inl fw)), (na, .inl (cI, 3, .inl fn))] sz)) (va_Qv (fun _ : Unit => True) (fun _ t => zEnd (dC, dI) (zT cI cB cR cO) (va_A [(a, .inr (8, [.int kd, .ref wa, .ref na])), (wa, .inl (cI, 3, .inl fw)), (na, .inl (cI, 3, .inl fn))] sz) [(a, .inr (8, [.int kd, .ref wa, .ref na])), (wa, .inl (cI, 3, .inl (upd fw 1 wt))), (na, .inl (cI, 3, .inl (upd fn 1 nm)))] sz 0 t) (va_A [(a, .inr (8, [.int kd, .ref wa, .ref na])), (wa, .inl (cI, 3, .inl fw)), (na, .inl (cI, 3, .inl fn))] sz)) 0 0 (va_A [(a, .inr (8, [.int kd, .ref wa, .ref na])), (wa, .inl (cI, 3, .inl fw)), (na, .inl (cI, 3, .inl fn))] sz) := by
  refine Met.ofW (cc := cX3_put) (maxL := 4) (ret := none) (by decide) rfl ?_
  intro p e s mY args below meth c s₁ B hml hv
  obtain ⟨rfl, hsz, hP, hK, hD0, hZ⟩ := hv
  have hx := B.exec
  have hb := B.bytes
  have hr := B.returns
  have hts := atoms_spec (ws := wsX3_put) B.pre
  have hown : s.vm.findClass RX3 = some mY.cls := findClass_of_methodNamed B.named
  have hlocks := B.notSynchronized
  subst hsz
  have hD := hD0.self (sz := s.heap.size)
  generalize hAe : va_A [(a, .inr (8, [.int kd, .ref wa, .ref na])), (wa, .inl (cI, 3, .inl fw)), (na, .inl (cI, 3, .inl fn))] s.heap.size = A at hD hZ ⊢
  have hA : ∀ q : Nat, s.heap.size ≤ q → A q := fun q h => by rw [← hAe]; exact Or.inr h
  have hS : va_S A s.heap s.heap [] := va_S.rf
  have hz : s.heap.size + 0 ≤ s.heap.size := Nat.le_refl _
  have hl := lv_entry ([.ref a, .int 1, .int wt, .int nm]) (n := 4) (Nat.le_of_ble_eq_true rfl)
  rw [lg_entry_eq]
  generalize (lg_sl ([.ref a, .int 1, .int wt, .int nm]) ++ List.replicate (4 - (lg_sl ([.ref a, .int 1, .int wt, .int nm])).length) Slot.unset).toArray = ls at hl ⊢
  have hl : lv_has ls 4 [(0, .ref a), (1, .int 1), (2, .int wt), (3, .int nm)] := hl
  have hP : va_P (dC, dI) vwCl [(a, .inr (8, [.int kd, .ref wa, .ref na])), (wa, .inl (cI, 3, .inl fw)), (na, .inl (cI, 3, .inl fn))] s.heap := hP
  have hD : va_D A [(a, .inr (8, [.int kd, .ref wa, .ref na])), (wa, .inl (cI, 3, .inl fw)), (na, .inl (cI, 3, .inl fn))] := hD
  refine lv_aload_n hx hb dX3_put_0 rfl (lv_at hl 0 rfl) ?_
  refine va_get (D := (dC, dI)) (ci := 8) (v := .ref wa) (C := RX3) (T := TX3) (N := 3) hx hb hts hi_X3_put_X3 hown hK hP 0 rfl rfl 1 (by decide) (hts (.fieldLink RX3 15 "DeeprowsModel$Row" "whats" "[I") (List.mem_cons_of_mem _ zw_1175)) (fun _ h9 => h9) rfl dX3_put_1 ?_
  refine lv_iload_n hx hb dX3_put_4 rfl (lv_at hl 1 rfl) ?_
  refine lv_iload_n hx hb dX3_put_5 rfl (lv_at hl 2 rfl) ?_
  refine va_iast (D := (dC, dI)) (cl := vwCl) hx hb hK hP hD (zS0 hS) 1 0 rfl rfl (by unfold vp_in; decide) dX3_put_6 (fun H1 locs hP hD hS1 => ?_)
  have hz : s.heap.size + 0 ≤ H1.size := Nat.le_trans hz hS1.1
  have hS := zSS hS hS1
  replace hP : va_P (dC, dI) vwCl [(a, .inr (8, [.int kd, .ref wa, .ref na])), (wa, .inl (cI, 3, .inl (upd fw 1 wt))), (na, .inl (cI, 3, .inl fn))] H1 := hP
  replace hD : va_D A [(a, .inr (8, [.int kd, .ref wa, .ref na])), (wa, .inl (cI, 3, .inl (upd fw 1 wt))), (na, .inl (cI, 3, .inl fn))] := hD
  refine lv_aload_n hx hb dX3_put_7 rfl (lv_at hl 0 rfl) ?_
  refine va_get (D := (dC, dI)) (ci := 8) (v := .ref na) (C := RX3) (T := TX3) (N := 3) hx hb hts hi_X3_put_X3 hown hK hP 0 rfl rfl 2 (by decide) (hts (.fieldLink RX3 19 "DeeprowsModel$Row" "numbers" "[I") (List.mem_cons_of_mem _ zw_1177)) (fun _ h9 => h9) rfl dX3_put_8 ?_
  refine lv_iload_n hx hb dX3_put_11 rfl (lv_at hl 1 rfl) ?_
  refine lv_iload_n hx hb dX3_put_12 rfl (lv_at hl 3 rfl) ?_
  refine va_iast (D := (dC, dI)) (cl := vwCl) hx hb hK hP hD (zS0 hS) 2 0 rfl rfl (by unfold vp_in; decide) dX3_put_13 (fun H2 locs hP hD hS1 => ?_)
  have hz : s.heap.size + 0 ≤ H2.size := Nat.le_trans hz hS1.1
  have hS := zSS hS hS1
  replace hP : va_P (dC, dI) vwCl [(a, .inr (8, [.int kd, .ref wa, .ref na])), (wa, .inl (cI, 3, .inl (upd fw 1 wt))), (na, .inl (cI, 3, .inl (upd fn 1 nm)))] H2 := hP
  replace hD : va_D A [(a, .inr (8, [.int kd, .ref wa, .ref na])), (wa, .inl (cI, 3, .inl (upd fw 1 wt))), (na, .inl (cI, 3, .inl (upd fn 1 nm)))] := hD
  have hP9 := hP.sub (ws' := [(a, .inr (8, [.int kd, .ref wa, .ref na])), (wa, .inl (cI, 3, .inl (upd fw 1 wt))), (na, .inl (cI, 3, .inl (upd fn 1 nm)))]) [0, 1, 2] rfl
  have hD9 := hD.sub (ws' := [(a, .inr (8, [.int kd, .ref wa, .ref na])), (wa, .inl (cI, 3, .inl (upd fw 1 wt))), (na, .inl (cI, 3, .inl (upd fn 1 nm)))]) [0, 1, 2] (by decide) rfl
  exact W.vret hx hb hr (fun t ht hW => ⟨⟨(), rfl, trivial, ⟨by rw [ht]; exact hP9, va_K.moved hW.alike hK, hD9, by rw [ht]; exact hz⟩⟩, hS.F ht⟩) hS.2.2 dX3_put_14

set_option maxHeartbeats 4000000 in
set_option maxRecDepth 100000 in
theorem k_mpZ3_2 (l : Launch) (dC : Nat → ClassId) (dI : Nat → Nat → Nat) (cI cB cR cO : ClassId) (zk : Nat → Nat) (a wa na : Nat) (kd wt nm : Int32) (fw fn : Nat → Int32) (sz : Nat)  : Met l yX3_put wsX3_put ({ frames := 0, cells := 0, slots := 0, locals := 0 }) (va_Pc [.ref a, .int 2, .int wt, .int nm] (zPre (dC, dI) (zT cI cB cR cO) zk [] [(a, .inr (8, [.int kd, .ref wa, .ref na])), (wa, .inl (cI, 3, .inl fw)), (na, .inl (cI, 3, .inl fn))] sz)) (va_Qv (fun _ : Unit => True) (fun _ t => zEnd (dC, dI) (zT cI cB cR cO) (va_A [(a, .inr (8, [.int kd, .ref wa, .ref na])), (wa, .inl (cI, 3, .inl fw)), (na, .inl (cI, 3, .inl fn))] sz) [(a, .inr (8, [.int kd, .ref wa, .ref na])), (wa, .inl (cI, 3, .inl (upd fw 2 wt))), (na, .inl (cI, 3, .inl (upd fn 2 nm)))] sz 0 t) (va_A [(a, .inr (8, [.int kd, .ref wa, .ref na])), (wa, .inl (cI, 3, .inl fw)), (na, .inl (cI, 3, .inl fn))] sz)) 0 0 (va_A [(a, .inr (8, [.int kd, .ref wa, .ref na])), (wa, .inl (cI, 3, .inl fw)), (na, .inl (cI, 3, .inl fn))] sz) := by
  refine Met.ofW (cc := cX3_put) (maxL := 4) (ret := none) (by decide) rfl ?_
  intro p e s mY args below meth c s₁ B hml hv
  obtain ⟨rfl, hsz, hP, hK, hD0, hZ⟩ := hv
  have hx := B.exec
  have hb := B.bytes
  have hr := B.returns
  have hts := atoms_spec (ws := wsX3_put) B.pre
  have hown : s.vm.findClass RX3 = some mY.cls := findClass_of_methodNamed B.named
  have hlocks := B.notSynchronized
  subst hsz
  have hD := hD0.self (sz := s.heap.size)
  generalize hAe : va_A [(a, .inr (8, [.int kd, .ref wa, .ref na])), (wa, .inl (cI, 3, .inl fw)), (na, .inl (cI, 3, .inl fn))] s.heap.size = A at hD hZ ⊢
  have hA : ∀ q : Nat, s.heap.size ≤ q → A q := fun q h => by rw [← hAe]; exact Or.inr h
  have hS : va_S A s.heap s.heap [] := va_S.rf
  have hz : s.heap.size + 0 ≤ s.heap.size := Nat.le_refl _
  have hl := lv_entry ([.ref a, .int 2, .int wt, .int nm]) (n := 4) (Nat.le_of_ble_eq_true rfl)
  rw [lg_entry_eq]
  generalize (lg_sl ([.ref a, .int 2, .int wt, .int nm]) ++ List.replicate (4 - (lg_sl ([.ref a, .int 2, .int wt, .int nm])).length) Slot.unset).toArray = ls at hl ⊢
  have hl : lv_has ls 4 [(0, .ref a), (1, .int 2), (2, .int wt), (3, .int nm)] := hl
  have hP : va_P (dC, dI) vwCl [(a, .inr (8, [.int kd, .ref wa, .ref na])), (wa, .inl (cI, 3, .inl fw)), (na, .inl (cI, 3, .inl fn))] s.heap := hP
  have hD : va_D A [(a, .inr (8, [.int kd, .ref wa, .ref na])), (wa, .inl (cI, 3, .inl fw)), (na, .inl (cI, 3, .inl fn))] := hD
  refine lv_aload_n hx hb dX3_put_0 rfl (lv_at hl 0 rfl) ?_
  refine va_get (D := (dC, dI)) (ci := 8) (v := .ref wa) (C := RX3) (T := TX3) (N := 3) hx hb hts hi_X3_put_X3 hown hK hP 0 rfl rfl 1 (by decide) (hts (.fieldLink RX3 15 "DeeprowsModel$Row" "whats" "[I") (List.mem_cons_of_mem _ zw_1175)) (fun _ h9 => h9) rfl dX3_put_1 ?_
  refine lv_iload_n hx hb dX3_put_4 rfl (lv_at hl 1 rfl) ?_
  refine lv_iload_n hx hb dX3_put_5 rfl (lv_at hl 2 rfl) ?_
  refine va_iast (D := (dC, dI)) (cl := vwCl) hx hb hK hP hD (zS0 hS) 1 0 rfl rfl (by unfold vp_in; decide) dX3_put_6 (fun H1 locs hP hD hS1 => ?_)
  have hz : s.heap.size + 0 ≤ H1.size := Nat.le_trans hz hS1.1
  have hS := zSS hS hS1
  replace hP : va_P (dC, dI) vwCl [(a, .inr (8, [.int kd, .ref wa, .ref na])), (wa, .inl (cI, 3, .inl (upd fw 2 wt))), (na, .inl (cI, 3, .inl fn))] H1 := hP
  replace hD : va_D A [(a, .inr (8, [.int kd, .ref wa, .ref na])), (wa, .inl (cI, 3, .inl (upd fw 2 wt))), (na, .inl (cI, 3, .inl fn))] := hD
  refine lv_aload_n hx hb dX3_put_7 rfl (lv_at hl 0 rfl) ?_
  refine va_get (D := (dC, dI)) (ci := 8) (v := .ref na) (C := RX3) (T := TX3) (N := 3) hx hb hts hi_X3_put_X3 hown hK hP 0 rfl rfl 2 (by decide) (hts (.fieldLink RX3 19 "DeeprowsModel$Row" "numbers" "[I") (List.mem_cons_of_mem _ zw_1177)) (fun _ h9 => h9) rfl dX3_put_8 ?_
  refine lv_iload_n hx hb dX3_put_11 rfl (lv_at hl 1 rfl) ?_
  refine lv_iload_n hx hb dX3_put_12 rfl (lv_at hl 3 rfl) ?_
  refine va_iast (D := (dC, dI)) (cl := vwCl) hx hb hK hP hD (zS0 hS) 2 0 rfl rfl (by unfold vp_in; decide) dX3_put_13 (fun H2 locs hP hD hS1 => ?_)
  have hz : s.heap.size + 0 ≤ H2.size := Nat.le_trans hz hS1.1
  have hS := zSS hS hS1
  replace hP : va_P (dC, dI) vwCl [(a, .inr (8, [.int kd, .ref wa, .ref na])), (wa, .inl (cI, 3, .inl (upd fw 2 wt))), (na, .inl (cI, 3, .inl (upd fn 2 nm)))] H2 := hP
  replace hD : va_D A [(a, .inr (8, [.int kd, .ref wa, .ref na])), (wa, .inl (cI, 3, .inl (upd fw 2 wt))), (na, .inl (cI, 3, .inl (upd fn 2 nm)))] := hD
  have hP9 := hP.sub (ws' := [(a, .inr (8, [.int kd, .ref wa, .ref na])), (wa, .inl (cI, 3, .inl (upd fw 2 wt))), (na, .inl (cI, 3, .inl (upd fn 2 nm)))]) [0, 1, 2] rfl
  have hD9 := hD.sub (ws' := [(a, .inr (8, [.int kd, .ref wa, .ref na])), (wa, .inl (cI, 3, .inl (upd fw 2 wt))), (na, .inl (cI, 3, .inl (upd fn 2 nm)))]) [0, 1, 2] (by decide) rfl
  exact W.vret hx hb hr (fun t ht hW => ⟨⟨(), rfl, trivial, ⟨by rw [ht]; exact hP9, va_K.moved hW.alike hK, hD9, by rw [ht]; exact hz⟩⟩, hS.F ht⟩) hS.2.2 dX3_put_14

set_option maxHeartbeats 4000000 in
set_option maxRecDepth 100000 in
theorem k_mpZ4_0 (l : Launch) (dC : Nat → ClassId) (dI : Nat → Nat → Nat) (cI cB cR cO : ClassId) (zk : Nat → Nat) (a wa na : Nat) (kd wt nm : Int32) (fw fn : Nat → Int32) (sz : Nat)  : Met l yX3_put wsX3_put ({ frames := 0, cells := 0, slots := 0, locals := 0 }) (va_Pc [.ref a, .int 0, .int wt, .int nm] (zPre (dC, dI) (zT cI cB cR cO) zk [] [(a, .inr (8, [.int kd, .ref wa, .ref na])), (wa, .inl (cI, 4, .inl fw)), (na, .inl (cI, 4, .inl fn))] sz)) (va_Qv (fun _ : Unit => True) (fun _ t => zEnd (dC, dI) (zT cI cB cR cO) (va_A [(a, .inr (8, [.int kd, .ref wa, .ref na])), (wa, .inl (cI, 4, .inl fw)), (na, .inl (cI, 4, .inl fn))] sz) [(a, .inr (8, [.int kd, .ref wa, .ref na])), (wa, .inl (cI, 4, .inl (upd fw 0 wt))), (na, .inl (cI, 4, .inl (upd fn 0 nm)))] sz 0 t) (va_A [(a, .inr (8, [.int kd, .ref wa, .ref na])), (wa, .inl (cI, 4, .inl fw)), (na, .inl (cI, 4, .inl fn))] sz)) 0 0 (va_A [(a, .inr (8, [.int kd, .ref wa, .ref na])), (wa, .inl (cI, 4, .inl fw)), (na, .inl (cI, 4, .inl fn))] sz) := by
  refine Met.ofW (cc := cX3_put) (maxL := 4) (ret := none) (by decide) rfl ?_
  intro p e s mY args below meth c s₁ B hml hv
  obtain ⟨rfl, hsz, hP, hK, hD0, hZ⟩ := hv
  have hx := B.exec
  have hb := B.bytes
  have hr := B.returns
  have hts := atoms_spec (ws := wsX3_put) B.pre
  have hown : s.vm.findClass RX3 = some mY.cls := findClass_of_methodNamed B.named
  have hlocks := B.notSynchronized
  subst hsz
  have hD := hD0.self (sz := s.heap.size)
  generalize hAe : va_A [(a, .inr (8, [.int kd, .ref wa, .ref na])), (wa, .inl (cI, 4, .inl fw)), (na, .inl (cI, 4, .inl fn))] s.heap.size = A at hD hZ ⊢
  have hA : ∀ q : Nat, s.heap.size ≤ q → A q := fun q h => by rw [← hAe]; exact Or.inr h
  have hS : va_S A s.heap s.heap [] := va_S.rf
  have hz : s.heap.size + 0 ≤ s.heap.size := Nat.le_refl _
  have hl := lv_entry ([.ref a, .int 0, .int wt, .int nm]) (n := 4) (Nat.le_of_ble_eq_true rfl)
  rw [lg_entry_eq]
  generalize (lg_sl ([.ref a, .int 0, .int wt, .int nm]) ++ List.replicate (4 - (lg_sl ([.ref a, .int 0, .int wt, .int nm])).length) Slot.unset).toArray = ls at hl ⊢
  have hl : lv_has ls 4 [(0, .ref a), (1, .int 0), (2, .int wt), (3, .int nm)] := hl
  have hP : va_P (dC, dI) vwCl [(a, .inr (8, [.int kd, .ref wa, .ref na])), (wa, .inl (cI, 4, .inl fw)), (na, .inl (cI, 4, .inl fn))] s.heap := hP
  have hD : va_D A [(a, .inr (8, [.int kd, .ref wa, .ref na])), (wa, .inl (cI, 4, .inl fw)), (na, .inl (cI, 4, .inl fn))] := hD
  refine lv_aload_n hx hb dX3_put_0 rfl (lv_at hl 0 rfl) ?_
  refine va_get (D := (dC, dI)) (ci := 8) (v := .ref wa) (C := RX3) (T := TX3) (N := 3) hx hb hts hi_X3_put_X3 hown hK hP 0 rfl rfl 1 (by decide) (hts (.fieldLink RX3 15 "DeeprowsModel$Row" "whats" "[I") (List.mem_cons_of_mem _ zw_1175)) (fun _ h9 => h9) rfl dX3_put_1 ?_
  refine lv_iload_n hx hb dX3_put_4 rfl (lv_at hl 1 rfl) ?_
  refine lv_iload_n hx hb dX3_put_5 rfl (lv_at hl 2 rfl) ?_
  refine va_iast (D := (dC, dI)) (cl := vwCl) hx hb hK hP hD (zS0 hS) 1 0 rfl rfl (by unfold vp_in; decide) dX3_put_6 (fun H1 locs hP hD hS1 => ?_)
  have hz : s.heap.size + 0 ≤ H1.size := Nat.le_trans hz hS1.1
  have hS := zSS hS hS1
  replace hP : va_P (dC, dI) vwCl [(a, .inr (8, [.int kd, .ref wa, .ref na])), (wa, .inl (cI, 4, .inl (upd fw 0 wt))), (na, .inl (cI, 4, .inl fn))] H1 := hP
  replace hD : va_D A [(a, .inr (8, [.int kd, .ref wa, .ref na])), (wa, .inl (cI, 4, .inl (upd fw 0 wt))), (na, .inl (cI, 4, .inl fn))] := hD
  refine lv_aload_n hx hb dX3_put_7 rfl (lv_at hl 0 rfl) ?_
  refine va_get (D := (dC, dI)) (ci := 8) (v := .ref na) (C := RX3) (T := TX3) (N := 3) hx hb hts hi_X3_put_X3 hown hK hP 0 rfl rfl 2 (by decide) (hts (.fieldLink RX3 19 "DeeprowsModel$Row" "numbers" "[I") (List.mem_cons_of_mem _ zw_1177)) (fun _ h9 => h9) rfl dX3_put_8 ?_
  refine lv_iload_n hx hb dX3_put_11 rfl (lv_at hl 1 rfl) ?_
  refine lv_iload_n hx hb dX3_put_12 rfl (lv_at hl 3 rfl) ?_
  refine va_iast (D := (dC, dI)) (cl := vwCl) hx hb hK hP hD (zS0 hS) 2 0 rfl rfl (by unfold vp_in; decide) dX3_put_13 (fun H2 locs hP hD hS1 => ?_)
  have hz : s.heap.size + 0 ≤ H2.size := Nat.le_trans hz hS1.1
  have hS := zSS hS hS1
  replace hP : va_P (dC, dI) vwCl [(a, .inr (8, [.int kd, .ref wa, .ref na])), (wa, .inl (cI, 4, .inl (upd fw 0 wt))), (na, .inl (cI, 4, .inl (upd fn 0 nm)))] H2 := hP
  replace hD : va_D A [(a, .inr (8, [.int kd, .ref wa, .ref na])), (wa, .inl (cI, 4, .inl (upd fw 0 wt))), (na, .inl (cI, 4, .inl (upd fn 0 nm)))] := hD
  have hP9 := hP.sub (ws' := [(a, .inr (8, [.int kd, .ref wa, .ref na])), (wa, .inl (cI, 4, .inl (upd fw 0 wt))), (na, .inl (cI, 4, .inl (upd fn 0 nm)))]) [0, 1, 2] rfl
  have hD9 := hD.sub (ws' := [(a, .inr (8, [.int kd, .ref wa, .ref na])), (wa, .inl (cI, 4, .inl (upd fw 0 wt))), (na, .inl (cI, 4, .inl (upd fn 0 nm)))]) [0, 1, 2] (by decide) rfl
  exact W.vret hx hb hr (fun t ht hW => ⟨⟨(), rfl, trivial, ⟨by rw [ht]; exact hP9, va_K.moved hW.alike hK, hD9, by rw [ht]; exact hz⟩⟩, hS.F ht⟩) hS.2.2 dX3_put_14

set_option maxHeartbeats 4000000 in
set_option maxRecDepth 100000 in
theorem k_mpZ4_1 (l : Launch) (dC : Nat → ClassId) (dI : Nat → Nat → Nat) (cI cB cR cO : ClassId) (zk : Nat → Nat) (a wa na : Nat) (kd wt nm : Int32) (fw fn : Nat → Int32) (sz : Nat)  : Met l yX3_put wsX3_put ({ frames := 0, cells := 0, slots := 0, locals := 0 }) (va_Pc [.ref a, .int 1, .int wt, .int nm] (zPre (dC, dI) (zT cI cB cR cO) zk [] [(a, .inr (8, [.int kd, .ref wa, .ref na])), (wa, .inl (cI, 4, .inl fw)), (na, .inl (cI, 4, .inl fn))] sz)) (va_Qv (fun _ : Unit => True) (fun _ t => zEnd (dC, dI) (zT cI cB cR cO) (va_A [(a, .inr (8, [.int kd, .ref wa, .ref na])), (wa, .inl (cI, 4, .inl fw)), (na, .inl (cI, 4, .inl fn))] sz) [(a, .inr (8, [.int kd, .ref wa, .ref na])), (wa, .inl (cI, 4, .inl (upd fw 1 wt))), (na, .inl (cI, 4, .inl (upd fn 1 nm)))] sz 0 t) (va_A [(a, .inr (8, [.int kd, .ref wa, .ref na])), (wa, .inl (cI, 4, .inl fw)), (na, .inl (cI, 4, .inl fn))] sz)) 0 0 (va_A [(a, .inr (8, [.int kd, .ref wa, .ref na])), (wa, .inl (cI, 4, .inl fw)), (na, .inl (cI, 4, .inl fn))] sz) := by
  refine Met.ofW (cc := cX3_put) (maxL := 4) (ret := none) (by decide) rfl ?_
  intro p e s mY args below meth c s₁ B hml hv
  obtain ⟨rfl, hsz, hP, hK, hD0, hZ⟩ := hv
  have hx := B.exec
  have hb := B.bytes
  have hr := B.returns
  have hts := atoms_spec (ws := wsX3_put) B.pre
  have hown : s.vm.findClass RX3 = some mY.cls := findClass_of_methodNamed B.named
  have hlocks := B.notSynchronized
  subst hsz
  have hD := hD0.self (sz := s.heap.size)
  generalize hAe : va_A [(a, .inr (8, [.int kd, .ref wa, .ref na])), (wa, .inl (cI, 4, .inl fw)), (na, .inl (cI, 4, .inl fn))] s.heap.size = A at hD hZ ⊢
  have hA : ∀ q : Nat, s.heap.size ≤ q → A q := fun q h => by rw [← hAe]; exact Or.inr h
  have hS : va_S A s.heap s.heap [] := va_S.rf
  have hz : s.heap.size + 0 ≤ s.heap.size := Nat.le_refl _
  have hl := lv_entry ([.ref a, .int 1, .int wt, .int nm]) (n := 4) (Nat.le_of_ble_eq_true rfl)
  rw [lg_entry_eq]
  generalize (lg_sl ([.ref a, .int 1, .int wt, .int nm]) ++ List.replicate (4 - (lg_sl ([.ref a, .int 1, .int wt, .int nm])).length) Slot.unset).toArray = ls at hl ⊢
  have hl : lv_has ls 4 [(0, .ref a), (1, .int 1), (2, .int wt), (3, .int nm)] := hl
  have hP : va_P (dC, dI) vwCl [(a, .inr (8, [.int kd, .ref wa, .ref na])), (wa, .inl (cI, 4, .inl fw)), (na, .inl (cI, 4, .inl fn))] s.heap := hP
  have hD : va_D A [(a, .inr (8, [.int kd, .ref wa, .ref na])), (wa, .inl (cI, 4, .inl fw)), (na, .inl (cI, 4, .inl fn))] := hD
  refine lv_aload_n hx hb dX3_put_0 rfl (lv_at hl 0 rfl) ?_
  refine va_get (D := (dC, dI)) (ci := 8) (v := .ref wa) (C := RX3) (T := TX3) (N := 3) hx hb hts hi_X3_put_X3 hown hK hP 0 rfl rfl 1 (by decide) (hts (.fieldLink RX3 15 "DeeprowsModel$Row" "whats" "[I") (List.mem_cons_of_mem _ zw_1175)) (fun _ h9 => h9) rfl dX3_put_1 ?_
  refine lv_iload_n hx hb dX3_put_4 rfl (lv_at hl 1 rfl) ?_
  refine lv_iload_n hx hb dX3_put_5 rfl (lv_at hl 2 rfl) ?_
  refine va_iast (D := (dC, dI)) (cl := vwCl) hx hb hK hP hD (zS0 hS) 1 0 rfl rfl (by unfold vp_in; decide) dX3_put_6 (fun H1 locs hP hD hS1 => ?_)
  have hz : s.heap.size + 0 ≤ H1.size := Nat.le_trans hz hS1.1
  have hS := zSS hS hS1
  replace hP : va_P (dC, dI) vwCl [(a, .inr (8, [.int kd, .ref wa, .ref na])), (wa, .inl (cI, 4, .inl (upd fw 1 wt))), (na, .inl (cI, 4, .inl fn))] H1 := hP
  replace hD : va_D A [(a, .inr (8, [.int kd, .ref wa, .ref na])), (wa, .inl (cI, 4, .inl (upd fw 1 wt))), (na, .inl (cI, 4, .inl fn))] := hD
  refine lv_aload_n hx hb dX3_put_7 rfl (lv_at hl 0 rfl) ?_
  refine va_get (D := (dC, dI)) (ci := 8) (v := .ref na) (C := RX3) (T := TX3) (N := 3) hx hb hts hi_X3_put_X3 hown hK hP 0 rfl rfl 2 (by decide) (hts (.fieldLink RX3 19 "DeeprowsModel$Row" "numbers" "[I") (List.mem_cons_of_mem _ zw_1177)) (fun _ h9 => h9) rfl dX3_put_8 ?_
  refine lv_iload_n hx hb dX3_put_11 rfl (lv_at hl 1 rfl) ?_
  refine lv_iload_n hx hb dX3_put_12 rfl (lv_at hl 3 rfl) ?_
  refine va_iast (D := (dC, dI)) (cl := vwCl) hx hb hK hP hD (zS0 hS) 2 0 rfl rfl (by unfold vp_in; decide) dX3_put_13 (fun H2 locs hP hD hS1 => ?_)
  have hz : s.heap.size + 0 ≤ H2.size := Nat.le_trans hz hS1.1
  have hS := zSS hS hS1
  replace hP : va_P (dC, dI) vwCl [(a, .inr (8, [.int kd, .ref wa, .ref na])), (wa, .inl (cI, 4, .inl (upd fw 1 wt))), (na, .inl (cI, 4, .inl (upd fn 1 nm)))] H2 := hP
  replace hD : va_D A [(a, .inr (8, [.int kd, .ref wa, .ref na])), (wa, .inl (cI, 4, .inl (upd fw 1 wt))), (na, .inl (cI, 4, .inl (upd fn 1 nm)))] := hD
  have hP9 := hP.sub (ws' := [(a, .inr (8, [.int kd, .ref wa, .ref na])), (wa, .inl (cI, 4, .inl (upd fw 1 wt))), (na, .inl (cI, 4, .inl (upd fn 1 nm)))]) [0, 1, 2] rfl
  have hD9 := hD.sub (ws' := [(a, .inr (8, [.int kd, .ref wa, .ref na])), (wa, .inl (cI, 4, .inl (upd fw 1 wt))), (na, .inl (cI, 4, .inl (upd fn 1 nm)))]) [0, 1, 2] (by decide) rfl
  exact W.vret hx hb hr (fun t ht hW => ⟨⟨(), rfl, trivial, ⟨by rw [ht]; exact hP9, va_K.moved hW.alike hK, hD9, by rw [ht]; exact hz⟩⟩, hS.F ht⟩) hS.2.2 dX3_put_14

set_option maxHeartbeats 4000000 in
set_option maxRecDepth 100000 in
theorem k_mpZ4_2 (l : Launch) (dC : Nat → ClassId) (dI : Nat → Nat → Nat) (cI cB cR cO : ClassId) (zk : Nat → Nat) (a wa na : Nat) (kd wt nm : Int32) (fw fn : Nat → Int32) (sz : Nat)  : Met l yX3_put wsX3_put ({ frames := 0, cells := 0, slots := 0, locals := 0 }) (va_Pc [.ref a, .int 2, .int wt, .int nm] (zPre (dC, dI) (zT cI cB cR cO) zk [] [(a, .inr (8, [.int kd, .ref wa, .ref na])), (wa, .inl (cI, 4, .inl fw)), (na, .inl (cI, 4, .inl fn))] sz)) (va_Qv (fun _ : Unit => True) (fun _ t => zEnd (dC, dI) (zT cI cB cR cO) (va_A [(a, .inr (8, [.int kd, .ref wa, .ref na])), (wa, .inl (cI, 4, .inl fw)), (na, .inl (cI, 4, .inl fn))] sz) [(a, .inr (8, [.int kd, .ref wa, .ref na])), (wa, .inl (cI, 4, .inl (upd fw 2 wt))), (na, .inl (cI, 4, .inl (upd fn 2 nm)))] sz 0 t) (va_A [(a, .inr (8, [.int kd, .ref wa, .ref na])), (wa, .inl (cI, 4, .inl fw)), (na, .inl (cI, 4, .inl fn))] sz)) 0 0 (va_A [(a, .inr (8, [.int kd, .ref wa, .ref na])), (wa, .inl (cI, 4, .inl fw)), (na, .inl (cI, 4, .inl fn))] sz) := by
  refine Met.ofW (cc := cX3_put) (maxL := 4) (ret := none) (by decide) rfl ?_
  intro p e s mY args below meth c s₁ B hml hv
  obtain ⟨rfl, hsz, hP, hK, hD0, hZ⟩ := hv
  have hx := B.exec
  have hb := B.bytes
  have hr := B.returns
  have hts := atoms_spec (ws := wsX3_put) B.pre
  have hown : s.vm.findClass RX3 = some mY.cls := findClass_of_methodNamed B.named
  have hlocks := B.notSynchronized
  subst hsz
  have hD := hD0.self (sz := s.heap.size)
  generalize hAe : va_A [(a, .inr (8, [.int kd, .ref wa, .ref na])), (wa, .inl (cI, 4, .inl fw)), (na, .inl (cI, 4, .inl fn))] s.heap.size = A at hD hZ ⊢
  have hA : ∀ q : Nat, s.heap.size ≤ q → A q := fun q h => by rw [← hAe]; exact Or.inr h
  have hS : va_S A s.heap s.heap [] := va_S.rf
  have hz : s.heap.size + 0 ≤ s.heap.size := Nat.le_refl _
  have hl := lv_entry ([.ref a, .int 2, .int wt, .int nm]) (n := 4) (Nat.le_of_ble_eq_true rfl)
  rw [lg_entry_eq]
  generalize (lg_sl ([.ref a, .int 2, .int wt, .int nm]) ++ List.replicate (4 - (lg_sl ([.ref a, .int 2, .int wt, .int nm])).length) Slot.unset).toArray = ls at hl ⊢
  have hl : lv_has ls 4 [(0, .ref a), (1, .int 2), (2, .int wt), (3, .int nm)] := hl
  have hP : va_P (dC, dI) vwCl [(a, .inr (8, [.int kd, .ref wa, .ref na])), (wa, .inl (cI, 4, .inl fw)), (na, .inl (cI, 4, .inl fn))] s.heap := hP
  have hD : va_D A [(a, .inr (8, [.int kd, .ref wa, .ref na])), (wa, .inl (cI, 4, .inl fw)), (na, .inl (cI, 4, .inl fn))] := hD
  refine lv_aload_n hx hb dX3_put_0 rfl (lv_at hl 0 rfl) ?_
  refine va_get (D := (dC, dI)) (ci := 8) (v := .ref wa) (C := RX3) (T := TX3) (N := 3) hx hb hts hi_X3_put_X3 hown hK hP 0 rfl rfl 1 (by decide) (hts (.fieldLink RX3 15 "DeeprowsModel$Row" "whats" "[I") (List.mem_cons_of_mem _ zw_1175)) (fun _ h9 => h9) rfl dX3_put_1 ?_
  refine lv_iload_n hx hb dX3_put_4 rfl (lv_at hl 1 rfl) ?_
  refine lv_iload_n hx hb dX3_put_5 rfl (lv_at hl 2 rfl) ?_
  refine va_iast (D := (dC, dI)) (cl := vwCl) hx hb hK hP hD (zS0 hS) 1 0 rfl rfl (by unfold vp_in; decide) dX3_put_6 (fun H1 locs hP hD hS1 => ?_)
  have hz : s.heap.size + 0 ≤ H1.size := Nat.le_trans hz hS1.1
  have hS := zSS hS hS1
  replace hP : va_P (dC, dI) vwCl [(a, .inr (8, [.int kd, .ref wa, .ref na])), (wa, .inl (cI, 4, .inl (upd fw 2 wt))), (na, .inl (cI, 4, .inl fn))] H1 := hP
  replace hD : va_D A [(a, .inr (8, [.int kd, .ref wa, .ref na])), (wa, .inl (cI, 4, .inl (upd fw 2 wt))), (na, .inl (cI, 4, .inl fn))] := hD
  refine lv_aload_n hx hb dX3_put_7 rfl (lv_at hl 0 rfl) ?_
  refine va_get (D := (dC, dI)) (ci := 8) (v := .ref na) (C := RX3) (T := TX3) (N := 3) hx hb hts hi_X3_put_X3 hown hK hP 0 rfl rfl 2 (by decide) (hts (.fieldLink RX3 19 "DeeprowsModel$Row" "numbers" "[I") (List.mem_cons_of_mem _ zw_1177)) (fun _ h9 => h9) rfl dX3_put_8 ?_
  refine lv_iload_n hx hb dX3_put_11 rfl (lv_at hl 1 rfl) ?_
  refine lv_iload_n hx hb dX3_put_12 rfl (lv_at hl 3 rfl) ?_
  refine va_iast (D := (dC, dI)) (cl := vwCl) hx hb hK hP hD (zS0 hS) 2 0 rfl rfl (by unfold vp_in; decide) dX3_put_13 (fun H2 locs hP hD hS1 => ?_)
  have hz : s.heap.size + 0 ≤ H2.size := Nat.le_trans hz hS1.1
  have hS := zSS hS hS1
  replace hP : va_P (dC, dI) vwCl [(a, .inr (8, [.int kd, .ref wa, .ref na])), (wa, .inl (cI, 4, .inl (upd fw 2 wt))), (na, .inl (cI, 4, .inl (upd fn 2 nm)))] H2 := hP
  replace hD : va_D A [(a, .inr (8, [.int kd, .ref wa, .ref na])), (wa, .inl (cI, 4, .inl (upd fw 2 wt))), (na, .inl (cI, 4, .inl (upd fn 2 nm)))] := hD
  have hP9 := hP.sub (ws' := [(a, .inr (8, [.int kd, .ref wa, .ref na])), (wa, .inl (cI, 4, .inl (upd fw 2 wt))), (na, .inl (cI, 4, .inl (upd fn 2 nm)))]) [0, 1, 2] rfl
  have hD9 := hD.sub (ws' := [(a, .inr (8, [.int kd, .ref wa, .ref na])), (wa, .inl (cI, 4, .inl (upd fw 2 wt))), (na, .inl (cI, 4, .inl (upd fn 2 nm)))]) [0, 1, 2] (by decide) rfl
  exact W.vret hx hb hr (fun t ht hW => ⟨⟨(), rfl, trivial, ⟨by rw [ht]; exact hP9, va_K.moved hW.alike hK, hD9, by rw [ht]; exact hz⟩⟩, hS.F ht⟩) hS.2.2 dX3_put_14

set_option maxHeartbeats 4000000 in
set_option maxRecDepth 100000 in
theorem k_mpZ4_3 (l : Launch) (dC : Nat → ClassId) (dI : Nat → Nat → Nat) (cI cB cR cO : ClassId) (zk : Nat → Nat) (a wa na : Nat) (kd wt nm : Int32) (fw fn : Nat → Int32) (sz : Nat)  : Met l yX3_put wsX3_put ({ frames := 0, cells := 0, slots := 0, locals := 0 }) (va_Pc [.ref a, .int 3, .int wt, .int nm] (zPre (dC, dI) (zT cI cB cR cO) zk [] [(a, .inr (8, [.int kd, .ref wa, .ref na])), (wa, .inl (cI, 4, .inl fw)), (na, .inl (cI, 4, .inl fn))] sz)) (va_Qv (fun _ : Unit => True) (fun _ t => zEnd (dC, dI) (zT cI cB cR cO) (va_A [(a, .inr (8, [.int kd, .ref wa, .ref na])), (wa, .inl (cI, 4, .inl fw)), (na, .inl (cI, 4, .inl fn))] sz) [(a, .inr (8, [.int kd, .ref wa, .ref na])), (wa, .inl (cI, 4, .inl (upd fw 3 wt))), (na, .inl (cI, 4, .inl (upd fn 3 nm)))] sz 0 t) (va_A [(a, .inr (8, [.int kd, .ref wa, .ref na])), (wa, .inl (cI, 4, .inl fw)), (na, .inl (cI, 4, .inl fn))] sz)) 0 0 (va_A [(a, .inr (8, [.int kd, .ref wa, .ref na])), (wa, .inl (cI, 4, .inl fw)), (na, .inl (cI, 4, .inl fn))] sz) := by
  refine Met.ofW (cc := cX3_put) (maxL := 4) (ret := none) (by decide) rfl ?_
  intro p e s mY args below meth c s₁ B hml hv
  obtain ⟨rfl, hsz, hP, hK, hD0, hZ⟩ := hv
  have hx := B.exec
  have hb := B.bytes
  have hr := B.returns
  have hts := atoms_spec (ws := wsX3_put) B.pre
  have hown : s.vm.findClass RX3 = some mY.cls := findClass_of_methodNamed B.named
  have hlocks := B.notSynchronized
  subst hsz
  have hD := hD0.self (sz := s.heap.size)
  generalize hAe : va_A [(a, .inr (8, [.int kd, .ref wa, .ref na])), (wa, .inl (cI, 4, .inl fw)), (na, .inl (cI, 4, .inl fn))] s.heap.size = A at hD hZ ⊢
  have hA : ∀ q : Nat, s.heap.size ≤ q → A q := fun q h => by rw [← hAe]; exact Or.inr h
  have hS : va_S A s.heap s.heap [] := va_S.rf
  have hz : s.heap.size + 0 ≤ s.heap.size := Nat.le_refl _
  have hl := lv_entry ([.ref a, .int 3, .int wt, .int nm]) (n := 4) (Nat.le_of_ble_eq_true rfl)
  rw [lg_entry_eq]
  generalize (lg_sl ([.ref a, .int 3, .int wt, .int nm]) ++ List.replicate (4 - (lg_sl ([.ref a, .int 3, .int wt, .int nm])).length) Slot.unset).toArray = ls at hl ⊢
  have hl : lv_has ls 4 [(0, .ref a), (1, .int 3), (2, .int wt), (3, .int nm)] := hl
  have hP : va_P (dC, dI) vwCl [(a, .inr (8, [.int kd, .ref wa, .ref na])), (wa, .inl (cI, 4, .inl fw)), (na, .inl (cI, 4, .inl fn))] s.heap := hP
  have hD : va_D A [(a, .inr (8, [.int kd, .ref wa, .ref na])), (wa, .inl (cI, 4, .inl fw)), (na, .inl (cI, 4, .inl fn))] := hD
  refine lv_aload_n hx hb dX3_put_0 rfl (lv_at hl 0 rfl) ?_
  refine va_get (D := (dC, dI)) (ci := 8) (v := .ref wa) (C := RX3) (T := TX3) (N := 3) hx hb hts hi_X3_put_X3 hown hK hP 0 rfl rfl 1 (by decide) (hts (.fieldLink RX3 15 "DeeprowsModel$Row" "whats" "[I") (List.mem_cons_of_mem _ zw_1175)) (fun _ h9 => h9) rfl dX3_put_1 ?_
  refine lv_iload_n hx hb dX3_put_4 rfl (lv_at hl 1 rfl) ?_
  refine lv_iload_n hx hb dX3_put_5 rfl (lv_at hl 2 rfl) ?_
  refine va_iast (D := (dC, dI)) (cl := vwCl) hx hb hK hP hD (zS0 hS) 1 0 rfl rfl (by unfold vp_in; decide) dX3_put_6 (fun H1 locs hP hD hS1 => ?_)
  have hz : s.heap.size + 0 ≤ H1.size := Nat.le_trans hz hS1.1
  have hS := zSS hS hS1
  replace hP : va_P (dC, dI) vwCl [(a, .inr (8, [.int kd, .ref wa, .ref na])), (wa, .inl (cI, 4, .inl (upd fw 3 wt))), (na, .inl (cI, 4, .inl fn))] H1 := hP
  replace hD : va_D A [(a, .inr (8, [.int kd, .ref wa, .ref na])), (wa, .inl (cI, 4, .inl (upd fw 3 wt))), (na, .inl (cI, 4, .inl fn))] := hD
  refine lv_aload_n hx hb dX3_put_7 rfl (lv_at hl 0 rfl) ?_
  refine va_get (D := (dC, dI)) (ci := 8) (v := .ref na) (C := RX3) (T := TX3) (N := 3) hx hb hts hi_X3_put_X3 hown hK hP 0 rfl rfl 2 (by decide) (hts (.fieldLink RX3 19 "DeeprowsModel$Row" "numbers" "[I") (List.mem_cons_of_mem _ zw_1177)) (fun _ h9 => h9) rfl dX3_put_8 ?_
  refine lv_iload_n hx hb dX3_put_11 rfl (lv_at hl 1 rfl) ?_
  refine lv_iload_n hx hb dX3_put_12 rfl (lv_at hl 3 rfl) ?_
  refine va_iast (D := (dC, dI)) (cl := vwCl) hx hb hK hP hD (zS0 hS) 2 0 rfl rfl (by unfold vp_in; decide) dX3_put_13 (fun H2 locs hP hD hS1 => ?_)
  have hz : s.heap.size + 0 ≤ H2.size := Nat.le_trans hz hS1.1
  have hS := zSS hS hS1
  replace hP : va_P (dC, dI) vwCl [(a, .inr (8, [.int kd, .ref wa, .ref na])), (wa, .inl (cI, 4, .inl (upd fw 3 wt))), (na, .inl (cI, 4, .inl (upd fn 3 nm)))] H2 := hP
  replace hD : va_D A [(a, .inr (8, [.int kd, .ref wa, .ref na])), (wa, .inl (cI, 4, .inl (upd fw 3 wt))), (na, .inl (cI, 4, .inl (upd fn 3 nm)))] := hD
  have hP9 := hP.sub (ws' := [(a, .inr (8, [.int kd, .ref wa, .ref na])), (wa, .inl (cI, 4, .inl (upd fw 3 wt))), (na, .inl (cI, 4, .inl (upd fn 3 nm)))]) [0, 1, 2] rfl
  have hD9 := hD.sub (ws' := [(a, .inr (8, [.int kd, .ref wa, .ref na])), (wa, .inl (cI, 4, .inl (upd fw 3 wt))), (na, .inl (cI, 4, .inl (upd fn 3 nm)))]) [0, 1, 2] (by decide) rfl
  exact W.vret hx hb hr (fun t ht hW => ⟨⟨(), rfl, trivial, ⟨by rw [ht]; exact hP9, va_K.moved hW.alike hK, hD9, by rw [ht]; exact hz⟩⟩, hS.F ht⟩) hS.2.2 dX3_put_14

theorem hi_X3_init_X3 : ∀ w ∈ u_ws RX3 TX3 3, w ∈ wsX3_init := fun w h => List.mem_cons_of_mem _ (zhi_X3 w h)
set_option maxHeartbeats 4000000 in
set_option maxRecDepth 100000 in
theorem k_mI04 (l : Launch) (dC : Nat → ClassId) (dI : Nat → Nat → Nat) (cI cB cR cO : ClassId) (zk : Nat → Nat) (a : Nat) (sz : Nat)  : Met l yX3_init wsX3_init ({ frames := 1, cells := 2, slots := 0, locals := 60 }) (va_Pc [.ref a, .int 4, .int 0] (zPre (dC, dI) (zT cI cB cR cO) zk [] [(a, .inr (8, [.int 0, .null, .null]))] sz)) (va_Qv (fun _ : Unit => True) (fun _ t => ∃ wa, ∃ na, zEnd (dC, dI) (zT cI cB cR cO) (va_A [(a, .inr (8, [.int 0, .null, .null]))] sz) [(a, .inr (8, [.int 4, .ref wa, .ref na]))] sz 2 t) (va_A [(a, .inr (8, [.int 0, .null, .null]))] sz)) 2 0 (va_A [(a, .inr (8, [.int 0, .null, .null]))] sz) := by
  refine Met.ofW (cc := cX3_init) (maxL := 4) (ret := none) (by decide) rfl ?_
  intro p e s mY args below meth c s₁ B hml hv
  obtain ⟨rfl, hsz, hP, hK, hD0, hZ⟩ := hv
  have hx := B.exec
  have hb := B.bytes
  have hr := B.returns
  have hts := atoms_spec (ws := wsX3_init) B.pre
  have hown : s.vm.findClass RX3 = some mY.cls := findClass_of_methodNamed B.named
  have hlocks := B.notSynchronized
  have hin : meth.name = "<init>" := (name_of_methodNamed B.named B.method).1
  subst hsz
  have hD := hD0.self (sz := s.heap.size)
  generalize hAe : va_A [(a, .inr (8, [.int 0, .null, .null]))] s.heap.size = A at hD hZ ⊢
  have hA : ∀ q : Nat, s.heap.size ≤ q → A q := fun q h => by rw [← hAe]; exact Or.inr h
  have hS : va_S A s.heap s.heap [] := va_S.rf
  have hz : s.heap.size + 0 ≤ s.heap.size := Nat.le_refl _
  have hl := lv_entry ([.ref a, .int 4, .int 0]) (n := 4) (Nat.le_of_ble_eq_true rfl)
  rw [lg_entry_eq]
  generalize (lg_sl ([.ref a, .int 4, .int 0]) ++ List.replicate (4 - (lg_sl ([.ref a, .int 4, .int 0])).length) Slot.unset).toArray = ls at hl ⊢
  have hl : lv_has ls 4 [(0, .ref a), (1, .int 4), (2, .int 0)] := hl
  have hP : va_P (dC, dI) vwCl [(a, .inr (8, [.int 0, .null, .null]))] s.heap := hP
  have hD : va_D A [(a, .inr (8, [.int 0, .null, .null]))] := hD
  refine lv_aload_n hx hb dX3_init_0 rfl (lv_at hl 0 rfl) ?_
  refine W.objInit hx hb hown (hts (.methodLink RX3 3 objectInit) (List.mem_cons_of_mem _ zw_1168)) (hts (.instanceMethod objectInit) (List.mem_cons_of_mem _ zw_71)) (hts (.code objectInit ⟨#[0xb1]⟩ 1 none) (List.mem_cons_of_mem _ zw_72)) rfl (by rw [hml]; exact hl.1) rfl dX3_init_1 (Nat.le_of_ble_eq_true rfl) (Nat.le_of_ble_eq_true rfl) ?_
  refine W.eq (g2 := F0 mY 4 ls []) rfl ?_
  refine lv_aload_n hx hb dX3_init_4 rfl (lv_at hl 0 rfl) ?_
  refine lv_iload_n hx hb dX3_init_5 rfl (lv_at hl 1 rfl) ?_
  refine va_putF (D := (dC, dI)) (ci := 8) (v := .int 4) (ty := .int) (C := RX3) (T := TX3) (N := 3) hx hb hts hi_X3_init_X3 tyX3 tyX3_ok nmX3 hown hK hP hD (zS0 hS) 0 rfl rfl 0 (by decide) (hts (.fieldLink RX3 9 "DeeprowsModel$Row" "kind" "I") (List.mem_cons_of_mem _ zw_1173)) (fun _ h9 => h9) rfl hin rfl (by decide +kernel) rfl rfl (Nat.le_of_ble_eq_true rfl) dX3_init_6 (fun H1 locs hP hD hS1 => ?_)
  have hz : s.heap.size + 0 ≤ H1.size := Nat.le_trans hz hS1.1
  have hS := zSS hS hS1
  replace hP : va_P (dC, dI) vwCl [(a, .inr (8, [.int 4, .null, .null]))] H1 := hP
  replace hD : va_D A [(a, .inr (8, [.int 4, .null, .null]))] := hD
  refine lv_aload_n hx hb dX3_init_9 rfl (lv_at hl 0 rfl) ?_
  refine lv_iload_n hx hb dX3_init_10 rfl (lv_at hl 2 rfl) ?_
  refine zw_newa (atype := .int) (ty := .int) (N' := 0) hx hb (hts (.arrayClass .int) (List.mem_cons_of_mem _ zw_131)) rfl (by first | exact Or.inl rfl | exact Or.inr rfl) hK hP hD hS hA 0 rfl (by decide) (by decide) (Nat.le_of_ble_eq_true rfl) (Nat.le_of_ble_eq_true rfl) (Nat.le_of_ble_eq_true rfl) dX3_init_11 hz (fun q2 H3 hP hD hS hz => ?_)
  replace hP : va_P (dC, dI) vwCl [(a, .inr (8, [.int 4, .null, .null])), (q2, .inl (cI, 0, .inl (fun _ => 0)))] H3 := hP
  replace hD : va_D A [(a, .inr (8, [.int 4, .null, .null])), (q2, .inl (cI, 0, .inl (fun _ => 0)))] := hD
  refine W.widen (k := 1) (n := 0) (by omega) (by omega) ?_
  refine va_putF (D := (dC, dI)) (ci := 8) (v := .ref q2) (ty := .array .int) (C := RX3) (T := TX3) (N := 3) hx hb hts hi_X3_init_X3 tyX3 tyX3_ok nmX3 hown hK hP hD (zS0 hS) 0 rfl rfl 1 (by decide) (hts (.fieldLink RX3 15 "DeeprowsModel$Row" "whats" "[I") (List.mem_cons_of_mem _ zw_1175)) (fun _ h9 => h9) rfl hin rfl (by decide +kernel) rfl rfl (Nat.le_of_ble_eq_true rfl) dX3_init_13 (fun H4 locs hP hD hS1 => ?_)
  have hz : s.heap.size + 1 ≤ H4.size := Nat.le_trans hz hS1.1
  have hS := zSS hS hS1
  replace hP : va_P (dC, dI) vwCl [(a, .inr (8, [.int 4, .ref q2, .null])), (q2, .inl (cI, 0, .inl (fun _ => 0)))] H4 := hP
  replace hD : va_D A [(a, .inr (8, [.int 4, .ref q2, .null])), (q2, .inl (cI, 0, .inl (fun _ => 0)))] := hD
  refine lv_aload_n hx hb dX3_init_16 rfl (lv_at hl 0 rfl) ?_
  refine lv_iload_n hx hb dX3_init_17 rfl (lv_at hl 2 rfl) ?_
  refine zw_newa (atype := .int) (ty := .int) (N' := 0) hx hb (hts (.arrayClass .int) (List.mem_cons_of_mem _ zw_131)) rfl (by first | exact Or.inl rfl | exact Or.inr rfl) hK hP hD hS hA 0 rfl (by decide) (by decide) (Nat.le_of_ble_eq_true rfl) (Nat.le_of_ble_eq_true rfl) (Nat.le_of_ble_eq_true rfl) dX3_init_18 hz (fun q5 H6 hP hD hS hz => ?_)
  replace hP : va_P (dC, dI) vwCl [(a, .inr (8, [.int 4, .ref q2, .null])), (q2, .inl (cI, 0, .inl (fun _ => 0))), (q5, .inl (cI, 0, .inl (fun _ => 0)))] H6 := hP
  replace hD : va_D A [(a, .inr (8, [.int 4, .ref q2, .null])), (q2, .inl (cI, 0, .inl (fun _ => 0))), (q5, .inl (cI, 0, .inl (fun _ => 0)))] := hD
  refine W.widen (k := 2) (n := 0) (by omega) (by omega) ?_
  refine va_putF (D := (dC, dI)) (ci := 8) (v := .ref q5) (ty := .array .int) (C := RX3) (T := TX3) (N := 3) hx hb hts hi_X3_init_X3 tyX3 tyX3_ok nmX3 hown hK hP hD (zS0 hS) 0 rfl rfl 2 (by decide) (hts (.fieldLink RX3 19 "DeeprowsModel$Row" "numbers" "[I") (List.mem_cons_of_mem _ zw_1177)) (fun _ h9 => h9) rfl hin rfl (by decide +kernel) rfl rfl (Nat.le_of_ble_eq_true rfl) dX3_init_20 (fun H7 locs hP hD hS1 => ?_)
  have hz : s.heap.size + 2 ≤ H7.size := Nat.le_trans hz hS1.1
  have hS := zSS hS hS1
  replace hP : va_P (dC, dI) vwCl [(a, .inr (8, [.int 4, .ref q2, .ref q5])), (q2, .inl (cI, 0, .inl (fun _ => 0))), (q5, .inl (cI, 0, .inl (fun _ => 0)))] H7 := hP
  replace hD : va_D A [(a, .inr (8, [.int 4, .ref q2, .ref q5])), (q2, .inl (cI, 0, .inl (fun _ => 0))), (q5, .inl (cI, 0, .inl (fun _ => 0)))] := hD
  refine lv_iconst (v := 0) hx hb dX3_init_23 (by decide) ?_
  refine lv_istore_n (lv' := [(3, .int 0), (0, .ref a), (1, .int 4), (2, .int 0)]) hx hb dX3_init_24 rfl hl (by decide) rfl (fun ls hl => ?_)
  refine lv_iload_n hx hb dX3_init_25 rfl (lv_at hl 0 rfl) ?_
  refine lv_iload_n hx hb dX3_init_26 rfl (lv_at hl 3 rfl) ?_
  refine lv_icmp_ge (tgt := 61) hx hb dX3_init_27 (by decide) (fun c9 => ?_) (fun c9 => ?_)
  rotate_left
  · exact absurd (by decide) c9
  have hP9 := hP.sub (ws' := [(a, .inr (8, [.int 4, .ref q2, .ref q5]))]) [0] rfl
  have hD9 := hD.sub (ws' := [(a, .inr (8, [.int 4, .ref q2, .ref q5]))]) [0] (by decide) rfl
  exact W.vret hx hb hr (fun t ht hW => ⟨⟨(), rfl, trivial, ⟨_, _, ⟨by rw [ht]; exact hP9, va_K.moved hW.alike hK, hD9, by rw [ht]; exact hz⟩⟩⟩, hS.F ht⟩) hS.2.2 dX3_init_61

theorem hi_X4_make_X4 : ∀ w ∈ u_ws RX4 TX4 5, w ∈ wsX4_make := fun w h => List.mem_cons_of_mem _ (zhi_X4 w h)
theorem hi_X4_make_X3 : ∀ w ∈ u_ws RX3 TX3 3, w ∈ wsX4_make := fun w h => List.mem_cons_of_mem _ (zhi_X3 w h)
set_option maxHeartbeats 4000000 in
set_option maxRecDepth 100000 in
theorem k_mkM04 (l : Launch) (dC : Nat → ClassId) (dI : Nat → Nat → Nat) (cI cB cR cO : ClassId) (zk : Nat → Nat) (mo am : Nat) (th : Value) (mm : Int32) (sz : Nat)  : Met l yX4_make wsX4_make ({ frames := 5, cells := 4, slots := 13, locals := 127 }) (va_Pc [.ref mo, .int 4, .int 0] (zPre (dC, dI) (zT cI cB cR cO) zk [] [(mo, .inr (9, [th, .ref am, .int 0, .int 0, .int 0])), (am, .inr (4, [.int mm, .ref (zk 0), .int 0]))] sz)) (va_Qi (fun r (_ : Unit) => r = 0) (fun _ t => zEnd (dC, dI) (zT cI cB cR cO) (va_A [(mo, .inr (9, [th, .ref am, .int 0, .int 0, .int 0])), (am, .inr (4, [.int mm, .ref (zk 0), .int 0]))] sz) [(mo, .inr (9, [.int 0, .ref am, .int 0, .int 0, .int 0]))] sz 4 t) (va_A [(mo, .inr (9, [th, .ref am, .int 0, .int 0, .int 0])), (am, .inr (4, [.int mm, .ref (zk 0), .int 0]))] sz)) 4 13 (va_A [(mo, .inr (9, [th, .ref am, .int 0, .int 0, .int 0])), (am, .inr (4, [.int mm, .ref (zk 0), .int 0]))] sz) := by
  refine Met.ofW (cc := cX4_make) (maxL := 3) (ret := (some .int)) (by decide) rfl ?_
  intro p e s mY args below meth c s₁ B hml hv
  obtain ⟨rfl, hsz, hP, hK, hD0, hZ⟩ := hv
  have hx := B.exec
  have hb := B.bytes
  have hr := B.returns
  have hts := atoms_spec (ws := wsX4_make) B.pre
  have hown : s.vm.findClass RX4 = some mY.cls := findClass_of_methodNamed B.named
  have hlocks := B.notSynchronized
  subst hsz
  have hD := hD0.self (sz := s.heap.size)
  generalize hAe : va_A [(mo, .inr (9, [th, .ref am, .int 0, .int 0, .int 0])), (am, .inr (4, [.int mm, .ref (zk 0), .int 0]))] s.heap.size = A at hD hZ ⊢
  have hA : ∀ q : Nat, s.heap.size ≤ q → A q := fun q h => by rw [← hAe]; exact Or.inr h
  have hS : va_S A s.heap s.heap [] := va_S.rf
  have hz : s.heap.size + 0 ≤ s.heap.size := Nat.le_refl _
  have hl := lv_entry ([.ref mo, .int 4, .int 0]) (n := 3) (Nat.le_of_ble_eq_true rfl)
  rw [lg_entry_eq]
  generalize (lg_sl ([.ref mo, .int 4, .int 0]) ++ List.replicate (3 - (lg_sl ([.ref mo, .int 4, .int 0])).length) Slot.unset).toArray = ls at hl ⊢
  have hl : lv_has ls 3 [(0, .ref mo), (1, .int 4), (2, .int 0)] := hl
  have hP : va_P (dC, dI) vwCl [(mo, .inr (9, [th, .ref am, .int 0, .int 0, .int 0])), (am, .inr (4, [.int mm, .ref (zk 0), .int 0]))] s.heap := hP
  have hD : va_D A [(mo, .inr (9, [th, .ref am, .int 0, .int 0, .int 0])), (am, .inr (4, [.int mm, .ref (zk 0), .int 0]))] := hD
  refine lv_aload_n hx hb dX4_make_0 rfl (lv_at hl 0 rfl) ?_
  refine lv_iload_n hx hb dX4_make_1 rfl (lv_at hl 1 rfl) ?_
  refine lv_iconst (v := 0) hx hb dX4_make_2 (by decide) ?_
  refine lv_iconst (v := 4) hx hb dX4_make_3 (by decide) ?_
  have hPc := hP.sub (ws' := []) [] rfl
  have hDc := hD.sub (ws' := []) [] (by decide) rfl
  have hFc := va_free (wc := []) hD hS hA [] rfl
  have hDv := hDc.self (sz := s.heap.size)
  have hpre := zpre (xs' := []) (av := [.int 4, .int 0, .int 4]) hPc hK (hDc.weaken (fun _ _ _ h => h)) hZ hS hFc (fun r hr => by cases hr)
  refine va_calli (va_runS (As := [.int 4, .int 0, .int 4]) (rest := [.ref mo]) ⟨hx, hb, hml, hown, hts⟩ (k_isIn4_4 l dC dI cI cB cR cO zk  s.heap.size ) (va_cwS 3 hts gX4_make_X4_isIn rfl rfl rfl (by decide +kernel) ⟨Nat.le_of_ble_eq_true rfl, Nat.le_of_ble_eq_true rfl⟩) ⟨zblind, hpre⟩ rfl rfl hl.1 rfl (lv_room (Nat.le_of_ble_eq_true rfl)) dX4_make_4 ⟨Nat.le_of_ble_eq_true rfl, Nat.le_of_ble_eq_true rfl⟩) hS (fun q _ h => hFc q h) hFc (fun r2 u t H1 locs ht hvm hw hB hz1 hk1 hS => ?_)
  obtain rfl : 1 = r2 := (show r2 = 1 from hw).symm
  obtain ⟨hP1, hK1, hD1, hz2⟩ := hB
  rw [ht] at hP1 hz2
  have hPD9 := va_join (wr := [(mo, .inr (9, [th, .ref am, .int 0, .int 0, .int 0])), (am, .inr (4, [.int mm, .ref (zk 0), .int 0]))]) (w1 := []) hP hD [] [0, 1] rfl rfl (by decide) (by decide) hk1 hFc hP1 hD1
  clear hPc hDc hFc hDv hpre hP hD hP1 hK1 hD1
  obtain ⟨hP, hD⟩ := hPD9
  replace hz : s.heap.size + 0 ≤ H1.size := by omega
  clear hz2
  replace hP : va_P (dC, dI) vwCl [(mo, .inr (9, [th, .ref am, .int 0, .int 0, .int 0])), (am, .inr (4, [.int mm, .ref (zk 0), .int 0]))] H1 := hP
  replace hD : va_D A [(mo, .inr (9, [th, .ref am, .int 0, .int 0, .int 0])), (am, .inr (4, [.int mm, .ref (zk 0), .int 0]))] := hD
  refine W.widen (k := 0) (n := 0) (by omega) (by omega) ?_
  refine lv_if_eq (tgt := 19) hx hb dX4_make_7 (by decide) (fun c9 => ?_) (fun c9 => ?_)
  · exact absurd c9 (by decide)
  refine lv_iload_n hx hb dX4_make_10 rfl (lv_at hl 2 rfl) ?_
  refine lv_iconst (v := 0) hx hb dX4_make_11 (by decide) ?_
  refine lv_iconst (v := 4) hx hb dX4_make_12 (by decide) ?_
  have hPc := hP.sub (ws' := []) [] rfl
  have hDc := hD.sub (ws' := []) [] (by decide) rfl
  have hFc := va_free (wc := []) hD hS hA [] rfl
  have hDv := hDc.self (sz := H1.size)
  have hpre := zpre (xs' := []) (av := [.int 0, .int 0, .int 4]) hPc hK (hDc.weaken (fun _ _ _ h => h)) hZ hS hFc (fun r hr => by cases hr)
  refine va_calli (va_runS (As := [.int 0, .int 0, .int 4]) (rest := [.ref mo]) ⟨hx, hb, hml, hown, hts⟩ (k_isIn4_0 l dC dI cI cB cR cO zk  H1.size ) (va_cwS 3 hts gX4_make_X4_isIn rfl rfl rfl (by decide +kernel) ⟨Nat.le_of_ble_eq_true rfl, Nat.le_of_ble_eq_true rfl⟩) ⟨zblind, hpre⟩ rfl rfl hl.1 rfl (lv_room (Nat.le_of_ble_eq_true rfl)) dX4_make_13 ⟨Nat.le_of_ble_eq_true rfl, Nat.le_of_ble_eq_true rfl⟩) hS (fun q _ h => hFc q h) hFc (fun r4 u t H3 locs ht hvm hw hB hz1 hk1 hS => ?_)
  obtain rfl : 1 = r4 := (show r4 = 1 from hw).symm
  obtain ⟨hP1, hK1, hD1, hz2⟩ := hB
  rw [ht] at hP1 hz2
  have hPD9 := va_join (wr := [(mo, .inr (9, [th, .ref am, .int 0, .int 0, .int 0])), (am, .inr (4, [.int mm, .ref (zk 0), .int 0]))]) (w1 := []) hP hD [] [0, 1] rfl rfl (by decide) (by decide) hk1 hFc hP1 hD1
  clear hPc hDc hFc hDv hpre hP hD hP1 hK1 hD1
  obtain ⟨hP, hD⟩ := hPD9
  replace hz : s.heap.size + 0 ≤ H3.size := by omega
  clear hz2
  replace hP : va_P (dC, dI) vwCl [(mo, .inr (9, [th, .ref am, .int 0, .int 0, .int 0])), (am, .inr (4, [.int mm, .ref (zk 0), .int 0]))] H3 := hP
  replace hD : va_D A [(mo, .inr (9, [th, .ref am, .int 0, .int 0, .int 0])), (am, .inr (4, [.int mm, .ref (zk 0), .int 0]))] := hD
  refine W.widen (k := 0) (n := 0) (by omega) (by omega) ?_
  refine lv_if_ne (tgt := 23) hx hb dX4_make_16 (by decide) (fun c9 => ?_) (fun c9 => ?_)
  rotate_left
  · exact absurd c9 (by decide)
  refine lv_iconst (v := 0) hx hb dX4_make_23 (by decide) ?_
  refine lv_iconst (v := 1) hx hb dX4_make_24 (by decide) ?_
  have hPc := hP.sub (ws' := [(mo, .inr (9, [th, .ref am, .int 0, .int 0, .int 0]))]) [0] rfl
  have hDc := hD.sub (ws' := [(mo, .inr (9, [th, .ref am, .int 0, .int 0, .int 0]))]) [0] (by decide) rfl
  have hFc := va_free (wc := [(mo, .inr (9, [th, .ref am, .int 0, .int 0, .int 0]))]) hD hS hA [0] rfl
  have hDv := hDc.self (sz := H3.size)
  have hpre := zpre (xs' := []) (av := [.ref mo, .int 0, .int 1]) hPc hK (hDc.weaken (fun _ _ _ h => h)) hZ hS hFc (fun r hr => by cases hr)
  refine va_calli (va_runV (As := [.int 0, .int 1]) (rest := []) ⟨hx, hb, hml, hown, hts⟩ (k_stt0 l dC dI cI cB cR cO zk mo am th H3.size ) (cwV 2 hts gX4_make_X4_start rfl rfl rfl (by decide +kernel) ⟨Nat.le_of_ble_eq_true rfl, Nat.le_of_ble_eq_true rfl⟩) ⟨zblind, (zrecv_9 hK hPc (q0 := 0) rfl), hpre⟩ rfl rfl hl.1 rfl (lv_room (Nat.le_of_ble_eq_true rfl)) dX4_make_25 ⟨Nat.le_of_ble_eq_true rfl, Nat.le_of_ble_eq_true rfl⟩) hS (fun q _ h => hFc q h) hFc (fun r6 u t H5 locs ht hvm hw hB hz1 hk1 hS => ?_)
  obtain rfl : 0 = r6 := (show r6 = 0 from hw).symm
  obtain ⟨hP1, hK1, hD1, hz2⟩ := hB
  rw [ht] at hP1 hz2
  have hPD9 := va_join (wr := [(am, .inr (4, [.int mm, .ref (zk 0), .int 0]))]) (w1 := [(mo, .inr (9, [.int 0, .ref am, .int 0, .int 0, .int 0]))]) hP hD [0] [1] rfl rfl (by decide) (by decide) hk1 hFc hP1 hD1
  clear hPc hDc hFc hDv hpre hP hD hP1 hK1 hD1
  obtain ⟨hP, hD⟩ := hPD9
  replace hz : s.heap.size + 0 ≤ H5.size := by omega
  clear hz2
  replace hP : va_P (dC, dI) vwCl [(am, .inr (4, [.int mm, .ref (zk 0), .int 0])), (mo, .inr (9, [.int 0, .ref am, .int 0, .int 0, .int 0]))] H5 := hP
  replace hD : va_D A [(am, .inr (4, [.int mm, .ref (zk 0), .int 0])), (mo, .inr (9, [.int 0, .ref am, .int 0, .int 0, .int 0]))] := hD
  refine W.widen (k := 0) (n := 0) (by omega) (by omega) ?_
  refine lv_if_ne (tgt := 56) hx hb dX4_make_28 (by decide) (fun c9 => ?_) (fun c9 => ?_)
  · exact absurd (by decide) c9
  refine lv_aload_n hx hb dX4_make_31 rfl (lv_at hl 0 rfl) ?_
  refine lv_aload_n hx hb dX4_make_32 rfl (lv_at hl 0 rfl) ?_
  refine va_get (D := (dC, dI)) (ci := 9) (v := .ref am) (C := RX4) (T := TX4) (N := 5) hx hb hts hi_X4_make_X4 hown hK hP 1 rfl rfl 1 (by decide) (hts (.fieldLink RX4 10 "DeeprowsModel" "rows" "Ljava/util/ArrayList;") (List.mem_cons_of_mem _ zw_1128)) (fun _ h9 => h9) rfl dX4_make_33 ?_
  have hPc := hP.sub (ws' := [(am, .inr (4, [.int mm, .ref (zk 0), .int 0]))]) [0] rfl
  have hDc := hD.sub (ws' := [(am, .inr (4, [.int mm, .ref (zk 0), .int 0]))]) [0] (by decide) rfl
  have hFc := va_free (wc := [(am, .inr (4, [.int mm, .ref (zk 0), .int 0]))]) hD hS hA [0] rfl
  have hDv := hDc.self (sz := H5.size)
  have hpre := zpre (xs' := []) (av := [.ref am]) hPc hK (hDc.weaken (fun _ _ _ h => h)) hZ hS hFc (fun r hr => by cases hr)
  refine va_calli (va_runV (As := []) (rest := [.ref mo]) ⟨hx, hb, hml, hown, hts⟩ (k_size l dC dI cI cB cR cO zk am (zk 0) 0 (.int mm) H5.size ) (cwV 0 hts gX4_make_Jx4a65c_size_8abf5 rfl rfl rfl (by decide +kernel) ⟨Nat.le_of_ble_eq_true rfl, Nat.le_of_ble_eq_true rfl⟩) ⟨zblind, (zrecv_4 hK hPc (q0 := 0) rfl), hpre⟩ rfl rfl hl.1 rfl (lv_room (Nat.le_of_ble_eq_true rfl)) dX4_make_36 ⟨Nat.le_of_ble_eq_true rfl, Nat.le_of_ble_eq_true rfl⟩) hS (fun q _ h => hFc q h) hFc (fun r8 u t H7 locs ht hvm hw hB hz1 hk1 hS => ?_)
  obtain rfl : 0 = r8 := (show r8 = 0 from hw).symm
  obtain ⟨hP1, hK1, hD1, hz2⟩ := hB
  rw [ht] at hP1 hz2
  have hPD9 := va_join (wr := [(mo, .inr (9, [.int 0, .ref am, .int 0, .int 0, .int 0]))]) (w1 := [(am, .inr (4, [.int mm, .ref (zk 0), .int 0]))]) hP hD [0] [1] rfl rfl (by decide) (by decide) hk1 hFc hP1 hD1
  clear hPc hDc hFc hDv hpre hP hD hP1 hK1 hD1
  obtain ⟨hP, hD⟩ := hPD9
  replace hz : s.heap.size + 0 ≤ H7.size := by omega
  clear hz2
  replace hP : va_P (dC, dI) vwCl [(mo, .inr (9, [.int 0, .ref am, .int 0, .int 0, .int 0])), (am, .inr (4, [.int mm, .ref (zk 0), .int 0]))] H7 := hP
  replace hD : va_D A [(mo, .inr (9, [.int 0, .ref am, .int 0, .int 0, .int 0])), (am, .inr (4, [.int mm, .ref (zk 0), .int 0]))] := hD
  refine W.widen (k := 0) (n := 0) (by omega) (by omega) ?_
  refine lv_bipush (v := 12) hx hb dX4_make_39 (by decide) ?_
  refine lv_icmp_ne (tgt := 48) hx hb dX4_make_41 (by decide) (fun c9 => ?_) (fun c9 => ?_)
  rotate_left
  · exact absurd c9 (by decide)
  refine lv_iconst (v := 0) hx hb dX4_make_48 (by decide) ?_
  refine lv_iconst (v := 2) hx hb dX4_make_49 (by decide) ?_
  have hPc := hP.sub (ws' := [(mo, .inr (9, [.int 0, .ref am, .int 0, .int 0, .int 0]))]) [0] rfl
  have hDc := hD.sub (ws' := [(mo, .inr (9, [.int 0, .ref am, .int 0, .int 0, .int 0]))]) [0] (by decide) rfl
  have hFc := va_free (wc := [(mo, .inr (9, [.int 0, .ref am, .int 0, .int 0, .int 0]))]) hD hS hA [0] rfl
  have hDv := hDc.self (sz := H7.size)
  have hpre := zpre (xs' := []) (av := [.ref mo, .int 0, .int 2]) hPc hK (hDc.weaken (fun _ _ _ h => h)) hZ hS hFc (fun r hr => by cases hr)
  refine va_calli (va_runV (As := [.int 0, .int 2]) (rest := []) ⟨hx, hb, hml, hown, hts⟩ (k_ref02 l dC dI cI cB cR cO zk mo am H7.size ) (cwV 2 hts gX4_make_X4_refuse rfl rfl rfl (by decide +kernel) ⟨Nat.le_of_ble_eq_true rfl, Nat.le_of_ble_eq_true rfl⟩) ⟨zblind, (zrecv_9 hK hPc (q0 := 0) rfl), hpre⟩ rfl rfl hl.1 rfl (lv_room (Nat.le_of_ble_eq_true rfl)) dX4_make_50 ⟨Nat.le_of_ble_eq_true rfl, Nat.le_of_ble_eq_true rfl⟩) hS (fun q _ h => hFc q h) hFc (fun r10 u t H9 locs ht hvm hw hB hz1 hk1 hS => ?_)
  obtain rfl : 0 = r10 := (show r10 = 0 from hw).symm
  obtain ⟨hP1, hK1, hD1, hz2⟩ := hB
  rw [ht] at hP1 hz2
  have hPD9 := va_join (wr := [(am, .inr (4, [.int mm, .ref (zk 0), .int 0]))]) (w1 := [(mo, .inr (9, [.int 0, .ref am, .int 0, .int 0, .int 0]))]) hP hD [0] [1] rfl rfl (by decide) (by decide) hk1 hFc hP1 hD1
  clear hPc hDc hFc hDv hpre hP hD hP1 hK1 hD1
  obtain ⟨hP, hD⟩ := hPD9
  replace hz : s.heap.size + 0 ≤ H9.size := by omega
  clear hz2
  replace hP : va_P (dC, dI) vwCl [(am, .inr (4, [.int mm, .ref (zk 0), .int 0])), (mo, .inr (9, [.int 0, .ref am, .int 0, .int 0, .int 0]))] H9 := hP
  replace hD : va_D A [(am, .inr (4, [.int mm, .ref (zk 0), .int 0])), (mo, .inr (9, [.int 0, .ref am, .int 0, .int 0, .int 0]))] := hD
  refine W.widen (k := 0) (n := 0) (by omega) (by omega) ?_
  refine lv_if_eq (tgt := 58) hx hb dX4_make_53 (by decide) (fun c9 => ?_) (fun c9 => ?_)
  rotate_left
  · exact absurd (by decide) c9
  refine lv_aload_n hx hb dX4_make_58 rfl (lv_at hl 0 rfl) ?_
  refine va_get (D := (dC, dI)) (ci := 9) (v := .ref am) (C := RX4) (T := TX4) (N := 5) hx hb hts hi_X4_make_X4 hown hK hP 1 rfl rfl 1 (by decide) (hts (.fieldLink RX4 10 "DeeprowsModel" "rows" "Ljava/util/ArrayList;") (List.mem_cons_of_mem _ zw_1128)) (fun _ h9 => h9) rfl dX4_make_59 ?_
  refine zw_new (ci := 8) (fs := [.int 0, .null, .null]) (C := RX3) (T := TX3) (N := 3) hx hb hts hi_X4_make_X3 tyX3 tyX3_ok hown (hts (.classLink RX4 40 "DeeprowsModel$Row") (List.mem_cons_of_mem _ zw_1163)) (hts (.instantiable RX3 3) (List.mem_cons_of_mem _ zw_1164)) (hts (.initialized RX3) (List.mem_cons_of_mem _ zw_55)) hK hP hD hS hA rfl (fun j hj => by rcases (show j = 0 ∨ j = 1 ∨ j = 2 by omega) with rfl | rfl | rfl <;> rfl) (Nat.le_of_ble_eq_true rfl) (Nat.le_of_ble_eq_true rfl) dX4_make_62 hz (fun q11 H12 hP hD hS hz => ?_)
  replace hP : va_P (dC, dI) vwCl [(am, .inr (4, [.int mm, .ref (zk 0), .int 0])), (mo, .inr (9, [.int 0, .ref am, .int 0, .int 0, .int 0])), (q11, .inr (8, [.int 0, .null, .null]))] H12 := hP
  replace hD : va_D A [(am, .inr (4, [.int mm, .ref (zk 0), .int 0])), (mo, .inr (9, [.int 0, .ref am, .int 0, .int 0, .int 0])), (q11, .inr (8, [.int 0, .null, .null]))] := hD
  refine W.widen (k := 1) (n := 3) (by omega) (by omega) ?_
  refine lv_dup hx hb dX4_make_65 rfl ?_
  refine lv_iload_n hx hb dX4_make_66 rfl (lv_at hl 1 rfl) ?_
  refine lv_iload_n hx hb dX4_make_67 rfl (lv_at hl 2 rfl) ?_
  have hPc := hP.sub (ws' := [(q11, .inr (8, [.int 0, .null, .null]))]) [2] rfl
  have hDc := hD.sub (ws' := [(q11, .inr (8, [.int 0, .null, .null]))]) [2] (by decide) rfl
  have hFc := va_free (wc := [(q11, .inr (8, [.int 0, .null, .null]))]) hD hS hA [2] rfl
  have hDv := hDc.self (sz := H12.size)
  have hpre := zpre (xs' := []) (av := [.ref q11, .int 4, .int 0]) hPc hK (hDc.weaken (fun _ _ _ h => h)) hZ hS hFc (fun r hr => by cases hr)
  refine va_callv (va_runI (As := [.int 4, .int 0]) (rest := [.ref q11, .ref am]) ⟨hx, hb, hml, hown, hts⟩ (k_mI04 l dC dI cI cB cR cO zk q11 H12.size ) (cwI 2 hts gX4_make_X3_init rfl rfl rfl (hts (.initialized RX3) (List.mem_cons_of_mem _ zw_55)) (hts (.methodLink RX4 76 yX3_init) (List.mem_cons_of_mem _ zw_1165)) (hts (.instanceMethod yX3_init) (List.mem_cons_of_mem _ zw_1166)) rfl (by decide +kernel) ⟨Nat.le_of_ble_eq_true rfl, Nat.le_of_ble_eq_true rfl⟩) ⟨zblind, hpre⟩ rfl rfl hl.1 rfl (lv_room (Nat.le_of_ble_eq_true rfl)) dX4_make_68 ⟨Nat.le_of_ble_eq_true rfl, Nat.le_of_ble_eq_true rfl⟩) hS (fun q _ h => hFc q h) hFc (fun u t H13 locs ht hvm hw hB hz1 hk1 hS => ?_)
  obtain ⟨wa15, na16, ⟨hP1, hK1, hD1, hz2⟩⟩ := hB
  rw [ht] at hP1 hz2
  have hPD9 := va_join (wr := [(am, .inr (4, [.int mm, .ref (zk 0), .int 0])), (mo, .inr (9, [.int 0, .ref am, .int 0, .int 0, .int 0]))]) (w1 := [(q11, .inr (8, [.int 4, .ref wa15, .ref na16]))]) hP hD [2] [0, 1] rfl rfl (by decide) (by decide) hk1 hFc hP1 hD1
  clear hPc hDc hFc hDv hpre hP hD hP1 hK1 hD1
  obtain ⟨hP, hD⟩ := hPD9
  replace hz : s.heap.size + 3 ≤ H13.size := by omega
  clear hz2
  replace hP : va_P (dC, dI) vwCl [(am, .inr (4, [.int mm, .ref (zk 0), .int 0])), (mo, .inr (9, [.int 0, .ref am, .int 0, .int 0, .int 0])), (q11, .inr (8, [.int 4, .ref wa15, .ref na16]))] H13 := hP
  replace hD : va_D A [(am, .inr (4, [.int mm, .ref (zk 0), .int 0])), (mo, .inr (9, [.int 0, .ref am, .int 0, .int 0, .int 0])), (q11, .inr (8, [.int 4, .ref wa15, .ref na16]))] := hD
  refine W.widen (k := 3) (n := 3) (by omega) (by omega) ?_
  have hPc := hP.sub (ws' := [(am, .inr (4, [.int mm, .ref (zk 0), .int 0])), (q11, .inr (8, [.int 4, .ref wa15, .ref na16]))]) [0, 2] rfl
  have hDc := hD.sub (ws' := [(am, .inr (4, [.int mm, .ref (zk 0), .int 0])), (q11, .inr (8, [.int 4, .ref wa15, .ref na16]))]) [0, 2] (by decide) rfl
  have hFc := va_free (wc := [(am, .inr (4, [.int mm, .ref (zk 0), .int 0])), (q11, .inr (8, [.int 4, .ref wa15, .ref na16]))]) hD hS hA [0, 2] rfl
  have hDv := hDc.self (sz := H13.size)
  have hpre := zpre (xs' := []) (av := [.ref am, .ref q11]) hPc hK (hDc.weaken (fun _ _ _ h => h)) hZ hS hFc (fun r hr => by cases hr)
  refine va_calli (va_runV (As := [.ref q11]) (rest := []) ⟨hx, hb, hml, hown, hts⟩ (k_addZX3 l dC dI cI cB cR cO zk am q11 mm 4 wa15 na16 H13.size ) (cwV 1 hts gX4_make_Jx4a65c_add_9ea2d rfl rfl rfl (by decide +kernel) ⟨Nat.le_of_ble_eq_true rfl, Nat.le_of_ble_eq_true rfl⟩) ⟨zblind, (zrecv_4 hK hPc (q0 := 0) rfl), hpre⟩ rfl rfl hl.1 rfl (lv_room (Nat.le_of_ble_eq_true rfl)) dX4_make_71 ⟨Nat.le_of_ble_eq_true rfl, Nat.le_of_ble_eq_true rfl⟩) hS (fun q _ h => hFc q h) hFc (fun r18 u t H17 locs ht hvm hw hB hz1 hk1 hS => ?_)
  obtain rfl : 1 = r18 := (show r18 = 1 from hw).symm
  obtain ⟨em19, mm20, ⟨hP1, hK1, hD1, hz2⟩⟩ := hB
  rw [ht] at hP1 hz2
  have hPD9 := va_join (wr := [(mo, .inr (9, [.int 0, .ref am, .int 0, .int 0, .int 0]))]) (w1 := [(am, .inr (4, [.int mm20, .ref em19, .int 1])), (q11, .inr (8, [.int 4, .ref wa15, .ref na16]))]) hP hD [0, 2] [1] rfl rfl (by decide) (by decide) hk1 hFc hP1 hD1
  clear hPc hDc hFc hDv hpre hP hD hP1 hK1 hD1
  obtain ⟨hP, hD⟩ := hPD9
  replace hz : s.heap.size + 4 ≤ H17.size := by omega
  clear hz2
  replace hP : va_P (dC, dI) vwCl [(mo, .inr (9, [.int 0, .ref am, .int 0, .int 0, .int 0])), (am, .inr (4, [.int mm20, .ref em19, .int 1])), (q11, .inr (8, [.int 4, .ref wa15, .ref na16]))] H17 := hP
  replace hD : va_D A [(mo, .inr (9, [.int 0, .ref am, .int 0, .int 0, .int 0])), (am, .inr (4, [.int mm20, .ref em19, .int 1])), (q11, .inr (8, [.int 4, .ref wa15, .ref na16]))] := hD
  refine W.widen (k := 4) (n := 13) (by omega) (by omega) ?_
  refine lv_pop hx hb dX4_make_74 rfl ?_
  refine lv_aload_n hx hb dX4_make_75 rfl (lv_at hl 0 rfl) ?_
  refine va_get (D := (dC, dI)) (ci := 9) (v := .ref am) (C := RX4) (T := TX4) (N := 5) hx hb hts hi_X4_make_X4 hown hK hP 0 rfl rfl 1 (by decide) (hts (.fieldLink RX4 10 "DeeprowsModel" "rows" "Ljava/util/ArrayList;") (List.mem_cons_of_mem _ zw_1128)) (fun _ h9 => h9) rfl dX4_make_76 ?_
  have hPc := hP.sub (ws' := [(am, .inr (4, [.int mm20, .ref em19, .int 1]))]) [1] rfl
  have hDc := hD.sub (ws' := [(am, .inr (4, [.int mm20, .ref em19, .int 1]))]) [1] (by decide) rfl
  have hFc := va_free (wc := [(am, .inr (4, [.int mm20, .ref em19, .int 1]))]) hD hS hA [1] rfl
  have hDv := hDc.self (sz := H17.size)
  have hpre := zpre (xs' := []) (av := [.ref am]) hPc hK (hDc.weaken (fun _ _ _ h => h)) hZ hS hFc (fun r hr => by cases hr)
  refine va_calli (va_runV (As := []) (rest := []) ⟨hx, hb, hml, hown, hts⟩ (k_size l dC dI cI cB cR cO zk am em19 1 (.int mm20) H17.size ) (cwV 0 hts gX4_make_Jx4a65c_size_8abf5 rfl rfl rfl (by decide +kernel) ⟨Nat.le_of_ble_eq_true rfl, Nat.le_of_ble_eq_true rfl⟩) ⟨zblind, (zrecv_4 hK hPc (q0 := 0) rfl), hpre⟩ rfl rfl hl.1 rfl (lv_room (Nat.le_of_ble_eq_true rfl)) dX4_make_79 ⟨Nat.le_of_ble_eq_true rfl, Nat.le_of_ble_eq_true rfl⟩) hS (fun q _ h => hFc q h) hFc (fun r22 u t H21 locs ht hvm hw hB hz1 hk1 hS => ?_)
  obtain rfl : 1 = r22 := (show r22 = 1 from hw).symm
  obtain ⟨hP1, hK1, hD1, hz2⟩ := hB
  rw [ht] at hP1 hz2
  have hPD9 := va_join (wr := [(mo, .inr (9, [.int 0, .ref am, .int 0, .int 0, .int 0])), (q11, .inr (8, [.int 4, .ref wa15, .ref na16]))]) (w1 := [(am, .inr (4, [.int mm20, .ref em19, .int 1]))]) hP hD [1] [0, 2] rfl rfl (by decide) (by decide) hk1 hFc hP1 hD1
  clear hPc hDc hFc hDv hpre hP hD hP1 hK1 hD1
  obtain ⟨hP, hD⟩ := hPD9
  replace hz : s.heap.size + 4 ≤ H21.size := by omega
  clear hz2
  replace hP : va_P (dC, dI) vwCl [(mo, .inr (9, [.int 0, .ref am, .int 0, .int 0, .int 0])), (q11, .inr (8, [.int 4, .ref wa15, .ref na16])), (am, .inr (4, [.int mm20, .ref em19, .int 1]))] H21 := hP
  replace hD : va_D A [(mo, .inr (9, [.int 0, .ref am, .int 0, .int 0, .int 0])), (q11, .inr (8, [.int 4, .ref wa15, .ref na16])), (am, .inr (4, [.int mm20, .ref em19, .int 1]))] := hD
  refine W.widen (k := 4) (n := 13) (by omega) (by omega) ?_
  refine lv_iconst (v := 1) hx hb dX4_make_82 (by decide) ?_
  refine lv_isub hx hb dX4_make_83 ?_
  refine lv_topi (fun v23 ev23 => ?_)
  obtain rfl : v23 = 0 := ev23.trans (by decide)
  have hP9 := hP.sub (ws' := [(mo, .inr (9, [.int 0, .ref am, .int 0, .int 0, .int 0]))]) [0] rfl
  have hD9 := hD.sub (ws' := [(mo, .inr (9, [.int 0, .ref am, .int 0, .int 0, .int 0]))]) [0] (by decide) rfl
  exact W.iret (v := 0) hx hb hr (fun t ht hW => ⟨⟨_, (), rfl, rfl, ⟨by rw [ht]; exact hP9, va_K.moved hW.alike hK, hD9, by rw [ht]; exact hz⟩⟩, hS.F ht⟩) hS.2.2 dX4_make_84

set_option maxHeartbeats 4000000 in
set_option maxRecDepth 100000 in
theorem k_mI0s (l : Launch) (dC : Nat → ClassId) (dI : Nat → Nat → Nat) (cI cB cR cO : ClassId) (zk : Nat → Nat) (a : Nat) (kd : Int32) (sz : Nat) (hkd : ¬ kd = 4) : Met l yX3_init wsX3_init ({ frames := 1, cells := 2, slots := 0, locals := 60 }) (va_Pc [.ref a, .int kd, .int 0] (zPre (dC, dI) (zT cI cB cR cO) zk [] [(a, .inr (8, [.int 0, .null, .null]))] sz)) (va_Qv (fun _ : Unit => True) (fun _ t => ∃ wa, ∃ na, zEnd (dC, dI) (zT cI cB cR cO) (va_A [(a, .inr (8, [.int 0, .null, .null]))] sz) [(a, .inr (8, [.int kd, .ref wa, .ref na]))] sz 2 t) (va_A [(a, .inr (8, [.int 0, .null, .null]))] sz)) 2 0 (va_A [(a, .inr (8, [.int 0, .null, .null]))] sz) := by
  refine Met.ofW (cc := cX3_init) (maxL := 4) (ret := none) (by decide) rfl ?_
  intro p e s mY args below meth c s₁ B hml hv
  obtain ⟨rfl, hsz, hP, hK, hD0, hZ⟩ := hv
  have hx := B.exec
  have hb := B.bytes
  have hr := B.returns
  have hts := atoms_spec (ws := wsX3_init) B.pre
  have hown : s.vm.findClass RX3 = some mY.cls := findClass_of_methodNamed B.named
  have hlocks := B.notSynchronized
  have hin : meth.name = "<init>" := (name_of_methodNamed B.named B.method).1
  subst hsz
  have hD := hD0.self (sz := s.heap.size)
  generalize hAe : va_A [(a, .inr (8, [.int 0, .null, .null]))] s.heap.size = A at hD hZ ⊢
  have hA : ∀ q : Nat, s.heap.size ≤ q → A q := fun q h => by rw [← hAe]; exact Or.inr h
  have hS : va_S A s.heap s.heap [] := va_S.rf
  have hz : s.heap.size + 0 ≤ s.heap.size := Nat.le_refl _
  have hl := lv_entry ([.ref a, .int kd, .int 0]) (n := 4) (Nat.le_of_ble_eq_true rfl)
  rw [lg_entry_eq]
  generalize (lg_sl ([.ref a, .int kd, .int 0]) ++ List.replicate (4 - (lg_sl ([.ref a, .int kd, .int 0])).length) Slot.unset).toArray = ls at hl ⊢
  have hl : lv_has ls 4 [(0, .ref a), (1, .int kd), (2, .int 0)] := hl
  have hP : va_P (dC, dI) vwCl [(a, .inr (8, [.int 0, .null, .null]))] s.heap := hP
  have hD : va_D A [(a, .inr (8, [.int 0, .null, .null]))] := hD
  refine lv_aload_n hx hb dX3_init_0 rfl (lv_at hl 0 rfl) ?_
  refine W.objInit hx hb hown (hts (.methodLink RX3 3 objectInit) (List.mem_cons_of_mem _ zw_1168)) (hts (.instanceMethod objectInit) (List.mem_cons_of_mem _ zw_71)) (hts (.code objectInit ⟨#[0xb1]⟩ 1 none) (List.mem_cons_of_mem _ zw_72)) rfl (by rw [hml]; exact hl.1) rfl dX3_init_1 (Nat.le_of_ble_eq_true rfl) (Nat.le_of_ble_eq_true rfl) ?_
  refine W.eq (g2 := F0 mY 4 ls []) rfl ?_
  refine lv_aload_n hx hb dX3_init_4 rfl (lv_at hl 0 rfl) ?_
  refine lv_iload_n hx hb dX3_init_5 rfl (lv_at hl 1 rfl) ?_
  refine va_putF (D := (dC, dI)) (ci := 8) (v := .int kd) (ty := .int) (C := RX3) (T := TX3) (N := 3) hx hb hts hi_X3_init_X3 tyX3 tyX3_ok nmX3 hown hK hP hD (zS0 hS) 0 rfl rfl 0 (by decide) (hts (.fieldLink RX3 9 "DeeprowsModel$Row" "kind" "I") (List.mem_cons_of_mem _ zw_1173)) (fun _ h9 => h9) rfl hin rfl (by decide +kernel) rfl rfl (Nat.le_of_ble_eq_true rfl) dX3_init_6 (fun H1 locs hP hD hS1 => ?_)
  have hz : s.heap.size + 0 ≤ H1.size := Nat.le_trans hz hS1.1
  have hS := zSS hS hS1
  replace hP : va_P (dC, dI) vwCl [(a, .inr (8, [.int kd, .null, .null]))] H1 := hP
  replace hD : va_D A [(a, .inr (8, [.int kd, .null, .null]))] := hD
  refine lv_aload_n hx hb dX3_init_9 rfl (lv_at hl 0 rfl) ?_
  refine lv_iload_n hx hb dX3_init_10 rfl (lv_at hl 2 rfl) ?_
  refine zw_newa (atype := .int) (ty := .int) (N' := 0) hx hb (hts (.arrayClass .int) (List.mem_cons_of_mem _ zw_131)) rfl (by first | exact Or.inl rfl | exact Or.inr rfl) hK hP hD hS hA 0 rfl (by decide) (by decide) (Nat.le_of_ble_eq_true rfl) (Nat.le_of_ble_eq_true rfl) (Nat.le_of_ble_eq_true rfl) dX3_init_11 hz (fun q2 H3 hP hD hS hz => ?_)
  replace hP : va_P (dC, dI) vwCl [(a, .inr (8, [.int kd, .null, .null])), (q2, .inl (cI, 0, .inl (fun _ => 0)))] H3 := hP
  replace hD : va_D A [(a, .inr (8, [.int kd, .null, .null])), (q2, .inl (cI, 0, .inl (fun _ => 0)))] := hD
  refine W.widen (k := 1) (n := 0) (by omega) (by omega) ?_
  refine va_putF (D := (dC, dI)) (ci := 8) (v := .ref q2) (ty := .array .int) (C := RX3) (T := TX3) (N := 3) hx hb hts hi_X3_init_X3 tyX3 tyX3_ok nmX3 hown hK hP hD (zS0 hS) 0 rfl rfl 1 (by decide) (hts (.fieldLink RX3 15 "DeeprowsModel$Row" "whats" "[I") (List.mem_cons_of_mem _ zw_1175)) (fun _ h9 => h9) rfl hin rfl (by decide +kernel) rfl rfl (Nat.le_of_ble_eq_true rfl) dX3_init_13 (fun H4 locs hP hD hS1 => ?_)
  have hz : s.heap.size + 1 ≤ H4.size := Nat.le_trans hz hS1.1
  have hS := zSS hS hS1
  replace hP : va_P (dC, dI) vwCl [(a, .inr (8, [.int kd, .ref q2, .null])), (q2, .inl (cI, 0, .inl (fun _ => 0)))] H4 := hP
  replace hD : va_D A [(a, .inr (8, [.int kd, .ref q2, .null])), (q2, .inl (cI, 0, .inl (fun _ => 0)))] := hD
  refine lv_aload_n hx hb dX3_init_16 rfl (lv_at hl 0 rfl) ?_
  refine lv_iload_n hx hb dX3_init_17 rfl (lv_at hl 2 rfl) ?_
  refine zw_newa (atype := .int) (ty := .int) (N' := 0) hx hb (hts (.arrayClass .int) (List.mem_cons_of_mem _ zw_131)) rfl (by first | exact Or.inl rfl | exact Or.inr rfl) hK hP hD hS hA 0 rfl (by decide) (by decide) (Nat.le_of_ble_eq_true rfl) (Nat.le_of_ble_eq_true rfl) (Nat.le_of_ble_eq_true rfl) dX3_init_18 hz (fun q5 H6 hP hD hS hz => ?_)
  replace hP : va_P (dC, dI) vwCl [(a, .inr (8, [.int kd, .ref q2, .null])), (q2, .inl (cI, 0, .inl (fun _ => 0))), (q5, .inl (cI, 0, .inl (fun _ => 0)))] H6 := hP
  replace hD : va_D A [(a, .inr (8, [.int kd, .ref q2, .null])), (q2, .inl (cI, 0, .inl (fun _ => 0))), (q5, .inl (cI, 0, .inl (fun _ => 0)))] := hD
  refine W.widen (k := 2) (n := 0) (by omega) (by omega) ?_
  refine va_putF (D := (dC, dI)) (ci := 8) (v := .ref q5) (ty := .array .int) (C := RX3) (T := TX3) (N := 3) hx hb hts hi_X3_init_X3 tyX3 tyX3_ok nmX3 hown hK hP hD (zS0 hS) 0 rfl rfl 2 (by decide) (hts (.fieldLink RX3 19 "DeeprowsModel$Row" "numbers" "[I") (List.mem_cons_of_mem _ zw_1177)) (fun _ h9 => h9) rfl hin rfl (by decide +kernel) rfl rfl (Nat.le_of_ble_eq_true rfl) dX3_init_20 (fun H7 locs hP hD hS1 => ?_)
  have hz : s.heap.size + 2 ≤ H7.size := Nat.le_trans hz hS1.1
  have hS := zSS hS hS1
  replace hP : va_P (dC, dI) vwCl [(a, .inr (8, [.int kd, .ref q2, .ref q5])), (q2, .inl (cI, 0, .inl (fun _ => 0))), (q5, .inl (cI, 0, .inl (fun _ => 0)))] H7 := hP
  replace hD : va_D A [(a, .inr (8, [.int kd, .ref q2, .ref q5])), (q2, .inl (cI, 0, .inl (fun _ => 0))), (q5, .inl (cI, 0, .inl (fun _ => 0)))] := hD
  refine lv_iconst (v := 0) hx hb dX3_init_23 (by decide) ?_
  refine lv_istore_n (lv' := [(3, .int 0), (0, .ref a), (1, .int kd), (2, .int 0)]) hx hb dX3_init_24 rfl hl (by decide) rfl (fun ls hl => ?_)
  refine lv_iload_n hx hb dX3_init_25 rfl (lv_at hl 0 rfl) ?_
  refine lv_iload_n hx hb dX3_init_26 rfl (lv_at hl 3 rfl) ?_
  refine lv_icmp_ge (tgt := 61) hx hb dX3_init_27 (by decide) (fun c9 => ?_) (fun c9 => ?_)
  rotate_left
  · exact absurd (by decide) c9
  have hP9 := hP.sub (ws' := [(a, .inr (8, [.int kd, .ref q2, .ref q5]))]) [0] rfl
  have hD9 := hD.sub (ws' := [(a, .inr (8, [.int kd, .ref q2, .ref q5]))]) [0] (by decide) rfl
  exact W.vret hx hb hr (fun t ht hW => ⟨⟨(), rfl, trivial, ⟨_, _, ⟨by rw [ht]; exact hP9, va_K.moved hW.alike hK, hD9, by rw [ht]; exact hz⟩⟩⟩, hS.F ht⟩) hS.2.2 dX3_init_61

set_option maxHeartbeats 4000000 in
set_option maxRecDepth 100000 in
theorem k_mkM0s (l : Launch) (dC : Nat → ClassId) (dI : Nat → Nat → Nat) (cI cB cR cO : ClassId) (zk : Nat → Nat) (mo am : Nat) (th : Value) (mm : Int32) (kd : Int32) (sz : Nat) (hk0 : ¬ kd < 0) (hk4 : kd ≤ 4) (hkd : ¬ kd = 4) : Met l yX4_make wsX4_make ({ frames := 5, cells := 4, slots := 13, locals := 127 }) (va_Pc [.ref mo, .int kd, .int 0] (zPre (dC, dI) (zT cI cB cR cO) zk [] [(mo, .inr (9, [th, .ref am, .int 0, .int 0, .int 0])), (am, .inr (4, [.int mm, .ref (zk 0), .int 0]))] sz)) (va_Qi (fun r (_ : Unit) => r = 0) (fun _ t => zEnd (dC, dI) (zT cI cB cR cO) (va_A [(mo, .inr (9, [th, .ref am, .int 0, .int 0, .int 0])), (am, .inr (4, [.int mm, .ref (zk 0), .int 0]))] sz) [(mo, .inr (9, [.int 0, .ref am, .int 0, .int 0, .int 0]))] sz 4 t) (va_A [(mo, .inr (9, [th, .ref am, .int 0, .int 0, .int 0])), (am, .inr (4, [.int mm, .ref (zk 0), .int 0]))] sz)) 4 13 (va_A [(mo, .inr (9, [th, .ref am, .int 0, .int 0, .int 0])), (am, .inr (4, [.int mm, .ref (zk 0), .int 0]))] sz) := by
  refine Met.ofW (cc := cX4_make) (maxL := 3) (ret := (some .int)) (by decide) rfl ?_
  intro p e s mY args below meth c s₁ B hml hv
  obtain ⟨rfl, hsz, hP, hK, hD0, hZ⟩ := hv
  have hx := B.exec
  have hb := B.bytes
  have hr := B.returns
  have hts := atoms_spec (ws := wsX4_make) B.pre
  have hown : s.vm.findClass RX4 = some mY.cls := findClass_of_methodNamed B.named
  have hlocks := B.notSynchronized
  subst hsz
  have hD := hD0.self (sz := s.heap.size)
  generalize hAe : va_A [(mo, .inr (9, [th, .ref am, .int 0, .int 0, .int 0])), (am, .inr (4, [.int mm, .ref (zk 0), .int 0]))] s.heap.size = A at hD hZ ⊢
  have hA : ∀ q : Nat, s.heap.size ≤ q → A q := fun q h => by rw [← hAe]; exact Or.inr h
  have hS : va_S A s.heap s.heap [] := va_S.rf
  have hz : s.heap.size + 0 ≤ s.heap.size := Nat.le_refl _
  have hl := lv_entry ([.ref mo, .int kd, .int 0]) (n := 3) (Nat.le_of_ble_eq_true rfl)
  rw [lg_entry_eq]
  generalize (lg_sl ([.ref mo, .int kd, .int 0]) ++ List.replicate (3 - (lg_sl ([.ref mo, .int kd, .int 0])).length) Slot.unset).toArray = ls at hl ⊢
  have hl : lv_has ls 3 [(0, .ref mo), (1, .int kd), (2, .int 0)] := hl
  have hP : va_P (dC, dI) vwCl [(mo, .inr (9, [th, .ref am, .int 0, .int 0, .int 0])), (am, .inr (4, [.int mm, .ref (zk 0), .int 0]))] s.heap := hP
  have hD : va_D A [(mo, .inr (9, [th, .ref am, .int 0, .int 0, .int 0])), (am, .inr (4, [.int mm, .ref (zk 0), .int 0]))] := hD
  refine lv_aload_n hx hb dX4_make_0 rfl (lv_at hl 0 rfl) ?_
  refine lv_iload_n hx hb dX4_make_1 rfl (lv_at hl 1 rfl) ?_
  refine lv_iconst (v := 0) hx hb dX4_make_2 (by decide) ?_
  refine lv_iconst (v := 4) hx hb dX4_make_3 (by decide) ?_
  have hPc := hP.sub (ws' := []) [] rfl
  have hDc := hD.sub (ws' := []) [] (by decide) rfl
  have hFc := va_free (wc := []) hD hS hA [] rfl
  have hDv := hDc.self (sz := s.heap.size)
  have hpre := zpre (xs' := []) (av := [.int kd, .int 0, .int 4]) hPc hK (hDc.weaken (fun _ _ _ h => h)) hZ hS hFc (fun r hr => by cases hr)
  refine va_calli (va_runS (As := [.int kd, .int 0, .int 4]) (rest := [.ref mo]) ⟨hx, hb, hml, hown, hts⟩ (k_isInT4 l dC dI cI cB cR cO zk kd s.heap.size hk0 hk4) (va_cwS 3 hts gX4_make_X4_isIn rfl rfl rfl (by decide +kernel) ⟨Nat.le_of_ble_eq_true rfl, Nat.le_of_ble_eq_true rfl⟩) ⟨zblind, hpre⟩ rfl rfl hl.1 rfl (lv_room (Nat.le_of_ble_eq_true rfl)) dX4_make_4 ⟨Nat.le_of_ble_eq_true rfl, Nat.le_of_ble_eq_true rfl⟩) hS (fun q _ h => hFc q h) hFc (fun r2 u t H1 locs ht hvm hw hB hz1 hk1 hS => ?_)
  obtain rfl : 1 = r2 := (show r2 = 1 from hw).symm
  obtain ⟨hP1, hK1, hD1, hz2⟩ := hB
  rw [ht] at hP1 hz2
  have hPD9 := va_join (wr := [(mo, .inr (9, [th, .ref am, .int 0, .int 0, .int 0])), (am, .inr (4, [.int mm, .ref (zk 0), .int 0]))]) (w1 := []) hP hD [] [0, 1] rfl rfl (by decide) (by decide) hk1 hFc hP1 hD1
  clear hPc hDc hFc hDv hpre hP hD hP1 hK1 hD1
  obtain ⟨hP, hD⟩ := hPD9
  replace hz : s.heap.size + 0 ≤ H1.size := by omega
  clear hz2
  replace hP : va_P (dC, dI) vwCl [(mo, .inr (9, [th, .ref am, .int 0, .int 0, .int 0])), (am, .inr (4, [.int mm, .ref (zk 0), .int 0]))] H1 := hP
  replace hD : va_D A [(mo, .inr (9, [th, .ref am, .int 0, .int 0, .int 0])), (am, .inr (4, [.int mm, .ref (zk 0), .int 0]))] := hD
  refine W.widen (k := 0) (n := 0) (by omega) (by omega) ?_
  refine lv_if_eq (tgt := 19) hx hb dX4_make_7 (by decide) (fun c9 => ?_) (fun c9 => ?_)
  · exact absurd c9 (by decide)
  refine lv_iload_n hx hb dX4_make_10 rfl (lv_at hl 2 rfl) ?_
  refine lv_iconst (v := 0) hx hb dX4_make_11 (by decide) ?_
  refine lv_iconst (v := 4) hx hb dX4_make_12 (by decide) ?_
  have hPc := hP.sub (ws' := []) [] rfl
  have hDc := hD.sub (ws' := []) [] (by decide) rfl
  have hFc := va_free (wc := []) hD hS hA [] rfl
  have hDv := hDc.self (sz := H1.size)
  have hpre := zpre (xs' := []) (av := [.int 0, .int 0, .int 4]) hPc hK (hDc.weaken (fun _ _ _ h => h)) hZ hS hFc (fun r hr => by cases hr)
  refine va_calli (va_runS (As := [.int 0, .int 0, .int 4]) (rest := [.ref mo]) ⟨hx, hb, hml, hown, hts⟩ (k_isIn4_0 l dC dI cI cB cR cO zk  H1.size ) (va_cwS 3 hts gX4_make_X4_isIn rfl rfl rfl (by decide +kernel) ⟨Nat.le_of_ble_eq_true rfl, Nat.le_of_ble_eq_true rfl⟩) ⟨zblind, hpre⟩ rfl rfl hl.1 rfl (lv_room (Nat.le_of_ble_eq_true rfl)) dX4_make_13 ⟨Nat.le_of_ble_eq_true rfl, Nat.le_of_ble_eq_true rfl⟩) hS (fun q _ h => hFc q h) hFc (fun r4 u t H3 locs ht hvm hw hB hz1 hk1 hS => ?_)
  obtain rfl : 1 = r4 := (show r4 = 1 from hw).symm
  obtain ⟨hP1, hK1, hD1, hz2⟩ := hB
  rw [ht] at hP1 hz2
  have hPD9 := va_join (wr := [(mo, .inr (9, [th, .ref am, .int 0, .int 0, .int 0])), (am, .inr (4, [.int mm, .ref (zk 0), .int 0]))]) (w1 := []) hP hD [] [0, 1] rfl rfl (by decide) (by decide) hk1 hFc hP1 hD1
  clear hPc hDc hFc hDv hpre hP hD hP1 hK1 hD1
  obtain ⟨hP, hD⟩ := hPD9
  replace hz : s.heap.size + 0 ≤ H3.size := by omega
  clear hz2
  replace hP : va_P (dC, dI) vwCl [(mo, .inr (9, [th, .ref am, .int 0, .int 0, .int 0])), (am, .inr (4, [.int mm, .ref (zk 0), .int 0]))] H3 := hP
  replace hD : va_D A [(mo, .inr (9, [th, .ref am, .int 0, .int 0, .int 0])), (am, .inr (4, [.int mm, .ref (zk 0), .int 0]))] := hD
  refine W.widen (k := 0) (n := 0) (by omega) (by omega) ?_
  refine lv_if_ne (tgt := 23) hx hb dX4_make_16 (by decide) (fun c9 => ?_) (fun c9 => ?_)
  rotate_left
  · exact absurd c9 (by decide)
  refine lv_iconst (v := 0) hx hb dX4_make_23 (by decide) ?_
  refine lv_iconst (v := 1) hx hb dX4_make_24 (by decide) ?_
  have hPc := hP.sub (ws' := [(mo, .inr (9, [th, .ref am, .int 0, .int 0, .int 0]))]) [0] rfl
  have hDc := hD.sub (ws' := [(mo, .inr (9, [th, .ref am, .int 0, .int 0, .int 0]))]) [0] (by decide) rfl
  have hFc := va_free (wc := [(mo, .inr (9, [th, .ref am, .int 0, .int 0, .int 0]))]) hD hS hA [0] rfl
  have hDv := hDc.self (sz := H3.size)
  have hpre := zpre (xs' := []) (av := [.ref mo, .int 0, .int 1]) hPc hK (hDc.weaken (fun _ _ _ h => h)) hZ hS hFc (fun r hr => by cases hr)
  refine va_calli (va_runV (As := [.int 0, .int 1]) (rest := []) ⟨hx, hb, hml, hown, hts⟩ (k_stt0 l dC dI cI cB cR cO zk mo am th H3.size ) (cwV 2 hts gX4_make_X4_start rfl rfl rfl (by decide +kernel) ⟨Nat.le_of_ble_eq_true rfl, Nat.le_of_ble_eq_true rfl⟩) ⟨zblind, (zrecv_9 hK hPc (q0 := 0) rfl), hpre⟩ rfl rfl hl.1 rfl (lv_room (Nat.le_of_ble_eq_true rfl)) dX4_make_25 ⟨Nat.le_of_ble_eq_true rfl, Nat.le_of_ble_eq_true rfl⟩) hS (fun q _ h => hFc q h) hFc (fun r6 u t H5 locs ht hvm hw hB hz1 hk1 hS => ?_)
  obtain rfl : 0 = r6 := (show r6 = 0 from hw).symm
  obtain ⟨hP1, hK1, hD1, hz2⟩ := hB
  rw [ht] at hP1 hz2
  have hPD9 := va_join (wr := [(am, .inr (4, [.int mm, .ref (zk 0), .int 0]))]) (w1 := [(mo, .inr (9, [.int 0, .ref am, .int 0, .int 0, .int 0]))]) hP hD [0] [1] rfl rfl (by decide) (by decide) hk1 hFc hP1 hD1
  clear hPc hDc hFc hDv hpre hP hD hP1 hK1 hD1
  obtain ⟨hP, hD⟩ := hPD9
  replace hz : s.heap.size + 0 ≤ H5.size := by omega
  clear hz2
  replace hP : va_P (dC, dI) vwCl [(am, .inr (4, [.int mm, .ref (zk 0), .int 0])), (mo, .inr (9, [.int 0, .ref am, .int 0, .int 0, .int 0]))] H5 := hP
  replace hD : va_D A [(am, .inr (4, [.int mm, .ref (zk 0), .int 0])), (mo, .inr (9, [.int 0, .ref am, .int 0, .int 0, .int 0]))] := hD
  refine W.widen (k := 0) (n := 0) (by omega) (by omega) ?_
  refine lv_if_ne (tgt := 56) hx hb dX4_make_28 (by decide) (fun c9 => ?_) (fun c9 => ?_)
  · exact absurd (by decide) c9
  refine lv_aload_n hx hb dX4_make_31 rfl (lv_at hl 0 rfl) ?_
  refine lv_aload_n hx hb dX4_make_32 rfl (lv_at hl 0 rfl) ?_
  refine va_get (D := (dC, dI)) (ci := 9) (v := .ref am) (C := RX4) (T := TX4) (N := 5) hx hb hts hi_X4_make_X4 hown hK hP 1 rfl rfl 1 (by decide) (hts (.fieldLink RX4 10 "DeeprowsModel" "rows" "Ljava/util/ArrayList;") (List.mem_cons_of_mem _ zw_1128)) (fun _ h9 => h9) rfl dX4_make_33 ?_
  have hPc := hP.sub (ws' := [(am, .inr (4, [.int mm, .ref (zk 0), .int 0]))]) [0] rfl
  have hDc := hD.sub (ws' := [(am, .inr (4, [.int mm, .ref (zk 0), .int 0]))]) [0] (by decide) rfl
  have hFc := va_free (wc := [(am, .inr (4, [.int mm, .ref (zk 0), .int 0]))]) hD hS hA [0] rfl
  have hDv := hDc.self (sz := H5.size)
  have hpre := zpre (xs' := []) (av := [.ref am]) hPc hK (hDc.weaken (fun _ _ _ h => h)) hZ hS hFc (fun r hr => by cases hr)
  refine va_calli (va_runV (As := []) (rest := [.ref mo]) ⟨hx, hb, hml, hown, hts⟩ (k_size l dC dI cI cB cR cO zk am (zk 0) 0 (.int mm) H5.size ) (cwV 0 hts gX4_make_Jx4a65c_size_8abf5 rfl rfl rfl (by decide +kernel) ⟨Nat.le_of_ble_eq_true rfl, Nat.le_of_ble_eq_true rfl⟩) ⟨zblind, (zrecv_4 hK hPc (q0 := 0) rfl), hpre⟩ rfl rfl hl.1 rfl (lv_room (Nat.le_of_ble_eq_true rfl)) dX4_make_36 ⟨Nat.le_of_ble_eq_true rfl, Nat.le_of_ble_eq_true rfl⟩) hS (fun q _ h => hFc q h) hFc (fun r8 u t H7 locs ht hvm hw hB hz1 hk1 hS => ?_)
  obtain rfl : 0 = r8 := (show r8 = 0 from hw).symm
  obtain ⟨hP1, hK1, hD1, hz2⟩ := hB
  rw [ht] at hP1 hz2
  have hPD9 := va_join (wr := [(mo, .inr (9, [.int 0, .ref am, .int 0, .int 0, .int 0]))]) (w1 := [(am, .inr (4, [.int mm, .ref (zk 0), .int 0]))]) hP hD [0] [1] rfl rfl (by decide) (by decide) hk1 hFc hP1 hD1
  clear hPc hDc hFc hDv hpre hP hD hP1 hK1 hD1
  obtain ⟨hP, hD⟩ := hPD9
  replace hz : s.heap.size + 0 ≤ H7.size := by omega
  clear hz2
  replace hP : va_P (dC, dI) vwCl [(mo, .inr (9, [.int 0, .ref am, .int 0, .int 0, .int 0])), (am, .inr (4, [.int mm, .ref (zk 0), .int 0]))] H7 := hP
  replace hD : va_D A [(mo, .inr (9, [.int 0, .ref am, .int 0, .int 0, .int 0])), (am, .inr (4, [.int mm, .ref (zk 0), .int 0]))] := hD
  refine W.widen (k := 0) (n := 0) (by omega) (by omega) ?_
  refine lv_bipush (v := 12) hx hb dX4_make_39 (by decide) ?_
  refine lv_icmp_ne (tgt := 48) hx hb dX4_make_41 (by decide) (fun c9 => ?_) (fun c9 => ?_)
  rotate_left
  · exact absurd c9 (by decide)
  refine lv_iconst (v := 0) hx hb dX4_make_48 (by decide) ?_
  refine lv_iconst (v := 2) hx hb dX4_make_49 (by decide) ?_
  have hPc := hP.sub (ws' := [(mo, .inr (9, [.int 0, .ref am, .int 0, .int 0, .int 0]))]) [0] rfl
  have hDc := hD.sub (ws' := [(mo, .inr (9, [.int 0, .ref am, .int 0, .int 0, .int 0]))]) [0] (by decide) rfl
  have hFc := va_free (wc := [(mo, .inr (9, [.int 0, .ref am, .int 0, .int 0, .int 0]))]) hD hS hA [0] rfl
  have hDv := hDc.self (sz := H7.size)
  have hpre := zpre (xs' := []) (av := [.ref mo, .int 0, .int 2]) hPc hK (hDc.weaken (fun _ _ _ h => h)) hZ hS hFc (fun r hr => by cases hr)
  refine va_calli (va_runV (As := [.int 0, .int 2]) (rest := []) ⟨hx, hb, hml, hown, hts⟩ (k_ref02 l dC dI cI cB cR cO zk mo am H7.size ) (cwV 2 hts gX4_make_X4_refuse rfl rfl rfl (by decide +kernel) ⟨Nat.le_of_ble_eq_true rfl, Nat.le_of_ble_eq_true rfl⟩) ⟨zblind, (zrecv_9 hK hPc (q0 := 0) rfl), hpre⟩ rfl rfl hl.1 rfl (lv_room (Nat.le_of_ble_eq_true rfl)) dX4_make_50 ⟨Nat.le_of_ble_eq_true rfl, Nat.le_of_ble_eq_true rfl⟩) hS (fun q _ h => hFc q h) hFc (fun r10 u t H9 locs ht hvm hw hB hz1 hk1 hS => ?_)
  obtain rfl : 0 = r10 := (show r10 = 0 from hw).symm
  obtain ⟨hP1, hK1, hD1, hz2⟩ := hB
  rw [ht] at hP1 hz2
  have hPD9 := va_join (wr := [(am, .inr (4, [.int mm, .ref (zk 0), .int 0]))]) (w1 := [(mo, .inr (9, [.int 0, .ref am, .int 0, .int 0, .int 0]))]) hP hD [0] [1] rfl rfl (by decide) (by decide) hk1 hFc hP1 hD1
  clear hPc hDc hFc hDv hpre hP hD hP1 hK1 hD1
  obtain ⟨hP, hD⟩ := hPD9
  replace hz : s.heap.size + 0 ≤ H9.size := by omega
  clear hz2
  replace hP : va_P (dC, dI) vwCl [(am, .inr (4, [.int mm, .ref (zk 0), .int 0])), (mo, .inr (9, [.int 0, .ref am, .int 0, .int 0, .int 0]))] H9 := hP
  replace hD : va_D A [(am, .inr (4, [.int mm, .ref (zk 0), .int 0])), (mo, .inr (9, [.int 0, .ref am, .int 0, .int 0, .int 0]))] := hD
  refine W.widen (k := 0) (n := 0) (by omega) (by omega) ?_
  refine lv_if_eq (tgt := 58) hx hb dX4_make_53 (by decide) (fun c9 => ?_) (fun c9 => ?_)
  rotate_left
  · exact absurd (by decide) c9
  refine lv_aload_n hx hb dX4_make_58 rfl (lv_at hl 0 rfl) ?_
  refine va_get (D := (dC, dI)) (ci := 9) (v := .ref am) (C := RX4) (T := TX4) (N := 5) hx hb hts hi_X4_make_X4 hown hK hP 1 rfl rfl 1 (by decide) (hts (.fieldLink RX4 10 "DeeprowsModel" "rows" "Ljava/util/ArrayList;") (List.mem_cons_of_mem _ zw_1128)) (fun _ h9 => h9) rfl dX4_make_59 ?_
  refine zw_new (ci := 8) (fs := [.int 0, .null, .null]) (C := RX3) (T := TX3) (N := 3) hx hb hts hi_X4_make_X3 tyX3 tyX3_ok hown (hts (.classLink RX4 40 "DeeprowsModel$Row") (List.mem_cons_of_mem _ zw_1163)) (hts (.instantiable RX3 3) (List.mem_cons_of_mem _ zw_1164)) (hts (.initialized RX3) (List.mem_cons_of_mem _ zw_55)) hK hP hD hS hA rfl (fun j hj => by rcases (show j = 0 ∨ j = 1 ∨ j = 2 by omega) with rfl | rfl | rfl <;> rfl) (Nat.le_of_ble_eq_true rfl) (Nat.le_of_ble_eq_true rfl) dX4_make_62 hz (fun q11 H12 hP hD hS hz => ?_)
  replace hP : va_P (dC, dI) vwCl [(am, .inr (4, [.int mm, .ref (zk 0), .int 0])), (mo, .inr (9, [.int 0, .ref am, .int 0, .int 0, .int 0])), (q11, .inr (8, [.int 0, .null, .null]))] H12 := hP
  replace hD : va_D A [(am, .inr (4, [.int mm, .ref (zk 0), .int 0])), (mo, .inr (9, [.int 0, .ref am, .int 0, .int 0, .int 0])), (q11, .inr (8, [.int 0, .null, .null]))] := hD
  refine W.widen (k := 1) (n := 3) (by omega) (by omega) ?_
  refine lv_dup hx hb dX4_make_65 rfl ?_
  refine lv_iload_n hx hb dX4_make_66 rfl (lv_at hl 1 rfl) ?_
  refine lv_iload_n hx hb dX4_make_67 rfl (lv_at hl 2 rfl) ?_
  have hPc := hP.sub (ws' := [(q11, .inr (8, [.int 0, .null, .null]))]) [2] rfl
  have hDc := hD.sub (ws' := [(q11, .inr (8, [.int 0, .null, .null]))]) [2] (by decide) rfl
  have hFc := va_free (wc := [(q11, .inr (8, [.int 0, .null, .null]))]) hD hS hA [2] rfl
  have hDv := hDc.self (sz := H12.size)
  have hpre := zpre (xs' := []) (av := [.ref q11, .int kd, .int 0]) hPc hK (hDc.weaken (fun _ _ _ h => h)) hZ hS hFc (fun r hr => by cases hr)
  refine va_callv (va_runI (As := [.int kd, .int 0]) (rest := [.ref q11, .ref am]) ⟨hx, hb, hml, hown, hts⟩ (k_mI0s l dC dI cI cB cR cO zk q11 kd H12.size  hkd) (cwI 2 hts gX4_make_X3_init rfl rfl rfl (hts (.initialized RX3) (List.mem_cons_of_mem _ zw_55)) (hts (.methodLink RX4 76 yX3_init) (List.mem_cons_of_mem _ zw_1165)) (hts (.instanceMethod yX3_init) (List.mem_cons_of_mem _ zw_1166)) rfl (by decide +kernel) ⟨Nat.le_of_ble_eq_true rfl, Nat.le_of_ble_eq_true rfl⟩) ⟨zblind, hpre⟩ rfl rfl hl.1 rfl (lv_room (Nat.le_of_ble_eq_true rfl)) dX4_make_68 ⟨Nat.le_of_ble_eq_true rfl, Nat.le_of_ble_eq_true rfl⟩) hS (fun q _ h => hFc q h) hFc (fun u t H13 locs ht hvm hw hB hz1 hk1 hS => ?_)
  obtain ⟨wa15, na16, ⟨hP1, hK1, hD1, hz2⟩⟩ := hB
  rw [ht] at hP1 hz2
  have hPD9 := va_join (wr := [(am, .inr (4, [.int mm, .ref (zk 0), .int 0])), (mo, .inr (9, [.int 0, .ref am, .int 0, .int 0, .int 0]))]) (w1 := [(q11, .inr (8, [.int kd, .ref wa15, .ref na16]))]) hP hD [2] [0, 1] rfl rfl (by decide) (by decide) hk1 hFc hP1 hD1
  clear hPc hDc hFc hDv hpre hP hD hP1 hK1 hD1
  obtain ⟨hP, hD⟩ := hPD9
  replace hz : s.heap.size + 3 ≤ H13.size := by omega
  clear hz2
  replace hP : va_P (dC, dI) vwCl [(am, .inr (4, [.int mm, .ref (zk 0), .int 0])), (mo, .inr (9, [.int 0, .ref am, .int 0, .int 0, .int 0])), (q11, .inr (8, [.int kd, .ref wa15, .ref na16]))] H13 := hP
  replace hD : va_D A [(am, .inr (4, [.int mm, .ref (zk 0), .int 0])), (mo, .inr (9, [.int 0, .ref am, .int 0, .int 0, .int 0])), (q11, .inr (8, [.int kd, .ref wa15, .ref na16]))] := hD
  refine W.widen (k := 3) (n := 3) (by omega) (by omega) ?_
  have hPc := hP.sub (ws' := [(am, .inr (4, [.int mm, .ref (zk 0), .int 0])), (q11, .inr (8, [.int kd, .ref wa15, .ref na16]))]) [0, 2] rfl
  have hDc := hD.sub (ws' := [(am, .inr (4, [.int mm, .ref (zk 0), .int 0])), (q11, .inr (8, [.int kd, .ref wa15, .ref na16]))]) [0, 2] (by decide) rfl
  have hFc := va_free (wc := [(am, .inr (4, [.int mm, .ref (zk 0), .int 0])), (q11, .inr (8, [.int kd, .ref wa15, .ref na16]))]) hD hS hA [0, 2] rfl
  have hDv := hDc.self (sz := H13.size)
  have hpre := zpre (xs' := []) (av := [.ref am, .ref q11]) hPc hK (hDc.weaken (fun _ _ _ h => h)) hZ hS hFc (fun r hr => by cases hr)
  refine va_calli (va_runV (As := [.ref q11]) (rest := []) ⟨hx, hb, hml, hown, hts⟩ (k_addZX3 l dC dI cI cB cR cO zk am q11 mm kd wa15 na16 H13.size ) (cwV 1 hts gX4_make_Jx4a65c_add_9ea2d rfl rfl rfl (by decide +kernel) ⟨Nat.le_of_ble_eq_true rfl, Nat.le_of_ble_eq_true rfl⟩) ⟨zblind, (zrecv_4 hK hPc (q0 := 0) rfl), hpre⟩ rfl rfl hl.1 rfl (lv_room (Nat.le_of_ble_eq_true rfl)) dX4_make_71 ⟨Nat.le_of_ble_eq_true rfl, Nat.le_of_ble_eq_true rfl⟩) hS (fun q _ h => hFc q h) hFc (fun r18 u t H17 locs ht hvm hw hB hz1 hk1 hS => ?_)
  obtain rfl : 1 = r18 := (show r18 = 1 from hw).symm
  obtain ⟨em19, mm20, ⟨hP1, hK1, hD1, hz2⟩⟩ := hB
  rw [ht] at hP1 hz2
  have hPD9 := va_join (wr := [(mo, .inr (9, [.int 0, .ref am, .int 0, .int 0, .int 0]))]) (w1 := [(am, .inr (4, [.int mm20, .ref em19, .int 1])), (q11, .inr (8, [.int kd, .ref wa15, .ref na16]))]) hP hD [0, 2] [1] rfl rfl (by decide) (by decide) hk1 hFc hP1 hD1
  clear hPc hDc hFc hDv hpre hP hD hP1 hK1 hD1
  obtain ⟨hP, hD⟩ := hPD9
  replace hz : s.heap.size + 4 ≤ H17.size := by omega
  clear hz2
  replace hP : va_P (dC, dI) vwCl [(mo, .inr (9, [.int 0, .ref am, .int 0, .int 0, .int 0])), (am, .inr (4, [.int mm20, .ref em19, .int 1])), (q11, .inr (8, [.int kd, .ref wa15, .ref na16]))] H17 := hP
  replace hD : va_D A [(mo, .inr (9, [.int 0, .ref am, .int 0, .int 0, .int 0])), (am, .inr (4, [.int mm20, .ref em19, .int 1])), (q11, .inr (8, [.int kd, .ref wa15, .ref na16]))] := hD
  refine W.widen (k := 4) (n := 13) (by omega) (by omega) ?_
  refine lv_pop hx hb dX4_make_74 rfl ?_
  refine lv_aload_n hx hb dX4_make_75 rfl (lv_at hl 0 rfl) ?_
  refine va_get (D := (dC, dI)) (ci := 9) (v := .ref am) (C := RX4) (T := TX4) (N := 5) hx hb hts hi_X4_make_X4 hown hK hP 0 rfl rfl 1 (by decide) (hts (.fieldLink RX4 10 "DeeprowsModel" "rows" "Ljava/util/ArrayList;") (List.mem_cons_of_mem _ zw_1128)) (fun _ h9 => h9) rfl dX4_make_76 ?_
  have hPc := hP.sub (ws' := [(am, .inr (4, [.int mm20, .ref em19, .int 1]))]) [1] rfl
  have hDc := hD.sub (ws' := [(am, .inr (4, [.int mm20, .ref em19, .int 1]))]) [1] (by decide) rfl
  have hFc := va_free (wc := [(am, .inr (4, [.int mm20, .ref em19, .int 1]))]) hD hS hA [1] rfl
  have hDv := hDc.self (sz := H17.size)
  have hpre := zpre (xs' := []) (av := [.ref am]) hPc hK (hDc.weaken (fun _ _ _ h => h)) hZ hS hFc (fun r hr => by cases hr)
  refine va_calli (va_runV (As := []) (rest := []) ⟨hx, hb, hml, hown, hts⟩ (k_size l dC dI cI cB cR cO zk am em19 1 (.int mm20) H17.size ) (cwV 0 hts gX4_make_Jx4a65c_size_8abf5 rfl rfl rfl (by decide +kernel) ⟨Nat.le_of_ble_eq_true rfl, Nat.le_of_ble_eq_true rfl⟩) ⟨zblind, (zrecv_4 hK hPc (q0 := 0) rfl), hpre⟩ rfl rfl hl.1 rfl (lv_room (Nat.le_of_ble_eq_true rfl)) dX4_make_79 ⟨Nat.le_of_ble_eq_true rfl, Nat.le_of_ble_eq_true rfl⟩) hS (fun q _ h => hFc q h) hFc (fun r22 u t H21 locs ht hvm hw hB hz1 hk1 hS => ?_)
  obtain rfl : 1 = r22 := (show r22 = 1 from hw).symm
  obtain ⟨hP1, hK1, hD1, hz2⟩ := hB
  rw [ht] at hP1 hz2
  have hPD9 := va_join (wr := [(mo, .inr (9, [.int 0, .ref am, .int 0, .int 0, .int 0])), (q11, .inr (8, [.int kd, .ref wa15, .ref na16]))]) (w1 := [(am, .inr (4, [.int mm20, .ref em19, .int 1]))]) hP hD [1] [0, 2] rfl rfl (by decide) (by decide) hk1 hFc hP1 hD1
  clear hPc hDc hFc hDv hpre hP hD hP1 hK1 hD1
  obtain ⟨hP, hD⟩ := hPD9
  replace hz : s.heap.size + 4 ≤ H21.size := by omega
  clear hz2
  replace hP : va_P (dC, dI) vwCl [(mo, .inr (9, [.int 0, .ref am, .int 0, .int 0, .int 0])), (q11, .inr (8, [.int kd, .ref wa15, .ref na16])), (am, .inr (4, [.int mm20, .ref em19, .int 1]))] H21 := hP
  replace hD : va_D A [(mo, .inr (9, [.int 0, .ref am, .int 0, .int 0, .int 0])), (q11, .inr (8, [.int kd, .ref wa15, .ref na16])), (am, .inr (4, [.int mm20, .ref em19, .int 1]))] := hD
  refine W.widen (k := 4) (n := 13) (by omega) (by omega) ?_
  refine lv_iconst (v := 1) hx hb dX4_make_82 (by decide) ?_
  refine lv_isub hx hb dX4_make_83 ?_
  refine lv_topi (fun v23 ev23 => ?_)
  obtain rfl : v23 = 0 := ev23.trans (by decide)
  have hP9 := hP.sub (ws' := [(mo, .inr (9, [.int 0, .ref am, .int 0, .int 0, .int 0]))]) [0] rfl
  have hD9 := hD.sub (ws' := [(mo, .inr (9, [.int 0, .ref am, .int 0, .int 0, .int 0]))]) [0] (by decide) rfl
  exact W.iret (v := 0) hx hb hr (fun t ht hW => ⟨⟨_, (), rfl, rfl, ⟨by rw [ht]; exact hP9, va_K.moved hW.alike hK, hD9, by rw [ht]; exact hz⟩⟩, hS.F ht⟩) hS.2.2 dX4_make_84

set_option maxHeartbeats 4000000 in
set_option maxRecDepth 100000 in
theorem k_mI14 (l : Launch) (dC : Nat → ClassId) (dI : Nat → Nat → Nat) (cI cB cR cO : ClassId) (zk : Nat → Nat) (a : Nat) (sz : Nat)  : Met l yX3_init wsX3_init ({ frames := 1, cells := 2, slots := 2, locals := 60 }) (va_Pc [.ref a, .int 4, .int 1] (zPre (dC, dI) (zT cI cB cR cO) zk [] [(a, .inr (8, [.int 0, .null, .null]))] sz)) (va_Qv (fun _ : Unit => True) (fun _ t => ∃ wa, ∃ na, zEnd (dC, dI) (zT cI cB cR cO) (va_A [(a, .inr (8, [.int 0, .null, .null]))] sz) [(a, .inr (8, [.int 4, .ref wa, .ref na]))] sz 2 t) (va_A [(a, .inr (8, [.int 0, .null, .null]))] sz)) 2 2 (va_A [(a, .inr (8, [.int 0, .null, .null]))] sz) := by
  refine Met.ofW (cc := cX3_init) (maxL := 4) (ret := none) (by decide) rfl ?_
  intro p e s mY args below meth c s₁ B hml hv
  obtain ⟨rfl, hsz, hP, hK, hD0, hZ⟩ := hv
  have hx := B.exec
  have hb := B.bytes
  have hr := B.returns
  have hts := atoms_spec (ws := wsX3_init) B.pre
  have hown : s.vm.findClass RX3 = some mY.cls := findClass_of_methodNamed B.named
  have hlocks := B.notSynchronized
  have hin : meth.name = "<init>" := (name_of_methodNamed B.named B.method).1
  subst hsz
  have hD := hD0.self (sz := s.heap.size)
  generalize hAe : va_A [(a, .inr (8, [.int 0, .null, .null]))] s.heap.size = A at hD hZ ⊢
  have hA : ∀ q : Nat, s.heap.size ≤ q → A q := fun q h => by rw [← hAe]; exact Or.inr h
  have hS : va_S A s.heap s.heap [] := va_S.rf
  have hz : s.heap.size + 0 ≤ s.heap.size := Nat.le_refl _
  have hl := lv_entry ([.ref a, .int 4, .int 1]) (n := 4) (Nat.le_of_ble_eq_true rfl)
  rw [lg_entry_eq]
  generalize (lg_sl ([.ref a, .int 4, .int 1]) ++ List.replicate (4 - (lg_sl ([.ref a, .int 4, .int 1])).length) Slot.unset).toArray = ls at hl ⊢
  have hl : lv_has ls 4 [(0, .ref a), (1, .int 4), (2, .int 1)] := hl
  have hP : va_P (dC, dI) vwCl [(a, .inr (8, [.int 0, .null, .null]))] s.heap := hP
  have hD : va_D A [(a, .inr (8, [.int 0, .null, .null]))] := hD
  refine lv_aload_n hx hb dX3_init_0 rfl (lv_at hl 0 rfl) ?_
  refine W.objInit hx hb hown (hts (.methodLink RX3 3 objectInit) (List.mem_cons_of_mem _ zw_1168)) (hts (.instanceMethod objectInit) (List.mem_cons_of_mem _ zw_71)) (hts (.code objectInit ⟨#[0xb1]⟩ 1 none) (List.mem_cons_of_mem _ zw_72)) rfl (by rw [hml]; exact hl.1) rfl dX3_init_1 (Nat.le_of_ble_eq_true rfl) (Nat.le_of_ble_eq_true rfl) ?_
  refine W.eq (g2 := F0 mY 4 ls []) rfl ?_
  refine lv_aload_n hx hb dX3_init_4 rfl (lv_at hl 0 rfl) ?_
  refine lv_iload_n hx hb dX3_init_5 rfl (lv_at hl 1 rfl) ?_
  refine va_putF (D := (dC, dI)) (ci := 8) (v := .int 4) (ty := .int) (C := RX3) (T := TX3) (N := 3) hx hb hts hi_X3_init_X3 tyX3 tyX3_ok nmX3 hown hK hP hD (zS0 hS) 0 rfl rfl 0 (by decide) (hts (.fieldLink RX3 9 "DeeprowsModel$Row" "kind" "I") (List.mem_cons_of_mem _ zw_1173)) (fun _ h9 => h9) rfl hin rfl (by decide +kernel) rfl rfl (Nat.le_of_ble_eq_true rfl) dX3_init_6 (fun H1 locs hP hD hS1 => ?_)
  have hz : s.heap.size + 0 ≤ H1.size := Nat.le_trans hz hS1.1
  have hS := zSS hS hS1
  replace hP : va_P (dC, dI) vwCl [(a, .inr (8, [.int 4, .null, .null]))] H1 := hP
  replace hD : va_D A [(a, .inr (8, [.int 4, .null, .null]))] := hD
  refine lv_aload_n hx hb dX3_init_9 rfl (lv_at hl 0 rfl) ?_
  refine lv_iload_n hx hb dX3_init_10 rfl (lv_at hl 2 rfl) ?_
  refine zw_newa (atype := .int) (ty := .int) (N' := 1) hx hb (hts (.arrayClass .int) (List.mem_cons_of_mem _ zw_131)) rfl (by first | exact Or.inl rfl | exact Or.inr rfl) hK hP hD hS hA 0 rfl (by decide) (by decide) (Nat.le_of_ble_eq_true rfl) (Nat.le_of_ble_eq_true rfl) (Nat.le_of_ble_eq_true rfl) dX3_init_11 hz (fun q2 H3 hP hD hS hz => ?_)
  replace hP : va_P (dC, dI) vwCl [(a, .inr (8, [.int 4, .null, .null])), (q2, .inl (cI, 1, .inl (fun _ => 0)))] H3 := hP
  replace hD : va_D A [(a, .inr (8, [.int 4, .null, .null])), (q2, .inl (cI, 1, .inl (fun _ => 0)))] := hD
  refine W.widen (k := 1) (n := 1) (by omega) (by omega) ?_
  refine va_putF (D := (dC, dI)) (ci := 8) (v := .ref q2) (ty := .array .int) (C := RX3) (T := TX3) (N := 3) hx hb hts hi_X3_init_X3 tyX3 tyX3_ok nmX3 hown hK hP hD (zS0 hS) 0 rfl rfl 1 (by decide) (hts (.fieldLink RX3 15 "DeeprowsModel$Row" "whats" "[I") (List.mem_cons_of_mem _ zw_1175)) (fun _ h9 => h9) rfl hin rfl (by decide +kernel) rfl rfl (Nat.le_of_ble_eq_true rfl) dX3_init_13 (fun H4 locs hP hD hS1 => ?_)
  have hz : s.heap.size + 1 ≤ H4.size := Nat.le_trans hz hS1.1
  have hS := zSS hS hS1
  replace hP : va_P (dC, dI) vwCl [(a, .inr (8, [.int 4, .ref q2, .null])), (q2, .inl (cI, 1, .inl (fun _ => 0)))] H4 := hP
  replace hD : va_D A [(a, .inr (8, [.int 4, .ref q2, .null])), (q2, .inl (cI, 1, .inl (fun _ => 0)))] := hD
  refine lv_aload_n hx hb dX3_init_16 rfl (lv_at hl 0 rfl) ?_
  refine lv_iload_n hx hb dX3_init_17 rfl (lv_at hl 2 rfl) ?_
  refine zw_newa (atype := .int) (ty := .int) (N' := 1) hx hb (hts (.arrayClass .int) (List.mem_cons_of_mem _ zw_131)) rfl (by first | exact Or.inl rfl | exact Or.inr rfl) hK hP hD hS hA 0 rfl (by decide) (by decide) (Nat.le_of_ble_eq_true rfl) (Nat.le_of_ble_eq_true rfl) (Nat.le_of_ble_eq_true rfl) dX3_init_18 hz (fun q5 H6 hP hD hS hz => ?_)
  replace hP : va_P (dC, dI) vwCl [(a, .inr (8, [.int 4, .ref q2, .null])), (q2, .inl (cI, 1, .inl (fun _ => 0))), (q5, .inl (cI, 1, .inl (fun _ => 0)))] H6 := hP
  replace hD : va_D A [(a, .inr (8, [.int 4, .ref q2, .null])), (q2, .inl (cI, 1, .inl (fun _ => 0))), (q5, .inl (cI, 1, .inl (fun _ => 0)))] := hD
  refine W.widen (k := 2) (n := 2) (by omega) (by omega) ?_
  refine va_putF (D := (dC, dI)) (ci := 8) (v := .ref q5) (ty := .array .int) (C := RX3) (T := TX3) (N := 3) hx hb hts hi_X3_init_X3 tyX3 tyX3_ok nmX3 hown hK hP hD (zS0 hS) 0 rfl rfl 2 (by decide) (hts (.fieldLink RX3 19 "DeeprowsModel$Row" "numbers" "[I") (List.mem_cons_of_mem _ zw_1177)) (fun _ h9 => h9) rfl hin rfl (by decide +kernel) rfl rfl (Nat.le_of_ble_eq_true rfl) dX3_init_20 (fun H7 locs hP hD hS1 => ?_)
  have hz : s.heap.size + 2 ≤ H7.size := Nat.le_trans hz hS1.1
  have hS := zSS hS hS1
  replace hP : va_P (dC, dI) vwCl [(a, .inr (8, [.int 4, .ref q2, .ref q5])), (q2, .inl (cI, 1, .inl (fun _ => 0))), (q5, .inl (cI, 1, .inl (fun _ => 0)))] H7 := hP
  replace hD : va_D A [(a, .inr (8, [.int 4, .ref q2, .ref q5])), (q2, .inl (cI, 1, .inl (fun _ => 0))), (q5, .inl (cI, 1, .inl (fun _ => 0)))] := hD
  refine lv_iconst (v := 0) hx hb dX3_init_23 (by decide) ?_
  refine lv_istore_n (lv' := [(3, .int 0), (0, .ref a), (1, .int 4), (2, .int 1)]) hx hb dX3_init_24 rfl hl (by decide) rfl (fun ls hl => ?_)
  refine lv_iload_n hx hb dX3_init_25 rfl (lv_at hl 0 rfl) ?_
  refine lv_iload_n hx hb dX3_init_26 rfl (lv_at hl 3 rfl) ?_
  refine lv_icmp_ge (tgt := 61) hx hb dX3_init_27 (by decide) (fun c9 => ?_) (fun c9 => ?_)
  · exact absurd c9 (by decide)
  refine lv_aload_n hx hb dX3_init_30 rfl (lv_at hl 1 rfl) ?_
  refine lv_iload_n hx hb dX3_init_31 rfl (lv_at hl 0 rfl) ?_
  refine lv_iload_n hx hb dX3_init_32 rfl (lv_at hl 2 rfl) ?_
  refine lv_iconst (v := 4) hx hb dX3_init_33 (by decide) ?_
  refine lv_icmp_ne (tgt := 41) hx hb dX3_init_34 (by decide) (fun c9 => ?_) (fun c9 => ?_)
  · exact absurd (by decide) c9
  refine lv_iconst (v := 0) hx hb dX3_init_37 (by decide) ?_
  refine lv_goto (tgt := 42) hx hb dX3_init_38 (by decide) ?_
  refine lv_iload_n hx hb dX3_init_42 rfl (lv_at hl 2 rfl) ?_
  refine lv_iconst (v := 4) hx hb dX3_init_43 (by decide) ?_
  refine lv_icmp_ne (tgt := 51) hx hb dX3_init_44 (by decide) (fun c9 => ?_) (fun c9 => ?_)
  · exact absurd (by decide) c9
  refine lv_iconst (v := (-1)) hx hb dX3_init_47 (by decide) ?_
  refine lv_goto (tgt := 52) hx hb dX3_init_48 (by decide) ?_
  have hPc := hP.sub (ws' := [(a, .inr (8, [.int 4, .ref q2, .ref q5])), (q2, .inl (cI, 1, .inl (fun _ => 0))), (q5, .inl (cI, 1, .inl (fun _ => 0)))]) [0, 1, 2] rfl
  have hDc := hD.sub (ws' := [(a, .inr (8, [.int 4, .ref q2, .ref q5])), (q2, .inl (cI, 1, .inl (fun _ => 0))), (q5, .inl (cI, 1, .inl (fun _ => 0)))]) [0, 1, 2] (by decide) rfl
  have hFc := va_free (wc := [(a, .inr (8, [.int 4, .ref q2, .ref q5])), (q2, .inl (cI, 1, .inl (fun _ => 0))), (q5, .inl (cI, 1, .inl (fun _ => 0)))]) hD hS hA [0, 1, 2] rfl
  have hDv := hDc.self (sz := H7.size)
  have hpre := zpre (xs' := []) (av := [.ref a, .int 0, .int 0, .int (-1)]) hPc hK (hDc.weaken (fun _ _ _ h => h)) hZ hS hFc (fun r hr => by cases hr)
  refine va_callv (va_runV (As := [.int 0, .int 0, .int (-1)]) (rest := []) ⟨hx, hb, hml, hown, hts⟩ (k_mpZ1_0 l dC dI cI cB cR cO zk a q2 q5 4 0 (-1) (fun _ => 0) (fun _ => 0) H7.size ) (cwV 3 hts gX3_init_X3_put rfl rfl rfl (by decide +kernel) ⟨Nat.le_of_ble_eq_true rfl, Nat.le_of_ble_eq_true rfl⟩) ⟨zblind, (zrecv_8 hK hPc (q0 := 0) rfl), hpre⟩ rfl rfl hl.1 rfl (lv_room (Nat.le_of_ble_eq_true rfl)) dX3_init_52 ⟨Nat.le_of_ble_eq_true rfl, Nat.le_of_ble_eq_true rfl⟩) hS (fun q _ h => hFc q h) hFc (fun u t H8 locs ht hvm hw hB hz1 hk1 hS => ?_)
  obtain ⟨hP1, hK1, hD1, hz2⟩ := hB
  rw [ht] at hP1 hz2
  have hPD9 := va_join (wr := []) (w1 := [(a, .inr (8, [.int 4, .ref q2, .ref q5])), (q2, .inl (cI, 1, .inl (upd (fun _ => 0) 0 0))), (q5, .inl (cI, 1, .inl (upd (fun _ => 0) 0 (-1))))]) hP hD [0, 1, 2] [] rfl rfl (by decide) (by decide) hk1 hFc hP1 hD1
  clear hPc hDc hFc hDv hpre hP hD hP1 hK1 hD1
  obtain ⟨hP, hD⟩ := hPD9
  replace hz : s.heap.size + 2 ≤ H8.size := by omega
  clear hz2
  replace hP : va_P (dC, dI) vwCl [(a, .inr (8, [.int 4, .ref q2, .ref q5])), (q2, .inl (cI, 1, .inl (upd (fun _ => 0) 0 0))), (q5, .inl (cI, 1, .inl (upd (fun _ => 0) 0 (-1))))] H8 := hP
  replace hD : va_D A [(a, .inr (8, [.int 4, .ref q2, .ref q5])), (q2, .inl (cI, 1, .inl (upd (fun _ => 0) 0 0))), (q5, .inl (cI, 1, .inl (upd (fun _ => 0) 0 (-1))))] := hD
  refine W.widen (k := 2) (n := 2) (by omega) (by omega) ?_
  refine lv_iinc (v := 1) (lv' := [(3, .int 1), (0, .ref a), (1, .int 4), (2, .int 1)]) hx hb dX3_init_55 hl (k := 0) rfl (by decide) (by decide) rfl (fun ls hl => ?_)
  refine lv_goto (tgt := 25) hx hb dX3_init_58 (by decide) ?_
  refine lv_iload_n hx hb dX3_init_25 rfl (lv_at hl 0 rfl) ?_
  refine lv_iload_n hx hb dX3_init_26 rfl (lv_at hl 3 rfl) ?_
  refine lv_icmp_ge (tgt := 61) hx hb dX3_init_27 (by decide) (fun c9 => ?_) (fun c9 => ?_)
  rotate_left
  · exact absurd (by decide) c9
  have hP9 := hP.sub (ws' := [(a, .inr (8, [.int 4, .ref q2, .ref q5]))]) [0] rfl
  have hD9 := hD.sub (ws' := [(a, .inr (8, [.int 4, .ref q2, .ref q5]))]) [0] (by decide) rfl
  exact W.vret hx hb hr (fun t ht hW => ⟨⟨(), rfl, trivial, ⟨_, _, ⟨by rw [ht]; exact hP9, va_K.moved hW.alike hK, hD9, by rw [ht]; exact hz⟩⟩⟩, hS.F ht⟩) hS.2.2 dX3_init_61

set_option maxHeartbeats 4000000 in
set_option maxRecDepth 100000 in
theorem k_mkM14 (l : Launch) (dC : Nat → ClassId) (dI : Nat → Nat → Nat) (cI cB cR cO : ClassId) (zk : Nat → Nat) (mo am : Nat) (th : Value) (mm : Int32) (sz : Nat)  : Met l yX4_make wsX4_make ({ frames := 5, cells := 4, slots := 15, locals := 127 }) (va_Pc [.ref mo, .int 4, .int 1] (zPre (dC, dI) (zT cI cB cR cO) zk [] [(mo, .inr (9, [th, .ref am, .int 0, .int 0, .int 0])), (am, .inr (4, [.int mm, .ref (zk 0), .int 0]))] sz)) (va_Qi (fun r (_ : Unit) => r = 0) (fun _ t => zEnd (dC, dI) (zT cI cB cR cO) (va_A [(mo, .inr (9, [th, .ref am, .int 0, .int 0, .int 0])), (am, .inr (4, [.int mm, .ref (zk 0), .int 0]))] sz) [(mo, .inr (9, [.int 0, .ref am, .int 0, .int 0, .int 0]))] sz 4 t) (va_A [(mo, .inr (9, [th, .ref am, .int 0, .int 0, .int 0])), (am, .inr (4, [.int mm, .ref (zk 0), .int 0]))] sz)) 4 15 (va_A [(mo, .inr (9, [th, .ref am, .int 0, .int 0, .int 0])), (am, .inr (4, [.int mm, .ref (zk 0), .int 0]))] sz) := by
  refine Met.ofW (cc := cX4_make) (maxL := 3) (ret := (some .int)) (by decide) rfl ?_
  intro p e s mY args below meth c s₁ B hml hv
  obtain ⟨rfl, hsz, hP, hK, hD0, hZ⟩ := hv
  have hx := B.exec
  have hb := B.bytes
  have hr := B.returns
  have hts := atoms_spec (ws := wsX4_make) B.pre
  have hown : s.vm.findClass RX4 = some mY.cls := findClass_of_methodNamed B.named
  have hlocks := B.notSynchronized
  subst hsz
  have hD := hD0.self (sz := s.heap.size)
  generalize hAe : va_A [(mo, .inr (9, [th, .ref am, .int 0, .int 0, .int 0])), (am, .inr (4, [.int mm, .ref (zk 0), .int 0]))] s.heap.size = A at hD hZ ⊢
  have hA : ∀ q : Nat, s.heap.size ≤ q → A q := fun q h => by rw [← hAe]; exact Or.inr h
  have hS : va_S A s.heap s.heap [] := va_S.rf
  have hz : s.heap.size + 0 ≤ s.heap.size := Nat.le_refl _
  have hl := lv_entry ([.ref mo, .int 4, .int 1]) (n := 3) (Nat.le_of_ble_eq_true rfl)
  rw [lg_entry_eq]
  generalize (lg_sl ([.ref mo, .int 4, .int 1]) ++ List.replicate (3 - (lg_sl ([.ref mo, .int 4, .int 1])).length) Slot.unset).toArray = ls at hl ⊢
  have hl : lv_has ls 3 [(0, .ref mo), (1, .int 4), (2, .int 1)] := hl
  have hP : va_P (dC, dI) vwCl [(mo, .inr (9, [th, .ref am, .int 0, .int 0, .int 0])), (am, .inr (4, [.int mm, .ref (zk 0), .int 0]))] s.heap := hP
  have hD : va_D A [(mo, .inr (9, [th, .ref am, .int 0, .int 0, .int 0])), (am, .inr (4, [.int mm, .ref (zk 0), .int 0]))] := hD
  refine lv_aload_n hx hb dX4_make_0 rfl (lv_at hl 0 rfl) ?_
  refine lv_iload_n hx hb dX4_make_1 rfl (lv_at hl 1 rfl) ?_
  refine lv_iconst (v := 0) hx hb dX4_make_2 (by decide) ?_
  refine lv_iconst (v := 4) hx hb dX4_make_3 (by decide) ?_
  have hPc := hP.sub (ws' := []) [] rfl
  have hDc := hD.sub (ws' := []) [] (by decide) rfl
  have hFc := va_free (wc := []) hD hS hA [] rfl
  have hDv := hDc.self (sz := s.heap.size)
  have hpre := zpre (xs' := []) (av := [.int 4, .int 0, .int 4]) hPc hK (hDc.weaken (fun _ _ _ h => h)) hZ hS hFc (fun r hr => by cases hr)
  refine va_calli (va_runS (As := [.int 4, .int 0, .int 4]) (rest := [.ref mo]) ⟨hx, hb, hml, hown, hts⟩ (k_isIn4_4 l dC dI cI cB cR cO zk  s.heap.size ) (va_cwS 3 hts gX4_make_X4_isIn rfl rfl rfl (by decide +kernel) ⟨Nat.le_of_ble_eq_true rfl, Nat.le_of_ble_eq_true rfl⟩) ⟨zblind, hpre⟩ rfl rfl hl.1 rfl (lv_room (Nat.le_of_ble_eq_true rfl)) dX4_make_4 ⟨Nat.le_of_ble_eq_true rfl, Nat.le_of_ble_eq_true rfl⟩) hS (fun q _ h => hFc q h) hFc (fun r2 u t H1 locs ht hvm hw hB hz1 hk1 hS => ?_)
  obtain rfl : 1 = r2 := (show r2 = 1 from hw).symm
  obtain ⟨hP1, hK1, hD1, hz2⟩ := hB
  rw [ht] at hP1 hz2
  have hPD9 := va_join (wr := [(mo, .inr (9, [th, .ref am, .int 0, .int 0, .int 0])), (am, .inr (4, [.int mm, .ref (zk 0), .int 0]))]) (w1 := []) hP hD [] [0, 1] rfl rfl (by decide) (by decide) hk1 hFc hP1 hD1
  clear hPc hDc hFc hDv hpre hP hD hP1 hK1 hD1
  obtain ⟨hP, hD⟩ := hPD9
  replace hz : s.heap.size + 0 ≤ H1.size := by omega
  clear hz2
  replace hP : va_P (dC, dI) vwCl [(mo, .inr (9, [th, .ref am, .int 0, .int 0, .int 0])), (am, .inr (4, [.int mm, .ref (zk 0), .int 0]))] H1 := hP
  replace hD : va_D A [(mo, .inr (9, [th, .ref am, .int 0, .int 0, .int 0])), (am, .inr (4, [.int mm, .ref (zk 0), .int 0]))] := hD
  refine W.widen (k := 0) (n := 0) (by omega) (by omega) ?_
  refine lv_if_eq (tgt := 19) hx hb dX4_make_7 (by decide) (fun c9 => ?_) (fun c9 => ?_)
  · exact absurd c9 (by decide)
  refine lv_iload_n hx hb dX4_make_10 rfl (lv_at hl 2 rfl) ?_
  refine lv_iconst (v := 0) hx hb dX4_make_11 (by decide) ?_
  refine lv_iconst (v := 4) hx hb dX4_make_12 (by decide) ?_
  have hPc := hP.sub (ws' := []) [] rfl
  have hDc := hD.sub (ws' := []) [] (by decide) rfl
  have hFc := va_free (wc := []) hD hS hA [] rfl
  have hDv := hDc.self (sz := H1.size)
  have hpre := zpre (xs' := []) (av := [.int 1, .int 0, .int 4]) hPc hK (hDc.weaken (fun _ _ _ h => h)) hZ hS hFc (fun r hr => by cases hr)
  refine va_calli (va_runS (As := [.int 1, .int 0, .int 4]) (rest := [.ref mo]) ⟨hx, hb, hml, hown, hts⟩ (k_isIn4_1 l dC dI cI cB cR cO zk  H1.size ) (va_cwS 3 hts gX4_make_X4_isIn rfl rfl rfl (by decide +kernel) ⟨Nat.le_of_ble_eq_true rfl, Nat.le_of_ble_eq_true rfl⟩) ⟨zblind, hpre⟩ rfl rfl hl.1 rfl (lv_room (Nat.le_of_ble_eq_true rfl)) dX4_make_13 ⟨Nat.le_of_ble_eq_true rfl, Nat.le_of_ble_eq_true rfl⟩) hS (fun q _ h => hFc q h) hFc (fun r4 u t H3 locs ht hvm hw hB hz1 hk1 hS => ?_)
  obtain rfl : 1 = r4 := (show r4 = 1 from hw).symm
  obtain ⟨hP1, hK1, hD1, hz2⟩ := hB
  rw [ht] at hP1 hz2
  have hPD9 := va_join (wr := [(mo, .inr (9, [th, .ref am, .int 0, .int 0, .int 0])), (am, .inr (4, [.int mm, .ref (zk 0), .int 0]))]) (w1 := []) hP hD [] [0, 1] rfl rfl (by decide) (by decide) hk1 hFc hP1 hD1
  clear hPc hDc hFc hDv hpre hP hD hP1 hK1 hD1
  obtain ⟨hP, hD⟩ := hPD9
  replace hz : s.heap.size + 0 ≤ H3.size := by omega
  clear hz2
  replace hP : va_P (dC, dI) vwCl [(mo, .inr (9, [th, .ref am, .int 0, .int 0, .int 0])), (am, .inr (4, [.int mm, .ref (zk 0), .int 0]))] H3 := hP
  replace hD : va_D A [(mo, .inr (9, [th, .ref am, .int 0, .int 0, .int 0])), (am, .inr (4, [.int mm, .ref (zk 0), .int 0]))] := hD
  refine W.widen (k := 0) (n := 0) (by omega) (by omega) ?_
  refine lv_if_ne (tgt := 23) hx hb dX4_make_16 (by decide) (fun c9 => ?_) (fun c9 => ?_)
  rotate_left
  · exact absurd c9 (by decide)
  refine lv_iconst (v := 0) hx hb dX4_make_23 (by decide) ?_
  refine lv_iconst (v := 1) hx hb dX4_make_24 (by decide) ?_
  have hPc := hP.sub (ws' := [(mo, .inr (9, [th, .ref am, .int 0, .int 0, .int 0]))]) [0] rfl
  have hDc := hD.sub (ws' := [(mo, .inr (9, [th, .ref am, .int 0, .int 0, .int 0]))]) [0] (by decide) rfl
  have hFc := va_free (wc := [(mo, .inr (9, [th, .ref am, .int 0, .int 0, .int 0]))]) hD hS hA [0] rfl
  have hDv := hDc.self (sz := H3.size)
  have hpre := zpre (xs' := []) (av := [.ref mo, .int 0, .int 1]) hPc hK (hDc.weaken (fun _ _ _ h => h)) hZ hS hFc (fun r hr => by cases hr)
  refine va_calli (va_runV (As := [.int 0, .int 1]) (rest := []) ⟨hx, hb, hml, hown, hts⟩ (k_stt0 l dC dI cI cB cR cO zk mo am th H3.size ) (cwV 2 hts gX4_make_X4_start rfl rfl rfl (by decide +kernel) ⟨Nat.le_of_ble_eq_true rfl, Nat.le_of_ble_eq_true rfl⟩) ⟨zblind, (zrecv_9 hK hPc (q0 := 0) rfl), hpre⟩ rfl rfl hl.1 rfl (lv_room (Nat.le_of_ble_eq_true rfl)) dX4_make_25 ⟨Nat.le_of_ble_eq_true rfl, Nat.le_of_ble_eq_true rfl⟩) hS (fun q _ h => hFc q h) hFc (fun r6 u t H5 locs ht hvm hw hB hz1 hk1 hS => ?_)
  obtain rfl : 0 = r6 := (show r6 = 0 from hw).symm
  obtain ⟨hP1, hK1, hD1, hz2⟩ := hB
  rw [ht] at hP1 hz2
  have hPD9 := va_join (wr := [(am, .inr (4, [.int mm, .ref (zk 0), .int 0]))]) (w1 := [(mo, .inr (9, [.int 0, .ref am, .int 0, .int 0, .int 0]))]) hP hD [0] [1] rfl rfl (by decide) (by decide) hk1 hFc hP1 hD1
  clear hPc hDc hFc hDv hpre hP hD hP1 hK1 hD1
  obtain ⟨hP, hD⟩ := hPD9
  replace hz : s.heap.size + 0 ≤ H5.size := by omega
  clear hz2
  replace hP : va_P (dC, dI) vwCl [(am, .inr (4, [.int mm, .ref (zk 0), .int 0])), (mo, .inr (9, [.int 0, .ref am, .int 0, .int 0, .int 0]))] H5 := hP
  replace hD : va_D A [(am, .inr (4, [.int mm, .ref (zk 0), .int 0])), (mo, .inr (9, [.int 0, .ref am, .int 0, .int 0, .int 0]))] := hD
  refine W.widen (k := 0) (n := 0) (by omega) (by omega) ?_
  refine lv_if_ne (tgt := 56) hx hb dX4_make_28 (by decide) (fun c9 => ?_) (fun c9 => ?_)
  · exact absurd (by decide) c9
  refine lv_aload_n hx hb dX4_make_31 rfl (lv_at hl 0 rfl) ?_
  refine lv_aload_n hx hb dX4_make_32 rfl (lv_at hl 0 rfl) ?_
  refine va_get (D := (dC, dI)) (ci := 9) (v := .ref am) (C := RX4) (T := TX4) (N := 5) hx hb hts hi_X4_make_X4 hown hK hP 1 rfl rfl 1 (by decide) (hts (.fieldLink RX4 10 "DeeprowsModel" "rows" "Ljava/util/ArrayList;") (List.mem_cons_of_mem _ zw_1128)) (fun _ h9 => h9) rfl dX4_make_33 ?_
  have hPc := hP.sub (ws' := [(am, .inr (4, [.int mm, .ref (zk 0), .int 0]))]) [0] rfl
  have hDc := hD.sub (ws' := [(am, .inr (4, [.int mm, .ref (zk 0), .int 0]))]) [0] (by decide) rfl
  have hFc := va_free (wc := [(am, .inr (4, [.int mm, .ref (zk 0), .int 0]))]) hD hS hA [0] rfl
  have hDv := hDc.self (sz := H5.size)
  have hpre := zpre (xs' := []) (av := [.ref am]) hPc hK (hDc.weaken (fun _ _ _ h => h)) hZ hS hFc (fun r hr => by cases hr)
  refine va_calli (va_runV (As := []) (rest := [.ref mo]) ⟨hx, hb, hml, hown, hts⟩ (k_size l dC dI cI cB cR cO zk am (zk 0) 0 (.int mm) H5.size ) (cwV 0 hts gX4_make_Jx4a65c_size_8abf5 rfl rfl rfl (by decide +kernel) ⟨Nat.le_of_ble_eq_true rfl, Nat.le_of_ble_eq_true rfl⟩) ⟨zblind, (zrecv_4 hK hPc (q0 := 0) rfl), hpre⟩ rfl rfl hl.1 rfl (lv_room (Nat.le_of_ble_eq_true rfl)) dX4_make_36 ⟨Nat.le_of_ble_eq_true rfl, Nat.le_of_ble_eq_true rfl⟩) hS (fun q _ h => hFc q h) hFc (fun r8 u t H7 locs ht hvm hw hB hz1 hk1 hS => ?_)
  obtain rfl : 0 = r8 := (show r8 = 0 from hw).symm
  obtain ⟨hP1, hK1, hD1, hz2⟩ := hB
  rw [ht] at hP1 hz2
  have hPD9 := va_join (wr := [(mo, .inr (9, [.int 0, .ref am, .int 0, .int 0, .int 0]))]) (w1 := [(am, .inr (4, [.int mm, .ref (zk 0), .int 0]))]) hP hD [0] [1] rfl rfl (by decide) (by decide) hk1 hFc hP1 hD1
  clear hPc hDc hFc hDv hpre hP hD hP1 hK1 hD1
  obtain ⟨hP, hD⟩ := hPD9
  replace hz : s.heap.size + 0 ≤ H7.size := by omega
  clear hz2
  replace hP : va_P (dC, dI) vwCl [(mo, .inr (9, [.int 0, .ref am, .int 0, .int 0, .int 0])), (am, .inr (4, [.int mm, .ref (zk 0), .int 0]))] H7 := hP
  replace hD : va_D A [(mo, .inr (9, [.int 0, .ref am, .int 0, .int 0, .int 0])), (am, .inr (4, [.int mm, .ref (zk 0), .int 0]))] := hD
  refine W.widen (k := 0) (n := 0) (by omega) (by omega) ?_
  refine lv_bipush (v := 12) hx hb dX4_make_39 (by decide) ?_
  refine lv_icmp_ne (tgt := 48) hx hb dX4_make_41 (by decide) (fun c9 => ?_) (fun c9 => ?_)
  rotate_left
  · exact absurd c9 (by decide)
  refine lv_iconst (v := 0) hx hb dX4_make_48 (by decide) ?_
  refine lv_iconst (v := 2) hx hb dX4_make_49 (by decide) ?_
  have hPc := hP.sub (ws' := [(mo, .inr (9, [.int 0, .ref am, .int 0, .int 0, .int 0]))]) [0] rfl
  have hDc := hD.sub (ws' := [(mo, .inr (9, [.int 0, .ref am, .int 0, .int 0, .int 0]))]) [0] (by decide) rfl
  have hFc := va_free (wc := [(mo, .inr (9, [.int 0, .ref am, .int 0, .int 0, .int 0]))]) hD hS hA [0] rfl
  have hDv := hDc.self (sz := H7.size)
  have hpre := zpre (xs' := []) (av := [.ref mo, .int 0, .int 2]) hPc hK (hDc.weaken (fun _ _ _ h => h)) hZ hS hFc (fun r hr => by cases hr)
  refine va_calli (va_runV (As := [.int 0, .int 2]) (rest := []) ⟨hx, hb, hml, hown, hts⟩ (k_ref02 l dC dI cI cB cR cO zk mo am H7.size ) (cwV 2 hts gX4_make_X4_refuse rfl rfl rfl (by decide +kernel) ⟨Nat.le_of_ble_eq_true rfl, Nat.le_of_ble_eq_true rfl⟩) ⟨zblind, (zrecv_9 hK hPc (q0 := 0) rfl), hpre⟩ rfl rfl hl.1 rfl (lv_room (Nat.le_of_ble_eq_true rfl)) dX4_make_50 ⟨Nat.le_of_ble_eq_true rfl, Nat.le_of_ble_eq_true rfl⟩) hS (fun q _ h => hFc q h) hFc (fun r10 u t H9 locs ht hvm hw hB hz1 hk1 hS => ?_)
  obtain rfl : 0 = r10 := (show r10 = 0 from hw).symm
  obtain ⟨hP1, hK1, hD1, hz2⟩ := hB
  rw [ht] at hP1 hz2
  have hPD9 := va_join (wr := [(am, .inr (4, [.int mm, .ref (zk 0), .int 0]))]) (w1 := [(mo, .inr (9, [.int 0, .ref am, .int 0, .int 0, .int 0]))]) hP hD [0] [1] rfl rfl (by decide) (by decide) hk1 hFc hP1 hD1
  clear hPc hDc hFc hDv hpre hP hD hP1 hK1 hD1
  obtain ⟨hP, hD⟩ := hPD9
  replace hz : s.heap.size + 0 ≤ H9.size := by omega
  clear hz2
  replace hP : va_P (dC, dI) vwCl [(am, .inr (4, [.int mm, .ref (zk 0), .int 0])), (mo, .inr (9, [.int 0, .ref am, .int 0, .int 0, .int 0]))] H9 := hP
  replace hD : va_D A [(am, .inr (4, [.int mm, .ref (zk 0), .int 0])), (mo, .inr (9, [.int 0, .ref am, .int 0, .int 0, .int 0]))] := hD
  refine W.widen (k := 0) (n := 0) (by omega) (by omega) ?_
  refine lv_if_eq (tgt := 58) hx hb dX4_make_53 (by decide) (fun c9 => ?_) (fun c9 => ?_)
  rotate_left
  · exact absurd (by decide) c9
  refine lv_aload_n hx hb dX4_make_58 rfl (lv_at hl 0 rfl) ?_
  refine va_get (D := (dC, dI)) (ci := 9) (v := .ref am) (C := RX4) (T := TX4) (N := 5) hx hb hts hi_X4_make_X4 hown hK hP 1 rfl rfl 1 (by decide) (hts (.fieldLink RX4 10 "DeeprowsModel" "rows" "Ljava/util/ArrayList;") (List.mem_cons_of_mem _ zw_1128)) (fun _ h9 => h9) rfl dX4_make_59 ?_
  refine zw_new (ci := 8) (fs := [.int 0, .null, .null]) (C := RX3) (T := TX3) (N := 3) hx hb hts hi_X4_make_X3 tyX3 tyX3_ok hown (hts (.classLink RX4 40 "DeeprowsModel$Row") (List.mem_cons_of_mem _ zw_1163)) (hts (.instantiable RX3 3) (List.mem_cons_of_mem _ zw_1164)) (hts (.initialized RX3) (List.mem_cons_of_mem _ zw_55)) hK hP hD hS hA rfl (fun j hj => by rcases (show j = 0 ∨ j = 1 ∨ j = 2 by omega) with rfl | rfl | rfl <;> rfl) (Nat.le_of_ble_eq_true rfl) (Nat.le_of_ble_eq_true rfl) dX4_make_62 hz (fun q11 H12 hP hD hS hz => ?_)
  replace hP : va_P (dC, dI) vwCl [(am, .inr (4, [.int mm, .ref (zk 0), .int 0])), (mo, .inr (9, [.int 0, .ref am, .int 0, .int 0, .int 0])), (q11, .inr (8, [.int 0, .null, .null]))] H12 := hP
  replace hD : va_D A [(am, .inr (4, [.int mm, .ref (zk 0), .int 0])), (mo, .inr (9, [.int 0, .ref am, .int 0, .int 0, .int 0])), (q11, .inr (8, [.int 0, .null, .null]))] := hD
  refine W.widen (k := 1) (n := 3) (by omega) (by omega) ?_
  refine lv_dup hx hb dX4_make_65 rfl ?_
  refine lv_iload_n hx hb dX4_make_66 rfl (lv_at hl 1 rfl) ?_
  refine lv_iload_n hx hb dX4_make_67 rfl (lv_at hl 2 rfl) ?_
  have hPc := hP.sub (ws' := [(q11, .inr (8, [.int 0, .null, .null]))]) [2] rfl
  have hDc := hD.sub (ws' := [(q11, .inr (8, [.int 0, .null, .null]))]) [2] (by decide) rfl
  have hFc := va_free (wc := [(q11, .inr (8, [.int 0, .null, .null]))]) hD hS hA [2] rfl
  have hDv := hDc.self (sz := H12.size)
  have hpre := zpre (xs' := []) (av := [.ref q11, .int 4, .int 1]) hPc hK (hDc.weaken (fun _ _ _ h => h)) hZ hS hFc (fun r hr => by cases hr)
  refine va_callv (va_runI (As := [.int 4, .int 1]) (rest := [.ref q11, .ref am]) ⟨hx, hb, hml, hown, hts⟩ (k_mI14 l dC dI cI cB cR cO zk q11 H12.size ) (cwI 2 hts gX4_make_X3_init rfl rfl rfl (hts (.initialized RX3) (List.mem_cons_of_mem _ zw_55)) (hts (.methodLink RX4 76 yX3_init) (List.mem_cons_of_mem _ zw_1165)) (hts (.instanceMethod yX3_init) (List.mem_cons_of_mem _ zw_1166)) rfl (by decide +kernel) ⟨Nat.le_of_ble_eq_true rfl, Nat.le_of_ble_eq_true rfl⟩) ⟨zblind, hpre⟩ rfl rfl hl.1 rfl (lv_room (Nat.le_of_ble_eq_true rfl)) dX4_make_68 ⟨Nat.le_of_ble_eq_true rfl, Nat.le_of_ble_eq_true rfl⟩) hS (fun q _ h => hFc q h) hFc (fun u t H13 locs ht hvm hw hB hz1 hk1 hS => ?_)
  obtain ⟨wa15, na16, ⟨hP1, hK1, hD1, hz2⟩⟩ := hB
  rw [ht] at hP1 hz2
  have hPD9 := va_join (wr := [(am, .inr (4, [.int mm, .ref (zk 0), .int 0])), (mo, .inr (9, [.int 0, .ref am, .int 0, .int 0, .int 0]))]) (w1 := [(q11, .inr (8, [.int 4, .ref wa15, .ref na16]))]) hP hD [2] [0, 1] rfl rfl (by decide) (by decide) hk1 hFc hP1 hD1
  clear hPc hDc hFc hDv hpre hP hD hP1 hK1 hD1
  obtain ⟨hP, hD⟩ := hPD9
  replace hz : s.heap.size + 3 ≤ H13.size := by omega
  clear hz2
  replace hP : va_P (dC, dI) vwCl [(am, .inr (4, [.int mm, .ref (zk 0), .int 0])), (mo, .inr (9, [.int 0, .ref am, .int 0, .int 0, .int 0])), (q11, .inr (8, [.int 4, .ref wa15, .ref na16]))] H13 := hP
  replace hD : va_D A [(am, .inr (4, [.int mm, .ref (zk 0), .int 0])), (mo, .inr (9, [.int 0, .ref am, .int 0, .int 0, .int 0])), (q11, .inr (8, [.int 4, .ref wa15, .ref na16]))] := hD
  refine W.widen (k := 3) (n := 5) (by omega) (by omega) ?_
  have hPc := hP.sub (ws' := [(am, .inr (4, [.int mm, .ref (zk 0), .int 0])), (q11, .inr (8, [.int 4, .ref wa15, .ref na16]))]) [0, 2] rfl
  have hDc := hD.sub (ws' := [(am, .inr (4, [.int mm, .ref (zk 0), .int 0])), (q11, .inr (8, [.int 4, .ref wa15, .ref na16]))]) [0, 2] (by decide) rfl
  have hFc := va_free (wc := [(am, .inr (4, [.int mm, .ref (zk 0), .int 0])), (q11, .inr (8, [.int 4, .ref wa15, .ref na16]))]) hD hS hA [0, 2] rfl
  have hDv := hDc.self (sz := H13.size)
  have hpre := zpre (xs' := []) (av := [.ref am, .ref q11]) hPc hK (hDc.weaken (fun _ _ _ h => h)) hZ hS hFc (fun r hr => by cases hr)
  refine va_calli (va_runV (As := [.ref q11]) (rest := []) ⟨hx, hb, hml, hown, hts⟩ (k_addZX3 l dC dI cI cB cR cO zk am q11 mm 4 wa15 na16 H13.size ) (cwV 1 hts gX4_make_Jx4a65c_add_9ea2d rfl rfl rfl (by decide +kernel) ⟨Nat.le_of_ble_eq_true rfl, Nat.le_of_ble_eq_true rfl⟩) ⟨zblind, (zrecv_4 hK hPc (q0 := 0) rfl), hpre⟩ rfl rfl hl.1 rfl (lv_room (Nat.le_of_ble_eq_true rfl)) dX4_make_71 ⟨Nat.le_of_ble_eq_true rfl, Nat.le_of_ble_eq_true rfl⟩) hS (fun q _ h => hFc q h) hFc (fun r18 u t H17 locs ht hvm hw hB hz1 hk1 hS => ?_)
  obtain rfl : 1 = r18 := (show r18 = 1 from hw).symm
  obtain ⟨em19, mm20, ⟨hP1, hK1, hD1, hz2⟩⟩ := hB
  rw [ht] at hP1 hz2
  have hPD9 := va_join (wr := [(mo, .inr (9, [.int 0, .ref am, .int 0, .int 0, .int 0]))]) (w1 := [(am, .inr (4, [.int mm20, .ref em19, .int 1])), (q11, .inr (8, [.int 4, .ref wa15, .ref na16]))]) hP hD [0, 2] [1] rfl rfl (by decide) (by decide) hk1 hFc hP1 hD1
  clear hPc hDc hFc hDv hpre hP hD hP1 hK1 hD1
  obtain ⟨hP, hD⟩ := hPD9
  replace hz : s.heap.size + 4 ≤ H17.size := by omega
  clear hz2
  replace hP : va_P (dC, dI) vwCl [(mo, .inr (9, [.int 0, .ref am, .int 0, .int 0, .int 0])), (am, .inr (4, [.int mm20, .ref em19, .int 1])), (q11, .inr (8, [.int 4, .ref wa15, .ref na16]))] H17 := hP
  replace hD : va_D A [(mo, .inr (9, [.int 0, .ref am, .int 0, .int 0, .int 0])), (am, .inr (4, [.int mm20, .ref em19, .int 1])), (q11, .inr (8, [.int 4, .ref wa15, .ref na16]))] := hD
  refine W.widen (k := 4) (n := 15) (by omega) (by omega) ?_
  refine lv_pop hx hb dX4_make_74 rfl ?_
  refine lv_aload_n hx hb dX4_make_75 rfl (lv_at hl 0 rfl) ?_
  refine va_get (D := (dC, dI)) (ci := 9) (v := .ref am) (C := RX4) (T := TX4) (N := 5) hx hb hts hi_X4_make_X4 hown hK hP 0 rfl rfl 1 (by decide) (hts (.fieldLink RX4 10 "DeeprowsModel" "rows" "Ljava/util/ArrayList;") (List.mem_cons_of_mem _ zw_1128)) (fun _ h9 => h9) rfl dX4_make_76 ?_
  have hPc := hP.sub (ws' := [(am, .inr (4, [.int mm20, .ref em19, .int 1]))]) [1] rfl
  have hDc := hD.sub (ws' := [(am, .inr (4, [.int mm20, .ref em19, .int 1]))]) [1] (by decide) rfl
  have hFc := va_free (wc := [(am, .inr (4, [.int mm20, .ref em19, .int 1]))]) hD hS hA [1] rfl
  have hDv := hDc.self (sz := H17.size)
  have hpre := zpre (xs' := []) (av := [.ref am]) hPc hK (hDc.weaken (fun _ _ _ h => h)) hZ hS hFc (fun r hr => by cases hr)
  refine va_calli (va_runV (As := []) (rest := []) ⟨hx, hb, hml, hown, hts⟩ (k_size l dC dI cI cB cR cO zk am em19 1 (.int mm20) H17.size ) (cwV 0 hts gX4_make_Jx4a65c_size_8abf5 rfl rfl rfl (by decide +kernel) ⟨Nat.le_of_ble_eq_true rfl, Nat.le_of_ble_eq_true rfl⟩) ⟨zblind, (zrecv_4 hK hPc (q0 := 0) rfl), hpre⟩ rfl rfl hl.1 rfl (lv_room (Nat.le_of_ble_eq_true rfl)) dX4_make_79 ⟨Nat.le_of_ble_eq_true rfl, Nat.le_of_ble_eq_true rfl⟩) hS (fun q _ h => hFc q h) hFc (fun r22 u t H21 locs ht hvm hw hB hz1 hk1 hS => ?_)
  obtain rfl : 1 = r22 := (show r22 = 1 from hw).symm
  obtain ⟨hP1, hK1, hD1, hz2⟩ := hB
  rw [ht] at hP1 hz2
  have hPD9 := va_join (wr := [(mo, .inr (9, [.int 0, .ref am, .int 0, .int 0, .int 0])), (q11, .inr (8, [.int 4, .ref wa15, .ref na16]))]) (w1 := [(am, .inr (4, [.int mm20, .ref em19, .int 1]))]) hP hD [1] [0, 2] rfl rfl (by decide) (by decide) hk1 hFc hP1 hD1
  clear hPc hDc hFc hDv hpre hP hD hP1 hK1 hD1
  obtain ⟨hP, hD⟩ := hPD9
  replace hz : s.heap.size + 4 ≤ H21.size := by omega
  clear hz2
  replace hP : va_P (dC, dI) vwCl [(mo, .inr (9, [.int 0, .ref am, .int 0, .int 0, .int 0])), (q11, .inr (8, [.int 4, .ref wa15, .ref na16])), (am, .inr (4, [.int mm20, .ref em19, .int 1]))] H21 := hP
  replace hD : va_D A [(mo, .inr (9, [.int 0, .ref am, .int 0, .int 0, .int 0])), (q11, .inr (8, [.int 4, .ref wa15, .ref na16])), (am, .inr (4, [.int mm20, .ref em19, .int 1]))] := hD
  refine W.widen (k := 4) (n := 15) (by omega) (by omega) ?_
  refine lv_iconst (v := 1) hx hb dX4_make_82 (by decide) ?_
  refine lv_isub hx hb dX4_make_83 ?_
  refine lv_topi (fun v23 ev23 => ?_)
  obtain rfl : v23 = 0 := ev23.trans (by decide)
  have hP9 := hP.sub (ws' := [(mo, .inr (9, [.int 0, .ref am, .int 0, .int 0, .int 0]))]) [0] rfl
  have hD9 := hD.sub (ws' := [(mo, .inr (9, [.int 0, .ref am, .int 0, .int 0, .int 0]))]) [0] (by decide) rfl
  exact W.iret (v := 0) hx hb hr (fun t ht hW => ⟨⟨_, (), rfl, rfl, ⟨by rw [ht]; exact hP9, va_K.moved hW.alike hK, hD9, by rw [ht]; exact hz⟩⟩, hS.F ht⟩) hS.2.2 dX4_make_84

set_option maxHeartbeats 4000000 in
set_option maxRecDepth 100000 in
theorem k_mI1s (l : Launch) (dC : Nat → ClassId) (dI : Nat → Nat → Nat) (cI cB cR cO : ClassId) (zk : Nat → Nat) (a : Nat) (kd : Int32) (sz : Nat) (hkd : ¬ kd = 4) : Met l yX3_init wsX3_init ({ frames := 1, cells := 2, slots := 2, locals := 60 }) (va_Pc [.ref a, .int kd, .int 1] (zPre (dC, dI) (zT cI cB cR cO) zk [] [(a, .inr (8, [.int 0, .null, .null]))] sz)) (va_Qv (fun _ : Unit => True) (fun _ t => ∃ wa, ∃ na, zEnd (dC, dI) (zT cI cB cR cO) (va_A [(a, .inr (8, [.int 0, .null, .null]))] sz) [(a, .inr (8, [.int kd, .ref wa, .ref na]))] sz 2 t) (va_A [(a, .inr (8, [.int 0, .null, .null]))] sz)) 2 2 (va_A [(a, .inr (8, [.int 0, .null, .null]))] sz) := by
  refine Met.ofW (cc := cX3_init) (maxL := 4) (ret := none) (by decide) rfl ?_
  intro p e s mY args below meth c s₁ B hml hv
  obtain ⟨rfl, hsz, hP, hK, hD0, hZ⟩ := hv
  have hx := B.exec
  have hb := B.bytes
  have hr := B.returns
  have hts := atoms_spec (ws := wsX3_init) B.pre
  have hown : s.vm.findClass RX3 = some mY.cls := findClass_of_methodNamed B.named
  have hlocks := B.notSynchronized
  have hin : meth.name = "<init>" := (name_of_methodNamed B.named B.method).1
  subst hsz
  have hD := hD0.self (sz := s.heap.size)
  generalize hAe : va_A [(a, .inr (8, [.int 0, .null, .null]))] s.heap.size = A at hD hZ ⊢
  have hA : ∀ q : Nat, s.heap.size ≤ q → A q := fun q h => by rw [← hAe]; exact Or.inr h
  have hS : va_S A s.heap s.heap [] := va_S.rf
  have hz : s.heap.size + 0 ≤ s.heap.size := Nat.le_refl _
  have hl := lv_entry ([.ref a, .int kd, .int 1]) (n := 4) (Nat.le_of_ble_eq_true rfl)
  rw [lg_entry_eq]
  generalize (lg_sl ([.ref a, .int kd, .int 1]) ++ List.replicate (4 - (lg_sl ([.ref a, .int kd, .int 1])).length) Slot.unset).toArray = ls at hl ⊢
  have hl : lv_has ls 4 [(0, .ref a), (1, .int kd), (2, .int 1)] := hl
  have hP : va_P (dC, dI) vwCl [(a, .inr (8, [.int 0, .null, .null]))] s.heap := hP
  have hD : va_D A [(a, .inr (8, [.int 0, .null, .null]))] := hD
  refine lv_aload_n hx hb dX3_init_0 rfl (lv_at hl 0 rfl) ?_
  refine W.objInit hx hb hown (hts (.methodLink RX3 3 objectInit) (List.mem_cons_of_mem _ zw_1168)) (hts (.instanceMethod objectInit) (List.mem_cons_of_mem _ zw_71)) (hts (.code objectInit ⟨#[0xb1]⟩ 1 none) (List.mem_cons_of_mem _ zw_72)) rfl (by rw [hml]; exact hl.1) rfl dX3_init_1 (Nat.le_of_ble_eq_true rfl) (Nat.le_of_ble_eq_true rfl) ?_
  refine W.eq (g2 := F0 mY 4 ls []) rfl ?_
  refine lv_aload_n hx hb dX3_init_4 rfl (lv_at hl 0 rfl) ?_
  refine lv_iload_n hx hb dX3_init_5 rfl (lv_at hl 1 rfl) ?_
  refine va_putF (D := (dC, dI)) (ci := 8) (v := .int kd) (ty := .int) (C := RX3) (T := TX3) (N := 3) hx hb hts hi_X3_init_X3 tyX3 tyX3_ok nmX3 hown hK hP hD (zS0 hS) 0 rfl rfl 0 (by decide) (hts (.fieldLink RX3 9 "DeeprowsModel$Row" "kind" "I") (List.mem_cons_of_mem _ zw_1173)) (fun _ h9 => h9) rfl hin rfl (by decide +kernel) rfl rfl (Nat.le_of_ble_eq_true rfl) dX3_init_6 (fun H1 locs hP hD hS1 => ?_)
  have hz : s.heap.size + 0 ≤ H1.size := Nat.le_trans hz hS1.1
  have hS := zSS hS hS1
  replace hP : va_P (dC, dI) vwCl [(a, .inr (8, [.int kd, .null, .null]))] H1 := hP
  replace hD : va_D A [(a, .inr (8, [.int kd, .null, .null]))] := hD
  refine lv_aload_n hx hb dX3_init_9 rfl (lv_at hl 0 rfl) ?_
  refine lv_iload_n hx hb dX3_init_10 rfl (lv_at hl 2 rfl) ?_
  refine zw_newa (atype := .int) (ty := .int) (N' := 1) hx hb (hts (.arrayClass .int) (List.mem_cons_of_mem _ zw_131)) rfl (by first | exact Or.inl rfl | exact Or.inr rfl) hK hP hD hS hA 0 rfl (by decide) (by decide) (Nat.le_of_ble_eq_true rfl) (Nat.le_of_ble_eq_true rfl) (Nat.le_of_ble_eq_true rfl) dX3_init_11 hz (fun q2 H3 hP hD hS hz => ?_)
  replace hP : va_P (dC, dI) vwCl [(a, .inr (8, [.int kd, .null, .null])), (q2, .inl (cI, 1, .inl (fun _ => 0)))] H3 := hP
  replace hD : va_D A [(a, .inr (8, [.int kd, .null, .null])), (q2, .inl (cI, 1, .inl (fun _ => 0)))] := hD
  refine W.widen (k := 1) (n := 1) (by omega) (by omega) ?_
  refine va_putF (D := (dC, dI)) (ci := 8) (v := .ref q2) (ty := .array .int) (C := RX3) (T := TX3) (N := 3) hx hb hts hi_X3_init_X3 tyX3 tyX3_ok nmX3 hown hK hP hD (zS0 hS) 0 rfl rfl 1 (by decide) (hts (.fieldLink RX3 15 "DeeprowsModel$Row" "whats" "[I") (List.mem_cons_of_mem _ zw_1175)) (fun _ h9 => h9) rfl hin rfl (by decide +kernel) rfl rfl (Nat.le_of_ble_eq_true rfl) dX3_init_13 (fun H4 locs hP hD hS1 => ?_)
  have hz : s.heap.size + 1 ≤ H4.size := Nat.le_trans hz hS1.1
  have hS := zSS hS hS1
  replace hP : va_P (dC, dI) vwCl [(a, .inr (8, [.int kd, .ref q2, .null])), (q2, .inl (cI, 1, .inl (fun _ => 0)))] H4 := hP
  replace hD : va_D A [(a, .inr (8, [.int kd, .ref q2, .null])), (q2, .inl (cI, 1, .inl (fun _ => 0)))] := hD
  refine lv_aload_n hx hb dX3_init_16 rfl (lv_at hl 0 rfl) ?_
  refine lv_iload_n hx hb dX3_init_17 rfl (lv_at hl 2 rfl) ?_
  refine zw_newa (atype := .int) (ty := .int) (N' := 1) hx hb (hts (.arrayClass .int) (List.mem_cons_of_mem _ zw_131)) rfl (by first | exact Or.inl rfl | exact Or.inr rfl) hK hP hD hS hA 0 rfl (by decide) (by decide) (Nat.le_of_ble_eq_true rfl) (Nat.le_of_ble_eq_true rfl) (Nat.le_of_ble_eq_true rfl) dX3_init_18 hz (fun q5 H6 hP hD hS hz => ?_)
  replace hP : va_P (dC, dI) vwCl [(a, .inr (8, [.int kd, .ref q2, .null])), (q2, .inl (cI, 1, .inl (fun _ => 0))), (q5, .inl (cI, 1, .inl (fun _ => 0)))] H6 := hP
  replace hD : va_D A [(a, .inr (8, [.int kd, .ref q2, .null])), (q2, .inl (cI, 1, .inl (fun _ => 0))), (q5, .inl (cI, 1, .inl (fun _ => 0)))] := hD
  refine W.widen (k := 2) (n := 2) (by omega) (by omega) ?_
  refine va_putF (D := (dC, dI)) (ci := 8) (v := .ref q5) (ty := .array .int) (C := RX3) (T := TX3) (N := 3) hx hb hts hi_X3_init_X3 tyX3 tyX3_ok nmX3 hown hK hP hD (zS0 hS) 0 rfl rfl 2 (by decide) (hts (.fieldLink RX3 19 "DeeprowsModel$Row" "numbers" "[I") (List.mem_cons_of_mem _ zw_1177)) (fun _ h9 => h9) rfl hin rfl (by decide +kernel) rfl rfl (Nat.le_of_ble_eq_true rfl) dX3_init_20 (fun H7 locs hP hD hS1 => ?_)
  have hz : s.heap.size + 2 ≤ H7.size := Nat.le_trans hz hS1.1
  have hS := zSS hS hS1
  replace hP : va_P (dC, dI) vwCl [(a, .inr (8, [.int kd, .ref q2, .ref q5])), (q2, .inl (cI, 1, .inl (fun _ => 0))), (q5, .inl (cI, 1, .inl (fun _ => 0)))] H7 := hP
  replace hD : va_D A [(a, .inr (8, [.int kd, .ref q2, .ref q5])), (q2, .inl (cI, 1, .inl (fun _ => 0))), (q5, .inl (cI, 1, .inl (fun _ => 0)))] := hD
  refine lv_iconst (v := 0) hx hb dX3_init_23 (by decide) ?_
  refine lv_istore_n (lv' := [(3, .int 0), (0, .ref a), (1, .int kd), (2, .int 1)]) hx hb dX3_init_24 rfl hl (by decide) rfl (fun ls hl => ?_)
  refine lv_iload_n hx hb dX3_init_25 rfl (lv_at hl 0 rfl) ?_
  refine lv_iload_n hx hb dX3_init_26 rfl (lv_at hl 3 rfl) ?_
  refine lv_icmp_ge (tgt := 61) hx hb dX3_init_27 (by decide) (fun c9 => ?_) (fun c9 => ?_)
  · exact absurd c9 (by decide)
  refine lv_aload_n hx hb dX3_init_30 rfl (lv_at hl 1 rfl) ?_
  refine lv_iload_n hx hb dX3_init_31 rfl (lv_at hl 0 rfl) ?_
  refine lv_iload_n hx hb dX3_init_32 rfl (lv_at hl 2 rfl) ?_
  refine lv_iconst (v := 4) hx hb dX3_init_33 (by decide) ?_
  refine lv_icmp_ne (tgt := 41) hx hb dX3_init_34 (by decide) (fun c9 => ?_) (fun c9 => ?_)
  rotate_left
  · exact absurd c9 (hkd)
  refine lv_iconst (v := 1) hx hb dX3_init_41 (by decide) ?_
  refine lv_iload_n hx hb dX3_init_42 rfl (lv_at hl 2 rfl) ?_
  refine lv_iconst (v := 4) hx hb dX3_init_43 (by decide) ?_
  refine lv_icmp_ne (tgt := 51) hx hb dX3_init_44 (by decide) (fun c9 => ?_) (fun c9 => ?_)
  rotate_left
  · exact absurd c9 (hkd)
  refine lv_iconst (v := 0) hx hb dX3_init_51 (by decide) ?_
  have hPc := hP.sub (ws' := [(a, .inr (8, [.int kd, .ref q2, .ref q5])), (q2, .inl (cI, 1, .inl (fun _ => 0))), (q5, .inl (cI, 1, .inl (fun _ => 0)))]) [0, 1, 2] rfl
  have hDc := hD.sub (ws' := [(a, .inr (8, [.int kd, .ref q2, .ref q5])), (q2, .inl (cI, 1, .inl (fun _ => 0))), (q5, .inl (cI, 1, .inl (fun _ => 0)))]) [0, 1, 2] (by decide) rfl
  have hFc := va_free (wc := [(a, .inr (8, [.int kd, .ref q2, .ref q5])), (q2, .inl (cI, 1, .inl (fun _ => 0))), (q5, .inl (cI, 1, .inl (fun _ => 0)))]) hD hS hA [0, 1, 2] rfl
  have hDv := hDc.self (sz := H7.size)
  have hpre := zpre (xs' := []) (av := [.ref a, .int 0, .int 1, .int 0]) hPc hK (hDc.weaken (fun _ _ _ h => h)) hZ hS hFc (fun r hr => by cases hr)
  refine va_callv (va_runV (As := [.int 0, .int 1, .int 0]) (rest := []) ⟨hx, hb, hml, hown, hts⟩ (k_mpZ1_0 l dC dI cI cB cR cO zk a q2 q5 kd 1 0 (fun _ => 0) (fun _ => 0) H7.size ) (cwV 3 hts gX3_init_X3_put rfl rfl rfl (by decide +kernel) ⟨Nat.le_of_ble_eq_true rfl, Nat.le_of_ble_eq_true rfl⟩) ⟨zblind, (zrecv_8 hK hPc (q0 := 0) rfl), hpre⟩ rfl rfl hl.1 rfl (lv_room (Nat.le_of_ble_eq_true rfl)) dX3_init_52 ⟨Nat.le_of_ble_eq_true rfl, Nat.le_of_ble_eq_true rfl⟩) hS (fun q _ h => hFc q h) hFc (fun u t H8 locs ht hvm hw hB hz1 hk1 hS => ?_)
  obtain ⟨hP1, hK1, hD1, hz2⟩ := hB
  rw [ht] at hP1 hz2
  have hPD9 := va_join (wr := []) (w1 := [(a, .inr (8, [.int kd, .ref q2, .ref q5])), (q2, .inl (cI, 1, .inl (upd (fun _ => 0) 0 1))), (q5, .inl (cI, 1, .inl (upd (fun _ => 0) 0 0)))]) hP hD [0, 1, 2] [] rfl rfl (by decide) (by decide) hk1 hFc hP1 hD1
  clear hPc hDc hFc hDv hpre hP hD hP1 hK1 hD1
  obtain ⟨hP, hD⟩ := hPD9
  replace hz : s.heap.size + 2 ≤ H8.size := by omega
  clear hz2
  replace hP : va_P (dC, dI) vwCl [(a, .inr (8, [.int kd, .ref q2, .ref q5])), (q2, .inl (cI, 1, .inl (upd (fun _ => 0) 0 1))), (q5, .inl (cI, 1, .inl (upd (fun _ => 0) 0 0)))] H8 := hP
  replace hD : va_D A [(a, .inr (8, [.int kd, .ref q2, .ref q5])), (q2, .inl (cI, 1, .inl (upd (fun _ => 0) 0 1))), (q5, .inl (cI, 1, .inl (upd (fun _ => 0) 0 0)))] := hD
  refine W.widen (k := 2) (n := 2) (by omega) (by omega) ?_
  refine lv_iinc (v := 1) (lv' := [(3, .int 1), (0, .ref a), (1, .int kd), (2, .int 1)]) hx hb dX3_init_55 hl (k := 0) rfl (by decide) (by decide) rfl (fun ls hl => ?_)
  refine lv_goto (tgt := 25) hx hb dX3_init_58 (by decide) ?_
  refine lv_iload_n hx hb dX3_init_25 rfl (lv_at hl 0 rfl) ?_
  refine lv_iload_n hx hb dX3_init_26 rfl (lv_at hl 3 rfl) ?_
  refine lv_icmp_ge (tgt := 61) hx hb dX3_init_27 (by decide) (fun c9 => ?_) (fun c9 => ?_)
  rotate_left
  · exact absurd (by decide) c9
  have hP9 := hP.sub (ws' := [(a, .inr (8, [.int kd, .ref q2, .ref q5]))]) [0] rfl
  have hD9 := hD.sub (ws' := [(a, .inr (8, [.int kd, .ref q2, .ref q5]))]) [0] (by decide) rfl
  exact W.vret hx hb hr (fun t ht hW => ⟨⟨(), rfl, trivial, ⟨_, _, ⟨by rw [ht]; exact hP9, va_K.moved hW.alike hK, hD9, by rw [ht]; exact hz⟩⟩⟩, hS.F ht⟩) hS.2.2 dX3_init_61

set_option maxHeartbeats 4000000 in
set_option maxRecDepth 100000 in
theorem k_mkM1s (l : Launch) (dC : Nat → ClassId) (dI : Nat → Nat → Nat) (cI cB cR cO : ClassId) (zk : Nat → Nat) (mo am : Nat) (th : Value) (mm : Int32) (kd : Int32) (sz : Nat) (hk0 : ¬ kd < 0) (hk4 : kd ≤ 4) (hkd : ¬ kd = 4) : Met l yX4_make wsX4_make ({ frames := 5, cells := 4, slots := 15, locals := 127 }) (va_Pc [.ref mo, .int kd, .int 1] (zPre (dC, dI) (zT cI cB cR cO) zk [] [(mo, .inr (9, [th, .ref am, .int 0, .int 0, .int 0])), (am, .inr (4, [.int mm, .ref (zk 0), .int 0]))] sz)) (va_Qi (fun r (_ : Unit) => r = 0) (fun _ t => zEnd (dC, dI) (zT cI cB cR cO) (va_A [(mo, .inr (9, [th, .ref am, .int 0, .int 0, .int 0])), (am, .inr (4, [.int mm, .ref (zk 0), .int 0]))] sz) [(mo, .inr (9, [.int 0, .ref am, .int 0, .int 0, .int 0]))] sz 4 t) (va_A [(mo, .inr (9, [th, .ref am, .int 0, .int 0, .int 0])), (am, .inr (4, [.int mm, .ref (zk 0), .int 0]))] sz)) 4 15 (va_A [(mo, .inr (9, [th, .ref am, .int 0, .int 0, .int 0])), (am, .inr (4, [.int mm, .ref (zk 0), .int 0]))] sz) := by
  refine Met.ofW (cc := cX4_make) (maxL := 3) (ret := (some .int)) (by decide) rfl ?_
  intro p e s mY args below meth c s₁ B hml hv
  obtain ⟨rfl, hsz, hP, hK, hD0, hZ⟩ := hv
  have hx := B.exec
  have hb := B.bytes
  have hr := B.returns
  have hts := atoms_spec (ws := wsX4_make) B.pre
  have hown : s.vm.findClass RX4 = some mY.cls := findClass_of_methodNamed B.named
  have hlocks := B.notSynchronized
  subst hsz
  have hD := hD0.self (sz := s.heap.size)
  generalize hAe : va_A [(mo, .inr (9, [th, .ref am, .int 0, .int 0, .int 0])), (am, .inr (4, [.int mm, .ref (zk 0), .int 0]))] s.heap.size = A at hD hZ ⊢
  have hA : ∀ q : Nat, s.heap.size ≤ q → A q := fun q h => by rw [← hAe]; exact Or.inr h
  have hS : va_S A s.heap s.heap [] := va_S.rf
  have hz : s.heap.size + 0 ≤ s.heap.size := Nat.le_refl _
  have hl := lv_entry ([.ref mo, .int kd, .int 1]) (n := 3) (Nat.le_of_ble_eq_true rfl)
  rw [lg_entry_eq]
  generalize (lg_sl ([.ref mo, .int kd, .int 1]) ++ List.replicate (3 - (lg_sl ([.ref mo, .int kd, .int 1])).length) Slot.unset).toArray = ls at hl ⊢
  have hl : lv_has ls 3 [(0, .ref mo), (1, .int kd), (2, .int 1)] := hl
  have hP : va_P (dC, dI) vwCl [(mo, .inr (9, [th, .ref am, .int 0, .int 0, .int 0])), (am, .inr (4, [.int mm, .ref (zk 0), .int 0]))] s.heap := hP
  have hD : va_D A [(mo, .inr (9, [th, .ref am, .int 0, .int 0, .int 0])), (am, .inr (4, [.int mm, .ref (zk 0), .int 0]))] := hD
  refine lv_aload_n hx hb dX4_make_0 rfl (lv_at hl 0 rfl) ?_
  refine lv_iload_n hx hb dX4_make_1 rfl (lv_at hl 1 rfl) ?_
  refine lv_iconst (v := 0) hx hb dX4_make_2 (by decide) ?_
  refine lv_iconst (v := 4) hx hb dX4_make_3 (by decide) ?_
  have hPc := hP.sub (ws' := []) [] rfl
  have hDc := hD.sub (ws' := []) [] (by decide) rfl
  have hFc := va_free (wc := []) hD hS hA [] rfl
  have hDv := hDc.self (sz := s.heap.size)
  have hpre := zpre (xs' := []) (av := [.int kd, .int 0, .int 4]) hPc hK (hDc.weaken (fun _ _ _ h => h)) hZ hS hFc (fun r hr => by cases hr)
  refine va_calli (va_runS (As := [.int kd, .int 0, .int 4]) (rest := [.ref mo]) ⟨hx, hb, hml, hown, hts⟩ (k_isInT4 l dC dI cI cB cR cO zk kd s.heap.size hk0 hk4) (va_cwS 3 hts gX4_make_X4_isIn rfl rfl rfl (by decide +kernel) ⟨Nat.le_of_ble_eq_true rfl, Nat.le_of_ble_eq_true rfl⟩) ⟨zblind, hpre⟩ rfl rfl hl.1 rfl (lv_room (Nat.le_of_ble_eq_true rfl)) dX4_make_4 ⟨Nat.le_of_ble_eq_true rfl, Nat.le_of_ble_eq_true rfl⟩) hS (fun q _ h => hFc q h) hFc (fun r2 u t H1 locs ht hvm hw hB hz1 hk1 hS => ?_)
  obtain rfl : 1 = r2 := (show r2 = 1 from hw).symm
  obtain ⟨hP1, hK1, hD1, hz2⟩ := hB
  rw [ht] at hP1 hz2
  have hPD9 := va_join (wr := [(mo, .inr (9, [th, .ref am, .int 0, .int 0, .int 0])), (am, .inr (4, [.int mm, .ref (zk 0), .int 0]))]) (w1 := []) hP hD [] [0, 1] rfl rfl (by decide) (by decide) hk1 hFc hP1 hD1
  clear hPc hDc hFc hDv hpre hP hD hP1 hK1 hD1
  obtain ⟨hP, hD⟩ := hPD9
  replace hz : s.heap.size + 0 ≤ H1.size := by omega
  clear hz2
  replace hP : va_P (dC, dI) vwCl [(mo, .inr (9, [th, .ref am, .int 0, .int 0, .int 0])), (am, .inr (4, [.int mm, .ref (zk 0), .int 0]))] H1 := hP
  replace hD : va_D A [(mo, .inr (9, [th, .ref am, .int 0, .int 0, .int 0])), (am, .inr (4, [.int mm, .ref (zk 0), .int 0]))] := hD
  refine W.widen (k := 0) (n := 0) (by omega) (by omega) ?_
  refine lv_if_eq (tgt := 19) hx hb dX4_make_7 (by decide) (fun c9 => ?_) (fun c9 => ?_)
  · exact absurd c9 (by decide)
  refine lv_iload_n hx hb dX4_make_10 rfl (lv_at hl 2 rfl) ?_
  refine lv_iconst (v := 0) hx hb dX4_make_11 (by decide) ?_
  refine lv_iconst (v := 4) hx hb dX4_make_12 (by decide) ?_
  have hPc := hP.sub (ws' := []) [] rfl
  have hDc := hD.sub (ws' := []) [] (by decide) rfl
  have hFc := va_free (wc := []) hD hS hA [] rfl
  have hDv := hDc.self (sz := H1.size)
  have hpre := zpre (xs' := []) (av := [.int 1, .int 0, .int 4]) hPc hK (hDc.weaken (fun _ _ _ h => h)) hZ hS hFc (fun r hr => by cases hr)
  refine va_calli (va_runS (As := [.int 1, .int 0, .int 4]) (rest := [.ref mo]) ⟨hx, hb, hml, hown, hts⟩ (k_isIn4_1 l dC dI cI cB cR cO zk  H1.size ) (va_cwS 3 hts gX4_make_X4_isIn rfl rfl rfl (by decide +kernel) ⟨Nat.le_of_ble_eq_true rfl, Nat.le_of_ble_eq_true rfl⟩) ⟨zblind, hpre⟩ rfl rfl hl.1 rfl (lv_room (Nat.le_of_ble_eq_true rfl)) dX4_make_13 ⟨Nat.le_of_ble_eq_true rfl, Nat.le_of_ble_eq_true rfl⟩) hS (fun q _ h => hFc q h) hFc (fun r4 u t H3 locs ht hvm hw hB hz1 hk1 hS => ?_)
  obtain rfl : 1 = r4 := (show r4 = 1 from hw).symm
  obtain ⟨hP1, hK1, hD1, hz2⟩ := hB
  rw [ht] at hP1 hz2
  have hPD9 := va_join (wr := [(mo, .inr (9, [th, .ref am, .int 0, .int 0, .int 0])), (am, .inr (4, [.int mm, .ref (zk 0), .int 0]))]) (w1 := []) hP hD [] [0, 1] rfl rfl (by decide) (by decide) hk1 hFc hP1 hD1
  clear hPc hDc hFc hDv hpre hP hD hP1 hK1 hD1
  obtain ⟨hP, hD⟩ := hPD9
  replace hz : s.heap.size + 0 ≤ H3.size := by omega
  clear hz2
  replace hP : va_P (dC, dI) vwCl [(mo, .inr (9, [th, .ref am, .int 0, .int 0, .int 0])), (am, .inr (4, [.int mm, .ref (zk 0), .int 0]))] H3 := hP
  replace hD : va_D A [(mo, .inr (9, [th, .ref am, .int 0, .int 0, .int 0])), (am, .inr (4, [.int mm, .ref (zk 0), .int 0]))] := hD
  refine W.widen (k := 0) (n := 0) (by omega) (by omega) ?_
  refine lv_if_ne (tgt := 23) hx hb dX4_make_16 (by decide) (fun c9 => ?_) (fun c9 => ?_)
  rotate_left
  · exact absurd c9 (by decide)
  refine lv_iconst (v := 0) hx hb dX4_make_23 (by decide) ?_
  refine lv_iconst (v := 1) hx hb dX4_make_24 (by decide) ?_
  have hPc := hP.sub (ws' := [(mo, .inr (9, [th, .ref am, .int 0, .int 0, .int 0]))]) [0] rfl
  have hDc := hD.sub (ws' := [(mo, .inr (9, [th, .ref am, .int 0, .int 0, .int 0]))]) [0] (by decide) rfl
  have hFc := va_free (wc := [(mo, .inr (9, [th, .ref am, .int 0, .int 0, .int 0]))]) hD hS hA [0] rfl
  have hDv := hDc.self (sz := H3.size)
  have hpre := zpre (xs' := []) (av := [.ref mo, .int 0, .int 1]) hPc hK (hDc.weaken (fun _ _ _ h => h)) hZ hS hFc (fun r hr => by cases hr)
  refine va_calli (va_runV (As := [.int 0, .int 1]) (rest := []) ⟨hx, hb, hml, hown, hts⟩ (k_stt0 l dC dI cI cB cR cO zk mo am th H3.size ) (cwV 2 hts gX4_make_X4_start rfl rfl rfl (by decide +kernel) ⟨Nat.le_of_ble_eq_true rfl, Nat.le_of_ble_eq_true rfl⟩) ⟨zblind, (zrecv_9 hK hPc (q0 := 0) rfl), hpre⟩ rfl rfl hl.1 rfl (lv_room (Nat.le_of_ble_eq_true rfl)) dX4_make_25 ⟨Nat.le_of_ble_eq_true rfl, Nat.le_of_ble_eq_true rfl⟩) hS (fun q _ h => hFc q h) hFc (fun r6 u t H5 locs ht hvm hw hB hz1 hk1 hS => ?_)
  obtain rfl : 0 = r6 := (show r6 = 0 from hw).symm
  obtain ⟨hP1, hK1, hD1, hz2⟩ := hB
  rw [ht] at hP1 hz2
  have hPD9 := va_join (wr := [(am, .inr (4, [.int mm, .ref (zk 0), .int 0]))]) (w1 := [(mo, .inr (9, [.int 0, .ref am, .int 0, .int 0, .int 0]))]) hP hD [0] [1] rfl rfl (by decide) (by decide) hk1 hFc hP1 hD1
  clear hPc hDc hFc hDv hpre hP hD hP1 hK1 hD1
  obtain ⟨hP, hD⟩ := hPD9
  replace hz : s.heap.size + 0 ≤ H5.size := by omega
  clear hz2
  replace hP : va_P (dC, dI) vwCl [(am, .inr (4, [.int mm, .ref (zk 0), .int 0])), (mo, .inr (9, [.int 0, .ref am, .int 0, .int 0, .int 0]))] H5 := hP
  replace hD : va_D A [(am, .inr (4, [.int mm, .ref (zk 0), .int 0])), (mo, .inr (9, [.int 0, .ref am, .int 0, .int 0, .int 0]))] := hD
  refine W.widen (k := 0) (n := 0) (by omega) (by omega) ?_
  refine lv_if_ne (tgt := 56) hx hb dX4_make_28 (by decide) (fun c9 => ?_) (fun c9 => ?_)
  · exact absurd (by decide) c9
  refine lv_aload_n hx hb dX4_make_31 rfl (lv_at hl 0 rfl) ?_
  refine lv_aload_n hx hb dX4_make_32 rfl (lv_at hl 0 rfl) ?_
  refine va_get (D := (dC, dI)) (ci := 9) (v := .ref am) (C := RX4) (T := TX4) (N := 5) hx hb hts hi_X4_make_X4 hown hK hP 1 rfl rfl 1 (by decide) (hts (.fieldLink RX4 10 "DeeprowsModel" "rows" "Ljava/util/ArrayList;") (List.mem_cons_of_mem _ zw_1128)) (fun _ h9 => h9) rfl dX4_make_33 ?_
  have hPc := hP.sub (ws' := [(am, .inr (4, [.int mm, .ref (zk 0), .int 0]))]) [0] rfl
  have hDc := hD.sub (ws' := [(am, .inr (4, [.int mm, .ref (zk 0), .int 0]))]) [0] (by decide) rfl
  have hFc := va_free (wc := [(am, .inr (4, [.int mm, .ref (zk 0), .int 0]))]) hD hS hA [0] rfl
  have hDv := hDc.self (sz := H5.size)
  have hpre := zpre (xs' := []) (av := [.ref am]) hPc hK (hDc.weaken (fun _ _ _ h => h)) hZ hS hFc (fun r hr => by cases hr)
  refine va_calli (va_runV (As := []) (rest := [.ref mo]) ⟨hx, hb, hml, hown, hts⟩ (k_size l dC dI cI cB cR cO zk am (zk 0) 0 (.int mm) H5.size ) (cwV 0 hts gX4_make_Jx4a65c_size_8abf5 rfl rfl rfl (by decide +kernel) ⟨Nat.le_of_ble_eq_true rfl, Nat.le_of_ble_eq_true rfl⟩) ⟨zblind, (zrecv_4 hK hPc (q0 := 0) rfl), hpre⟩ rfl rfl hl.1 rfl (lv_room (Nat.le_of_ble_eq_true rfl)) dX4_make_36 ⟨Nat.le_of_ble_eq_true rfl, Nat.le_of_ble_eq_true rfl⟩) hS (fun q _ h => hFc q h) hFc (fun r8 u t H7 locs ht hvm hw hB hz1 hk1 hS => ?_)
  obtain rfl : 0 = r8 := (show r8 = 0 from hw).symm
  obtain ⟨hP1, hK1, hD1, hz2⟩ := hB
  rw [ht] at hP1 hz2
  have hPD9 := va_join (wr := [(mo, .inr (9, [.int 0, .ref am, .int 0, .int 0, .int 0]))]) (w1 := [(am, .inr (4, [.int mm, .ref (zk 0), .int 0]))]) hP hD [0] [1] rfl rfl (by decide) (by decide) hk1 hFc hP1 hD1
  clear hPc hDc hFc hDv hpre hP hD hP1 hK1 hD1
  obtain ⟨hP, hD⟩ := hPD9
  replace hz : s.heap.size + 0 ≤ H7.size := by omega
  clear hz2
  replace hP : va_P (dC, dI) vwCl [(mo, .inr (9, [.int 0, .ref am, .int 0, .int 0, .int 0])), (am, .inr (4, [.int mm, .ref (zk 0), .int 0]))] H7 := hP
  replace hD : va_D A [(mo, .inr (9, [.int 0, .ref am, .int 0, .int 0, .int 0])), (am, .inr (4, [.int mm, .ref (zk 0), .int 0]))] := hD
  refine W.widen (k := 0) (n := 0) (by omega) (by omega) ?_
  refine lv_bipush (v := 12) hx hb dX4_make_39 (by decide) ?_
  refine lv_icmp_ne (tgt := 48) hx hb dX4_make_41 (by decide) (fun c9 => ?_) (fun c9 => ?_)
  rotate_left
  · exact absurd c9 (by decide)
  refine lv_iconst (v := 0) hx hb dX4_make_48 (by decide) ?_
  refine lv_iconst (v := 2) hx hb dX4_make_49 (by decide) ?_
  have hPc := hP.sub (ws' := [(mo, .inr (9, [.int 0, .ref am, .int 0, .int 0, .int 0]))]) [0] rfl
  have hDc := hD.sub (ws' := [(mo, .inr (9, [.int 0, .ref am, .int 0, .int 0, .int 0]))]) [0] (by decide) rfl
  have hFc := va_free (wc := [(mo, .inr (9, [.int 0, .ref am, .int 0, .int 0, .int 0]))]) hD hS hA [0] rfl
  have hDv := hDc.self (sz := H7.size)
  have hpre := zpre (xs' := []) (av := [.ref mo, .int 0, .int 2]) hPc hK (hDc.weaken (fun _ _ _ h => h)) hZ hS hFc (fun r hr => by cases hr)
  refine va_calli (va_runV (As := [.int 0, .int 2]) (rest := []) ⟨hx, hb, hml, hown, hts⟩ (k_ref02 l dC dI cI cB cR cO zk mo am H7.size ) (cwV 2 hts gX4_make_X4_refuse rfl rfl rfl (by decide +kernel) ⟨Nat.le_of_ble_eq_true rfl, Nat.le_of_ble_eq_true rfl⟩) ⟨zblind, (zrecv_9 hK hPc (q0 := 0) rfl), hpre⟩ rfl rfl hl.1 rfl (lv_room (Nat.le_of_ble_eq_true rfl)) dX4_make_50 ⟨Nat.le_of_ble_eq_true rfl, Nat.le_of_ble_eq_true rfl⟩) hS (fun q _ h => hFc q h) hFc (fun r10 u t H9 locs ht hvm hw hB hz1 hk1 hS => ?_)
  obtain rfl : 0 = r10 := (show r10 = 0 from hw).symm
  obtain ⟨hP1, hK1, hD1, hz2⟩ := hB
  rw [ht] at hP1 hz2
  have hPD9 := va_join (wr := [(am, .inr (4, [.int mm, .ref (zk 0), .int 0]))]) (w1 := [(mo, .inr (9, [.int 0, .ref am, .int 0, .int 0, .int 0]))]) hP hD [0] [1] rfl rfl (by decide) (by decide) hk1 hFc hP1 hD1
  clear hPc hDc hFc hDv hpre hP hD hP1 hK1 hD1
  obtain ⟨hP, hD⟩ := hPD9
  replace hz : s.heap.size + 0 ≤ H9.size := by omega
  clear hz2
  replace hP : va_P (dC, dI) vwCl [(am, .inr (4, [.int mm, .ref (zk 0), .int 0])), (mo, .inr (9, [.int 0, .ref am, .int 0, .int 0, .int 0]))] H9 := hP
  replace hD : va_D A [(am, .inr (4, [.int mm, .ref (zk 0), .int 0])), (mo, .inr (9, [.int 0, .ref am, .int 0, .int 0, .int 0]))] := hD
  refine W.widen (k := 0) (n := 0) (by omega) (by omega) ?_
  refine lv_if_eq (tgt := 58) hx hb dX4_make_53 (by decide) (fun c9 => ?_) (fun c9 => ?_)
  rotate_left
  · exact absurd (by decide) c9
  refine lv_aload_n hx hb dX4_make_58 rfl (lv_at hl 0 rfl) ?_
  refine va_get (D := (dC, dI)) (ci := 9) (v := .ref am) (C := RX4) (T := TX4) (N := 5) hx hb hts hi_X4_make_X4 hown hK hP 1 rfl rfl 1 (by decide) (hts (.fieldLink RX4 10 "DeeprowsModel" "rows" "Ljava/util/ArrayList;") (List.mem_cons_of_mem _ zw_1128)) (fun _ h9 => h9) rfl dX4_make_59 ?_
  refine zw_new (ci := 8) (fs := [.int 0, .null, .null]) (C := RX3) (T := TX3) (N := 3) hx hb hts hi_X4_make_X3 tyX3 tyX3_ok hown (hts (.classLink RX4 40 "DeeprowsModel$Row") (List.mem_cons_of_mem _ zw_1163)) (hts (.instantiable RX3 3) (List.mem_cons_of_mem _ zw_1164)) (hts (.initialized RX3) (List.mem_cons_of_mem _ zw_55)) hK hP hD hS hA rfl (fun j hj => by rcases (show j = 0 ∨ j = 1 ∨ j = 2 by omega) with rfl | rfl | rfl <;> rfl) (Nat.le_of_ble_eq_true rfl) (Nat.le_of_ble_eq_true rfl) dX4_make_62 hz (fun q11 H12 hP hD hS hz => ?_)
  replace hP : va_P (dC, dI) vwCl [(am, .inr (4, [.int mm, .ref (zk 0), .int 0])), (mo, .inr (9, [.int 0, .ref am, .int 0, .int 0, .int 0])), (q11, .inr (8, [.int 0, .null, .null]))] H12 := hP
  replace hD : va_D A [(am, .inr (4, [.int mm, .ref (zk 0), .int 0])), (mo, .inr (9, [.int 0, .ref am, .int 0, .int 0, .int 0])), (q11, .inr (8, [.int 0, .null, .null]))] := hD
  refine W.widen (k := 1) (n := 3) (by omega) (by omega) ?_
  refine lv_dup hx hb dX4_make_65 rfl ?_
  refine lv_iload_n hx hb dX4_make_66 rfl (lv_at hl 1 rfl) ?_
  refine lv_iload_n hx hb dX4_make_67 rfl (lv_at hl 2 rfl) ?_
  have hPc := hP.sub (ws' := [(q11, .inr (8, [.int 0, .null, .null]))]) [2] rfl
  have hDc := hD.sub (ws' := [(q11, .inr (8, [.int 0, .null, .null]))]) [2] (by decide) rfl
  have hFc := va_free (wc := [(q11, .inr (8, [.int 0, .null, .null]))]) hD hS hA [2] rfl
  have hDv := hDc.self (sz := H12.size)
  have hpre := zpre (xs' := []) (av := [.ref q11, .int kd, .int 1]) hPc hK (hDc.weaken (fun _ _ _ h => h)) hZ hS hFc (fun r hr => by cases hr)
  refine va_callv (va_runI (As := [.int kd, .int 1]) (rest := [.ref q11, .ref am]) ⟨hx, hb, hml, hown, hts⟩ (k_mI1s l dC dI cI cB cR cO zk q11 kd H12.size  hkd) (cwI 2 hts gX4_make_X3_init rfl rfl rfl (hts (.initialized RX3) (List.mem_cons_of_mem _ zw_55)) (hts (.methodLink RX4 76 yX3_init) (List.mem_cons_of_mem _ zw_1165)) (hts (.instanceMethod yX3_init) (List.mem_cons_of_mem _ zw_1166)) rfl (by decide +kernel) ⟨Nat.le_of_ble_eq_true rfl, Nat.le_of_ble_eq_true rfl⟩) ⟨zblind, hpre⟩ rfl rfl hl.1 rfl (lv_room (Nat.le_of_ble_eq_true rfl)) dX4_make_68 ⟨Nat.le_of_ble_eq_true rfl, Nat.le_of_ble_eq_true rfl⟩) hS (fun q _ h => hFc q h) hFc (fun u t H13 locs ht hvm hw hB hz1 hk1 hS => ?_)
  obtain ⟨wa15, na16, ⟨hP1, hK1, hD1, hz2⟩⟩ := hB
  rw [ht] at hP1 hz2
  have hPD9 := va_join (wr := [(am, .inr (4, [.int mm, .ref (zk 0), .int 0])), (mo, .inr (9, [.int 0, .ref am, .int 0, .int 0, .int 0]))]) (w1 := [(q11, .inr (8, [.int kd, .ref wa15, .ref na16]))]) hP hD [2] [0, 1] rfl rfl (by decide) (by decide) hk1 hFc hP1 hD1
  clear hPc hDc hFc hDv hpre hP hD hP1 hK1 hD1
  obtain ⟨hP, hD⟩ := hPD9
  replace hz : s.heap.size + 3 ≤ H13.size := by omega
  clear hz2
  replace hP : va_P (dC, dI) vwCl [(am, .inr (4, [.int mm, .ref (zk 0), .int 0])), (mo, .inr (9, [.int 0, .ref am, .int 0, .int 0, .int 0])), (q11, .inr (8, [.int kd, .ref wa15, .ref na16]))] H13 := hP
  replace hD : va_D A [(am, .inr (4, [.int mm, .ref (zk 0), .int 0])), (mo, .inr (9, [.int 0, .ref am, .int 0, .int 0, .int 0])), (q11, .inr (8, [.int kd, .ref wa15, .ref na16]))] := hD
  refine W.widen (k := 3) (n := 5) (by omega) (by omega) ?_
  have hPc := hP.sub (ws' := [(am, .inr (4, [.int mm, .ref (zk 0), .int 0])), (q11, .inr (8, [.int kd, .ref wa15, .ref na16]))]) [0, 2] rfl
  have hDc := hD.sub (ws' := [(am, .inr (4, [.int mm, .ref (zk 0), .int 0])), (q11, .inr (8, [.int kd, .ref wa15, .ref na16]))]) [0, 2] (by decide) rfl
  have hFc := va_free (wc := [(am, .inr (4, [.int mm, .ref (zk 0), .int 0])), (q11, .inr (8, [.int kd, .ref wa15, .ref na16]))]) hD hS hA [0, 2] rfl
  have hDv := hDc.self (sz := H13.size)
  have hpre := zpre (xs' := []) (av := [.ref am, .ref q11]) hPc hK (hDc.weaken (fun _ _ _ h => h)) hZ hS hFc (fun r hr => by cases hr)
  refine va_calli (va_runV (As := [.ref q11]) (rest := []) ⟨hx, hb, hml, hown, hts⟩ (k_addZX3 l dC dI cI cB cR cO zk am q11 mm kd wa15 na16 H13.size ) (cwV 1 hts gX4_make_Jx4a65c_add_9ea2d rfl rfl rfl (by decide +kernel) ⟨Nat.le_of_ble_eq_true rfl, Nat.le_of_ble_eq_true rfl⟩) ⟨zblind, (zrecv_4 hK hPc (q0 := 0) rfl), hpre⟩ rfl rfl hl.1 rfl (lv_room (Nat.le_of_ble_eq_true rfl)) dX4_make_71 ⟨Nat.le_of_ble_eq_true rfl, Nat.le_of_ble_eq_true rfl⟩) hS (fun q _ h => hFc q h) hFc (fun r18 u t H17 locs ht hvm hw hB hz1 hk1 hS => ?_)
  obtain rfl : 1 = r18 := (show r18 = 1 from hw).symm
  obtain ⟨em19, mm20, ⟨hP1, hK1, hD1, hz2⟩⟩ := hB
  rw [ht] at hP1 hz2
  have hPD9 := va_join (wr := [(mo, .inr (9, [.int 0, .ref am, .int 0, .int 0, .int 0]))]) (w1 := [(am, .inr (4, [.int mm20, .ref em19, .int 1])), (q11, .inr (8, [.int kd, .ref wa15, .ref na16]))]) hP hD [0, 2] [1] rfl rfl (by decide) (by decide) hk1 hFc hP1 hD1
  clear hPc hDc hFc hDv hpre hP hD hP1 hK1 hD1
  obtain ⟨hP, hD⟩ := hPD9
  replace hz : s.heap.size + 4 ≤ H17.size := by omega
  clear hz2
  replace hP : va_P (dC, dI) vwCl [(mo, .inr (9, [.int 0, .ref am, .int 0, .int 0, .int 0])), (am, .inr (4, [.int mm20, .ref em19, .int 1])), (q11, .inr (8, [.int kd, .ref wa15, .ref na16]))] H17 := hP
  replace hD : va_D A [(mo, .inr (9, [.int 0, .ref am, .int 0, .int 0, .int 0])), (am, .inr (4, [.int mm20, .ref em19, .int 1])), (q11, .inr (8, [.int kd, .ref wa15, .ref na16]))] := hD
  refine W.widen (k := 4) (n := 15) (by omega) (by omega) ?_
  refine lv_pop hx hb dX4_make_74 rfl ?_
  refine lv_aload_n hx hb dX4_make_75 rfl (lv_at hl 0 rfl) ?_
  refine va_get (D := (dC, dI)) (ci := 9) (v := .ref am) (C := RX4) (T := TX4) (N := 5) hx hb hts hi_X4_make_X4 hown hK hP 0 rfl rfl 1 (by decide) (hts (.fieldLink RX4 10 "DeeprowsModel" "rows" "Ljava/util/ArrayList;") (List.mem_cons_of_mem _ zw_1128)) (fun _ h9 => h9) rfl dX4_make_76 ?_
  have hPc := hP.sub (ws' := [(am, .inr (4, [.int mm20, .ref em19, .int 1]))]) [1] rfl
  have hDc := hD.sub (ws' := [(am, .inr (4, [.int mm20, .ref em19, .int 1]))]) [1] (by decide) rfl
  have hFc := va_free (wc := [(am, .inr (4, [.int mm20, .ref em19, .int 1]))]) hD hS hA [1] rfl
  have hDv := hDc.self (sz := H17.size)
  have hpre := zpre (xs' := []) (av := [.ref am]) hPc hK (hDc.weaken (fun _ _ _ h => h)) hZ hS hFc (fun r hr => by cases hr)
  refine va_calli (va_runV (As := []) (rest := []) ⟨hx, hb, hml, hown, hts⟩ (k_size l dC dI cI cB cR cO zk am em19 1 (.int mm20) H17.size ) (cwV 0 hts gX4_make_Jx4a65c_size_8abf5 rfl rfl rfl (by decide +kernel) ⟨Nat.le_of_ble_eq_true rfl, Nat.le_of_ble_eq_true rfl⟩) ⟨zblind, (zrecv_4 hK hPc (q0 := 0) rfl), hpre⟩ rfl rfl hl.1 rfl (lv_room (Nat.le_of_ble_eq_true rfl)) dX4_make_79 ⟨Nat.le_of_ble_eq_true rfl, Nat.le_of_ble_eq_true rfl⟩) hS (fun q _ h => hFc q h) hFc (fun r22 u t H21 locs ht hvm hw hB hz1 hk1 hS => ?_)
  obtain rfl : 1 = r22 := (show r22 = 1 from hw).symm
  obtain ⟨hP1, hK1, hD1, hz2⟩ := hB
  rw [ht] at hP1 hz2
  have hPD9 := va_join (wr := [(mo, .inr (9, [.int 0, .ref am, .int 0, .int 0, .int 0])), (q11, .inr (8, [.int kd, .ref wa15, .ref na16]))]) (w1 := [(am, .inr (4, [.int mm20, .ref em19, .int 1]))]) hP hD [1] [0, 2] rfl rfl (by decide) (by decide) hk1 hFc hP1 hD1
  clear hPc hDc hFc hDv hpre hP hD hP1 hK1 hD1
  obtain ⟨hP, hD⟩ := hPD9
  replace hz : s.heap.size + 4 ≤ H21.size := by omega
  clear hz2
  replace hP : va_P (dC, dI) vwCl [(mo, .inr (9, [.int 0, .ref am, .int 0, .int 0, .int 0])), (q11, .inr (8, [.int kd, .ref wa15, .ref na16])), (am, .inr (4, [.int mm20, .ref em19, .int 1]))] H21 := hP
  replace hD : va_D A [(mo, .inr (9, [.int 0, .ref am, .int 0, .int 0, .int 0])), (q11, .inr (8, [.int kd, .ref wa15, .ref na16])), (am, .inr (4, [.int mm20, .ref em19, .int 1]))] := hD
  refine W.widen (k := 4) (n := 15) (by omega) (by omega) ?_
  refine lv_iconst (v := 1) hx hb dX4_make_82 (by decide) ?_
  refine lv_isub hx hb dX4_make_83 ?_
  refine lv_topi (fun v23 ev23 => ?_)
  obtain rfl : v23 = 0 := ev23.trans (by decide)
  have hP9 := hP.sub (ws' := [(mo, .inr (9, [.int 0, .ref am, .int 0, .int 0, .int 0]))]) [0] rfl
  have hD9 := hD.sub (ws' := [(mo, .inr (9, [.int 0, .ref am, .int 0, .int 0, .int 0]))]) [0] (by decide) rfl
  exact W.iret (v := 0) hx hb hr (fun t ht hW => ⟨⟨_, (), rfl, rfl, ⟨by rw [ht]; exact hP9, va_K.moved hW.alike hK, hD9, by rw [ht]; exact hz⟩⟩, hS.F ht⟩) hS.2.2 dX4_make_84

set_option maxHeartbeats 4000000 in
set_option maxRecDepth 100000 in
theorem k_mI24 (l : Launch) (dC : Nat → ClassId) (dI : Nat → Nat → Nat) (cI cB cR cO : ClassId) (zk : Nat → Nat) (a : Nat) (sz : Nat)  : Met l yX3_init wsX3_init ({ frames := 1, cells := 2, slots := 4, locals := 60 }) (va_Pc [.ref a, .int 4, .int 2] (zPre (dC, dI) (zT cI cB cR cO) zk [] [(a, .inr (8, [.int 0, .null, .null]))] sz)) (va_Qv (fun _ : Unit => True) (fun _ t => ∃ wa, ∃ na, zEnd (dC, dI) (zT cI cB cR cO) (va_A [(a, .inr (8, [.int 0, .null, .null]))] sz) [(a, .inr (8, [.int 4, .ref wa, .ref na]))] sz 2 t) (va_A [(a, .inr (8, [.int 0, .null, .null]))] sz)) 2 4 (va_A [(a, .inr (8, [.int 0, .null, .null]))] sz) := by
  refine Met.ofW (cc := cX3_init) (maxL := 4) (ret := none) (by decide) rfl ?_
  intro p e s mY args below meth c s₁ B hml hv
  obtain ⟨rfl, hsz, hP, hK, hD0, hZ⟩ := hv
  have hx := B.exec
  have hb := B.bytes
  have hr := B.returns
  have hts := atoms_spec (ws := wsX3_init) B.pre
  have hown : s.vm.findClass RX3 = some mY.cls := findClass_of_methodNamed B.named
  have hlocks := B.notSynchronized
  have hin : meth.name = "<init>" := (name_of_methodNamed B.named B.method).1
  subst hsz
  have hD := hD0.self (sz := s.heap.size)
  generalize hAe : va_A [(a, .inr (8, [.int 0, .null, .null]))] s.heap.size = A at hD hZ ⊢
  have hA : ∀ q : Nat, s.heap.size ≤ q → A q := fun q h => by rw [← hAe]; exact Or.inr h
  have hS : va_S A s.heap s.heap [] := va_S.rf
  have hz : s.heap.size + 0 ≤ s.heap.size := Nat.le_refl _
  have hl := lv_entry ([.ref a, .int 4, .int 2]) (n := 4) (Nat.le_of_ble_eq_true rfl)
  rw [lg_entry_eq]
  generalize (lg_sl ([.ref a, .int 4, .int 2]) ++ List.replicate (4 - (lg_sl ([.ref a, .int 4, .int 2])).length) Slot.unset).toArray = ls at hl ⊢
  have hl : lv_has ls 4 [(0, .ref a), (1, .int 4), (2, .int 2)] := hl
  have hP : va_P (dC, dI) vwCl [(a, .inr (8, [.int 0, .null, .null]))] s.heap := hP
  have hD : va_D A [(a, .inr (8, [.int 0, .null, .null]))] := hD
  refine lv_aload_n hx hb dX3_init_0 rfl (lv_at hl 0 rfl) ?_
  refine W.objInit hx hb hown (hts (.methodLink RX3 3 objectInit) (List.mem_cons_of_mem _ zw_1168)) (hts (.instanceMethod objectInit) (List.mem_cons_of_mem _ zw_71)) (hts (.code objectInit ⟨#[0xb1]⟩ 1 none) (List.mem_cons_of_mem _ zw_72)) rfl (by rw [hml]; exact hl.1) rfl dX3_init_1 (Nat.le_of_ble_eq_true rfl) (Nat.le_of_ble_eq_true rfl) ?_
  refine W.eq (g2 := F0 mY 4 ls []) rfl ?_
  refine lv_aload_n hx hb dX3_init_4 rfl (lv_at hl 0 rfl) ?_
  refine lv_iload_n hx hb dX3_init_5 rfl (lv_at hl 1 rfl) ?_
  refine va_putF (D := (dC, dI)) (ci := 8) (v := .int 4) (ty := .int) (C := RX3) (T := TX3) (N := 3) hx hb hts hi_X3_init_X3 tyX3 tyX3_ok nmX3 hown hK hP hD (zS0 hS) 0 rfl rfl 0 (by decide) (hts (.fieldLink RX3 9 "DeeprowsModel$Row" "kind" "I") (List.mem_cons_of_mem _ zw_1173)) (fun _ h9 => h9) rfl hin rfl (by decide +kernel) rfl rfl (Nat.le_of_ble_eq_true rfl) dX3_init_6 (fun H1 locs hP hD hS1 => ?_)
  have hz : s.heap.size + 0 ≤ H1.size := Nat.le_trans hz hS1.1
  have hS := zSS hS hS1
  replace hP : va_P (dC, dI) vwCl [(a, .inr (8, [.int 4, .null, .null]))] H1 := hP
  replace hD : va_D A [(a, .inr (8, [.int 4, .null, .null]))] := hD
  refine lv_aload_n hx hb dX3_init_9 rfl (lv_at hl 0 rfl) ?_
  refine lv_iload_n hx hb dX3_init_10 rfl (lv_at hl 2 rfl) ?_
  refine zw_newa (atype := .int) (ty := .int) (N' := 2) hx hb (hts (.arrayClass .int) (List.mem_cons_of_mem _ zw_131)) rfl (by first | exact Or.inl rfl | exact Or.inr rfl) hK hP hD hS hA 0 rfl (by decide) (by decide) (Nat.le_of_ble_eq_true rfl) (Nat.le_of_ble_eq_true rfl) (Nat.le_of_ble_eq_true rfl) dX3_init_11 hz (fun q2 H3 hP hD hS hz => ?_)
  replace hP : va_P (dC, dI) vwCl [(a, .inr (8, [.int 4, .null, .null])), (q2, .inl (cI, 2, .inl (fun _ => 0)))] H3 := hP
  replace hD : va_D A [(a, .inr (8, [.int 4, .null, .null])), (q2, .inl (cI, 2, .inl (fun _ => 0)))] := hD
  refine W.widen (k := 1) (n := 2) (by omega) (by omega) ?_
  refine va_putF (D := (dC, dI)) (ci := 8) (v := .ref q2) (ty := .array .int) (C := RX3) (T := TX3) (N := 3) hx hb hts hi_X3_init_X3 tyX3 tyX3_ok nmX3 hown hK hP hD (zS0 hS) 0 rfl rfl 1 (by decide) (hts (.fieldLink RX3 15 "DeeprowsModel$Row" "whats" "[I") (List.mem_cons_of_mem _ zw_1175)) (fun _ h9 => h9) rfl hin rfl (by decide +kernel) rfl rfl (Nat.le_of_ble_eq_true rfl) dX3_init_13 (fun H4 locs hP hD hS1 => ?_)
  have hz : s.heap.size + 1 ≤ H4.size := Nat.le_trans hz hS1.1
  have hS := zSS hS hS1
  replace hP : va_P (dC, dI) vwCl [(a, .inr (8, [.int 4, .ref q2, .null])), (q2, .inl (cI, 2, .inl (fun _ => 0)))] H4 := hP
  replace hD : va_D A [(a, .inr (8, [.int 4, .ref q2, .null])), (q2, .inl (cI, 2, .inl (fun _ => 0)))] := hD
  refine lv_aload_n hx hb dX3_init_16 rfl (lv_at hl 0 rfl) ?_
  refine lv_iload_n hx hb dX3_init_17 rfl (lv_at hl 2 rfl) ?_
  refine zw_newa (atype := .int) (ty := .int) (N' := 2) hx hb (hts (.arrayClass .int) (List.mem_cons_of_mem _ zw_131)) rfl (by first | exact Or.inl rfl | exact Or.inr rfl) hK hP hD hS hA 0 rfl (by decide) (by decide) (Nat.le_of_ble_eq_true rfl) (Nat.le_of_ble_eq_true rfl) (Nat.le_of_ble_eq_true rfl) dX3_init_18 hz (fun q5 H6 hP hD hS hz => ?_)
  replace hP : va_P (dC, dI) vwCl [(a, .inr (8, [.int 4, .ref q2, .null])), (q2, .inl (cI, 2, .inl (fun _ => 0))), (q5, .inl (cI, 2, .inl (fun _ => 0)))] H6 := hP
  replace hD : va_D A [(a, .inr (8, [.int 4, .ref q2, .null])), (q2, .inl (cI, 2, .inl (fun _ => 0))), (q5, .inl (cI, 2, .inl (fun _ => 0)))] := hD
  refine W.widen (k := 2) (n := 4) (by omega) (by omega) ?_
  refine va_putF (D := (dC, dI)) (ci := 8) (v := .ref q5) (ty := .array .int) (C := RX3) (T := TX3) (N := 3) hx hb hts hi_X3_init_X3 tyX3 tyX3_ok nmX3 hown hK hP hD (zS0 hS) 0 rfl rfl 2 (by decide) (hts (.fieldLink RX3 19 "DeeprowsModel$Row" "numbers" "[I") (List.mem_cons_of_mem _ zw_1177)) (fun _ h9 => h9) rfl hin rfl (by decide +kernel) rfl rfl (Nat.le_of_ble_eq_true rfl) dX3_init_20 (fun H7 locs hP hD hS1 => ?_)
  have hz : s.heap.size + 2 ≤ H7.size := Nat.le_trans hz hS1.1
  have hS := zSS hS hS1
  replace hP : va_P (dC, dI) vwCl [(a, .inr (8, [.int 4, .ref q2, .ref q5])), (q2, .inl (cI, 2, .inl (fun _ => 0))), (q5, .inl (cI, 2, .inl (fun _ => 0)))] H7 := hP
  replace hD : va_D A [(a, .inr (8, [.int 4, .ref q2, .ref q5])), (q2, .inl (cI, 2, .inl (fun _ => 0))), (q5, .inl (cI, 2, .inl (fun _ => 0)))] := hD
  refine lv_iconst (v := 0) hx hb dX3_init_23 (by decide) ?_
  refine lv_istore_n (lv' := [(3, .int 0), (0, .ref a), (1, .int 4), (2, .int 2)]) hx hb dX3_init_24 rfl hl (by decide) rfl (fun ls hl => ?_)
  refine lv_iload_n hx hb dX3_init_25 rfl (lv_at hl 0 rfl) ?_
  refine lv_iload_n hx hb dX3_init_26 rfl (lv_at hl 3 rfl) ?_
  refine lv_icmp_ge (tgt := 61) hx hb dX3_init_27 (by decide) (fun c9 => ?_) (fun c9 => ?_)
  · exact absurd c9 (by decide)
  refine lv_aload_n hx hb dX3_init_30 rfl (lv_at hl 1 rfl) ?_
  refine lv_iload_n hx hb dX3_init_31 rfl (lv_at hl 0 rfl) ?_
  refine lv_iload_n hx hb dX3_init_32 rfl (lv_at hl 2 rfl) ?_
  refine lv_iconst (v := 4) hx hb dX3_init_33 (by decide) ?_
  refine lv_icmp_ne (tgt := 41) hx hb dX3_init_34 (by decide) (fun c9 => ?_) (fun c9 => ?_)
  · exact absurd (by decide) c9
  refine lv_iconst (v := 0) hx hb dX3_init_37 (by decide) ?_
  refine lv_goto (tgt := 42) hx hb dX3_init_38 (by decide) ?_
  refine lv_iload_n hx hb dX3_init_42 rfl (lv_at hl 2 rfl) ?_
  refine lv_iconst (v := 4) hx hb dX3_init_43 (by decide) ?_
  refine lv_icmp_ne (tgt := 51) hx hb dX3_init_44 (by decide) (fun c9 => ?_) (fun c9 => ?_)
  · exact absurd (by decide) c9
  refine lv_iconst (v := (-1)) hx hb dX3_init_47 (by decide) ?_
  refine lv_goto (tgt := 52) hx hb dX3_init_48 (by decide) ?_
  have hPc := hP.sub (ws' := [(a, .inr (8, [.int 4, .ref q2, .ref q5])), (q2, .inl (cI, 2, .inl (fun _ => 0))), (q5, .inl (cI, 2, .inl (fun _ => 0)))]) [0, 1, 2] rfl
  have hDc := hD.sub (ws' := [(a, .inr (8, [.int 4, .ref q2, .ref q5])), (q2, .inl (cI, 2, .inl (fun _ => 0))), (q5, .inl (cI, 2, .inl (fun _ => 0)))]) [0, 1, 2] (by decide) rfl
  have hFc := va_free (wc := [(a, .inr (8, [.int 4, .ref q2, .ref q5])), (q2, .inl (cI, 2, .inl (fun _ => 0))), (q5, .inl (cI, 2, .inl (fun _ => 0)))]) hD hS hA [0, 1, 2] rfl
  have hDv := hDc.self (sz := H7.size)
  have hpre := zpre (xs' := []) (av := [.ref a, .int 0, .int 0, .int (-1)]) hPc hK (hDc.weaken (fun _ _ _ h => h)) hZ hS hFc (fun r hr => by cases hr)
  refine va_callv (va_runV (As := [.int 0, .int 0, .int (-1)]) (rest := []) ⟨hx, hb, hml, hown, hts⟩ (k_mpZ2_0 l dC dI cI cB cR cO zk a q2 q5 4 0 (-1) (fun _ => 0) (fun _ => 0) H7.size ) (cwV 3 hts gX3_init_X3_put rfl rfl rfl (by decide +kernel) ⟨Nat.le_of_ble_eq_true rfl, Nat.le_of_ble_eq_true rfl⟩) ⟨zblind, (zrecv_8 hK hPc (q0 := 0) rfl), hpre⟩ rfl rfl hl.1 rfl (lv_room (Nat.le_of_ble_eq_true rfl)) dX3_init_52 ⟨Nat.le_of_ble_eq_true rfl, Nat.le_of_ble_eq_true rfl⟩) hS (fun q _ h => hFc q h) hFc (fun u t H8 locs ht hvm hw hB hz1 hk1 hS => ?_)
  obtain ⟨hP1, hK1, hD1, hz2⟩ := hB
  rw [ht] at hP1 hz2
  have hPD9 := va_join (wr := []) (w1 := [(a, .inr (8, [.int 4, .ref q2, .ref q5])), (q2, .inl (cI, 2, .inl (upd (fun _ => 0) 0 0))), (q5, .inl (cI, 2, .inl (upd (fun _ => 0) 0 (-1))))]) hP hD [0, 1, 2] [] rfl rfl (by decide) (by decide) hk1 hFc hP1 hD1
  clear hPc hDc hFc hDv hpre hP hD hP1 hK1 hD1
  obtain ⟨hP, hD⟩ := hPD9
  replace hz : s.heap.size + 2 ≤ H8.size := by omega
  clear hz2
  replace hP : va_P (dC, dI) vwCl [(a, .inr (8, [.int 4, .ref q2, .ref q5])), (q2, .inl (cI, 2, .inl (upd (fun _ => 0) 0 0))), (q5, .inl (cI, 2, .inl (upd (fun _ => 0) 0 (-1))))] H8 := hP
  replace hD : va_D A [(a, .inr (8, [.int 4, .ref q2, .ref q5])), (q2, .inl (cI, 2, .inl (upd (fun _ => 0) 0 0))), (q5, .inl (cI, 2, .inl (upd (fun _ => 0) 0 (-1))))] := hD
  refine W.widen (k := 2) (n := 4) (by omega) (by omega) ?_
  refine lv_iinc (v := 1) (lv' := [(3, .int 1), (0, .ref a), (1, .int 4), (2, .int 2)]) hx hb dX3_init_55 hl (k := 0) rfl (by decide) (by decide) rfl (fun ls hl => ?_)
  refine lv_goto (tgt := 25) hx hb dX3_init_58 (by decide) ?_
  refine lv_iload_n hx hb dX3_init_25 rfl (lv_at hl 0 rfl) ?_
  refine lv_iload_n hx hb dX3_init_26 rfl (lv_at hl 3 rfl) ?_
  refine lv_icmp_ge (tgt := 61) hx hb dX3_init_27 (by decide) (fun c9 => ?_) (fun c9 => ?_)
  · exact absurd c9 (by decide)
  refine lv_aload_n hx hb dX3_init_30 rfl (lv_at hl 1 rfl) ?_
  refine lv_iload_n hx hb dX3_init_31 rfl (lv_at hl 0 rfl) ?_
  refine lv_iload_n hx hb dX3_init_32 rfl (lv_at hl 2 rfl) ?_
  refine lv_iconst (v := 4) hx hb dX3_init_33 (by decide) ?_
  refine lv_icmp_ne (tgt := 41) hx hb dX3_init_34 (by decide) (fun c9 => ?_) (fun c9 => ?_)
  · exact absurd (by decide) c9
  refine lv_iconst (v := 0) hx hb dX3_init_37 (by decide) ?_
  refine lv_goto (tgt := 42) hx hb dX3_init_38 (by decide) ?_
  refine lv_iload_n hx hb dX3_init_42 rfl (lv_at hl 2 rfl) ?_
  refine lv_iconst (v := 4) hx hb dX3_init_43 (by decide) ?_
  refine lv_icmp_ne (tgt := 51) hx hb dX3_init_44 (by decide) (fun c9 => ?_) (fun c9 => ?_)
  · exact absurd (by decide) c9
  refine lv_iconst (v := (-1)) hx hb dX3_init_47 (by decide) ?_
  refine lv_goto (tgt := 52) hx hb dX3_init_48 (by decide) ?_
  have hPc := hP.sub (ws' := [(a, .inr (8, [.int 4, .ref q2, .ref q5])), (q2, .inl (cI, 2, .inl (upd (fun _ => 0) 0 0))), (q5, .inl (cI, 2, .inl (upd (fun _ => 0) 0 (-1))))]) [0, 1, 2] rfl
  have hDc := hD.sub (ws' := [(a, .inr (8, [.int 4, .ref q2, .ref q5])), (q2, .inl (cI, 2, .inl (upd (fun _ => 0) 0 0))), (q5, .inl (cI, 2, .inl (upd (fun _ => 0) 0 (-1))))]) [0, 1, 2] (by decide) rfl
  have hFc := va_free (wc := [(a, .inr (8, [.int 4, .ref q2, .ref q5])), (q2, .inl (cI, 2, .inl (upd (fun _ => 0) 0 0))), (q5, .inl (cI, 2, .inl (upd (fun _ => 0) 0 (-1))))]) hD hS hA [0, 1, 2] rfl
  have hDv := hDc.self (sz := H8.size)
  have hpre := zpre (xs' := []) (av := [.ref a, .int 1, .int 0, .int (-1)]) hPc hK (hDc.weaken (fun _ _ _ h => h)) hZ hS hFc (fun r hr => by cases hr)
  refine va_callv (va_runV (As := [.int 1, .int 0, .int (-1)]) (rest := []) ⟨hx, hb, hml, hown, hts⟩ (k_mpZ2_1 l dC dI cI cB cR cO zk a q2 q5 4 0 (-1) (upd (fun _ => 0) 0 0) (upd (fun _ => 0) 0 (-1)) H8.size ) (cwV 3 hts gX3_init_X3_put rfl rfl rfl (by decide +kernel) ⟨Nat.le_of_ble_eq_true rfl, Nat.le_of_ble_eq_true rfl⟩) ⟨zblind, (zrecv_8 hK hPc (q0 := 0) rfl), hpre⟩ rfl rfl hl.1 rfl (lv_room (Nat.le_of_ble_eq_true rfl)) dX3_init_52 ⟨Nat.le_of_ble_eq_true rfl, Nat.le_of_ble_eq_true rfl⟩) hS (fun q _ h => hFc q h) hFc (fun u t H10 locs ht hvm hw hB hz1 hk1 hS => ?_)
  obtain ⟨hP1, hK1, hD1, hz2⟩ := hB
  rw [ht] at hP1 hz2
  have hPD9 := va_join (wr := []) (w1 := [(a, .inr (8, [.int 4, .ref q2, .ref q5])), (q2, .inl (cI, 2, .inl (upd (upd (fun _ => 0) 0 0) 1 0))), (q5, .inl (cI, 2, .inl (upd (upd (fun _ => 0) 0 (-1)) 1 (-1))))]) hP hD [0, 1, 2] [] rfl rfl (by decide) (by decide) hk1 hFc hP1 hD1
  clear hPc hDc hFc hDv hpre hP hD hP1 hK1 hD1
  obtain ⟨hP, hD⟩ := hPD9
  replace hz : s.heap.size + 2 ≤ H10.size := by omega
  clear hz2
  replace hP : va_P (dC, dI) vwCl [(a, .inr (8, [.int 4, .ref q2, .ref q5])), (q2, .inl (cI, 2, .inl (upd (upd (fun _ => 0) 0 0) 1 0))), (q5, .inl (cI, 2, .inl (upd (upd (fun _ => 0) 0 (-1)) 1 (-1))))] H10 := hP
  replace hD : va_D A [(a, .inr (8, [.int 4, .ref q2, .ref q5])), (q2, .inl (cI, 2, .inl (upd (upd (fun _ => 0) 0 0) 1 0))), (q5, .inl (cI, 2, .inl (upd (upd (fun _ => 0) 0 (-1)) 1 (-1))))] := hD
  refine W.widen (k := 2) (n := 4) (by omega) (by omega) ?_
  refine lv_iinc (v := 2) (lv' := [(3, .int 2), (0, .ref a), (1, .int 4), (2, .int 2)]) hx hb dX3_init_55 hl (k := 0) rfl (by decide) (by decide) rfl (fun ls hl => ?_)
  refine lv_goto (tgt := 25) hx hb dX3_init_58 (by decide) ?_
  refine lv_iload_n hx hb dX3_init_25 rfl (lv_at hl 0 rfl) ?_
  refine lv_iload_n hx hb dX3_init_26 rfl (lv_at hl 3 rfl) ?_
  refine lv_icmp_ge (tgt := 61) hx hb dX3_init_27 (by decide) (fun c9 => ?_) (fun c9 => ?_)
  rotate_left
  · exact absurd (by decide) c9
  have hP9 := hP.sub (ws' := [(a, .inr (8, [.int 4, .ref q2, .ref q5]))]) [0] rfl
  have hD9 := hD.sub (ws' := [(a, .inr (8, [.int 4, .ref q2, .ref q5]))]) [0] (by decide) rfl
  exact W.vret hx hb hr (fun t ht hW => ⟨⟨(), rfl, trivial, ⟨_, _, ⟨by rw [ht]; exact hP9, va_K.moved hW.alike hK, hD9, by rw [ht]; exact hz⟩⟩⟩, hS.F ht⟩) hS.2.2 dX3_init_61

set_option maxHeartbeats 4000000 in
set_option maxRecDepth 100000 in
theorem k_mkM24 (l : Launch) (dC : Nat → ClassId) (dI : Nat → Nat → Nat) (cI cB cR cO : ClassId) (zk : Nat → Nat) (mo am : Nat) (th : Value) (mm : Int32) (sz : Nat)  : Met l yX4_make wsX4_make ({ frames := 5, cells := 4, slots := 17, locals := 127 }) (va_Pc [.ref mo, .int 4, .int 2] (zPre (dC, dI) (zT cI cB cR cO) zk [] [(mo, .inr (9, [th, .ref am, .int 0, .int 0, .int 0])), (am, .inr (4, [.int mm, .ref (zk 0), .int 0]))] sz)) (va_Qi (fun r (_ : Unit) => r = 0) (fun _ t => zEnd (dC, dI) (zT cI cB cR cO) (va_A [(mo, .inr (9, [th, .ref am, .int 0, .int 0, .int 0])), (am, .inr (4, [.int mm, .ref (zk 0), .int 0]))] sz) [(mo, .inr (9, [.int 0, .ref am, .int 0, .int 0, .int 0]))] sz 4 t) (va_A [(mo, .inr (9, [th, .ref am, .int 0, .int 0, .int 0])), (am, .inr (4, [.int mm, .ref (zk 0), .int 0]))] sz)) 4 17 (va_A [(mo, .inr (9, [th, .ref am, .int 0, .int 0, .int 0])), (am, .inr (4, [.int mm, .ref (zk 0), .int 0]))] sz) := by
  refine Met.ofW (cc := cX4_make) (maxL := 3) (ret := (some .int)) (by decide) rfl ?_
  intro p e s mY args below meth c s₁ B hml hv
  obtain ⟨rfl, hsz, hP, hK, hD0, hZ⟩ := hv
  have hx := B.exec
  have hb := B.bytes
  have hr := B.returns
  have hts := atoms_spec (ws := wsX4_make) B.pre
  have hown : s.vm.findClass RX4 = some mY.cls := findClass_of_methodNamed B.named
  have hlocks := B.notSynchronized
  subst hsz
  have hD := hD0.self (sz := s.heap.size)
  generalize hAe : va_A [(mo, .inr (9, [th, .ref am, .int 0, .int 0, .int 0])), (am, .inr (4, [.int mm, .ref (zk 0), .int 0]))] s.heap.size = A at hD hZ ⊢
  have hA : ∀ q : Nat, s.heap.size ≤ q → A q := fun q h => by rw [← hAe]; exact Or.inr h
  have hS : va_S A s.heap s.heap [] := va_S.rf
  have hz : s.heap.size + 0 ≤ s.heap.size := Nat.le_refl _
  have hl := lv_entry ([.ref mo, .int 4, .int 2]) (n := 3) (Nat.le_of_ble_eq_true rfl)
  rw [lg_entry_eq]
  generalize (lg_sl ([.ref mo, .int 4, .int 2]) ++ List.replicate (3 - (lg_sl ([.ref mo, .int 4, .int 2])).length) Slot.unset).toArray = ls at hl ⊢
  have hl : lv_has ls 3 [(0, .ref mo), (1, .int 4), (2, .int 2)] := hl
  have hP : va_P (dC, dI) vwCl [(mo, .inr (9, [th, .ref am, .int 0, .int 0, .int 0])), (am, .inr (4, [.int mm, .ref (zk 0), .int 0]))] s.heap := hP
  have hD : va_D A [(mo, .inr (9, [th, .ref am, .int 0, .int 0, .int 0])), (am, .inr (4, [.int mm, .ref (zk 0), .int 0]))] := hD
  refine lv_aload_n hx hb dX4_make_0 rfl (lv_at hl 0 rfl) ?_
  refine lv_iload_n hx hb dX4_make_1 rfl (lv_at hl 1 rfl) ?_
  refine lv_iconst (v := 0) hx hb dX4_make_2 (by decide) ?_
  refine lv_iconst (v := 4) hx hb dX4_make_3 (by decide) ?_
  have hPc := hP.sub (ws' := []) [] rfl
  have hDc := hD.sub (ws' := []) [] (by decide) rfl
  have hFc := va_free (wc := []) hD hS hA [] rfl
  have hDv := hDc.self (sz := s.heap.size)
  have hpre := zpre (xs' := []) (av := [.int 4, .int 0, .int 4]) hPc hK (hDc.weaken (fun _ _ _ h => h)) hZ hS hFc (fun r hr => by cases hr)
  refine va_calli (va_runS (As := [.int 4, .int 0, .int 4]) (rest := [.ref mo]) ⟨hx, hb, hml, hown, hts⟩ (k_isIn4_4 l dC dI cI cB cR cO zk  s.heap.size ) (va_cwS 3 hts gX4_make_X4_isIn rfl rfl rfl (by decide +kernel) ⟨Nat.le_of_ble_eq_true rfl, Nat.le_of_ble_eq_true rfl⟩) ⟨zblind, hpre⟩ rfl rfl hl.1 rfl (lv_room (Nat.le_of_ble_eq_true rfl)) dX4_make_4 ⟨Nat.le_of_ble_eq_true rfl, Nat.le_of_ble_eq_true rfl⟩) hS (fun q _ h => hFc q h) hFc (fun r2 u t H1 locs ht hvm hw hB hz1 hk1 hS => ?_)
  obtain rfl : 1 = r2 := (show r2 = 1 from hw).symm
  obtain ⟨hP1, hK1, hD1, hz2⟩ := hB
  rw [ht] at hP1 hz2
  have hPD9 := va_join (wr := [(mo, .inr (9, [th, .ref am, .int 0, .int 0, .int 0])), (am, .inr (4, [.int mm, .ref (zk 0), .int 0]))]) (w1 := []) hP hD [] [0, 1] rfl rfl (by decide) (by decide) hk1 hFc hP1 hD1
  clear hPc hDc hFc hDv hpre hP hD hP1 hK1 hD1
  obtain ⟨hP, hD⟩ := hPD9
  replace hz : s.heap.size + 0 ≤ H1.size := by omega
  clear hz2
  replace hP : va_P (dC, dI) vwCl [(mo, .inr (9, [th, .ref am, .int 0, .int 0, .int 0])), (am, .inr (4, [.int mm, .ref (zk 0), .int 0]))] H1 := hP
  replace hD : va_D A [(mo, .inr (9, [th, .ref am, .int 0, .int 0, .int 0])), (am, .inr (4, [.int mm, .ref (zk 0), .int 0]))] := hD
  refine W.widen (k := 0) (n := 0) (by omega) (by omega) ?_
  refine lv_if_eq (tgt := 19) hx hb dX4_make_7 (by decide) (fun c9 => ?_) (fun c9 => ?_)
  · exact absurd c9 (by decide)
  refine lv_iload_n hx hb dX4_make_10 rfl (lv_at hl 2 rfl) ?_
  refine lv_iconst (v := 0) hx hb dX4_make_11 (by decide) ?_
  refine lv_iconst (v := 4) hx hb dX4_make_12 (by decide) ?_
  have hPc := hP.sub (ws' := []) [] rfl
  have hDc := hD.sub (ws' := []) [] (by decide) rfl
  have hFc := va_free (wc := []) hD hS hA [] rfl
  have hDv := hDc.self (sz := H1.size)
  have hpre := zpre (xs' := []) (av := [.int 2, .int 0, .int 4]) hPc hK (hDc.weaken (fun _ _ _ h => h)) hZ hS hFc (fun r hr => by cases hr)
  refine va_calli (va_runS (As := [.int 2, .int 0, .int 4]) (rest := [.ref mo]) ⟨hx, hb, hml, hown, hts⟩ (k_isIn4_2 l dC dI cI cB cR cO zk  H1.size ) (va_cwS 3 hts gX4_make_X4_isIn rfl rfl rfl (by decide +kernel) ⟨Nat.le_of_ble_eq_true rfl, Nat.le_of_ble_eq_true rfl⟩) ⟨zblind, hpre⟩ rfl rfl hl.1 rfl (lv_room (Nat.le_of_ble_eq_true rfl)) dX4_make_13 ⟨Nat.le_of_ble_eq_true rfl, Nat.le_of_ble_eq_true rfl⟩) hS (fun q _ h => hFc q h) hFc (fun r4 u t H3 locs ht hvm hw hB hz1 hk1 hS => ?_)
  obtain rfl : 1 = r4 := (show r4 = 1 from hw).symm
  obtain ⟨hP1, hK1, hD1, hz2⟩ := hB
  rw [ht] at hP1 hz2
  have hPD9 := va_join (wr := [(mo, .inr (9, [th, .ref am, .int 0, .int 0, .int 0])), (am, .inr (4, [.int mm, .ref (zk 0), .int 0]))]) (w1 := []) hP hD [] [0, 1] rfl rfl (by decide) (by decide) hk1 hFc hP1 hD1
  clear hPc hDc hFc hDv hpre hP hD hP1 hK1 hD1
  obtain ⟨hP, hD⟩ := hPD9
  replace hz : s.heap.size + 0 ≤ H3.size := by omega
  clear hz2
  replace hP : va_P (dC, dI) vwCl [(mo, .inr (9, [th, .ref am, .int 0, .int 0, .int 0])), (am, .inr (4, [.int mm, .ref (zk 0), .int 0]))] H3 := hP
  replace hD : va_D A [(mo, .inr (9, [th, .ref am, .int 0, .int 0, .int 0])), (am, .inr (4, [.int mm, .ref (zk 0), .int 0]))] := hD
  refine W.widen (k := 0) (n := 0) (by omega) (by omega) ?_
  refine lv_if_ne (tgt := 23) hx hb dX4_make_16 (by decide) (fun c9 => ?_) (fun c9 => ?_)
  rotate_left
  · exact absurd c9 (by decide)
  refine lv_iconst (v := 0) hx hb dX4_make_23 (by decide) ?_
  refine lv_iconst (v := 1) hx hb dX4_make_24 (by decide) ?_
  have hPc := hP.sub (ws' := [(mo, .inr (9, [th, .ref am, .int 0, .int 0, .int 0]))]) [0] rfl
  have hDc := hD.sub (ws' := [(mo, .inr (9, [th, .ref am, .int 0, .int 0, .int 0]))]) [0] (by decide) rfl
  have hFc := va_free (wc := [(mo, .inr (9, [th, .ref am, .int 0, .int 0, .int 0]))]) hD hS hA [0] rfl
  have hDv := hDc.self (sz := H3.size)
  have hpre := zpre (xs' := []) (av := [.ref mo, .int 0, .int 1]) hPc hK (hDc.weaken (fun _ _ _ h => h)) hZ hS hFc (fun r hr => by cases hr)
  refine va_calli (va_runV (As := [.int 0, .int 1]) (rest := []) ⟨hx, hb, hml, hown, hts⟩ (k_stt0 l dC dI cI cB cR cO zk mo am th H3.size ) (cwV 2 hts gX4_make_X4_start rfl rfl rfl (by decide +kernel) ⟨Nat.le_of_ble_eq_true rfl, Nat.le_of_ble_eq_true rfl⟩) ⟨zblind, (zrecv_9 hK hPc (q0 := 0) rfl), hpre⟩ rfl rfl hl.1 rfl (lv_room (Nat.le_of_ble_eq_true rfl)) dX4_make_25 ⟨Nat.le_of_ble_eq_true rfl, Nat.le_of_ble_eq_true rfl⟩) hS (fun q _ h => hFc q h) hFc (fun r6 u t H5 locs ht hvm hw hB hz1 hk1 hS => ?_)
  obtain rfl : 0 = r6 := (show r6 = 0 from hw).symm
  obtain ⟨hP1, hK1, hD1, hz2⟩ := hB
  rw [ht] at hP1 hz2
  have hPD9 := va_join (wr := [(am, .inr (4, [.int mm, .ref (zk 0), .int 0]))]) (w1 := [(mo, .inr (9, [.int 0, .ref am, .int 0, .int 0, .int 0]))]) hP hD [0] [1] rfl rfl (by decide) (by decide) hk1 hFc hP1 hD1
  clear hPc hDc hFc hDv hpre hP hD hP1 hK1 hD1
  obtain ⟨hP, hD⟩ := hPD9
  replace hz : s.heap.size + 0 ≤ H5.size := by omega
  clear hz2
  replace hP : va_P (dC, dI) vwCl [(am, .inr (4, [.int mm, .ref (zk 0), .int 0])), (mo, .inr (9, [.int 0, .ref am, .int 0, .int 0, .int 0]))] H5 := hP
  replace hD : va_D A [(am, .inr (4, [.int mm, .ref (zk 0), .int 0])), (mo, .inr (9, [.int 0, .ref am, .int 0, .int 0, .int 0]))] := hD
  refine W.widen (k := 0) (n := 0) (by omega) (by omega) ?_
  refine lv_if_ne (tgt := 56) hx hb dX4_make_28 (by decide) (fun c9 => ?_) (fun c9 => ?_)
  · exact absurd (by decide) c9
  refine lv_aload_n hx hb dX4_make_31 rfl (lv_at hl 0 rfl) ?_
  refine lv_aload_n hx hb dX4_make_32 rfl (lv_at hl 0 rfl) ?_
  refine va_get (D := (dC, dI)) (ci := 9) (v := .ref am) (C := RX4) (T := TX4) (N := 5) hx hb hts hi_X4_make_X4 hown hK hP 1 rfl rfl 1 (by decide) (hts (.fieldLink RX4 10 "DeeprowsModel" "rows" "Ljava/util/ArrayList;") (List.mem_cons_of_mem _ zw_1128)) (fun _ h9 => h9) rfl dX4_make_33 ?_
  have hPc := hP.sub (ws' := [(am, .inr (4, [.int mm, .ref (zk 0), .int 0]))]) [0] rfl
  have hDc := hD.sub (ws' := [(am, .inr (4, [.int mm, .ref (zk 0), .int 0]))]) [0] (by decide) rfl
  have hFc := va_free (wc := [(am, .inr (4, [.int mm, .ref (zk 0), .int 0]))]) hD hS hA [0] rfl
  have hDv := hDc.self (sz := H5.size)
  have hpre := zpre (xs' := []) (av := [.ref am]) hPc hK (hDc.weaken (fun _ _ _ h => h)) hZ hS hFc (fun r hr => by cases hr)
  refine va_calli (va_runV (As := []) (rest := [.ref mo]) ⟨hx, hb, hml, hown, hts⟩ (k_size l dC dI cI cB cR cO zk am (zk 0) 0 (.int mm) H5.size ) (cwV 0 hts gX4_make_Jx4a65c_size_8abf5 rfl rfl rfl (by decide +kernel) ⟨Nat.le_of_ble_eq_true rfl, Nat.le_of_ble_eq_true rfl⟩) ⟨zblind, (zrecv_4 hK hPc (q0 := 0) rfl), hpre⟩ rfl rfl hl.1 rfl (lv_room (Nat.le_of_ble_eq_true rfl)) dX4_make_36 ⟨Nat.le_of_ble_eq_true rfl, Nat.le_of_ble_eq_true rfl⟩) hS (fun q _ h => hFc q h) hFc (fun r8 u t H7 locs ht hvm hw hB hz1 hk1 hS => ?_)
  obtain rfl : 0 = r8 := (show r8 = 0 from hw).symm
  obtain ⟨hP1, hK1, hD1, hz2⟩ := hB
  rw [ht] at hP1 hz2
  have hPD9 := va_join (wr := [(mo, .inr (9, [.int 0, .ref am, .int 0, .int 0, .int 0]))]) (w1 := [(am, .inr (4, [.int mm, .ref (zk 0), .int 0]))]) hP hD [0] [1] rfl rfl (by decide) (by decide) hk1 hFc hP1 hD1
  clear hPc hDc hFc hDv hpre hP hD hP1 hK1 hD1
  obtain ⟨hP, hD⟩ := hPD9
  replace hz : s.heap.size + 0 ≤ H7.size := by omega
  clear hz2
  replace hP : va_P (dC, dI) vwCl [(mo, .inr (9, [.int 0, .ref am, .int 0, .int 0, .int 0])), (am, .inr (4, [.int mm, .ref (zk 0), .int 0]))] H7 := hP
  replace hD : va_D A [(mo, .inr (9, [.int 0, .ref am, .int 0, .int 0, .int 0])), (am, .inr (4, [.int mm, .ref (zk 0), .int 0]))] := hD
  refine W.widen (k := 0) (n := 0) (by omega) (by omega) ?_
  refine lv_bipush (v := 12) hx hb dX4_make_39 (by decide) ?_
  refine lv_icmp_ne (tgt := 48) hx hb dX4_make_41 (by decide) (fun c9 => ?_) (fun c9 => ?_)
  rotate_left
  · exact absurd c9 (by decide)
  refine lv_iconst (v := 0) hx hb dX4_make_48 (by decide) ?_
  refine lv_iconst (v := 2) hx hb dX4_make_49 (by decide) ?_
  have hPc := hP.sub (ws' := [(mo, .inr (9, [.int 0, .ref am, .int 0, .int 0, .int 0]))]) [0] rfl
  have hDc := hD.sub (ws' := [(mo, .inr (9, [.int 0, .ref am, .int 0, .int 0, .int 0]))]) [0] (by decide) rfl
  have hFc := va_free (wc := [(mo, .inr (9, [.int 0, .ref am, .int 0, .int 0, .int 0]))]) hD hS hA [0] rfl
  have hDv := hDc.self (sz := H7.size)
  have hpre := zpre (xs' := []) (av := [.ref mo, .int 0, .int 2]) hPc hK (hDc.weaken (fun _ _ _ h => h)) hZ hS hFc (fun r hr => by cases hr)
  refine va_calli (va_runV (As := [.int 0, .int 2]) (rest := []) ⟨hx, hb, hml, hown, hts⟩ (k_ref02 l dC dI cI cB cR cO zk mo am H7.size ) (cwV 2 hts gX4_make_X4_refuse rfl rfl rfl (by decide +kernel) ⟨Nat.le_of_ble_eq_true rfl, Nat.le_of_ble_eq_true rfl⟩) ⟨zblind, (zrecv_9 hK hPc (q0 := 0) rfl), hpre⟩ rfl rfl hl.1 rfl (lv_room (Nat.le_of_ble_eq_true rfl)) dX4_make_50 ⟨Nat.le_of_ble_eq_true rfl, Nat.le_of_ble_eq_true rfl⟩) hS (fun q _ h => hFc q h) hFc (fun r10 u t H9 locs ht hvm hw hB hz1 hk1 hS => ?_)
  obtain rfl : 0 = r10 := (show r10 = 0 from hw).symm
  obtain ⟨hP1, hK1, hD1, hz2⟩ := hB
  rw [ht] at hP1 hz2
  have hPD9 := va_join (wr := [(am, .inr (4, [.int mm, .ref (zk 0), .int 0]))]) (w1 := [(mo, .inr (9, [.int 0, .ref am, .int 0, .int 0, .int 0]))]) hP hD [0] [1] rfl rfl (by decide) (by decide) hk1 hFc hP1 hD1
  clear hPc hDc hFc hDv hpre hP hD hP1 hK1 hD1
  obtain ⟨hP, hD⟩ := hPD9
  replace hz : s.heap.size + 0 ≤ H9.size := by omega
  clear hz2
  replace hP : va_P (dC, dI) vwCl [(am, .inr (4, [.int mm, .ref (zk 0), .int 0])), (mo, .inr (9, [.int 0, .ref am, .int 0, .int 0, .int 0]))] H9 := hP
  replace hD : va_D A [(am, .inr (4, [.int mm, .ref (zk 0), .int 0])), (mo, .inr (9, [.int 0, .ref am, .int 0, .int 0, .int 0]))] := hD
  refine W.widen (k := 0) (n := 0) (by omega) (by omega) ?_
  refine lv_if_eq (tgt := 58) hx hb dX4_make_53 (by decide) (fun c9 => ?_) (fun c9 => ?_)
  rotate_left
  · exact absurd (by decide) c9
  refine lv_aload_n hx hb dX4_make_58 rfl (lv_at hl 0 rfl) ?_
  refine va_get (D := (dC, dI)) (ci := 9) (v := .ref am) (C := RX4) (T := TX4) (N := 5) hx hb hts hi_X4_make_X4 hown hK hP 1 rfl rfl 1 (by decide) (hts (.fieldLink RX4 10 "DeeprowsModel" "rows" "Ljava/util/ArrayList;") (List.mem_cons_of_mem _ zw_1128)) (fun _ h9 => h9) rfl dX4_make_59 ?_
  refine zw_new (ci := 8) (fs := [.int 0, .null, .null]) (C := RX3) (T := TX3) (N := 3) hx hb hts hi_X4_make_X3 tyX3 tyX3_ok hown (hts (.classLink RX4 40 "DeeprowsModel$Row") (List.mem_cons_of_mem _ zw_1163)) (hts (.instantiable RX3 3) (List.mem_cons_of_mem _ zw_1164)) (hts (.initialized RX3) (List.mem_cons_of_mem _ zw_55)) hK hP hD hS hA rfl (fun j hj => by rcases (show j = 0 ∨ j = 1 ∨ j = 2 by omega) with rfl | rfl | rfl <;> rfl) (Nat.le_of_ble_eq_true rfl) (Nat.le_of_ble_eq_true rfl) dX4_make_62 hz (fun q11 H12 hP hD hS hz => ?_)
  replace hP : va_P (dC, dI) vwCl [(am, .inr (4, [.int mm, .ref (zk 0), .int 0])), (mo, .inr (9, [.int 0, .ref am, .int 0, .int 0, .int 0])), (q11, .inr (8, [.int 0, .null, .null]))] H12 := hP
  replace hD : va_D A [(am, .inr (4, [.int mm, .ref (zk 0), .int 0])), (mo, .inr (9, [.int 0, .ref am, .int 0, .int 0, .int 0])), (q11, .inr (8, [.int 0, .null, .null]))] := hD
  refine W.widen (k := 1) (n := 3) (by omega) (by omega) ?_
  refine lv_dup hx hb dX4_make_65 rfl ?_
  refine lv_iload_n hx hb dX4_make_66 rfl (lv_at hl 1 rfl) ?_
  refine lv_iload_n hx hb dX4_make_67 rfl (lv_at hl 2 rfl) ?_
  have hPc := hP.sub (ws' := [(q11, .inr (8, [.int 0, .null, .null]))]) [2] rfl
  have hDc := hD.sub (ws' := [(q11, .inr (8, [.int 0, .null, .null]))]) [2] (by decide) rfl
  have hFc := va_free (wc := [(q11, .inr (8, [.int 0, .null, .null]))]) hD hS hA [2] rfl
  have hDv := hDc.self (sz := H12.size)
  have hpre := zpre (xs' := []) (av := [.ref q11, .int 4, .int 2]) hPc hK (hDc.weaken (fun _ _ _ h => h)) hZ hS hFc (fun r hr => by cases hr)
  refine va_callv (va_runI (As := [.int 4, .int 2]) (rest := [.ref q11, .ref am]) ⟨hx, hb, hml, hown, hts⟩ (k_mI24 l dC dI cI cB cR cO zk q11 H12.size ) (cwI 2 hts gX4_make_X3_init rfl rfl rfl (hts (.initialized RX3) (List.mem_cons_of_mem _ zw_55)) (hts (.methodLink RX4 76 yX3_init) (List.mem_cons_of_mem _ zw_1165)) (hts (.instanceMethod yX3_init) (List.mem_cons_of_mem _ zw_1166)) rfl (by decide +kernel) ⟨Nat.le_of_ble_eq_true rfl, Nat.le_of_ble_eq_true rfl⟩) ⟨zblind, hpre⟩ rfl rfl hl.1 rfl (lv_room (Nat.le_of_ble_eq_true rfl)) dX4_make_68 ⟨Nat.le_of_ble_eq_true rfl, Nat.le_of_ble_eq_true rfl⟩) hS (fun q _ h => hFc q h) hFc (fun u t H13 locs ht hvm hw hB hz1 hk1 hS => ?_)
  obtain ⟨wa15, na16, ⟨hP1, hK1, hD1, hz2⟩⟩ := hB
  rw [ht] at hP1 hz2
  have hPD9 := va_join (wr := [(am, .inr (4, [.int mm, .ref (zk 0), .int 0])), (mo, .inr (9, [.int 0, .ref am, .int 0, .int 0, .int 0]))]) (w1 := [(q11, .inr (8, [.int 4, .ref wa15, .ref na16]))]) hP hD [2] [0, 1] rfl rfl (by decide) (by decide) hk1 hFc hP1 hD1
  clear hPc hDc hFc hDv hpre hP hD hP1 hK1 hD1
  obtain ⟨hP, hD⟩ := hPD9
  replace hz : s.heap.size + 3 ≤ H13.size := by omega
  clear hz2
  replace hP : va_P (dC, dI) vwCl [(am, .inr (4, [.int mm, .ref (zk 0), .int 0])), (mo, .inr (9, [.int 0, .ref am, .int 0, .int 0, .int 0])), (q11, .inr (8, [.int 4, .ref wa15, .ref na16]))] H13 := hP
  replace hD : va_D A [(am, .inr (4, [.int mm, .ref (zk 0), .int 0])), (mo, .inr (9, [.int 0, .ref am, .int 0, .int 0, .int 0])), (q11, .inr (8, [.int 4, .ref wa15, .ref na16]))] := hD
  refine W.widen (k := 3) (n := 7) (by omega) (by omega) ?_
  have hPc := hP.sub (ws' := [(am, .inr (4, [.int mm, .ref (zk 0), .int 0])), (q11, .inr (8, [.int 4, .ref wa15, .ref na16]))]) [0, 2] rfl
  have hDc := hD.sub (ws' := [(am, .inr (4, [.int mm, .ref (zk 0), .int 0])), (q11, .inr (8, [.int 4, .ref wa15, .ref na16]))]) [0, 2] (by decide) rfl
  have hFc := va_free (wc := [(am, .inr (4, [.int mm, .ref (zk 0), .int 0])), (q11, .inr (8, [.int 4, .ref wa15, .ref na16]))]) hD hS hA [0, 2] rfl
  have hDv := hDc.self (sz := H13.size)
  have hpre := zpre (xs' := []) (av := [.ref am, .ref q11]) hPc hK (hDc.weaken (fun _ _ _ h => h)) hZ hS hFc (fun r hr => by cases hr)
  refine va_calli (va_runV (As := [.ref q11]) (rest := []) ⟨hx, hb, hml, hown, hts⟩ (k_addZX3 l dC dI cI cB cR cO zk am q11 mm 4 wa15 na16 H13.size ) (cwV 1 hts gX4_make_Jx4a65c_add_9ea2d rfl rfl rfl (by decide +kernel) ⟨Nat.le_of_ble_eq_true rfl, Nat.le_of_ble_eq_true rfl⟩) ⟨zblind, (zrecv_4 hK hPc (q0 := 0) rfl), hpre⟩ rfl rfl hl.1 rfl (lv_room (Nat.le_of_ble_eq_true rfl)) dX4_make_71 ⟨Nat.le_of_ble_eq_true rfl, Nat.le_of_ble_eq_true rfl⟩) hS (fun q _ h => hFc q h) hFc (fun r18 u t H17 locs ht hvm hw hB hz1 hk1 hS => ?_)
  obtain rfl : 1 = r18 := (show r18 = 1 from hw).symm
  obtain ⟨em19, mm20, ⟨hP1, hK1, hD1, hz2⟩⟩ := hB
  rw [ht] at hP1 hz2
  have hPD9 := va_join (wr := [(mo, .inr (9, [.int 0, .ref am, .int 0, .int 0, .int 0]))]) (w1 := [(am, .inr (4, [.int mm20, .ref em19, .int 1])), (q11, .inr (8, [.int 4, .ref wa15, .ref na16]))]) hP hD [0, 2] [1] rfl rfl (by decide) (by decide) hk1 hFc hP1 hD1
  clear hPc hDc hFc hDv hpre hP hD hP1 hK1 hD1
  obtain ⟨hP, hD⟩ := hPD9
  replace hz : s.heap.size + 4 ≤ H17.size := by omega
  clear hz2
  replace hP : va_P (dC, dI) vwCl [(mo, .inr (9, [.int 0, .ref am, .int 0, .int 0, .int 0])), (am, .inr (4, [.int mm20, .ref em19, .int 1])), (q11, .inr (8, [.int 4, .ref wa15, .ref na16]))] H17 := hP
  replace hD : va_D A [(mo, .inr (9, [.int 0, .ref am, .int 0, .int 0, .int 0])), (am, .inr (4, [.int mm20, .ref em19, .int 1])), (q11, .inr (8, [.int 4, .ref wa15, .ref na16]))] := hD
  refine W.widen (k := 4) (n := 17) (by omega) (by omega) ?_
  refine lv_pop hx hb dX4_make_74 rfl ?_
  refine lv_aload_n hx hb dX4_make_75 rfl (lv_at hl 0 rfl) ?_
  refine va_get (D := (dC, dI)) (ci := 9) (v := .ref am) (C := RX4) (T := TX4) (N := 5) hx hb hts hi_X4_make_X4 hown hK hP 0 rfl rfl 1 (by decide) (hts (.fieldLink RX4 10 "DeeprowsModel" "rows" "Ljava/util/ArrayList;") (List.mem_cons_of_mem _ zw_1128)) (fun _ h9 => h9) rfl dX4_make_76 ?_
  have hPc := hP.sub (ws' := [(am, .inr (4, [.int mm20, .ref em19, .int 1]))]) [1] rfl
  have hDc := hD.sub (ws' := [(am, .inr (4, [.int mm20, .ref em19, .int 1]))]) [1] (by decide) rfl
  have hFc := va_free (wc := [(am, .inr (4, [.int mm20, .ref em19, .int 1]))]) hD hS hA [1] rfl
  have hDv := hDc.self (sz := H17.size)
  have hpre := zpre (xs' := []) (av := [.ref am]) hPc hK (hDc.weaken (fun _ _ _ h => h)) hZ hS hFc (fun r hr => by cases hr)
  refine va_calli (va_runV (As := []) (rest := []) ⟨hx, hb, hml, hown, hts⟩ (k_size l dC dI cI cB cR cO zk am em19 1 (.int mm20) H17.size ) (cwV 0 hts gX4_make_Jx4a65c_size_8abf5 rfl rfl rfl (by decide +kernel) ⟨Nat.le_of_ble_eq_true rfl, Nat.le_of_ble_eq_true rfl⟩) ⟨zblind, (zrecv_4 hK hPc (q0 := 0) rfl), hpre⟩ rfl rfl hl.1 rfl (lv_room (Nat.le_of_ble_eq_true rfl)) dX4_make_79 ⟨Nat.le_of_ble_eq_true rfl, Nat.le_of_ble_eq_true rfl⟩) hS (fun q _ h => hFc q h) hFc (fun r22 u t H21 locs ht hvm hw hB hz1 hk1 hS => ?_)
  obtain rfl : 1 = r22 := (show r22 = 1 from hw).symm
  obtain ⟨hP1, hK1, hD1, hz2⟩ := hB
  rw [ht] at hP1 hz2
  have hPD9 := va_join (wr := [(mo, .inr (9, [.int 0, .ref am, .int 0, .int 0, .int 0])), (q11, .inr (8, [.int 4, .ref wa15, .ref na16]))]) (w1 := [(am, .inr (4, [.int mm20, .ref em19, .int 1]))]) hP hD [1] [0, 2] rfl rfl (by decide) (by decide) hk1 hFc hP1 hD1
  clear hPc hDc hFc hDv hpre hP hD hP1 hK1 hD1
  obtain ⟨hP, hD⟩ := hPD9
  replace hz : s.heap.size + 4 ≤ H21.size := by omega
  clear hz2
  replace hP : va_P (dC, dI) vwCl [(mo, .inr (9, [.int 0, .ref am, .int 0, .int 0, .int 0])), (q11, .inr (8, [.int 4, .ref wa15, .ref na16])), (am, .inr (4, [.int mm20, .ref em19, .int 1]))] H21 := hP
  replace hD : va_D A [(mo, .inr (9, [.int 0, .ref am, .int 0, .int 0, .int 0])), (q11, .inr (8, [.int 4, .ref wa15, .ref na16])), (am, .inr (4, [.int mm20, .ref em19, .int 1]))] := hD
  refine W.widen (k := 4) (n := 17) (by omega) (by omega) ?_
  refine lv_iconst (v := 1) hx hb dX4_make_82 (by decide) ?_
  refine lv_isub hx hb dX4_make_83 ?_
  refine lv_topi (fun v23 ev23 => ?_)
  obtain rfl : v23 = 0 := ev23.trans (by decide)
  have hP9 := hP.sub (ws' := [(mo, .inr (9, [.int 0, .ref am, .int 0, .int 0, .int 0]))]) [0] rfl
  have hD9 := hD.sub (ws' := [(mo, .inr (9, [.int 0, .ref am, .int 0, .int 0, .int 0]))]) [0] (by decide) rfl
  exact W.iret (v := 0) hx hb hr (fun t ht hW => ⟨⟨_, (), rfl, rfl, ⟨by rw [ht]; exact hP9, va_K.moved hW.alike hK, hD9, by rw [ht]; exact hz⟩⟩, hS.F ht⟩) hS.2.2 dX4_make_84

set_option maxHeartbeats 4000000 in
set_option maxRecDepth 100000 in
theorem k_mI2s (l : Launch) (dC : Nat → ClassId) (dI : Nat → Nat → Nat) (cI cB cR cO : ClassId) (zk : Nat → Nat) (a : Nat) (kd : Int32) (sz : Nat) (hkd : ¬ kd = 4) : Met l yX3_init wsX3_init ({ frames := 1, cells := 2, slots := 4, locals := 60 }) (va_Pc [.ref a, .int kd, .int 2] (zPre (dC, dI) (zT cI cB cR cO) zk [] [(a, .inr (8, [.int 0, .null, .null]))] sz)) (va_Qv (fun _ : Unit => True) (fun _ t => ∃ wa, ∃ na, zEnd (dC, dI) (zT cI cB cR cO) (va_A [(a, .inr (8, [.int 0, .null, .null]))] sz) [(a, .inr (8, [.int kd, .ref wa, .ref na]))] sz 2 t) (va_A [(a, .inr (8, [.int 0, .null, .null]))] sz)) 2 4 (va_A [(a, .inr (8, [.int 0, .null, .null]))] sz) := by
  refine Met.ofW (cc := cX3_init) (maxL := 4) (ret := none) (by decide) rfl ?_
  intro p e s mY args below meth c s₁ B hml hv
  obtain ⟨rfl, hsz, hP, hK, hD0, hZ⟩ := hv
  have hx := B.exec
  have hb := B.bytes
  have hr := B.returns
  have hts := atoms_spec (ws := wsX3_init) B.pre
  have hown : s.vm.findClass RX3 = some mY.cls := findClass_of_methodNamed B.named
  have hlocks := B.notSynchronized
  have hin : meth.name = "<init>" := (name_of_methodNamed B.named B.method).1
  subst hsz
  have hD := hD0.self (sz := s.heap.size)
  generalize hAe : va_A [(a, .inr (8, [.int 0, .null, .null]))] s.heap.size = A at hD hZ ⊢
  have hA : ∀ q : Nat, s.heap.size ≤ q → A q := fun q h => by rw [← hAe]; exact Or.inr h
  have hS : va_S A s.heap s.heap [] := va_S.rf
  have hz : s.heap.size + 0 ≤ s.heap.size := Nat.le_refl _
  have hl := lv_entry ([.ref a, .int kd, .int 2]) (n := 4) (Nat.le_of_ble_eq_true rfl)
  rw [lg_entry_eq]
  generalize (lg_sl ([.ref a, .int kd, .int 2]) ++ List.replicate (4 - (lg_sl ([.ref a, .int kd, .int 2])).length) Slot.unset).toArray = ls at hl ⊢
  have hl : lv_has ls 4 [(0, .ref a), (1, .int kd), (2, .int 2)] := hl
  have hP : va_P (dC, dI) vwCl [(a, .inr (8, [.int 0, .null, .null]))] s.heap := hP
  have hD : va_D A [(a, .inr (8, [.int 0, .null, .null]))] := hD
  refine lv_aload_n hx hb dX3_init_0 rfl (lv_at hl 0 rfl) ?_
  refine W.objInit hx hb hown (hts (.methodLink RX3 3 objectInit) (List.mem_cons_of_mem _ zw_1168)) (hts (.instanceMethod objectInit) (List.mem_cons_of_mem _ zw_71)) (hts (.code objectInit ⟨#[0xb1]⟩ 1 none) (List.mem_cons_of_mem _ zw_72)) rfl (by rw [hml]; exact hl.1) rfl dX3_init_1 (Nat.le_of_ble_eq_true rfl) (Nat.le_of_ble_eq_true rfl) ?_
  refine W.eq (g2 := F0 mY 4 ls []) rfl ?_
  refine lv_aload_n hx hb dX3_init_4 rfl (lv_at hl 0 rfl) ?_
  refine lv_iload_n hx hb dX3_init_5 rfl (lv_at hl 1 rfl) ?_
  refine va_putF (D := (dC, dI)) (ci := 8) (v := .int kd) (ty := .int) (C := RX3) (T := TX3) (N := 3) hx hb hts hi_X3_init_X3 tyX3 tyX3_ok nmX3 hown hK hP hD (zS0 hS) 0 rfl rfl 0 (by decide) (hts (.fieldLink RX3 9 "DeeprowsModel$Row" "kind" "I") (List.mem_cons_of_mem _ zw_1173)) (fun _ h9 => h9) rfl hin rfl (by decide +kernel) rfl rfl (Nat.le_of_ble_eq_true rfl) dX3_init_6 (fun H1 locs hP hD hS1 => ?_)
  have hz : s.heap.size + 0 ≤ H1.size := Nat.le_trans hz hS1.1
  have hS := zSS hS hS1
  replace hP : va_P (dC, dI) vwCl [(a, .inr (8, [.int kd, .null, .null]))] H1 := hP
  replace hD : va_D A [(a, .inr (8, [.int kd, .null, .null]))] := hD
  refine lv_aload_n hx hb dX3_init_9 rfl (lv_at hl 0 rfl) ?_
  refine lv_iload_n hx hb dX3_init_10 rfl (lv_at hl 2 rfl) ?_
  refine zw_newa (atype := .int) (ty := .int) (N' := 2) hx hb (hts (.arrayClass .int) (List.mem_cons_of_mem _ zw_131)) rfl (by first | exact Or.inl rfl | exact Or.inr rfl) hK hP hD hS hA 0 rfl (by decide) (by decide) (Nat.le_of_ble_eq_true rfl) (Nat.le_of_ble_eq_true rfl) (Nat.le_of_ble_eq_true rfl) dX3_init_11 hz (fun q2 H3 hP hD hS hz => ?_)
  replace hP : va_P (dC, dI) vwCl [(a, .inr (8, [.int kd, .null, .null])), (q2, .inl (cI, 2, .inl (fun _ => 0)))] H3 := hP
  replace hD : va_D A [(a, .inr (8, [.int kd, .null, .null])), (q2, .inl (cI, 2, .inl (fun _ => 0)))] := hD
  refine W.widen (k := 1) (n := 2) (by omega) (by omega) ?_
  refine va_putF (D := (dC, dI)) (ci := 8) (v := .ref q2) (ty := .array .int) (C := RX3) (T := TX3) (N := 3) hx hb hts hi_X3_init_X3 tyX3 tyX3_ok nmX3 hown hK hP hD (zS0 hS) 0 rfl rfl 1 (by decide) (hts (.fieldLink RX3 15 "DeeprowsModel$Row" "whats" "[I") (List.mem_cons_of_mem _ zw_1175)) (fun _ h9 => h9) rfl hin rfl (by decide +kernel) rfl rfl (Nat.le_of_ble_eq_true rfl) dX3_init_13 (fun H4 locs hP hD hS1 => ?_)
  have hz : s.heap.size + 1 ≤ H4.size := Nat.le_trans hz hS1.1
  have hS := zSS hS hS1
  replace hP : va_P (dC, dI) vwCl [(a, .inr (8, [.int kd, .ref q2, .null])), (q2, .inl (cI, 2, .inl (fun _ => 0)))] H4 := hP
  replace hD : va_D A [(a, .inr (8, [.int kd, .ref q2, .null])), (q2, .inl (cI, 2, .inl (fun _ => 0)))] := hD
  refine lv_aload_n hx hb dX3_init_16 rfl (lv_at hl 0 rfl) ?_
  refine lv_iload_n hx hb dX3_init_17 rfl (lv_at hl 2 rfl) ?_
  refine zw_newa (atype := .int) (ty := .int) (N' := 2) hx hb (hts (.arrayClass .int) (List.mem_cons_of_mem _ zw_131)) rfl (by first | exact Or.inl rfl | exact Or.inr rfl) hK hP hD hS hA 0 rfl (by decide) (by decide) (Nat.le_of_ble_eq_true rfl) (Nat.le_of_ble_eq_true rfl) (Nat.le_of_ble_eq_true rfl) dX3_init_18 hz (fun q5 H6 hP hD hS hz => ?_)
  replace hP : va_P (dC, dI) vwCl [(a, .inr (8, [.int kd, .ref q2, .null])), (q2, .inl (cI, 2, .inl (fun _ => 0))), (q5, .inl (cI, 2, .inl (fun _ => 0)))] H6 := hP
  replace hD : va_D A [(a, .inr (8, [.int kd, .ref q2, .null])), (q2, .inl (cI, 2, .inl (fun _ => 0))), (q5, .inl (cI, 2, .inl (fun _ => 0)))] := hD
  refine W.widen (k := 2) (n := 4) (by omega) (by omega) ?_
  refine va_putF (D := (dC, dI)) (ci := 8) (v := .ref q5) (ty := .array .int) (C := RX3) (T := TX3) (N := 3) hx hb hts hi_X3_init_X3 tyX3 tyX3_ok nmX3 hown hK hP hD (zS0 hS) 0 rfl rfl 2 (by decide) (hts (.fieldLink RX3 19 "DeeprowsModel$Row" "numbers" "[I") (List.mem_cons_of_mem _ zw_1177)) (fun _ h9 => h9) rfl hin rfl (by decide +kernel) rfl rfl (Nat.le_of_ble_eq_true rfl) dX3_init_20 (fun H7 locs hP hD hS1 => ?_)
  have hz : s.heap.size + 2 ≤ H7.size := Nat.le_trans hz hS1.1
  have hS := zSS hS hS1
  replace hP : va_P (dC, dI) vwCl [(a, .inr (8, [.int kd, .ref q2, .ref q5])), (q2, .inl (cI, 2, .inl (fun _ => 0))), (q5, .inl (cI, 2, .inl (fun _ => 0)))] H7 := hP
  replace hD : va_D A [(a, .inr (8, [.int kd, .ref q2, .ref q5])), (q2, .inl (cI, 2, .inl (fun _ => 0))), (q5, .inl (cI, 2, .inl (fun _ => 0)))] := hD
  refine lv_iconst (v := 0) hx hb dX3_init_23 (by decide) ?_
  refine lv_istore_n (lv' := [(3, .int 0), (0, .ref a), (1, .int kd), (2, .int 2)]) hx hb dX3_init_24 rfl hl (by decide) rfl (fun ls hl => ?_)
  refine lv_iload_n hx hb dX3_init_25 rfl (lv_at hl 0 rfl) ?_
  refine lv_iload_n hx hb dX3_init_26 rfl (lv_at hl 3 rfl) ?_
  refine lv_icmp_ge (tgt := 61) hx hb dX3_init_27 (by decide) (fun c9 => ?_) (fun c9 => ?_)
  · exact absurd c9 (by decide)
  refine lv_aload_n hx hb dX3_init_30 rfl (lv_at hl 1 rfl) ?_
  refine lv_iload_n hx hb dX3_init_31 rfl (lv_at hl 0 rfl) ?_
  refine lv_iload_n hx hb dX3_init_32 rfl (lv_at hl 2 rfl) ?_
  refine lv_iconst (v := 4) hx hb dX3_init_33 (by decide) ?_
  refine lv_icmp_ne (tgt := 41) hx hb dX3_init_34 (by decide) (fun c9 => ?_) (fun c9 => ?_)
  rotate_left
  · exact absurd c9 (hkd)
  refine lv_iconst (v := 1) hx hb dX3_init_41 (by decide) ?_
  refine lv_iload_n hx hb dX3_init_42 rfl (lv_at hl 2 rfl) ?_
  refine lv_iconst (v := 4) hx hb dX3_init_43 (by decide) ?_
  refine lv_icmp_ne (tgt := 51) hx hb dX3_init_44 (by decide) (fun c9 => ?_) (fun c9 => ?_)
  rotate_left
  · exact absurd c9 (hkd)
  refine lv_iconst (v := 0) hx hb dX3_init_51 (by decide) ?_
  have hPc := hP.sub (ws' := [(a, .inr (8, [.int kd, .ref q2, .ref q5])), (q2, .inl (cI, 2, .inl (fun _ => 0))), (q5, .inl (cI, 2, .inl (fun _ => 0)))]) [0, 1, 2] rfl
  have hDc := hD.sub (ws' := [(a, .inr (8, [.int kd, .ref q2, .ref q5])), (q2, .inl (cI, 2, .inl (fun _ => 0))), (q5, .inl (cI, 2, .inl (fun _ => 0)))]) [0, 1, 2] (by decide) rfl
  have hFc := va_free (wc := [(a, .inr (8, [.int kd, .ref q2, .ref q5])), (q2, .inl (cI, 2, .inl (fun _ => 0))), (q5, .inl (cI, 2, .inl (fun _ => 0)))]) hD hS hA [0, 1, 2] rfl
  have hDv := hDc.self (sz := H7.size)
  have hpre := zpre (xs' := []) (av := [.ref a, .int 0, .int 1, .int 0]) hPc hK (hDc.weaken (fun _ _ _ h => h)) hZ hS hFc (fun r hr => by cases hr)
  refine va_callv (va_runV (As := [.int 0, .int 1, .int 0]) (rest := []) ⟨hx, hb, hml, hown, hts⟩ (k_mpZ2_0 l dC dI cI cB cR cO zk a q2 q5 kd 1 0 (fun _ => 0) (fun _ => 0) H7.size ) (cwV 3 hts gX3_init_X3_put rfl rfl rfl (by decide +kernel) ⟨Nat.le_of_ble_eq_true rfl, Nat.le_of_ble_eq_true rfl⟩) ⟨zblind, (zrecv_8 hK hPc (q0 := 0) rfl), hpre⟩ rfl rfl hl.1 rfl (lv_room (Nat.le_of_ble_eq_true rfl)) dX3_init_52 ⟨Nat.le_of_ble_eq_true rfl, Nat.le_of_ble_eq_true rfl⟩) hS (fun q _ h => hFc q h) hFc (fun u t H8 locs ht hvm hw hB hz1 hk1 hS => ?_)
  obtain ⟨hP1, hK1, hD1, hz2⟩ := hB
  rw [ht] at hP1 hz2
  have hPD9 := va_join (wr := []) (w1 := [(a, .inr (8, [.int kd, .ref q2, .ref q5])), (q2, .inl (cI, 2, .inl (upd (fun _ => 0) 0 1))), (q5, .inl (cI, 2, .inl (upd (fun _ => 0) 0 0)))]) hP hD [0, 1, 2] [] rfl rfl (by decide) (by decide) hk1 hFc hP1 hD1
  clear hPc hDc hFc hDv hpre hP hD hP1 hK1 hD1
  obtain ⟨hP, hD⟩ := hPD9
  replace hz : s.heap.size + 2 ≤ H8.size := by omega
  clear hz2
  replace hP : va_P (dC, dI) vwCl [(a, .inr (8, [.int kd, .ref q2, .ref q5])), (q2, .inl (cI, 2, .inl (upd (fun _ => 0) 0 1))), (q5, .inl (cI, 2, .inl (upd (fun _ => 0) 0 0)))] H8 := hP
  replace hD : va_D A [(a, .inr (8, [.int kd, .ref q2, .ref q5])), (q2, .inl (cI, 2, .inl (upd (fun _ => 0) 0 1))), (q5, .inl (cI, 2, .inl (upd (fun _ => 0) 0 0)))] := hD
  refine W.widen (k := 2) (n := 4) (by omega) (by omega) ?_
  refine lv_iinc (v := 1) (lv' := [(3, .int 1), (0, .ref a), (1, .int kd), (2, .int 2)]) hx hb dX3_init_55 hl (k := 0) rfl (by decide) (by decide) rfl (fun ls hl => ?_)
  refine lv_goto (tgt := 25) hx hb dX3_init_58 (by decide) ?_
  refine lv_iload_n hx hb dX3_init_25 rfl (lv_at hl 0 rfl) ?_
  refine lv_iload_n hx hb dX3_init_26 rfl (lv_at hl 3 rfl) ?_
  refine lv_icmp_ge (tgt := 61) hx hb dX3_init_27 (by decide) (fun c9 => ?_) (fun c9 => ?_)
  · exact absurd c9 (by decide)
  refine lv_aload_n hx hb dX3_init_30 rfl (lv_at hl 1 rfl) ?_
  refine lv_iload_n hx hb dX3_init_31 rfl (lv_at hl 0 rfl) ?_
  refine lv_iload_n hx hb dX3_init_32 rfl (lv_at hl 2 rfl) ?_
  refine lv_iconst (v := 4) hx hb dX3_init_33 (by decide) ?_
  refine lv_icmp_ne (tgt := 41) hx hb dX3_init_34 (by decide) (fun c9 => ?_) (fun c9 => ?_)
  rotate_left
  · exact absurd c9 (hkd)
  refine lv_iconst (v := 1) hx hb dX3_init_41 (by decide) ?_
  refine lv_iload_n hx hb dX3_init_42 rfl (lv_at hl 2 rfl) ?_
  refine lv_iconst (v := 4) hx hb dX3_init_43 (by decide) ?_
  refine lv_icmp_ne (tgt := 51) hx hb dX3_init_44 (by decide) (fun c9 => ?_) (fun c9 => ?_)
  rotate_left
  · exact absurd c9 (hkd)
  refine lv_iconst (v := 0) hx hb dX3_init_51 (by decide) ?_
  have hPc := hP.sub (ws' := [(a, .inr (8, [.int kd, .ref q2, .ref q5])), (q2, .inl (cI, 2, .inl (upd (fun _ => 0) 0 1))), (q5, .inl (cI, 2, .inl (upd (fun _ => 0) 0 0)))]) [0, 1, 2] rfl
  have hDc := hD.sub (ws' := [(a, .inr (8, [.int kd, .ref q2, .ref q5])), (q2, .inl (cI, 2, .inl (upd (fun _ => 0) 0 1))), (q5, .inl (cI, 2, .inl (upd (fun _ => 0) 0 0)))]) [0, 1, 2] (by decide) rfl
  have hFc := va_free (wc := [(a, .inr (8, [.int kd, .ref q2, .ref q5])), (q2, .inl (cI, 2, .inl (upd (fun _ => 0) 0 1))), (q5, .inl (cI, 2, .inl (upd (fun _ => 0) 0 0)))]) hD hS hA [0, 1, 2] rfl
  have hDv := hDc.self (sz := H8.size)
  have hpre := zpre (xs' := []) (av := [.ref a, .int 1, .int 1, .int 0]) hPc hK (hDc.weaken (fun _ _ _ h => h)) hZ hS hFc (fun r hr => by cases hr)
  refine va_callv (va_runV (As := [.int 1, .int 1, .int 0]) (rest := []) ⟨hx, hb, hml, hown, hts⟩ (k_mpZ2_1 l dC dI cI cB cR cO zk a q2 q5 kd 1 0 (upd (fun _ => 0) 0 1) (upd (fun _ => 0) 0 0) H8.size ) (cwV 3 hts gX3_init_X3_put rfl rfl rfl (by decide +kernel) ⟨Nat.le_of_ble_eq_true rfl, Nat.le_of_ble_eq_true rfl⟩) ⟨zblind, (zrecv_8 hK hPc (q0 := 0) rfl), hpre⟩ rfl rfl hl.1 rfl (lv_room (Nat.le_of_ble_eq_true rfl)) dX3_init_52 ⟨Nat.le_of_ble_eq_true rfl, Nat.le_of_ble_eq_true rfl⟩) hS (fun q _ h => hFc q h) hFc (fun u t H10 locs ht hvm hw hB hz1 hk1 hS => ?_)
  obtain ⟨hP1, hK1, hD1, hz2⟩ := hB
  rw [ht] at hP1 hz2
  have hPD9 := va_join (wr := []) (w1 := [(a, .inr (8, [.int kd, .ref q2, .ref q5])), (q2, .inl (cI, 2, .inl (upd (upd (fun _ => 0) 0 1) 1 1))), (q5, .inl (cI, 2, .inl (upd (upd (fun _ => 0) 0 0) 1 0)))]) hP hD [0, 1, 2] [] rfl rfl (by decide) (by decide) hk1 hFc hP1 hD1
  clear hPc hDc hFc hDv hpre hP hD hP1 hK1 hD1
  obtain ⟨hP, hD⟩ := hPD9
  replace hz : s.heap.size + 2 ≤ H10.size := by omega
  clear hz2
  replace hP : va_P (dC, dI) vwCl [(a, .inr (8, [.int kd, .ref q2, .ref q5])), (q2, .inl (cI, 2, .inl (upd (upd (fun _ => 0) 0 1) 1 1))), (q5, .inl (cI, 2, .inl (upd (upd (fun _ => 0) 0 0) 1 0)))] H10 := hP
  replace hD : va_D A [(a, .inr (8, [.int kd, .ref q2, .ref q5])), (q2, .inl (cI, 2, .inl (upd (upd (fun _ => 0) 0 1) 1 1))), (q5, .inl (cI, 2, .inl (upd (upd (fun _ => 0) 0 0) 1 0)))] := hD
  refine W.widen (k := 2) (n := 4) (by omega) (by omega) ?_
  refine lv_iinc (v := 2) (lv' := [(3, .int 2), (0, .ref a), (1, .int kd), (2, .int 2)]) hx hb dX3_init_55 hl (k := 0) rfl (by decide) (by decide) rfl (fun ls hl => ?_)
  refine lv_goto (tgt := 25) hx hb dX3_init_58 (by decide) ?_
  refine lv_iload_n hx hb dX3_init_25 rfl (lv_at hl 0 rfl) ?_
  refine lv_iload_n hx hb dX3_init_26 rfl (lv_at hl 3 rfl) ?_
  refine lv_icmp_ge (tgt := 61) hx hb dX3_init_27 (by decide) (fun c9 => ?_) (fun c9 => ?_)
  rotate_left
  · exact absurd (by decide) c9
  have hP9 := hP.sub (ws' := [(a, .inr (8, [.int kd, .ref q2, .ref q5]))]) [0] rfl
  have hD9 := hD.sub (ws' := [(a, .inr (8, [.int kd, .ref q2, .ref q5]))]) [0] (by decide) rfl
  exact W.vret hx hb hr (fun t ht hW => ⟨⟨(), rfl, trivial, ⟨_, _, ⟨by rw [ht]; exact hP9, va_K.moved hW.alike hK, hD9, by rw [ht]; exact hz⟩⟩⟩, hS.F ht⟩) hS.2.2 dX3_init_61

set_option maxHeartbeats 4000000 in
set_option maxRecDepth 100000 in
theorem k_mkM2s (l : Launch) (dC : Nat → ClassId) (dI : Nat → Nat → Nat) (cI cB cR cO : ClassId) (zk : Nat → Nat) (mo am : Nat) (th : Value) (mm : Int32) (kd : Int32) (sz : Nat) (hk0 : ¬ kd < 0) (hk4 : kd ≤ 4) (hkd : ¬ kd = 4) : Met l yX4_make wsX4_make ({ frames := 5, cells := 4, slots := 17, locals := 127 }) (va_Pc [.ref mo, .int kd, .int 2] (zPre (dC, dI) (zT cI cB cR cO) zk [] [(mo, .inr (9, [th, .ref am, .int 0, .int 0, .int 0])), (am, .inr (4, [.int mm, .ref (zk 0), .int 0]))] sz)) (va_Qi (fun r (_ : Unit) => r = 0) (fun _ t => zEnd (dC, dI) (zT cI cB cR cO) (va_A [(mo, .inr (9, [th, .ref am, .int 0, .int 0, .int 0])), (am, .inr (4, [.int mm, .ref (zk 0), .int 0]))] sz) [(mo, .inr (9, [.int 0, .ref am, .int 0, .int 0, .int 0]))] sz 4 t) (va_A [(mo, .inr (9, [th, .ref am, .int 0, .int 0, .int 0])), (am, .inr (4, [.int mm, .ref (zk 0), .int 0]))] sz)) 4 17 (va_A [(mo, .inr (9, [th, .ref am, .int 0, .int 0, .int 0])), (am, .inr (4, [.int mm, .ref (zk 0), .int 0]))] sz) := by
  refine Met.ofW (cc := cX4_make) (maxL := 3) (ret := (some .int)) (by decide) rfl ?_
  intro p e s mY args below meth c s₁ B hml hv
  obtain ⟨rfl, hsz, hP, hK, hD0, hZ⟩ := hv
  have hx := B.exec
  have hb := B.bytes
  have hr := B.returns
  have hts := atoms_spec (ws := wsX4_make) B.pre
  have hown : s.vm.findClass RX4 = some mY.cls := findClass_of_methodNamed B.named
  have hlocks := B.notSynchronized
  subst hsz
  have hD := hD0.self (sz := s.heap.size)
  generalize hAe : va_A [(mo, .inr (9, [th, .ref am, .int 0, .int 0, .int 0])), (am, .inr (4, [.int mm, .ref (zk 0), .int 0]))] s.heap.size = A at hD hZ ⊢
  have hA : ∀ q : Nat, s.heap.size ≤ q → A q := fun q h => by rw [← hAe]; exact Or.inr h
  have hS : va_S A s.heap s.heap [] := va_S.rf
  have hz : s.heap.size + 0 ≤ s.heap.size := Nat.le_refl _
  have hl := lv_entry ([.ref mo, .int kd, .int 2]) (n := 3) (Nat.le_of_ble_eq_true rfl)
  rw [lg_entry_eq]
  generalize (lg_sl ([.ref mo, .int kd, .int 2]) ++ List.replicate (3 - (lg_sl ([.ref mo, .int kd, .int 2])).length) Slot.unset).toArray = ls at hl ⊢
  have hl : lv_has ls 3 [(0, .ref mo), (1, .int kd), (2, .int 2)] := hl
  have hP : va_P (dC, dI) vwCl [(mo, .inr (9, [th, .ref am, .int 0, .int 0, .int 0])), (am, .inr (4, [.int mm, .ref (zk 0), .int 0]))] s.heap := hP
  have hD : va_D A [(mo, .inr (9, [th, .ref am, .int 0, .int 0, .int 0])), (am, .inr (4, [.int mm, .ref (zk 0), .int 0]))] := hD
  refine lv_aload_n hx hb dX4_make_0 rfl (lv_at hl 0 rfl) ?_
  refine lv_iload_n hx hb dX4_make_1 rfl (lv_at hl 1 rfl) ?_
  refine lv_iconst (v := 0) hx hb dX4_make_2 (by decide) ?_
  refine lv_iconst (v := 4) hx hb dX4_make_3 (by decide) ?_
  have hPc := hP.sub (ws' := []) [] rfl
  have hDc := hD.sub (ws' := []) [] (by decide) rfl
  have hFc := va_free (wc := []) hD hS hA [] rfl
  have hDv := hDc.self (sz := s.heap.size)
  have hpre := zpre (xs' := []) (av := [.int kd, .int 0, .int 4]) hPc hK (hDc.weaken (fun _ _ _ h => h)) hZ hS hFc (fun r hr => by cases hr)
  refine va_calli (va_runS (As := [.int kd, .int 0, .int 4]) (rest := [.ref mo]) ⟨hx, hb, hml, hown, hts⟩ (k_isInT4 l dC dI cI cB cR cO zk kd s.heap.size hk0 hk4) (va_cwS 3 hts gX4_make_X4_isIn rfl rfl rfl (by decide +kernel) ⟨Nat.le_of_ble_eq_true rfl, Nat.le_of_ble_eq_true rfl⟩) ⟨zblind, hpre⟩ rfl rfl hl.1 rfl (lv_room (Nat.le_of_ble_eq_true rfl)) dX4_make_4 ⟨Nat.le_of_ble_eq_true rfl, Nat.le_of_ble_eq_true rfl⟩) hS (fun q _ h => hFc q h) hFc (fun r2 u t H1 locs ht hvm hw hB hz1 hk1 hS => ?_)
  obtain rfl : 1 = r2 := (show r2 = 1 from hw).symm
  obtain ⟨hP1, hK1, hD1, hz2⟩ := hB
  rw [ht] at hP1 hz2
  have hPD9 := va_join (wr := [(mo, .inr (9, [th, .ref am, .int 0, .int 0, .int 0])), (am, .inr (4, [.int mm, .ref (zk 0), .int 0]))]) (w1 := []) hP hD [] [0, 1] rfl rfl (by decide) (by decide) hk1 hFc hP1 hD1
  clear hPc hDc hFc hDv hpre hP hD hP1 hK1 hD1
  obtain ⟨hP, hD⟩ := hPD9
  replace hz : s.heap.size + 0 ≤ H1.size := by omega
  clear hz2
  replace hP : va_P (dC, dI) vwCl [(mo, .inr (9, [th, .ref am, .int 0, .int 0, .int 0])), (am, .inr (4, [.int mm, .ref (zk 0), .int 0]))] H1 := hP
  replace hD : va_D A [(mo, .inr (9, [th, .ref am, .int 0, .int 0, .int 0])), (am, .inr (4, [.int mm, .ref (zk 0), .int 0]))] := hD
  refine W.widen (k := 0) (n := 0) (by omega) (by omega) ?_
  refine lv_if_eq (tgt := 19) hx hb dX4_make_7 (by decide) (fun c9 => ?_) (fun c9 => ?_)
  · exact absurd c9 (by decide)
  refine lv_iload_n hx hb dX4_make_10 rfl (lv_at hl 2 rfl) ?_
  refine lv_iconst (v := 0) hx hb dX4_make_11 (by decide) ?_
  refine lv_iconst (v := 4) hx hb dX4_make_12 (by decide) ?_
  have hPc := hP.sub (ws' := []) [] rfl
  have hDc := hD.sub (ws' := []) [] (by decide) rfl
  have hFc := va_free (wc := []) hD hS hA [] rfl
  have hDv := hDc.self (sz := H1.size)
  have hpre := zpre (xs' := []) (av := [.int 2, .int 0, .int 4]) hPc hK (hDc.weaken (fun _ _ _ h => h)) hZ hS hFc (fun r hr => by cases hr)
  refine va_calli (va_runS (As := [.int 2, .int 0, .int 4]) (rest := [.ref mo]) ⟨hx, hb, hml, hown, hts⟩ (k_isIn4_2 l dC dI cI cB cR cO zk  H1.size ) (va_cwS 3 hts gX4_make_X4_isIn rfl rfl rfl (by decide +kernel) ⟨Nat.le_of_ble_eq_true rfl, Nat.le_of_ble_eq_true rfl⟩) ⟨zblind, hpre⟩ rfl rfl hl.1 rfl (lv_room (Nat.le_of_ble_eq_true rfl)) dX4_make_13 ⟨Nat.le_of_ble_eq_true rfl, Nat.le_of_ble_eq_true rfl⟩) hS (fun q _ h => hFc q h) hFc (fun r4 u t H3 locs ht hvm hw hB hz1 hk1 hS => ?_)
  obtain rfl : 1 = r4 := (show r4 = 1 from hw).symm
  obtain ⟨hP1, hK1, hD1, hz2⟩ := hB
  rw [ht] at hP1 hz2
  have hPD9 := va_join (wr := [(mo, .inr (9, [th, .ref am, .int 0, .int 0, .int 0])), (am, .inr (4, [.int mm, .ref (zk 0), .int 0]))]) (w1 := []) hP hD [] [0, 1] rfl rfl (by decide) (by decide) hk1 hFc hP1 hD1
  clear hPc hDc hFc hDv hpre hP hD hP1 hK1 hD1
  obtain ⟨hP, hD⟩ := hPD9
  replace hz : s.heap.size + 0 ≤ H3.size := by omega
  clear hz2
  replace hP : va_P (dC, dI) vwCl [(mo, .inr (9, [th, .ref am, .int 0, .int 0, .int 0])), (am, .inr (4, [.int mm, .ref (zk 0), .int 0]))] H3 := hP
  replace hD : va_D A [(mo, .inr (9, [th, .ref am, .int 0, .int 0, .int 0])), (am, .inr (4, [.int mm, .ref (zk 0), .int 0]))] := hD
  refine W.widen (k := 0) (n := 0) (by omega) (by omega) ?_
  refine lv_if_ne (tgt := 23) hx hb dX4_make_16 (by decide) (fun c9 => ?_) (fun c9 => ?_)
  rotate_left
  · exact absurd c9 (by decide)
  refine lv_iconst (v := 0) hx hb dX4_make_23 (by decide) ?_
  refine lv_iconst (v := 1) hx hb dX4_make_24 (by decide) ?_
  have hPc := hP.sub (ws' := [(mo, .inr (9, [th, .ref am, .int 0, .int 0, .int 0]))]) [0] rfl
  have hDc := hD.sub (ws' := [(mo, .inr (9, [th, .ref am, .int 0, .int 0, .int 0]))]) [0] (by decide) rfl
  have hFc := va_free (wc := [(mo, .inr (9, [th, .ref am, .int 0, .int 0, .int 0]))]) hD hS hA [0] rfl
  have hDv := hDc.self (sz := H3.size)
  have hpre := zpre (xs' := []) (av := [.ref mo, .int 0, .int 1]) hPc hK (hDc.weaken (fun _ _ _ h => h)) hZ hS hFc (fun r hr => by cases hr)
  refine va_calli (va_runV (As := [.int 0, .int 1]) (rest := []) ⟨hx, hb, hml, hown, hts⟩ (k_stt0 l dC dI cI cB cR cO zk mo am th H3.size ) (cwV 2 hts gX4_make_X4_start rfl rfl rfl (by decide +kernel) ⟨Nat.le_of_ble_eq_true rfl, Nat.le_of_ble_eq_true rfl⟩) ⟨zblind, (zrecv_9 hK hPc (q0 := 0) rfl), hpre⟩ rfl rfl hl.1 rfl (lv_room (Nat.le_of_ble_eq_true rfl)) dX4_make_25 ⟨Nat.le_of_ble_eq_true rfl, Nat.le_of_ble_eq_true rfl⟩) hS (fun q _ h => hFc q h) hFc (fun r6 u t H5 locs ht hvm hw hB hz1 hk1 hS => ?_)
  obtain rfl : 0 = r6 := (show r6 = 0 from hw).symm
  obtain ⟨hP1, hK1, hD1, hz2⟩ := hB
  rw [ht] at hP1 hz2
  have hPD9 := va_join (wr := [(am, .inr (4, [.int mm, .ref (zk 0), .int 0]))]) (w1 := [(mo, .inr (9, [.int 0, .ref am, .int 0, .int 0, .int 0]))]) hP hD [0] [1] rfl rfl (by decide) (by decide) hk1 hFc hP1 hD1
  clear hPc hDc hFc hDv hpre hP hD hP1 hK1 hD1
  obtain ⟨hP, hD⟩ := hPD9
  replace hz : s.heap.size + 0 ≤ H5.size := by omega
  clear hz2
  replace hP : va_P (dC, dI) vwCl [(am, .inr (4, [.int mm, .ref (zk 0), .int 0])), (mo, .inr (9, [.int 0, .ref am, .int 0, .int 0, .int 0]))] H5 := hP
  replace hD : va_D A [(am, .inr (4, [.int mm, .ref (zk 0), .int 0])), (mo, .inr (9, [.int 0, .ref am, .int 0, .int 0, .int 0]))] := hD
  refine W.widen (k := 0) (n := 0) (by omega) (by omega) ?_
  refine lv_if_ne (tgt := 56) hx hb dX4_make_28 (by decide) (fun c9 => ?_) (fun c9 => ?_)
  · exact absurd (by decide) c9
  refine lv_aload_n hx hb dX4_make_31 rfl (lv_at hl 0 rfl) ?_
  refine lv_aload_n hx hb dX4_make_32 rfl (lv_at hl 0 rfl) ?_
  refine va_get (D := (dC, dI)) (ci := 9) (v := .ref am) (C := RX4) (T := TX4) (N := 5) hx hb hts hi_X4_make_X4 hown hK hP 1 rfl rfl 1 (by decide) (hts (.fieldLink RX4 10 "DeeprowsModel" "rows" "Ljava/util/ArrayList;") (List.mem_cons_of_mem _ zw_1128)) (fun _ h9 => h9) rfl dX4_make_33 ?_
  have hPc := hP.sub (ws' := [(am, .inr (4, [.int mm, .ref (zk 0), .int 0]))]) [0] rfl
  have hDc := hD.sub (ws' := [(am, .inr (4, [.int mm, .ref (zk 0), .int 0]))]) [0] (by decide) rfl
  have hFc := va_free (wc := [(am, .inr (4, [.int mm, .ref (zk 0), .int 0]))]) hD hS hA [0] rfl
  have hDv := hDc.self (sz := H5.size)
  have hpre := zpre (xs' := []) (av := [.ref am]) hPc hK (hDc.weaken (fun _ _ _ h => h)) hZ hS hFc (fun r hr => by cases hr)
  refine va_calli (va_runV (As := []) (rest := [.ref mo]) ⟨hx, hb, hml, hown, hts⟩ (k_size l dC dI cI cB cR cO zk am (zk 0) 0 (.int mm) H5.size ) (cwV 0 hts gX4_make_Jx4a65c_size_8abf5 rfl rfl rfl (by decide +kernel) ⟨Nat.le_of_ble_eq_true rfl, Nat.le_of_ble_eq_true rfl⟩) ⟨zblind, (zrecv_4 hK hPc (q0 := 0) rfl), hpre⟩ rfl rfl hl.1 rfl (lv_room (Nat.le_of_ble_eq_true rfl)) dX4_make_36 ⟨Nat.le_of_ble_eq_true rfl, Nat.le_of_ble_eq_true rfl⟩) hS (fun q _ h => hFc q h) hFc (fun r8 u t H7 locs ht hvm hw hB hz1 hk1 hS => ?_)
  obtain rfl : 0 = r8 := (show r8 = 0 from hw).symm
  obtain ⟨hP1, hK1, hD1, hz2⟩ := hB
  rw [ht] at hP1 hz2
  have hPD9 := va_join (wr := [(mo, .inr (9, [.int 0, .ref am, .int 0, .int 0, .int 0]))]) (w1 := [(am, .inr (4, [.int mm, .ref (zk 0), .int 0]))]) hP hD [0] [1] rfl rfl (by decide) (by decide) hk1 hFc hP1 hD1
  clear hPc hDc hFc hDv hpre hP hD hP1 hK1 hD1
  obtain ⟨hP, hD⟩ := hPD9
  replace hz : s.heap.size + 0 ≤ H7.size := by omega
  clear hz2
  replace hP : va_P (dC, dI) vwCl [(mo, .inr (9, [.int 0, .ref am, .int 0, .int 0, .int 0])), (am, .inr (4, [.int mm, .ref (zk 0), .int 0]))] H7 := hP
  replace hD : va_D A [(mo, .inr (9, [.int 0, .ref am, .int 0, .int 0, .int 0])), (am, .inr (4, [.int mm, .ref (zk 0), .int 0]))] := hD
  refine W.widen (k := 0) (n := 0) (by omega) (by omega) ?_
  refine lv_bipush (v := 12) hx hb dX4_make_39 (by decide) ?_
  refine lv_icmp_ne (tgt := 48) hx hb dX4_make_41 (by decide) (fun c9 => ?_) (fun c9 => ?_)
  rotate_left
  · exact absurd c9 (by decide)
  refine lv_iconst (v := 0) hx hb dX4_make_48 (by decide) ?_
  refine lv_iconst (v := 2) hx hb dX4_make_49 (by decide) ?_
  have hPc := hP.sub (ws' := [(mo, .inr (9, [.int 0, .ref am, .int 0, .int 0, .int 0]))]) [0] rfl
  have hDc := hD.sub (ws' := [(mo, .inr (9, [.int 0, .ref am, .int 0, .int 0, .int 0]))]) [0] (by decide) rfl
  have hFc := va_free (wc := [(mo, .inr (9, [.int 0, .ref am, .int 0, .int 0, .int 0]))]) hD hS hA [0] rfl
  have hDv := hDc.self (sz := H7.size)
  have hpre := zpre (xs' := []) (av := [.ref mo, .int 0, .int 2]) hPc hK (hDc.weaken (fun _ _ _ h => h)) hZ hS hFc (fun r hr => by cases hr)
  refine va_calli (va_runV (As := [.int 0, .int 2]) (rest := []) ⟨hx, hb, hml, hown, hts⟩ (k_ref02 l dC dI cI cB cR cO zk mo am H7.size ) (cwV 2 hts gX4_make_X4_refuse rfl rfl rfl (by decide +kernel) ⟨Nat.le_of_ble_eq_true rfl, Nat.le_of_ble_eq_true rfl⟩) ⟨zblind, (zrecv_9 hK hPc (q0 := 0) rfl), hpre⟩ rfl rfl hl.1 rfl (lv_room (Nat.le_of_ble_eq_true rfl)) dX4_make_50 ⟨Nat.le_of_ble_eq_true rfl, Nat.le_of_ble_eq_true rfl⟩) hS (fun q _ h => hFc q h) hFc (fun r10 u t H9 locs ht hvm hw hB hz1 hk1 hS => ?_)
  obtain rfl : 0 = r10 := (show r10 = 0 from hw).symm
  obtain ⟨hP1, hK1, hD1, hz2⟩ := hB
  rw [ht] at hP1 hz2
  have hPD9 := va_join (wr := [(am, .inr (4, [.int mm, .ref (zk 0), .int 0]))]) (w1 := [(mo, .inr (9, [.int 0, .ref am, .int 0, .int 0, .int 0]))]) hP hD [0] [1] rfl rfl (by decide) (by decide) hk1 hFc hP1 hD1
  clear hPc hDc hFc hDv hpre hP hD hP1 hK1 hD1
  obtain ⟨hP, hD⟩ := hPD9
  replace hz : s.heap.size + 0 ≤ H9.size := by omega
  clear hz2
  replace hP : va_P (dC, dI) vwCl [(am, .inr (4, [.int mm, .ref (zk 0), .int 0])), (mo, .inr (9, [.int 0, .ref am, .int 0, .int 0, .int 0]))] H9 := hP
  replace hD : va_D A [(am, .inr (4, [.int mm, .ref (zk 0), .int 0])), (mo, .inr (9, [.int 0, .ref am, .int 0, .int 0, .int 0]))] := hD
  refine W.widen (k := 0) (n := 0) (by omega) (by omega) ?_
  refine lv_if_eq (tgt := 58) hx hb dX4_make_53 (by decide) (fun c9 => ?_) (fun c9 => ?_)
  rotate_left
  · exact absurd (by decide) c9
  refine lv_aload_n hx hb dX4_make_58 rfl (lv_at hl 0 rfl) ?_
  refine va_get (D := (dC, dI)) (ci := 9) (v := .ref am) (C := RX4) (T := TX4) (N := 5) hx hb hts hi_X4_make_X4 hown hK hP 1 rfl rfl 1 (by decide) (hts (.fieldLink RX4 10 "DeeprowsModel" "rows" "Ljava/util/ArrayList;") (List.mem_cons_of_mem _ zw_1128)) (fun _ h9 => h9) rfl dX4_make_59 ?_
  refine zw_new (ci := 8) (fs := [.int 0, .null, .null]) (C := RX3) (T := TX3) (N := 3) hx hb hts hi_X4_make_X3 tyX3 tyX3_ok hown (hts (.classLink RX4 40 "DeeprowsModel$Row") (List.mem_cons_of_mem _ zw_1163)) (hts (.instantiable RX3 3) (List.mem_cons_of_mem _ zw_1164)) (hts (.initialized RX3) (List.mem_cons_of_mem _ zw_55)) hK hP hD hS hA rfl (fun j hj => by rcases (show j = 0 ∨ j = 1 ∨ j = 2 by omega) with rfl | rfl | rfl <;> rfl) (Nat.le_of_ble_eq_true rfl) (Nat.le_of_ble_eq_true rfl) dX4_make_62 hz (fun q11 H12 hP hD hS hz => ?_)
  replace hP : va_P (dC, dI) vwCl [(am, .inr (4, [.int mm, .ref (zk 0), .int 0])), (mo, .inr (9, [.int 0, .ref am, .int 0, .int 0, .int 0])), (q11, .inr (8, [.int 0, .null, .null]))] H12 := hP
  replace hD : va_D A [(am, .inr (4, [.int mm, .ref (zk 0), .int 0])), (mo, .inr (9, [.int 0, .ref am, .int 0, .int 0, .int 0])), (q11, .inr (8, [.int 0, .null, .null]))] := hD
  refine W.widen (k := 1) (n := 3) (by omega) (by omega) ?_
  refine lv_dup hx hb dX4_make_65 rfl ?_
  refine lv_iload_n hx hb dX4_make_66 rfl (lv_at hl 1 rfl) ?_
  refine lv_iload_n hx hb dX4_make_67 rfl (lv_at hl 2 rfl) ?_
  have hPc := hP.sub (ws' := [(q11, .inr (8, [.int 0, .null, .null]))]) [2] rfl
  have hDc := hD.sub (ws' := [(q11, .inr (8, [.int 0, .null, .null]))]) [2] (by decide) rfl
  have hFc := va_free (wc := [(q11, .inr (8, [.int 0, .null, .null]))]) hD hS hA [2] rfl
  have hDv := hDc.self (sz := H12.size)
  have hpre := zpre (xs' := []) (av := [.ref q11, .int kd, .int 2]) hPc hK (hDc.weaken (fun _ _ _ h => h)) hZ hS hFc (fun r hr => by cases hr)
  refine va_callv (va_runI (As := [.int kd, .int 2]) (rest := [.ref q11, .ref am]) ⟨hx, hb, hml, hown, hts⟩ (k_mI2s l dC dI cI cB cR cO zk q11 kd H12.size  hkd) (cwI 2 hts gX4_make_X3_init rfl rfl rfl (hts (.initialized RX3) (List.mem_cons_of_mem _ zw_55)) (hts (.methodLink RX4 76 yX3_init) (List.mem_cons_of_mem _ zw_1165)) (hts (.instanceMethod yX3_init) (List.mem_cons_of_mem _ zw_1166)) rfl (by decide +kernel) ⟨Nat.le_of_ble_eq_true rfl, Nat.le_of_ble_eq_true rfl⟩) ⟨zblind, hpre⟩ rfl rfl hl.1 rfl (lv_room (Nat.le_of_ble_eq_true rfl)) dX4_make_68 ⟨Nat.le_of_ble_eq_true rfl, Nat.le_of_ble_eq_true rfl⟩) hS (fun q _ h => hFc q h) hFc (fun u t H13 locs ht hvm hw hB hz1 hk1 hS => ?_)
  obtain ⟨wa15, na16, ⟨hP1, hK1, hD1, hz2⟩⟩ := hB
  rw [ht] at hP1 hz2
  have hPD9 := va_join (wr := [(am, .inr (4, [.int mm, .ref (zk 0), .int 0])), (mo, .inr (9, [.int 0, .ref am, .int 0, .int 0, .int 0]))]) (w1 := [(q11, .inr (8, [.int kd, .ref wa15, .ref na16]))]) hP hD [2] [0, 1] rfl rfl (by decide) (by decide) hk1 hFc hP1 hD1
  clear hPc hDc hFc hDv hpre hP hD hP1 hK1 hD1
  obtain ⟨hP, hD⟩ := hPD9
  replace hz : s.heap.size + 3 ≤ H13.size := by omega
  clear hz2
  replace hP : va_P (dC, dI) vwCl [(am, .inr (4, [.int mm, .ref (zk 0), .int 0])), (mo, .inr (9, [.int 0, .ref am, .int 0, .int 0, .int 0])), (q11, .inr (8, [.int kd, .ref wa15, .ref na16]))] H13 := hP
  replace hD : va_D A [(am, .inr (4, [.int mm, .ref (zk 0), .int 0])), (mo, .inr (9, [.int 0, .ref am, .int 0, .int 0, .int 0])), (q11, .inr (8, [.int kd, .ref wa15, .ref na16]))] := hD
  refine W.widen (k := 3) (n := 7) (by omega) (by omega) ?_
  have hPc := hP.sub (ws' := [(am, .inr (4, [.int mm, .ref (zk 0), .int 0])), (q11, .inr (8, [.int kd, .ref wa15, .ref na16]))]) [0, 2] rfl
  have hDc := hD.sub (ws' := [(am, .inr (4, [.int mm, .ref (zk 0), .int 0])), (q11, .inr (8, [.int kd, .ref wa15, .ref na16]))]) [0, 2] (by decide) rfl
  have hFc := va_free (wc := [(am, .inr (4, [.int mm, .ref (zk 0), .int 0])), (q11, .inr (8, [.int kd, .ref wa15, .ref na16]))]) hD hS hA [0, 2] rfl
  have hDv := hDc.self (sz := H13.size)
  have hpre := zpre (xs' := []) (av := [.ref am, .ref q11]) hPc hK (hDc.weaken (fun _ _ _ h => h)) hZ hS hFc (fun r hr => by cases hr)
  refine va_calli (va_runV (As := [.ref q11]) (rest := []) ⟨hx, hb, hml, hown, hts⟩ (k_addZX3 l dC dI cI cB cR cO zk am q11 mm kd wa15 na16 H13.size ) (cwV 1 hts gX4_make_Jx4a65c_add_9ea2d rfl rfl rfl (by decide +kernel) ⟨Nat.le_of_ble_eq_true rfl, Nat.le_of_ble_eq_true rfl⟩) ⟨zblind, (zrecv_4 hK hPc (q0 := 0) rfl), hpre⟩ rfl rfl hl.1 rfl (lv_room (Nat.le_of_ble_eq_true rfl)) dX4_make_71 ⟨Nat.le_of_ble_eq_true rfl, Nat.le_of_ble_eq_true rfl⟩) hS (fun q _ h => hFc q h) hFc (fun r18 u t H17 locs ht hvm hw hB hz1 hk1 hS => ?_)
  obtain rfl : 1 = r18 := (show r18 = 1 from hw).symm
  obtain ⟨em19, mm20, ⟨hP1, hK1, hD1, hz2⟩⟩ := hB
  rw [ht] at hP1 hz2
  have hPD9 := va_join (wr := [(mo, .inr (9, [.int 0, .ref am, .int 0, .int 0, .int 0]))]) (w1 := [(am, .inr (4, [.int mm20, .ref em19, .int 1])), (q11, .inr (8, [.int kd, .ref wa15, .ref na16]))]) hP hD [0, 2] [1] rfl rfl (by decide) (by decide) hk1 hFc hP1 hD1
  clear hPc hDc hFc hDv hpre hP hD hP1 hK1 hD1
  obtain ⟨hP, hD⟩ := hPD9
  replace hz : s.heap.size + 4 ≤ H17.size := by omega
  clear hz2
  replace hP : va_P (dC, dI) vwCl [(mo, .inr (9, [.int 0, .ref am, .int 0, .int 0, .int 0])), (am, .inr (4, [.int mm20, .ref em19, .int 1])), (q11, .inr (8, [.int kd, .ref wa15, .ref na16]))] H17 := hP
  replace hD : va_D A [(mo, .inr (9, [.int 0, .ref am, .int 0, .int 0, .int 0])), (am, .inr (4, [.int mm20, .ref em19, .int 1])), (q11, .inr (8, [.int kd, .ref wa15, .ref na16]))] := hD
  refine W.widen (k := 4) (n := 17) (by omega) (by omega) ?_
  refine lv_pop hx hb dX4_make_74 rfl ?_
  refine lv_aload_n hx hb dX4_make_75 rfl (lv_at hl 0 rfl) ?_
  refine va_get (D := (dC, dI)) (ci := 9) (v := .ref am) (C := RX4) (T := TX4) (N := 5) hx hb hts hi_X4_make_X4 hown hK hP 0 rfl rfl 1 (by decide) (hts (.fieldLink RX4 10 "DeeprowsModel" "rows" "Ljava/util/ArrayList;") (List.mem_cons_of_mem _ zw_1128)) (fun _ h9 => h9) rfl dX4_make_76 ?_
  have hPc := hP.sub (ws' := [(am, .inr (4, [.int mm20, .ref em19, .int 1]))]) [1] rfl
  have hDc := hD.sub (ws' := [(am, .inr (4, [.int mm20, .ref em19, .int 1]))]) [1] (by decide) rfl
  have hFc := va_free (wc := [(am, .inr (4, [.int mm20, .ref em19, .int 1]))]) hD hS hA [1] rfl
  have hDv := hDc.self (sz := H17.size)
  have hpre := zpre (xs' := []) (av := [.ref am]) hPc hK (hDc.weaken (fun _ _ _ h => h)) hZ hS hFc (fun r hr => by cases hr)
  refine va_calli (va_runV (As := []) (rest := []) ⟨hx, hb, hml, hown, hts⟩ (k_size l dC dI cI cB cR cO zk am em19 1 (.int mm20) H17.size ) (cwV 0 hts gX4_make_Jx4a65c_size_8abf5 rfl rfl rfl (by decide +kernel) ⟨Nat.le_of_ble_eq_true rfl, Nat.le_of_ble_eq_true rfl⟩) ⟨zblind, (zrecv_4 hK hPc (q0 := 0) rfl), hpre⟩ rfl rfl hl.1 rfl (lv_room (Nat.le_of_ble_eq_true rfl)) dX4_make_79 ⟨Nat.le_of_ble_eq_true rfl, Nat.le_of_ble_eq_true rfl⟩) hS (fun q _ h => hFc q h) hFc (fun r22 u t H21 locs ht hvm hw hB hz1 hk1 hS => ?_)
  obtain rfl : 1 = r22 := (show r22 = 1 from hw).symm
  obtain ⟨hP1, hK1, hD1, hz2⟩ := hB
  rw [ht] at hP1 hz2
  have hPD9 := va_join (wr := [(mo, .inr (9, [.int 0, .ref am, .int 0, .int 0, .int 0])), (q11, .inr (8, [.int kd, .ref wa15, .ref na16]))]) (w1 := [(am, .inr (4, [.int mm20, .ref em19, .int 1]))]) hP hD [1] [0, 2] rfl rfl (by decide) (by decide) hk1 hFc hP1 hD1
  clear hPc hDc hFc hDv hpre hP hD hP1 hK1 hD1
  obtain ⟨hP, hD⟩ := hPD9
  replace hz : s.heap.size + 4 ≤ H21.size := by omega
  clear hz2
  replace hP : va_P (dC, dI) vwCl [(mo, .inr (9, [.int 0, .ref am, .int 0, .int 0, .int 0])), (q11, .inr (8, [.int kd, .ref wa15, .ref na16])), (am, .inr (4, [.int mm20, .ref em19, .int 1]))] H21 := hP
  replace hD : va_D A [(mo, .inr (9, [.int 0, .ref am, .int 0, .int 0, .int 0])), (q11, .inr (8, [.int kd, .ref wa15, .ref na16])), (am, .inr (4, [.int mm20, .ref em19, .int 1]))] := hD
  refine W.widen (k := 4) (n := 17) (by omega) (by omega) ?_
  refine lv_iconst (v := 1) hx hb dX4_make_82 (by decide) ?_
  refine lv_isub hx hb dX4_make_83 ?_
  refine lv_topi (fun v23 ev23 => ?_)
  obtain rfl : v23 = 0 := ev23.trans (by decide)
  have hP9 := hP.sub (ws' := [(mo, .inr (9, [.int 0, .ref am, .int 0, .int 0, .int 0]))]) [0] rfl
  have hD9 := hD.sub (ws' := [(mo, .inr (9, [.int 0, .ref am, .int 0, .int 0, .int 0]))]) [0] (by decide) rfl
  exact W.iret (v := 0) hx hb hr (fun t ht hW => ⟨⟨_, (), rfl, rfl, ⟨by rw [ht]; exact hP9, va_K.moved hW.alike hK, hD9, by rw [ht]; exact hz⟩⟩, hS.F ht⟩) hS.2.2 dX4_make_84

set_option maxHeartbeats 4000000 in
set_option maxRecDepth 100000 in
theorem k_mI34 (l : Launch) (dC : Nat → ClassId) (dI : Nat → Nat → Nat) (cI cB cR cO : ClassId) (zk : Nat → Nat) (a : Nat) (sz : Nat)  : Met l yX3_init wsX3_init ({ frames := 1, cells := 2, slots := 6, locals := 60 }) (va_Pc [.ref a, .int 4, .int 3] (zPre (dC, dI) (zT cI cB cR cO) zk [] [(a, .inr (8, [.int 0, .null, .null]))] sz)) (va_Qv (fun _ : Unit => True) (fun _ t => ∃ wa, ∃ na, zEnd (dC, dI) (zT cI cB cR cO) (va_A [(a, .inr (8, [.int 0, .null, .null]))] sz) [(a, .inr (8, [.int 4, .ref wa, .ref na]))] sz 2 t) (va_A [(a, .inr (8, [.int 0, .null, .null]))] sz)) 2 6 (va_A [(a, .inr (8, [.int 0, .null, .null]))] sz) := by
  refine Met.ofW (cc := cX3_init) (maxL := 4) (ret := none) (by decide) rfl ?_
  intro p e s mY args below meth c s₁ B hml hv
  obtain ⟨rfl, hsz, hP, hK, hD0, hZ⟩ := hv
  have hx := B.exec
  have hb := B.bytes
  have hr := B.returns
  have hts := atoms_spec (ws := wsX3_init) B.pre
  have hown : s.vm.findClass RX3 = some mY.cls := findClass_of_methodNamed B.named
  have hlocks := B.notSynchronized
  have hin : meth.name = "<init>" := (name_of_methodNamed B.named B.method).1
  subst hsz
  have hD := hD0.self (sz := s.heap.size)
  generalize hAe : va_A [(a, .inr (8, [.int 0, .null, .null]))] s.heap.size = A at hD hZ ⊢
  have hA : ∀ q : Nat, s.heap.size ≤ q → A q := fun q h => by rw [← hAe]; exact Or.inr h
  have hS : va_S A s.heap s.heap [] := va_S.rf
  have hz : s.heap.size + 0 ≤ s.heap.size := Nat.le_refl _
  have hl := lv_entry ([.ref a, .int 4, .int 3]) (n := 4) (Nat.le_of_ble_eq_true rfl)
  rw [lg_entry_eq]
  generalize (lg_sl ([.ref a, .int 4, .int 3]) ++ List.replicate (4 - (lg_sl ([.ref a, .int 4, .int 3])).length) Slot.unset).toArray = ls at hl ⊢
  have hl : lv_has ls 4 [(0, .ref a), (1, .int 4), (2, .int 3)] := hl
  have hP : va_P (dC, dI) vwCl [(a, .inr (8, [.int 0, .null, .null]))] s.heap := hP
  have hD : va_D A [(a, .inr (8, [.int 0, .null, .null]))] := hD
  refine lv_aload_n hx hb dX3_init_0 rfl (lv_at hl 0 rfl) ?_
  refine W.objInit hx hb hown (hts (.methodLink RX3 3 objectInit) (List.mem_cons_of_mem _ zw_1168)) (hts (.instanceMethod objectInit) (List.mem_cons_of_mem _ zw_71)) (hts (.code objectInit ⟨#[0xb1]⟩ 1 none) (List.mem_cons_of_mem _ zw_72)) rfl (by rw [hml]; exact hl.1) rfl dX3_init_1 (Nat.le_of_ble_eq_true rfl) (Nat.le_of_ble_eq_true rfl) ?_
  refine W.eq (g2 := F0 mY 4 ls []) rfl ?_
  refine lv_aload_n hx hb dX3_init_4 rfl (lv_at hl 0 rfl) ?_
  refine lv_iload_n hx hb dX3_init_5 rfl (lv_at hl 1 rfl) ?_
  refine va_putF (D := (dC, dI)) (ci := 8) (v := .int 4) (ty := .int) (C := RX3) (T := TX3) (N := 3) hx hb hts hi_X3_init_X3 tyX3 tyX3_ok nmX3 hown hK hP hD (zS0 hS) 0 rfl rfl 0 (by decide) (hts (.fieldLink RX3 9 "DeeprowsModel$Row" "kind" "I") (List.mem_cons_of_mem _ zw_1173)) (fun _ h9 => h9) rfl hin rfl (by decide +kernel) rfl rfl (Nat.le_of_ble_eq_true rfl) dX3_init_6 (fun H1 locs hP hD hS1 => ?_)
  have hz : s.heap.size + 0 ≤ H1.size := Nat.le_trans hz hS1.1
  have hS := zSS hS hS1
  replace hP : va_P (dC, dI) vwCl [(a, .inr (8, [.int 4, .null, .null]))] H1 := hP
  replace hD : va_D A [(a, .inr (8, [.int 4, .null, .null]))] := hD
  refine lv_aload_n hx hb dX3_init_9 rfl (lv_at hl 0 rfl) ?_
  refine lv_iload_n hx hb dX3_init_10 rfl (lv_at hl 2 rfl) ?_
  refine zw_newa (atype := .int) (ty := .int) (N' := 3) hx hb (hts (.arrayClass .int) (List.mem_cons_of_mem _ zw_131)) rfl (by first | exact Or.inl rfl | exact Or.inr rfl) hK hP hD hS hA 0 rfl (by decide) (by decide) (Nat.le_of_ble_eq_true rfl) (Nat.le_of_ble_eq_true rfl) (Nat.le_of_ble_eq_true rfl) dX3_init_11 hz (fun q2 H3 hP hD hS hz => ?_)
  replace hP : va_P (dC, dI) vwCl [(a, .inr (8, [.int 4, .null, .null])), (q2, .inl (cI, 3, .inl (fun _ => 0)))] H3 := hP
  replace hD : va_D A [(a, .inr (8, [.int 4, .null, .null])), (q2, .inl (cI, 3, .inl (fun _ => 0)))] := hD
  refine W.widen (k := 1) (n := 3) (by omega) (by omega) ?_
  refine va_putF (D := (dC, dI)) (ci := 8) (v := .ref q2) (ty := .array .int) (C := RX3) (T := TX3) (N := 3) hx hb hts hi_X3_init_X3 tyX3 tyX3_ok nmX3 hown hK hP hD (zS0 hS) 0 rfl rfl 1 (by decide) (hts (.fieldLink RX3 15 "DeeprowsModel$Row" "whats" "[I") (List.mem_cons_of_mem _ zw_1175)) (fun _ h9 => h9) rfl hin rfl (by decide +kernel) rfl rfl (Nat.le_of_ble_eq_true rfl) dX3_init_13 (fun H4 locs hP hD hS1 => ?_)
  have hz : s.heap.size + 1 ≤ H4.size := Nat.le_trans hz hS1.1
  have hS := zSS hS hS1
  replace hP : va_P (dC, dI) vwCl [(a, .inr (8, [.int 4, .ref q2, .null])), (q2, .inl (cI, 3, .inl (fun _ => 0)))] H4 := hP
  replace hD : va_D A [(a, .inr (8, [.int 4, .ref q2, .null])), (q2, .inl (cI, 3, .inl (fun _ => 0)))] := hD
  refine lv_aload_n hx hb dX3_init_16 rfl (lv_at hl 0 rfl) ?_
  refine lv_iload_n hx hb dX3_init_17 rfl (lv_at hl 2 rfl) ?_
  refine zw_newa (atype := .int) (ty := .int) (N' := 3) hx hb (hts (.arrayClass .int) (List.mem_cons_of_mem _ zw_131)) rfl (by first | exact Or.inl rfl | exact Or.inr rfl) hK hP hD hS hA 0 rfl (by decide) (by decide) (Nat.le_of_ble_eq_true rfl) (Nat.le_of_ble_eq_true rfl) (Nat.le_of_ble_eq_true rfl) dX3_init_18 hz (fun q5 H6 hP hD hS hz => ?_)
  replace hP : va_P (dC, dI) vwCl [(a, .inr (8, [.int 4, .ref q2, .null])), (q2, .inl (cI, 3, .inl (fun _ => 0))), (q5, .inl (cI, 3, .inl (fun _ => 0)))] H6 := hP
  replace hD : va_D A [(a, .inr (8, [.int 4, .ref q2, .null])), (q2, .inl (cI, 3, .inl (fun _ => 0))), (q5, .inl (cI, 3, .inl (fun _ => 0)))] := hD
  refine W.widen (k := 2) (n := 6) (by omega) (by omega) ?_
  refine va_putF (D := (dC, dI)) (ci := 8) (v := .ref q5) (ty := .array .int) (C := RX3) (T := TX3) (N := 3) hx hb hts hi_X3_init_X3 tyX3 tyX3_ok nmX3 hown hK hP hD (zS0 hS) 0 rfl rfl 2 (by decide) (hts (.fieldLink RX3 19 "DeeprowsModel$Row" "numbers" "[I") (List.mem_cons_of_mem _ zw_1177)) (fun _ h9 => h9) rfl hin rfl (by decide +kernel) rfl rfl (Nat.le_of_ble_eq_true rfl) dX3_init_20 (fun H7 locs hP hD hS1 => ?_)
  have hz : s.heap.size + 2 ≤ H7.size := Nat.le_trans hz hS1.1
  have hS := zSS hS hS1
  replace hP : va_P (dC, dI) vwCl [(a, .inr (8, [.int 4, .ref q2, .ref q5])), (q2, .inl (cI, 3, .inl (fun _ => 0))), (q5, .inl (cI, 3, .inl (fun _ => 0)))] H7 := hP
  replace hD : va_D A [(a, .inr (8, [.int 4, .ref q2, .ref q5])), (q2, .inl (cI, 3, .inl (fun _ => 0))), (q5, .inl (cI, 3, .inl (fun _ => 0)))] := hD
  refine lv_iconst (v := 0) hx hb dX3_init_23 (by decide) ?_
  refine lv_istore_n (lv' := [(3, .int 0), (0, .ref a), (1, .int 4), (2, .int 3)]) hx hb dX3_init_24 rfl hl (by decide) rfl (fun ls hl => ?_)
  refine lv_iload_n hx hb dX3_init_25 rfl (lv_at hl 0 rfl) ?_
  refine lv_iload_n hx hb dX3_init_26 rfl (lv_at hl 3 rfl) ?_
  refine lv_icmp_ge (tgt := 61) hx hb dX3_init_27 (by decide) (fun c9 => ?_) (fun c9 => ?_)
  · exact absurd c9 (by decide)
  refine lv_aload_n hx hb dX3_init_30 rfl (lv_at hl 1 rfl) ?_
  refine lv_iload_n hx hb dX3_init_31 rfl (lv_at hl 0 rfl) ?_
  refine lv_iload_n hx hb dX3_init_32 rfl (lv_at hl 2 rfl) ?_
  refine lv_iconst (v := 4) hx hb dX3_init_33 (by decide) ?_
  refine lv_icmp_ne (tgt := 41) hx hb dX3_init_34 (by decide) (fun c9 => ?_) (fun c9 => ?_)
  · exact absurd (by decide) c9
  refine lv_iconst (v := 0) hx hb dX3_init_37 (by decide) ?_
  refine lv_goto (tgt := 42) hx hb dX3_init_38 (by decide) ?_
  refine lv_iload_n hx hb dX3_init_42 rfl (lv_at hl 2 rfl) ?_
  refine lv_iconst (v := 4) hx hb dX3_init_43 (by decide) ?_
  refine lv_icmp_ne (tgt := 51) hx hb dX3_init_44 (by decide) (fun c9 => ?_) (fun c9 => ?_)
  · exact absurd (by decide) c9
  refine lv_iconst (v := (-1)) hx hb dX3_init_47 (by decide) ?_
  refine lv_goto (tgt := 52) hx hb dX3_init_48 (by decide) ?_
  have hPc := hP.sub (ws' := [(a, .inr (8, [.int 4, .ref q2, .ref q5])), (q2, .inl (cI, 3, .inl (fun _ => 0))), (q5, .inl (cI, 3, .inl (fun _ => 0)))]) [0, 1, 2] rfl
  have hDc := hD.sub (ws' := [(a, .inr (8, [.int 4, .ref q2, .ref q5])), (q2, .inl (cI, 3, .inl (fun _ => 0))), (q5, .inl (cI, 3, .inl (fun _ => 0)))]) [0, 1, 2] (by decide) rfl
  have hFc := va_free (wc := [(a, .inr (8, [.int 4, .ref q2, .ref q5])), (q2, .inl (cI, 3, .inl (fun _ => 0))), (q5, .inl (cI, 3, .inl (fun _ => 0)))]) hD hS hA [0, 1, 2] rfl
  have hDv := hDc.self (sz := H7.size)
  have hpre := zpre (xs' := []) (av := [.ref a, .int 0, .int 0, .int (-1)]) hPc hK (hDc.weaken (fun _ _ _ h => h)) hZ hS hFc (fun r hr => by cases hr)
  refine va_callv (va_runV (As := [.int 0, .int 0, .int (-1)]) (rest := []) ⟨hx, hb, hml, hown, hts⟩ (k_mpZ3_0 l dC dI cI cB cR cO zk a q2 q5 4 0 (-1) (fun _ => 0) (fun _ => 0) H7.size ) (cwV 3 hts gX3_init_X3_put rfl rfl rfl (by decide +kernel) ⟨Nat.le_of_ble_eq_true rfl, Nat.le_of_ble_eq_true rfl⟩) ⟨zblind, (zrecv_8 hK hPc (q0 := 0) rfl), hpre⟩ rfl rfl hl.1 rfl (lv_room (Nat.le_of_ble_eq_true rfl)) dX3_init_52 ⟨Nat.le_of_ble_eq_true rfl, Nat.le_of_ble_eq_true rfl⟩) hS (fun q _ h => hFc q h) hFc (fun u t H8 locs ht hvm hw hB hz1 hk1 hS => ?_)
  obtain ⟨hP1, hK1, hD1, hz2⟩ := hB
  rw [ht] at hP1 hz2
  have hPD9 := va_join (wr := []) (w1 := [(a, .inr (8, [.int 4, .ref q2, .ref q5])), (q2, .inl (cI, 3, .inl (upd (fun _ => 0) 0 0))), (q5, .inl (cI, 3, .inl (upd (fun _ => 0) 0 (-1))))]) hP hD [0, 1, 2] [] rfl rfl (by decide) (by decide) hk1 hFc hP1 hD1
  clear hPc hDc hFc hDv hpre hP hD hP1 hK1 hD1
  obtain ⟨hP, hD⟩ := hPD9
  replace hz : s.heap.size + 2 ≤ H8.size := by omega
  clear hz2
  replace hP : va_P (dC, dI) vwCl [(a, .inr (8, [.int 4, .ref q2, .ref q5])), (q2, .inl (cI, 3, .inl (upd (fun _ => 0) 0 0))), (q5, .inl (cI, 3, .inl (upd (fun _ => 0) 0 (-1))))] H8 := hP
  replace hD : va_D A [(a, .inr (8, [.int 4, .ref q2, .ref q5])), (q2, .inl (cI, 3, .inl (upd (fun _ => 0) 0 0))), (q5, .inl (cI, 3, .inl (upd (fun _ => 0) 0 (-1))))] := hD
  refine W.widen (k := 2) (n := 6) (by omega) (by omega) ?_
  refine lv_iinc (v := 1) (lv' := [(3, .int 1), (0, .ref a), (1, .int 4), (2, .int 3)]) hx hb dX3_init_55 hl (k := 0) rfl (by decide) (by decide) rfl (fun ls hl => ?_)
  refine lv_goto (tgt := 25) hx hb dX3_init_58 (by decide) ?_
  refine lv_iload_n hx hb dX3_init_25 rfl (lv_at hl 0 rfl) ?_
  refine lv_iload_n hx hb dX3_init_26 rfl (lv_at hl 3 rfl) ?_
  refine lv_icmp_ge (tgt := 61) hx hb dX3_init_27 (by decide) (fun c9 => ?_) (fun c9 => ?_)
  · exact absurd c9 (by decide)
  refine lv_aload_n hx hb dX3_init_30 rfl (lv_at hl 1 rfl) ?_
  refine lv_iload_n hx hb dX3_init_31 rfl (lv_at hl 0 rfl) ?_
  refine lv_iload_n hx hb dX3_init_32 rfl (lv_at hl 2 rfl) ?_
  refine lv_iconst (v := 4) hx hb dX3_init_33 (by decide) ?_
  refine lv_icmp_ne (tgt := 41) hx hb dX3_init_34 (by decide) (fun c9 => ?_) (fun c9 => ?_)
  · exact absurd (by decide) c9
  refine lv_iconst (v := 0) hx hb dX3_init_37 (by decide) ?_
  refine lv_goto (tgt := 42) hx hb dX3_init_38 (by decide) ?_
  refine lv_iload_n hx hb dX3_init_42 rfl (lv_at hl 2 rfl) ?_
  refine lv_iconst (v := 4) hx hb dX3_init_43 (by decide) ?_
  refine lv_icmp_ne (tgt := 51) hx hb dX3_init_44 (by decide) (fun c9 => ?_) (fun c9 => ?_)
  · exact absurd (by decide) c9
  refine lv_iconst (v := (-1)) hx hb dX3_init_47 (by decide) ?_
  refine lv_goto (tgt := 52) hx hb dX3_init_48 (by decide) ?_
  have hPc := hP.sub (ws' := [(a, .inr (8, [.int 4, .ref q2, .ref q5])), (q2, .inl (cI, 3, .inl (upd (fun _ => 0) 0 0))), (q5, .inl (cI, 3, .inl (upd (fun _ => 0) 0 (-1))))]) [0, 1, 2] rfl
  have hDc := hD.sub (ws' := [(a, .inr (8, [.int 4, .ref q2, .ref q5])), (q2, .inl (cI, 3, .inl (upd (fun _ => 0) 0 0))), (q5, .inl (cI, 3, .inl (upd (fun _ => 0) 0 (-1))))]) [0, 1, 2] (by decide) rfl
  have hFc := va_free (wc := [(a, .inr (8, [.int 4, .ref q2, .ref q5])), (q2, .inl (cI, 3, .inl (upd (fun _ => 0) 0 0))), (q5, .inl (cI, 3, .inl (upd (fun _ => 0) 0 (-1))))]) hD hS hA [0, 1, 2] rfl
  have hDv := hDc.self (sz := H8.size)
  have hpre := zpre (xs' := []) (av := [.ref a, .int 1, .int 0, .int (-1)]) hPc hK (hDc.weaken (fun _ _ _ h => h)) hZ hS hFc (fun r hr => by cases hr)
  refine va_callv (va_runV (As := [.int 1, .int 0, .int (-1)]) (rest := []) ⟨hx, hb, hml, hown, hts⟩ (k_mpZ3_1 l dC dI cI cB cR cO zk a q2 q5 4 0 (-1) (upd (fun _ => 0) 0 0) (upd (fun _ => 0) 0 (-1)) H8.size ) (cwV 3 hts gX3_init_X3_put rfl rfl rfl (by decide +kernel) ⟨Nat.le_of_ble_eq_true rfl, Nat.le_of_ble_eq_true rfl⟩) ⟨zblind, (zrecv_8 hK hPc (q0 := 0) rfl), hpre⟩ rfl rfl hl.1 rfl (lv_room (Nat.le_of_ble_eq_true rfl)) dX3_init_52 ⟨Nat.le_of_ble_eq_true rfl, Nat.le_of_ble_eq_true rfl⟩) hS (fun q _ h => hFc q h) hFc (fun u t H10 locs ht hvm hw hB hz1 hk1 hS => ?_)
  obtain ⟨hP1, hK1, hD1, hz2⟩ := hB
  rw [ht] at hP1 hz2
  have hPD9 := va_join (wr := []) (w1 := [(a, .inr (8, [.int 4, .ref q2, .ref q5])), (q2, .inl (cI, 3, .inl (upd (upd (fun _ => 0) 0 0) 1 0))), (q5, .inl (cI, 3, .inl (upd (upd (fun _ => 0) 0 (-1)) 1 (-1))))]) hP hD [0, 1, 2] [] rfl rfl (by decide) (by decide) hk1 hFc hP1 hD1
  clear hPc hDc hFc hDv hpre hP hD hP1 hK1 hD1
  obtain ⟨hP, hD⟩ := hPD9
  replace hz : s.heap.size + 2 ≤ H10.size := by omega
  clear hz2
  replace hP : va_P (dC, dI) vwCl [(a, .inr (8, [.int 4, .ref q2, .ref q5])), (q2, .inl (cI, 3, .inl (upd (upd (fun _ => 0) 0 0) 1 0))), (q5, .inl (cI, 3, .inl (upd (upd (fun _ => 0) 0 (-1)) 1 (-1))))] H10 := hP
  replace hD : va_D A [(a, .inr (8, [.int 4, .ref q2, .ref q5])), (q2, .inl (cI, 3, .inl (upd (upd (fun _ => 0) 0 0) 1 0))), (q5, .inl (cI, 3, .inl (upd (upd (fun _ => 0) 0 (-1)) 1 (-1))))] := hD
  refine W.widen (k := 2) (n := 6) (by omega) (by omega) ?_
  refine lv_iinc (v := 2) (lv' := [(3, .int 2), (0, .ref a), (1, .int 4), (2, .int 3)]) hx hb dX3_init_55 hl (k := 0) rfl (by decide) (by decide) rfl (fun ls hl => ?_)
  refine lv_goto (tgt := 25) hx hb dX3_init_58 (by decide) ?_
  refine lv_iload_n hx hb dX3_init_25 rfl (lv_at hl 0 rfl) ?_
  refine lv_iload_n hx hb dX3_init_26 rfl (lv_at hl 3 rfl) ?_
  refine lv_icmp_ge (tgt := 61) hx hb dX3_init_27 (by decide) (fun c9 => ?_) (fun c9 => ?_)
  · exact absurd c9 (by decide)
  refine lv_aload_n hx hb dX3_init_30 rfl (lv_at hl 1 rfl) ?_
  refine lv_iload_n hx hb dX3_init_31 rfl (lv_at hl 0 rfl) ?_
  refine lv_iload_n hx hb dX3_init_32 rfl (lv_at hl 2 rfl) ?_
  refine lv_iconst (v := 4) hx hb dX3_init_33 (by decide) ?_
  refine lv_icmp_ne (tgt := 41) hx hb dX3_init_34 (by decide) (fun c9 => ?_) (fun c9 => ?_)
  · exact absurd (by decide) c9
  refine lv_iconst (v := 0) hx hb dX3_init_37 (by decide) ?_
  refine lv_goto (tgt := 42) hx hb dX3_init_38 (by decide) ?_
  refine lv_iload_n hx hb dX3_init_42 rfl (lv_at hl 2 rfl) ?_
  refine lv_iconst (v := 4) hx hb dX3_init_43 (by decide) ?_
  refine lv_icmp_ne (tgt := 51) hx hb dX3_init_44 (by decide) (fun c9 => ?_) (fun c9 => ?_)
  · exact absurd (by decide) c9
  refine lv_iconst (v := (-1)) hx hb dX3_init_47 (by decide) ?_
  refine lv_goto (tgt := 52) hx hb dX3_init_48 (by decide) ?_
  have hPc := hP.sub (ws' := [(a, .inr (8, [.int 4, .ref q2, .ref q5])), (q2, .inl (cI, 3, .inl (upd (upd (fun _ => 0) 0 0) 1 0))), (q5, .inl (cI, 3, .inl (upd (upd (fun _ => 0) 0 (-1)) 1 (-1))))]) [0, 1, 2] rfl
  have hDc := hD.sub (ws' := [(a, .inr (8, [.int 4, .ref q2, .ref q5])), (q2, .inl (cI, 3, .inl (upd (upd (fun _ => 0) 0 0) 1 0))), (q5, .inl (cI, 3, .inl (upd (upd (fun _ => 0) 0 (-1)) 1 (-1))))]) [0, 1, 2] (by decide) rfl
  have hFc := va_free (wc := [(a, .inr (8, [.int 4, .ref q2, .ref q5])), (q2, .inl (cI, 3, .inl (upd (upd (fun _ => 0) 0 0) 1 0))), (q5, .inl (cI, 3, .inl (upd (upd (fun _ => 0) 0 (-1)) 1 (-1))))]) hD hS hA [0, 1, 2] rfl
  have hDv := hDc.self (sz := H10.size)
  have hpre := zpre (xs' := []) (av := [.ref a, .int 2, .int 0, .int (-1)]) hPc hK (hDc.weaken (fun _ _ _ h => h)) hZ hS hFc (fun r hr => by cases hr)
  refine va_callv (va_runV (As := [.int 2, .int 0, .int (-1)]) (rest := []) ⟨hx, hb, hml, hown, hts⟩ (k_mpZ3_2 l dC dI cI cB cR cO zk a q2 q5 4 0 (-1) (upd (upd (fun _ => 0) 0 0) 1 0) (upd (upd (fun _ => 0) 0 (-1)) 1 (-1)) H10.size ) (cwV 3 hts gX3_init_X3_put rfl rfl rfl (by decide +kernel) ⟨Nat.le_of_ble_eq_true rfl, Nat.le_of_ble_eq_true rfl⟩) ⟨zblind, (zrecv_8 hK hPc (q0 := 0) rfl), hpre⟩ rfl rfl hl.1 rfl (lv_room (Nat.le_of_ble_eq_true rfl)) dX3_init_52 ⟨Nat.le_of_ble_eq_true rfl, Nat.le_of_ble_eq_true rfl⟩) hS (fun q _ h => hFc q h) hFc (fun u t H12 locs ht hvm hw hB hz1 hk1 hS => ?_)
  obtain ⟨hP1, hK1, hD1, hz2⟩ := hB
  rw [ht] at hP1 hz2
  have hPD9 := va_join (wr := []) (w1 := [(a, .inr (8, [.int 4, .ref q2, .ref q5])), (q2, .inl (cI, 3, .inl (upd (upd (upd (fun _ => 0) 0 0) 1 0) 2 0))), (q5, .inl (cI, 3, .inl (upd (upd (upd (fun _ => 0) 0 (-1)) 1 (-1)) 2 (-1))))]) hP hD [0, 1, 2] [] rfl rfl (by decide) (by decide) hk1 hFc hP1 hD1
  clear hPc hDc hFc hDv hpre hP hD hP1 hK1 hD1
  obtain ⟨hP, hD⟩ := hPD9
  replace hz : s.heap.size + 2 ≤ H12.size := by omega
  clear hz2
  replace hP : va_P (dC, dI) vwCl [(a, .inr (8, [.int 4, .ref q2, .ref q5])), (q2, .inl (cI, 3, .inl (upd (upd (upd (fun _ => 0) 0 0) 1 0) 2 0))), (q5, .inl (cI, 3, .inl (upd (upd (upd (fun _ => 0) 0 (-1)) 1 (-1)) 2 (-1))))] H12 := hP
  replace hD : va_D A [(a, .inr (8, [.int 4, .ref q2, .ref q5])), (q2, .inl (cI, 3, .inl (upd (upd (upd (fun _ => 0) 0 0) 1 0) 2 0))), (q5, .inl (cI, 3, .inl (upd (upd (upd (fun _ => 0) 0 (-1)) 1 (-1)) 2 (-1))))] := hD
  refine W.widen (k := 2) (n := 6) (by omega) (by omega) ?_
  refine lv_iinc (v := 3) (lv' := [(3, .int 3), (0, .ref a), (1, .int 4), (2, .int 3)]) hx hb dX3_init_55 hl (k := 0) rfl (by decide) (by decide) rfl (fun ls hl => ?_)
  refine lv_goto (tgt := 25) hx hb dX3_init_58 (by decide) ?_
  refine lv_iload_n hx hb dX3_init_25 rfl (lv_at hl 0 rfl) ?_
  refine lv_iload_n hx hb dX3_init_26 rfl (lv_at hl 3 rfl) ?_
  refine lv_icmp_ge (tgt := 61) hx hb dX3_init_27 (by decide) (fun c9 => ?_) (fun c9 => ?_)
  rotate_left
  · exact absurd (by decide) c9
  have hP9 := hP.sub (ws' := [(a, .inr (8, [.int 4, .ref q2, .ref q5]))]) [0] rfl
  have hD9 := hD.sub (ws' := [(a, .inr (8, [.int 4, .ref q2, .ref q5]))]) [0] (by decide) rfl
  exact W.vret hx hb hr (fun t ht hW => ⟨⟨(), rfl, trivial, ⟨_, _, ⟨by rw [ht]; exact hP9, va_K.moved hW.alike hK, hD9, by rw [ht]; exact hz⟩⟩⟩, hS.F ht⟩) hS.2.2 dX3_init_61

set_option maxHeartbeats 4000000 in
set_option maxRecDepth 100000 in
theorem k_mkM34 (l : Launch) (dC : Nat → ClassId) (dI : Nat → Nat → Nat) (cI cB cR cO : ClassId) (zk : Nat → Nat) (mo am : Nat) (th : Value) (mm : Int32) (sz : Nat)  : Met l yX4_make wsX4_make ({ frames := 5, cells := 4, slots := 19, locals := 127 }) (va_Pc [.ref mo, .int 4, .int 3] (zPre (dC, dI) (zT cI cB cR cO) zk [] [(mo, .inr (9, [th, .ref am, .int 0, .int 0, .int 0])), (am, .inr (4, [.int mm, .ref (zk 0), .int 0]))] sz)) (va_Qi (fun r (_ : Unit) => r = 0) (fun _ t => zEnd (dC, dI) (zT cI cB cR cO) (va_A [(mo, .inr (9, [th, .ref am, .int 0, .int 0, .int 0])), (am, .inr (4, [.int mm, .ref (zk 0), .int 0]))] sz) [(mo, .inr (9, [.int 0, .ref am, .int 0, .int 0, .int 0]))] sz 4 t) (va_A [(mo, .inr (9, [th, .ref am, .int 0, .int 0, .int 0])), (am, .inr (4, [.int mm, .ref (zk 0), .int 0]))] sz)) 4 19 (va_A [(mo, .inr (9, [th, .ref am, .int 0, .int 0, .int 0])), (am, .inr (4, [.int mm, .ref (zk 0), .int 0]))] sz) := by
  refine Met.ofW (cc := cX4_make) (maxL := 3) (ret := (some .int)) (by decide) rfl ?_
  intro p e s mY args below meth c s₁ B hml hv
  obtain ⟨rfl, hsz, hP, hK, hD0, hZ⟩ := hv
  have hx := B.exec
  have hb := B.bytes
  have hr := B.returns
  have hts := atoms_spec (ws := wsX4_make) B.pre
  have hown : s.vm.findClass RX4 = some mY.cls := findClass_of_methodNamed B.named
  have hlocks := B.notSynchronized
  subst hsz
  have hD := hD0.self (sz := s.heap.size)
  generalize hAe : va_A [(mo, .inr (9, [th, .ref am, .int 0, .int 0, .int 0])), (am, .inr (4, [.int mm, .ref (zk 0), .int 0]))] s.heap.size = A at hD hZ ⊢
  have hA : ∀ q : Nat, s.heap.size ≤ q → A q := fun q h => by rw [← hAe]; exact Or.inr h
  have hS : va_S A s.heap s.heap [] := va_S.rf
  have hz : s.heap.size + 0 ≤ s.heap.size := Nat.le_refl _
  have hl := lv_entry ([.ref mo, .int 4, .int 3]) (n := 3) (Nat.le_of_ble_eq_true rfl)
  rw [lg_entry_eq]
  generalize (lg_sl ([.ref mo, .int 4, .int 3]) ++ List.replicate (3 - (lg_sl ([.ref mo, .int 4, .int 3])).length) Slot.unset).toArray = ls at hl ⊢
  have hl : lv_has ls 3 [(0, .ref mo), (1, .int 4), (2, .int 3)] := hl
  have hP : va_P (dC, dI) vwCl [(mo, .inr (9, [th, .ref am, .int 0, .int 0, .int 0])), (am, .inr (4, [.int mm, .ref (zk 0), .int 0]))] s.heap := hP
  have hD : va_D A [(mo, .inr (9, [th, .ref am, .int 0, .int 0, .int 0])), (am, .inr (4, [.int mm, .ref (zk 0), .int 0]))] := hD
  refine lv_aload_n hx hb dX4_make_0 rfl (lv_at hl 0 rfl) ?_
  refine lv_iload_n hx hb dX4_make_1 rfl (lv_at hl 1 rfl) ?_
  refine lv_iconst (v := 0) hx hb dX4_make_2 (by decide) ?_
  refine lv_iconst (v := 4) hx hb dX4_make_3 (by decide) ?_
  have hPc := hP.sub (ws' := []) [] rfl
  have hDc := hD.sub (ws' := []) [] (by decide) rfl
  have hFc := va_free (wc := []) hD hS hA [] rfl
  have hDv := hDc.self (sz := s.heap.size)
  have hpre := zpre (xs' := []) (av := [.int 4, .int 0, .int 4]) hPc hK (hDc.weaken (fun _ _ _ h => h)) hZ hS hFc (fun r hr => by cases hr)
  refine va_calli (va_runS (As := [.int 4, .int 0, .int 4]) (rest := [.ref mo]) ⟨hx, hb, hml, hown, hts⟩ (k_isIn4_4 l dC dI cI cB cR cO zk  s.heap.size ) (va_cwS 3 hts gX4_make_X4_isIn rfl rfl rfl (by decide +kernel) ⟨Nat.le_of_ble_eq_true rfl, Nat.le_of_ble_eq_true rfl⟩) ⟨zblind, hpre⟩ rfl rfl hl.1 rfl (lv_room (Nat.le_of_ble_eq_true rfl)) dX4_make_4 ⟨Nat.le_of_ble_eq_true rfl, Nat.le_of_ble_eq_true rfl⟩) hS (fun q _ h => hFc q h) hFc (fun r2 u t H1 locs ht hvm hw hB hz1 hk1 hS => ?_)
  obtain rfl : 1 = r2 := (show r2 = 1 from hw).symm
  obtain ⟨hP1, hK1, hD1, hz2⟩ := hB
  rw [ht] at hP1 hz2
  have hPD9 := va_join (wr := [(mo, .inr (9, [th, .ref am, .int 0, .int 0, .int 0])), (am, .inr (4, [.int mm, .ref (zk 0), .int 0]))]) (w1 := []) hP hD [] [0, 1] rfl rfl (by decide) (by decide) hk1 hFc hP1 hD1
  clear hPc hDc hFc hDv hpre hP hD hP1 hK1 hD1
  obtain ⟨hP, hD⟩ := hPD9
  replace hz : s.heap.size + 0 ≤ H1.size := by omega
  clear hz2
  replace hP : va_P (dC, dI) vwCl [(mo, .inr (9, [th, .ref am, .int 0, .int 0, .int 0])), (am, .inr (4, [.int mm, .ref (zk 0), .int 0]))] H1 := hP
  replace hD : va_D A [(mo, .inr (9, [th, .ref am, .int 0, .int 0, .int 0])), (am, .inr (4, [.int mm, .ref (zk 0), .int 0]))] := hD
  refine W.widen (k := 0) (n := 0) (by omega) (by omega) ?_
  refine lv_if_eq (tgt := 19) hx hb dX4_make_7 (by decide) (fun c9 => ?_) (fun c9 => ?_)
  · exact absurd c9 (by decide)
  refine lv_iload_n hx hb dX4_make_10 rfl (lv_at hl 2 rfl) ?_
  refine lv_iconst (v := 0) hx hb dX4_make_11 (by decide) ?_
  refine lv_iconst (v := 4) hx hb dX4_make_12 (by decide) ?_
  have hPc := hP.sub (ws' := []) [] rfl
  have hDc := hD.sub (ws' := []) [] (by decide) rfl
  have hFc := va_free (wc := []) hD hS hA [] rfl
  have hDv := hDc.self (sz := H1.size)
  have hpre := zpre (xs' := []) (av := [.int 3, .int 0, .int 4]) hPc hK (hDc.weaken (fun _ _ _ h => h)) hZ hS hFc (fun r hr => by cases hr)
  refine va_calli (va_runS (As := [.int 3, .int 0, .int 4]) (rest := [.ref mo]) ⟨hx, hb, hml, hown, hts⟩ (k_isIn4_3 l dC dI cI cB cR cO zk  H1.size ) (va_cwS 3 hts gX4_make_X4_isIn rfl rfl rfl (by decide +kernel) ⟨Nat.le_of_ble_eq_true rfl, Nat.le_of_ble_eq_true rfl⟩) ⟨zblind, hpre⟩ rfl rfl hl.1 rfl (lv_room (Nat.le_of_ble_eq_true rfl)) dX4_make_13 ⟨Nat.le_of_ble_eq_true rfl, Nat.le_of_ble_eq_true rfl⟩) hS (fun q _ h => hFc q h) hFc (fun r4 u t H3 locs ht hvm hw hB hz1 hk1 hS => ?_)
  obtain rfl : 1 = r4 := (show r4 = 1 from hw).symm
  obtain ⟨hP1, hK1, hD1, hz2⟩ := hB
  rw [ht] at hP1 hz2
  have hPD9 := va_join (wr := [(mo, .inr (9, [th, .ref am, .int 0, .int 0, .int 0])), (am, .inr (4, [.int mm, .ref (zk 0), .int 0]))]) (w1 := []) hP hD [] [0, 1] rfl rfl (by decide) (by decide) hk1 hFc hP1 hD1
  clear hPc hDc hFc hDv hpre hP hD hP1 hK1 hD1
  obtain ⟨hP, hD⟩ := hPD9
  replace hz : s.heap.size + 0 ≤ H3.size := by omega
  clear hz2
  replace hP : va_P (dC, dI) vwCl [(mo, .inr (9, [th, .ref am, .int 0, .int 0, .int 0])), (am, .inr (4, [.int mm, .ref (zk 0), .int 0]))] H3 := hP
  replace hD : va_D A [(mo, .inr (9, [th, .ref am, .int 0, .int 0, .int 0])), (am, .inr (4, [.int mm, .ref (zk 0), .int 0]))] := hD
  refine W.widen (k := 0) (n := 0) (by omega) (by omega) ?_
  refine lv_if_ne (tgt := 23) hx hb dX4_make_16 (by decide) (fun c9 => ?_) (fun c9 => ?_)
  rotate_left
  · exact absurd c9 (by decide)
  refine lv_iconst (v := 0) hx hb dX4_make_23 (by decide) ?_
  refine lv_iconst (v := 1) hx hb dX4_make_24 (by decide) ?_
  have hPc := hP.sub (ws' := [(mo, .inr (9, [th, .ref am, .int 0, .int 0, .int 0]))]) [0] rfl
  have hDc := hD.sub (ws' := [(mo, .inr (9, [th, .ref am, .int 0, .int 0, .int 0]))]) [0] (by decide) rfl
  have hFc := va_free (wc := [(mo, .inr (9, [th, .ref am, .int 0, .int 0, .int 0]))]) hD hS hA [0] rfl
  have hDv := hDc.self (sz := H3.size)
  have hpre := zpre (xs' := []) (av := [.ref mo, .int 0, .int 1]) hPc hK (hDc.weaken (fun _ _ _ h => h)) hZ hS hFc (fun r hr => by cases hr)
  refine va_calli (va_runV (As := [.int 0, .int 1]) (rest := []) ⟨hx, hb, hml, hown, hts⟩ (k_stt0 l dC dI cI cB cR cO zk mo am th H3.size ) (cwV 2 hts gX4_make_X4_start rfl rfl rfl (by decide +kernel) ⟨Nat.le_of_ble_eq_true rfl, Nat.le_of_ble_eq_true rfl⟩) ⟨zblind, (zrecv_9 hK hPc (q0 := 0) rfl), hpre⟩ rfl rfl hl.1 rfl (lv_room (Nat.le_of_ble_eq_true rfl)) dX4_make_25 ⟨Nat.le_of_ble_eq_true rfl, Nat.le_of_ble_eq_true rfl⟩) hS (fun q _ h => hFc q h) hFc (fun r6 u t H5 locs ht hvm hw hB hz1 hk1 hS => ?_)
  obtain rfl : 0 = r6 := (show r6 = 0 from hw).symm
  obtain ⟨hP1, hK1, hD1, hz2⟩ := hB
  rw [ht] at hP1 hz2
  have hPD9 := va_join (wr := [(am, .inr (4, [.int mm, .ref (zk 0), .int 0]))]) (w1 := [(mo, .inr (9, [.int 0, .ref am, .int 0, .int 0, .int 0]))]) hP hD [0] [1] rfl rfl (by decide) (by decide) hk1 hFc hP1 hD1
  clear hPc hDc hFc hDv hpre hP hD hP1 hK1 hD1
  obtain ⟨hP, hD⟩ := hPD9
  replace hz : s.heap.size + 0 ≤ H5.size := by omega
  clear hz2
  replace hP : va_P (dC, dI) vwCl [(am, .inr (4, [.int mm, .ref (zk 0), .int 0])), (mo, .inr (9, [.int 0, .ref am, .int 0, .int 0, .int 0]))] H5 := hP
  replace hD : va_D A [(am, .inr (4, [.int mm, .ref (zk 0), .int 0])), (mo, .inr (9, [.int 0, .ref am, .int 0, .int 0, .int 0]))] := hD
  refine W.widen (k := 0) (n := 0) (by omega) (by omega) ?_
  refine lv_if_ne (tgt := 56) hx hb dX4_make_28 (by decide) (fun c9 => ?_) (fun c9 => ?_)
  · exact absurd (by decide) c9
  refine lv_aload_n hx hb dX4_make_31 rfl (lv_at hl 0 rfl) ?_
  refine lv_aload_n hx hb dX4_make_32 rfl (lv_at hl 0 rfl) ?_
  refine va_get (D := (dC, dI)) (ci := 9) (v := .ref am) (C := RX4) (T := TX4) (N := 5) hx hb hts hi_X4_make_X4 hown hK hP 1 rfl rfl 1 (by decide) (hts (.fieldLink RX4 10 "DeeprowsModel" "rows" "Ljava/util/ArrayList;") (List.mem_cons_of_mem _ zw_1128)) (fun _ h9 => h9) rfl dX4_make_33 ?_
  have hPc := hP.sub (ws' := [(am, .inr (4, [.int mm, .ref (zk 0), .int 0]))]) [0] rfl
  have hDc := hD.sub (ws' := [(am, .inr (4, [.int mm, .ref (zk 0), .int 0]))]) [0] (by decide) rfl
  have hFc := va_free (wc := [(am, .inr (4, [.int mm, .ref (zk 0), .int 0]))]) hD hS hA [0] rfl
  have hDv := hDc.self (sz := H5.size)
  have hpre := zpre (xs' := []) (av := [.ref am]) hPc hK (hDc.weaken (fun _ _ _ h => h)) hZ hS hFc (fun r hr => by cases hr)
  refine va_calli (va_runV (As := []) (rest := [.ref mo]) ⟨hx, hb, hml, hown, hts⟩ (k_size l dC dI cI cB cR cO zk am (zk 0) 0 (.int mm) H5.size ) (cwV 0 hts gX4_make_Jx4a65c_size_8abf5 rfl rfl rfl (by decide +kernel) ⟨Nat.le_of_ble_eq_true rfl, Nat.le_of_ble_eq_true rfl⟩) ⟨zblind, (zrecv_4 hK hPc (q0 := 0) rfl), hpre⟩ rfl rfl hl.1 rfl (lv_room (Nat.le_of_ble_eq_true rfl)) dX4_make_36 ⟨Nat.le_of_ble_eq_true rfl, Nat.le_of_ble_eq_true rfl⟩) hS (fun q _ h => hFc q h) hFc (fun r8 u t H7 locs ht hvm hw hB hz1 hk1 hS => ?_)
  obtain rfl : 0 = r8 := (show r8 = 0 from hw).symm
  obtain ⟨hP1, hK1, hD1, hz2⟩ := hB
  rw [ht] at hP1 hz2
  have hPD9 := va_join (wr := [(mo, .inr (9, [.int 0, .ref am, .int 0, .int 0, .int 0]))]) (w1 := [(am, .inr (4, [.int mm, .ref (zk 0), .int 0]))]) hP hD [0] [1] rfl rfl (by decide) (by decide) hk1 hFc hP1 hD1
  clear hPc hDc hFc hDv hpre hP hD hP1 hK1 hD1
  obtain ⟨hP, hD⟩ := hPD9
  replace hz : s.heap.size + 0 ≤ H7.size := by omega
  clear hz2
  replace hP : va_P (dC, dI) vwCl [(mo, .inr (9, [.int 0, .ref am, .int 0, .int 0, .int 0])), (am, .inr (4, [.int mm, .ref (zk 0), .int 0]))] H7 := hP
  replace hD : va_D A [(mo, .inr (9, [.int 0, .ref am, .int 0, .int 0, .int 0])), (am, .inr (4, [.int mm, .ref (zk 0), .int 0]))] := hD
  refine W.widen (k := 0) (n := 0) (by omega) (by omega) ?_
  refine lv_bipush (v := 12) hx hb dX4_make_39 (by decide) ?_
  refine lv_icmp_ne (tgt := 48) hx hb dX4_make_41 (by decide) (fun c9 => ?_) (fun c9 => ?_)
  rotate_left
  · exact absurd c9 (by decide)
  refine lv_iconst (v := 0) hx hb dX4_make_48 (by decide) ?_
  refine lv_iconst (v := 2) hx hb dX4_make_49 (by decide) ?_
  have hPc := hP.sub (ws' := [(mo, .inr (9, [.int 0, .ref am, .int 0, .int 0, .int 0]))]) [0] rfl
  have hDc := hD.sub (ws' := [(mo, .inr (9, [.int 0, .ref am, .int 0, .int 0, .int 0]))]) [0] (by decide) rfl
  have hFc := va_free (wc := [(mo, .inr (9, [.int 0, .ref am, .int 0, .int 0, .int 0]))]) hD hS hA [0] rfl
  have hDv := hDc.self (sz := H7.size)
  have hpre := zpre (xs' := []) (av := [.ref mo, .int 0, .int 2]) hPc hK (hDc.weaken (fun _ _ _ h => h)) hZ hS hFc (fun r hr => by cases hr)
  refine va_calli (va_runV (As := [.int 0, .int 2]) (rest := []) ⟨hx, hb, hml, hown, hts⟩ (k_ref02 l dC dI cI cB cR cO zk mo am H7.size ) (cwV 2 hts gX4_make_X4_refuse rfl rfl rfl (by decide +kernel) ⟨Nat.le_of_ble_eq_true rfl, Nat.le_of_ble_eq_true rfl⟩) ⟨zblind, (zrecv_9 hK hPc (q0 := 0) rfl), hpre⟩ rfl rfl hl.1 rfl (lv_room (Nat.le_of_ble_eq_true rfl)) dX4_make_50 ⟨Nat.le_of_ble_eq_true rfl, Nat.le_of_ble_eq_true rfl⟩) hS (fun q _ h => hFc q h) hFc (fun r10 u t H9 locs ht hvm hw hB hz1 hk1 hS => ?_)
  obtain rfl : 0 = r10 := (show r10 = 0 from hw).symm
  obtain ⟨hP1, hK1, hD1, hz2⟩ := hB
  rw [ht] at hP1 hz2
  have hPD9 := va_join (wr := [(am, .inr (4, [.int mm, .ref (zk 0), .int 0]))]) (w1 := [(mo, .inr (9, [.int 0, .ref am, .int 0, .int 0, .int 0]))]) hP hD [0] [1] rfl rfl (by decide) (by decide) hk1 hFc hP1 hD1
  clear hPc hDc hFc hDv hpre hP hD hP1 hK1 hD1
  obtain ⟨hP, hD⟩ := hPD9
  replace hz : s.heap.size + 0 ≤ H9.size := by omega
  clear hz2
  replace hP : va_P (dC, dI) vwCl [(am, .inr (4, [.int mm, .ref (zk 0), .int 0])), (mo, .inr (9, [.int 0, .ref am, .int 0, .int 0, .int 0]))] H9 := hP
  replace hD : va_D A [(am, .inr (4, [.int mm, .ref (zk 0), .int 0])), (mo, .inr (9, [.int 0, .ref am, .int 0, .int 0, .int 0]))] := hD
  refine W.widen (k := 0) (n := 0) (by omega) (by omega) ?_
  refine lv_if_eq (tgt := 58) hx hb dX4_make_53 (by decide) (fun c9 => ?_) (fun c9 => ?_)
  rotate_left
  · exact absurd (by decide) c9
  refine lv_aload_n hx hb dX4_make_58 rfl (lv_at hl 0 rfl) ?_
  refine va_get (D := (dC, dI)) (ci := 9) (v := .ref am) (C := RX4) (T := TX4) (N := 5) hx hb hts hi_X4_make_X4 hown hK hP 1 rfl rfl 1 (by decide) (hts (.fieldLink RX4 10 "DeeprowsModel" "rows" "Ljava/util/ArrayList;") (List.mem_cons_of_mem _ zw_1128)) (fun _ h9 => h9) rfl dX4_make_59 ?_
  refine zw_new (ci := 8) (fs := [.int 0, .null, .null]) (C := RX3) (T := TX3) (N := 3) hx hb hts hi_X4_make_X3 tyX3 tyX3_ok hown (hts (.classLink RX4 40 "DeeprowsModel$Row") (List.mem_cons_of_mem _ zw_1163)) (hts (.instantiable RX3 3) (List.mem_cons_of_mem _ zw_1164)) (hts (.initialized RX3) (List.mem_cons_of_mem _ zw_55)) hK hP hD hS hA rfl (fun j hj => by rcases (show j = 0 ∨ j = 1 ∨ j = 2 by omega) with rfl | rfl | rfl <;> rfl) (Nat.le_of_ble_eq_true rfl) (Nat.le_of_ble_eq_true rfl) dX4_make_62 hz (fun q11 H12 hP hD hS hz => ?_)
  replace hP : va_P (dC, dI) vwCl [(am, .inr (4, [.int mm, .ref (zk 0), .int 0])), (mo, .inr (9, [.int 0, .ref am, .int 0, .int 0, .int 0])), (q11, .inr (8, [.int 0, .null, .null]))] H12 := hP
  replace hD : va_D A [(am, .inr (4, [.int mm, .ref (zk 0), .int 0])), (mo, .inr (9, [.int 0, .ref am, .int 0, .int 0, .int 0])), (q11, .inr (8, [.int 0, .null, .null]))] := hD
  refine W.widen (k := 1) (n := 3) (by omega) (by omega) ?_
  refine lv_dup hx hb dX4_make_65 rfl ?_
  refine lv_iload_n hx hb dX4_make_66 rfl (lv_at hl 1 rfl) ?_
  refine lv_iload_n hx hb dX4_make_67 rfl (lv_at hl 2 rfl) ?_
  have hPc := hP.sub (ws' := [(q11, .inr (8, [.int 0, .null, .null]))]) [2] rfl
  have hDc := hD.sub (ws' := [(q11, .inr (8, [.int 0, .null, .null]))]) [2] (by decide) rfl
  have hFc := va_free (wc := [(q11, .inr (8, [.int 0, .null, .null]))]) hD hS hA [2] rfl
  have hDv := hDc.self (sz := H12.size)
  have hpre := zpre (xs' := []) (av := [.ref q11, .int 4, .int 3]) hPc hK (hDc.weaken (fun _ _ _ h => h)) hZ hS hFc (fun r hr => by cases hr)
  refine va_callv (va_runI (As := [.int 4, .int 3]) (rest := [.ref q11, .ref am]) ⟨hx, hb, hml, hown, hts⟩ (k_mI34 l dC dI cI cB cR cO zk q11 H12.size ) (cwI 2 hts gX4_make_X3_init rfl rfl rfl (hts (.initialized RX3) (List.mem_cons_of_mem _ zw_55)) (hts (.methodLink RX4 76 yX3_init) (List.mem_cons_of_mem _ zw_1165)) (hts (.instanceMethod yX3_init) (List.mem_cons_of_mem _ zw_1166)) rfl (by decide +kernel) ⟨Nat.le_of_ble_eq_true rfl, Nat.le_of_ble_eq_true rfl⟩) ⟨zblind, hpre⟩ rfl rfl hl.1 rfl (lv_room (Nat.le_of_ble_eq_true rfl)) dX4_make_68 ⟨Nat.le_of_ble_eq_true rfl, Nat.le_of_ble_eq_true rfl⟩) hS (fun q _ h => hFc q h) hFc (fun u t H13 locs ht hvm hw hB hz1 hk1 hS => ?_)
  obtain ⟨wa15, na16, ⟨hP1, hK1, hD1, hz2⟩⟩ := hB
  rw [ht] at hP1 hz2
  have hPD9 := va_join (wr := [(am, .inr (4, [.int mm, .ref (zk 0), .int 0])), (mo, .inr (9, [.int 0, .ref am, .int 0, .int 0, .int 0]))]) (w1 := [(q11, .inr (8, [.int 4, .ref wa15, .ref na16]))]) hP hD [2] [0, 1] rfl rfl (by decide) (by decide) hk1 hFc hP1 hD1
  clear hPc hDc hFc hDv hpre hP hD hP1 hK1 hD1
  obtain ⟨hP, hD⟩ := hPD9
  replace hz : s.heap.size + 3 ≤ H13.size := by omega
  clear hz2
  replace hP : va_P (dC, dI) vwCl [(am, .inr (4, [.int mm, .ref (zk 0), .int 0])), (mo, .inr (9, [.int 0, .ref am, .int 0, .int 0, .int 0])), (q11, .inr (8, [.int 4, .ref wa15, .ref na16]))] H13 := hP
  replace hD : va_D A [(am, .inr (4, [.int mm, .ref (zk 0), .int 0])), (mo, .inr (9, [.int 0, .ref am, .int 0, .int 0, .int 0])), (q11, .inr (8, [.int 4, .ref wa15, .ref na16]))] := hD
  refine W.widen (k := 3) (n := 9) (by omega) (by omega) ?_
  have hPc := hP.sub (ws' := [(am, .inr (4, [.int mm, .ref (zk 0), .int 0])), (q11, .inr (8, [.int 4, .ref wa15, .ref na16]))]) [0, 2] rfl
  have hDc := hD.sub (ws' := [(am, .inr (4, [.int mm, .ref (zk 0), .int 0])), (q11, .inr (8, [.int 4, .ref wa15, .ref na16]))]) [0, 2] (by decide) rfl
  have hFc := va_free (wc := [(am, .inr (4, [.int mm, .ref (zk 0), .int 0])), (q11, .inr (8, [.int 4, .ref wa15, .ref na16]))]) hD hS hA [0, 2] rfl
  have hDv := hDc.self (sz := H13.size)
  have hpre := zpre (xs' := []) (av := [.ref am, .ref q11]) hPc hK (hDc.weaken (fun _ _ _ h => h)) hZ hS hFc (fun r hr => by cases hr)
  refine va_calli (va_runV (As := [.ref q11]) (rest := []) ⟨hx, hb, hml, hown, hts⟩ (k_addZX3 l dC dI cI cB cR cO zk am q11 mm 4 wa15 na16 H13.size ) (cwV 1 hts gX4_make_Jx4a65c_add_9ea2d rfl rfl rfl (by decide +kernel) ⟨Nat.le_of_ble_eq_true rfl, Nat.le_of_ble_eq_true rfl⟩) ⟨zblind, (zrecv_4 hK hPc (q0 := 0) rfl), hpre⟩ rfl rfl hl.1 rfl (lv_room (Nat.le_of_ble_eq_true rfl)) dX4_make_71 ⟨Nat.le_of_ble_eq_true rfl, Nat.le_of_ble_eq_true rfl⟩) hS (fun q _ h => hFc q h) hFc (fun r18 u t H17 locs ht hvm hw hB hz1 hk1 hS => ?_)
  obtain rfl : 1 = r18 := (show r18 = 1 from hw).symm
  obtain ⟨em19, mm20, ⟨hP1, hK1, hD1, hz2⟩⟩ := hB
  rw [ht] at hP1 hz2
  have hPD9 := va_join (wr := [(mo, .inr (9, [.int 0, .ref am, .int 0, .int 0, .int 0]))]) (w1 := [(am, .inr (4, [.int mm20, .ref em19, .int 1])), (q11, .inr (8, [.int 4, .ref wa15, .ref na16]))]) hP hD [0, 2] [1] rfl rfl (by decide) (by decide) hk1 hFc hP1 hD1
  clear hPc hDc hFc hDv hpre hP hD hP1 hK1 hD1
  obtain ⟨hP, hD⟩ := hPD9
  replace hz : s.heap.size + 4 ≤ H17.size := by omega
  clear hz2
  replace hP : va_P (dC, dI) vwCl [(mo, .inr (9, [.int 0, .ref am, .int 0, .int 0, .int 0])), (am, .inr (4, [.int mm20, .ref em19, .int 1])), (q11, .inr (8, [.int 4, .ref wa15, .ref na16]))] H17 := hP
  replace hD : va_D A [(mo, .inr (9, [.int 0, .ref am, .int 0, .int 0, .int 0])), (am, .inr (4, [.int mm20, .ref em19, .int 1])), (q11, .inr (8, [.int 4, .ref wa15, .ref na16]))] := hD
  refine W.widen (k := 4) (n := 19) (by omega) (by omega) ?_
  refine lv_pop hx hb dX4_make_74 rfl ?_
  refine lv_aload_n hx hb dX4_make_75 rfl (lv_at hl 0 rfl) ?_
  refine va_get (D := (dC, dI)) (ci := 9) (v := .ref am) (C := RX4) (T := TX4) (N := 5) hx hb hts hi_X4_make_X4 hown hK hP 0 rfl rfl 1 (by decide) (hts (.fieldLink RX4 10 "DeeprowsModel" "rows" "Ljava/util/ArrayList;") (List.mem_cons_of_mem _ zw_1128)) (fun _ h9 => h9) rfl dX4_make_76 ?_
  have hPc := hP.sub (ws' := [(am, .inr (4, [.int mm20, .ref em19, .int 1]))]) [1] rfl
  have hDc := hD.sub (ws' := [(am, .inr (4, [.int mm20, .ref em19, .int 1]))]) [1] (by decide) rfl
  have hFc := va_free (wc := [(am, .inr (4, [.int mm20, .ref em19, .int 1]))]) hD hS hA [1] rfl
  have hDv := hDc.self (sz := H17.size)
  have hpre := zpre (xs' := []) (av := [.ref am]) hPc hK (hDc.weaken (fun _ _ _ h => h)) hZ hS hFc (fun r hr => by cases hr)
  refine va_calli (va_runV (As := []) (rest := []) ⟨hx, hb, hml, hown, hts⟩ (k_size l dC dI cI cB cR cO zk am em19 1 (.int mm20) H17.size ) (cwV 0 hts gX4_make_Jx4a65c_size_8abf5 rfl rfl rfl (by decide +kernel) ⟨Nat.le_of_ble_eq_true rfl, Nat.le_of_ble_eq_true rfl⟩) ⟨zblind, (zrecv_4 hK hPc (q0 := 0) rfl), hpre⟩ rfl rfl hl.1 rfl (lv_room (Nat.le_of_ble_eq_true rfl)) dX4_make_79 ⟨Nat.le_of_ble_eq_true rfl, Nat.le_of_ble_eq_true rfl⟩) hS (fun q _ h => hFc q h) hFc (fun r22 u t H21 locs ht hvm hw hB hz1 hk1 hS => ?_)
  obtain rfl : 1 = r22 := (show r22 = 1 from hw).symm
  obtain ⟨hP1, hK1, hD1, hz2⟩ := hB
  rw [ht] at hP1 hz2
  have hPD9 := va_join (wr := [(mo, .inr (9, [.int 0, .ref am, .int 0, .int 0, .int 0])), (q11, .inr (8, [.int 4, .ref wa15, .ref na16]))]) (w1 := [(am, .inr (4, [.int mm20, .ref em19, .int 1]))]) hP hD [1] [0, 2] rfl rfl (by decide) (by decide) hk1 hFc hP1 hD1
  clear hPc hDc hFc hDv hpre hP hD hP1 hK1 hD1
  obtain ⟨hP, hD⟩ := hPD9
  replace hz : s.heap.size + 4 ≤ H21.size := by omega
  clear hz2
  replace hP : va_P (dC, dI) vwCl [(mo, .inr (9, [.int 0, .ref am, .int 0, .int 0, .int 0])), (q11, .inr (8, [.int 4, .ref wa15, .ref na16])), (am, .inr (4, [.int mm20, .ref em19, .int 1]))] H21 := hP
  replace hD : va_D A [(mo, .inr (9, [.int 0, .ref am, .int 0, .int 0, .int 0])), (q11, .inr (8, [.int 4, .ref wa15, .ref na16])), (am, .inr (4, [.int mm20, .ref em19, .int 1]))] := hD
  refine W.widen (k := 4) (n := 19) (by omega) (by omega) ?_
  refine lv_iconst (v := 1) hx hb dX4_make_82 (by decide) ?_
  refine lv_isub hx hb dX4_make_83 ?_
  refine lv_topi (fun v23 ev23 => ?_)
  obtain rfl : v23 = 0 := ev23.trans (by decide)
  have hP9 := hP.sub (ws' := [(mo, .inr (9, [.int 0, .ref am, .int 0, .int 0, .int 0]))]) [0] rfl
  have hD9 := hD.sub (ws' := [(mo, .inr (9, [.int 0, .ref am, .int 0, .int 0, .int 0]))]) [0] (by decide) rfl
  exact W.iret (v := 0) hx hb hr (fun t ht hW => ⟨⟨_, (), rfl, rfl, ⟨by rw [ht]; exact hP9, va_K.moved hW.alike hK, hD9, by rw [ht]; exact hz⟩⟩, hS.F ht⟩) hS.2.2 dX4_make_84

set_option maxHeartbeats 4000000 in
set_option maxRecDepth 100000 in
theorem k_mI3s (l : Launch) (dC : Nat → ClassId) (dI : Nat → Nat → Nat) (cI cB cR cO : ClassId) (zk : Nat → Nat) (a : Nat) (kd : Int32) (sz : Nat) (hkd : ¬ kd = 4) : Met l yX3_init wsX3_init ({ frames := 1, cells := 2, slots := 6, locals := 60 }) (va_Pc [.ref a, .int kd, .int 3] (zPre (dC, dI) (zT cI cB cR cO) zk [] [(a, .inr (8, [.int 0, .null, .null]))] sz)) (va_Qv (fun _ : Unit => True) (fun _ t => ∃ wa, ∃ na, zEnd (dC, dI) (zT cI cB cR cO) (va_A [(a, .inr (8, [.int 0, .null, .null]))] sz) [(a, .inr (8, [.int kd, .ref wa, .ref na]))] sz 2 t) (va_A [(a, .inr (8, [.int 0, .null, .null]))] sz)) 2 6 (va_A [(a, .inr (8, [.int 0, .null, .null]))] sz) := by
  refine Met.ofW (cc := cX3_init) (maxL := 4) (ret := none) (by decide) rfl ?_
  intro p e s mY args below meth c s₁ B hml hv
  obtain ⟨rfl, hsz, hP, hK, hD0, hZ⟩ := hv
  have hx := B.exec
  have hb := B.bytes
  have hr := B.returns
  have hts := atoms_spec (ws := wsX3_init) B.pre
  have hown : s.vm.findClass RX3 = some mY.cls := findClass_of_methodNamed B.named
  have hlocks := B.notSynchronized
  have hin : meth.name = "<init>" := (name_of_methodNamed B.named B.method).1
  subst hsz
  have hD := hD0.self (sz := s.heap.size)
  generalize hAe : va_A [(a, .inr (8, [.int 0, .null, .null]))] s.heap.size = A at hD hZ ⊢
  have hA : ∀ q : Nat, s.heap.size ≤ q → A q := fun q h => by rw [← hAe]; exact Or.inr h
  have hS : va_S A s.heap s.heap [] := va_S.rf
  have hz : s.heap.size + 0 ≤ s.heap.size := Nat.le_refl _
  have hl := lv_entry ([.ref a, .int kd, .int 3]) (n := 4) (Nat.le_of_ble_eq_true rfl)
  rw [lg_entry_eq]
  generalize (lg_sl ([.ref a, .int kd, .int 3]) ++ List.replicate (4 - (lg_sl ([.ref a, .int kd, .int 3])).length) Slot.unset).toArray = ls at hl ⊢
  have hl : lv_has ls 4 [(0, .ref a), (1, .int kd), (2, .int 3)] := hl
  have hP : va_P (dC, dI) vwCl [(a, .inr (8, [.int 0, .null, .null]))] s.heap := hP
  have hD : va_D A [(a, .inr (8, [.int 0, .null, .null]))] := hD
  refine lv_aload_n hx hb dX3_init_0 rfl (lv_at hl 0 rfl) ?_
  refine W.objInit hx hb hown (hts (.methodLink RX3 3 objectInit) (List.mem_cons_of_mem _ zw_1168)) (hts (.instanceMethod objectInit) (List.mem_cons_of_mem _ zw_71)) (hts (.code objectInit ⟨#[0xb1]⟩ 1 none) (List.mem_cons_of_mem _ zw_72)) rfl (by rw [hml]; exact hl.1) rfl dX3_init_1 (Nat.le_of_ble_eq_true rfl) (Nat.le_of_ble_eq_true rfl) ?_
  refine W.eq (g2 := F0 mY 4 ls []) rfl ?_
  refine lv_aload_n hx hb dX3_init_4 rfl (lv_at hl 0 rfl) ?_
  refine lv_iload_n hx hb dX3_init_5 rfl (lv_at hl 1 rfl) ?_
  refine va_putF (D := (dC, dI)) (ci := 8) (v := .int kd) (ty := .int) (C := RX3) (T := TX3) (N := 3) hx hb hts hi_X3_init_X3 tyX3 tyX3_ok nmX3 hown hK hP hD (zS0 hS) 0 rfl rfl 0 (by decide) (hts (.fieldLink RX3 9 "DeeprowsModel$Row" "kind" "I") (List.mem_cons_of_mem _ zw_1173)) (fun _ h9 => h9) rfl hin rfl (by decide +kernel) rfl rfl (Nat.le_of_ble_eq_true rfl) dX3_init_6 (fun H1 locs hP hD hS1 => ?_)
  have hz : s.heap.size + 0 ≤ H1.size := Nat.le_trans hz hS1.1
  have hS := zSS hS hS1
  replace hP : va_P (dC, dI) vwCl [(a, .inr (8, [.int kd, .null, .null]))] H1 := hP
  replace hD : va_D A [(a, .inr (8, [.int kd, .null, .null]))] := hD
  refine lv_aload_n hx hb dX3_init_9 rfl (lv_at hl 0 rfl) ?_
  refine lv_iload_n hx hb dX3_init_10 rfl (lv_at hl 2 rfl) ?_
  refine zw_newa (atype := .int) (ty := .int) (N' := 3) hx hb (hts (.arrayClass .int) (List.mem_cons_of_mem _ zw_131)) rfl (by first | exact Or.inl rfl | exact Or.inr rfl) hK hP hD hS hA 0 rfl (by decide) (by decide) (Nat.le_of_ble_eq_true rfl) (Nat.le_of_ble_eq_true rfl) (Nat.le_of_ble_eq_true rfl) dX3_init_11 hz (fun q2 H3 hP hD hS hz => ?_)
  replace hP : va_P (dC, dI) vwCl [(a, .inr (8, [.int kd, .null, .null])), (q2, .inl (cI, 3, .inl (fun _ => 0)))] H3 := hP
  replace hD : va_D A [(a, .inr (8, [.int kd, .null, .null])), (q2, .inl (cI, 3, .inl (fun _ => 0)))] := hD
  refine W.widen (k := 1) (n := 3) (by omega) (by omega) ?_
  refine va_putF (D := (dC, dI)) (ci := 8) (v := .ref q2) (ty := .array .int) (C := RX3) (T := TX3) (N := 3) hx hb hts hi_X3_init_X3 tyX3 tyX3_ok nmX3 hown hK hP hD (zS0 hS) 0 rfl rfl 1 (by decide) (hts (.fieldLink RX3 15 "DeeprowsModel$Row" "whats" "[I") (List.mem_cons_of_mem _ zw_1175)) (fun _ h9 => h9) rfl hin rfl (by decide +kernel) rfl rfl (Nat.le_of_ble_eq_true rfl) dX3_init_13 (fun H4 locs hP hD hS1 => ?_)
  have hz : s.heap.size + 1 ≤ H4.size := Nat.le_trans hz hS1.1
  have hS := zSS hS hS1
  replace hP : va_P (dC, dI) vwCl [(a, .inr (8, [.int kd, .ref q2, .null])), (q2, .inl (cI, 3, .inl (fun _ => 0)))] H4 := hP
  replace hD : va_D A [(a, .inr (8, [.int kd, .ref q2, .null])), (q2, .inl (cI, 3, .inl (fun _ => 0)))] := hD
  refine lv_aload_n hx hb dX3_init_16 rfl (lv_at hl 0 rfl) ?_
  refine lv_iload_n hx hb dX3_init_17 rfl (lv_at hl 2 rfl) ?_
  refine zw_newa (atype := .int) (ty := .int) (N' := 3) hx hb (hts (.arrayClass .int) (List.mem_cons_of_mem _ zw_131)) rfl (by first | exact Or.inl rfl | exact Or.inr rfl) hK hP hD hS hA 0 rfl (by decide) (by decide) (Nat.le_of_ble_eq_true rfl) (Nat.le_of_ble_eq_true rfl) (Nat.le_of_ble_eq_true rfl) dX3_init_18 hz (fun q5 H6 hP hD hS hz => ?_)
  replace hP : va_P (dC, dI) vwCl [(a, .inr (8, [.int kd, .ref q2, .null])), (q2, .inl (cI, 3, .inl (fun _ => 0))), (q5, .inl (cI, 3, .inl (fun _ => 0)))] H6 := hP
  replace hD : va_D A [(a, .inr (8, [.int kd, .ref q2, .null])), (q2, .inl (cI, 3, .inl (fun _ => 0))), (q5, .inl (cI, 3, .inl (fun _ => 0)))] := hD
  refine W.widen (k := 2) (n := 6) (by omega) (by omega) ?_
  refine va_putF (D := (dC, dI)) (ci := 8) (v := .ref q5) (ty := .array .int) (C := RX3) (T := TX3) (N := 3) hx hb hts hi_X3_init_X3 tyX3 tyX3_ok nmX3 hown hK hP hD (zS0 hS) 0 rfl rfl 2 (by decide) (hts (.fieldLink RX3 19 "DeeprowsModel$Row" "numbers" "[I") (List.mem_cons_of_mem _ zw_1177)) (fun _ h9 => h9) rfl hin rfl (by decide +kernel) rfl rfl (Nat.le_of_ble_eq_true rfl) dX3_init_20 (fun H7 locs hP hD hS1 => ?_)
  have hz : s.heap.size + 2 ≤ H7.size := Nat.le_trans hz hS1.1
  have hS := zSS hS hS1
  replace hP : va_P (dC, dI) vwCl [(a, .inr (8, [.int kd, .ref q2, .ref q5])), (q2, .inl (cI, 3, .inl (fun _ => 0))), (q5, .inl (cI, 3, .inl (fun _ => 0)))] H7 := hP
  replace hD : va_D A [(a, .inr (8, [.int kd, .ref q2, .ref q5])), (q2, .inl (cI, 3, .inl (fun _ => 0))), (q5, .inl (cI, 3, .inl (fun _ => 0)))] := hD
  refine lv_iconst (v := 0) hx hb dX3_init_23 (by decide) ?_
  refine lv_istore_n (lv' := [(3, .int 0), (0, .ref a), (1, .int kd), (2, .int 3)]) hx hb dX3_init_24 rfl hl (by decide) rfl (fun ls hl => ?_)
  refine lv_iload_n hx hb dX3_init_25 rfl (lv_at hl 0 rfl) ?_
  refine lv_iload_n hx hb dX3_init_26 rfl (lv_at hl 3 rfl) ?_
  refine lv_icmp_ge (tgt := 61) hx hb dX3_init_27 (by decide) (fun c9 => ?_) (fun c9 => ?_)
  · exact absurd c9 (by decide)
  refine lv_aload_n hx hb dX3_init_30 rfl (lv_at hl 1 rfl) ?_
  refine lv_iload_n hx hb dX3_init_31 rfl (lv_at hl 0 rfl) ?_
  refine lv_iload_n hx hb dX3_init_32 rfl (lv_at hl 2 rfl) ?_
  refine lv_iconst (v := 4) hx hb dX3_init_33 (by decide) ?_
  refine lv_icmp_ne (tgt := 41) hx hb dX3_init_34 (by decide) (fun c9 => ?_) (fun c9 => ?_)
  rotate_left
  · exact absurd c9 (hkd)
  refine lv_iconst (v := 1) hx hb dX3_init_41 (by decide) ?_
  refine lv_iload_n hx hb dX3_init_42 rfl (lv_at hl 2 rfl) ?_
  refine lv_iconst (v := 4) hx hb dX3_init_43 (by decide) ?_
  refine lv_icmp_ne (tgt := 51) hx hb dX3_init_44 (by decide) (fun c9 => ?_) (fun c9 => ?_)
  rotate_left
  · exact absurd c9 (hkd)
  refine lv_iconst (v := 0) hx hb dX3_init_51 (by decide) ?_
  have hPc := hP.sub (ws' := [(a, .inr (8, [.int kd, .ref q2, .ref q5])), (q2, .inl (cI, 3, .inl (fun _ => 0))), (q5, .inl (cI, 3, .inl (fun _ => 0)))]) [0, 1, 2] rfl
  have hDc := hD.sub (ws' := [(a, .inr (8, [.int kd, .ref q2, .ref q5])), (q2, .inl (cI, 3, .inl (fun _ => 0))), (q5, .inl (cI, 3, .inl (fun _ => 0)))]) [0, 1, 2] (by decide) rfl
  have hFc := va_free (wc := [(a, .inr (8, [.int kd, .ref q2, .ref q5])), (q2, .inl (cI, 3, .inl (fun _ => 0))), (q5, .inl (cI, 3, .inl (fun _ => 0)))]) hD hS hA [0, 1, 2] rfl
  have hDv := hDc.self (sz := H7.size)
  have hpre := zpre (xs' := []) (av := [.ref a, .int 0, .int 1, .int 0]) hPc hK (hDc.weaken (fun _ _ _ h => h)) hZ hS hFc (fun r hr => by cases hr)
  refine va_callv (va_runV (As := [.int 0, .int 1, .int 0]) (rest := []) ⟨hx, hb, hml, hown, hts⟩ (k_mpZ3_0 l dC dI cI cB cR cO zk a q2 q5 kd 1 0 (fun _ => 0) (fun _ => 0) H7.size ) (cwV 3 hts gX3_init_X3_put rfl rfl rfl (by decide +kernel) ⟨Nat.le_of_ble_eq_true rfl, Nat.le_of_ble_eq_true rfl⟩) ⟨zblind, (zrecv_8 hK hPc (q0 := 0) rfl), hpre⟩ rfl rfl hl.1 rfl (lv_room (Nat.le_of_ble_eq_true rfl)) dX3_init_52 ⟨Nat.le_of_ble_eq_true rfl, Nat.le_of_ble_eq_true rfl⟩) hS (fun q _ h => hFc q h) hFc (fun u t H8 locs ht hvm hw hB hz1 hk1 hS => ?_)
  obtain ⟨hP1, hK1, hD1, hz2⟩ := hB
  rw [ht] at hP1 hz2
  have hPD9 := va_join (wr := []) (w1 := [(a, .inr (8, [.int kd, .ref q2, .ref q5])), (q2, .inl (cI, 3, .inl (upd (fun _ => 0) 0 1))), (q5, .inl (cI, 3, .inl (upd (fun _ => 0) 0 0)))]) hP hD [0, 1, 2] [] rfl rfl (by decide) (by decide) hk1 hFc hP1 hD1
  clear hPc hDc hFc hDv hpre hP hD hP1 hK1 hD1
  obtain ⟨hP, hD⟩ := hPD9
  replace hz : s.heap.size + 2 ≤ H8.size := by omega
  clear hz2
  replace hP : va_P (dC, dI) vwCl [(a, .inr (8, [.int kd, .ref q2, .ref q5])), (q2, .inl (cI, 3, .inl (upd (fun _ => 0) 0 1))), (q5, .inl (cI, 3, .inl (upd (fun _ => 0) 0 0)))] H8 := hP
  replace hD : va_D A [(a, .inr (8, [.int kd, .ref q2, .ref q5])), (q2, .inl (cI, 3, .inl (upd (fun _ => 0) 0 1))), (q5, .inl (cI, 3, .inl (upd (fun _ => 0) 0 0)))] := hD
  refine W.widen (k := 2) (n := 6) (by omega) (by omega) ?_
  refine lv_iinc (v := 1) (lv' := [(3, .int 1), (0, .ref a), (1, .int kd), (2, .int 3)]) hx hb dX3_init_55 hl (k := 0) rfl (by decide) (by decide) rfl (fun ls hl => ?_)
  refine lv_goto (tgt := 25) hx hb dX3_init_58 (by decide) ?_
  refine lv_iload_n hx hb dX3_init_25 rfl (lv_at hl 0 rfl) ?_
  refine lv_iload_n hx hb dX3_init_26 rfl (lv_at hl 3 rfl) ?_
  refine lv_icmp_ge (tgt := 61) hx hb dX3_init_27 (by decide) (fun c9 => ?_) (fun c9 => ?_)
  · exact absurd c9 (by decide)
  refine lv_aload_n hx hb dX3_init_30 rfl (lv_at hl 1 rfl) ?_
  refine lv_iload_n hx hb dX3_init_31 rfl (lv_at hl 0 rfl) ?_
  refine lv_iload_n hx hb dX3_init_32 rfl (lv_at hl 2 rfl) ?_
  refine lv_iconst (v := 4) hx hb dX3_init_33 (by decide) ?_
  refine lv_icmp_ne (tgt := 41) hx hb dX3_init_34 (by decide) (fun c9 => ?_) (fun c9 => ?_)
  rotate_left
  · exact absurd c9 (hkd)
  refine lv_iconst (v := 1) hx hb dX3_init_41 (by decide) ?_
  refine lv_iload_n hx hb dX3_init_42 rfl (lv_at hl 2 rfl) ?_
  refine lv_iconst (v := 4) hx hb dX3_init_43 (by decide) ?_
  refine lv_icmp_ne (tgt := 51) hx hb dX3_init_44 (by decide) (fun c9 => ?_) (fun c9 => ?_)
  rotate_left
  · exact absurd c9 (hkd)
  refine lv_iconst (v := 0) hx hb dX3_init_51 (by decide) ?_
  have hPc := hP.sub (ws' := [(a, .inr (8, [.int kd, .ref q2, .ref q5])), (q2, .inl (cI, 3, .inl (upd (fun _ => 0) 0 1))), (q5, .inl (cI, 3, .inl (upd (fun _ => 0) 0 0)))]) [0, 1, 2] rfl
  have hDc := hD.sub (ws' := [(a, .inr (8, [.int kd, .ref q2, .ref q5])), (q2, .inl (cI, 3, .inl (upd (fun _ => 0) 0 1))), (q5, .inl (cI, 3, .inl (upd (fun _ => 0) 0 0)))]) [0, 1, 2] (by decide) rfl
  have hFc := va_free (wc := [(a, .inr (8, [.int kd, .ref q2, .ref q5])), (q2, .inl (cI, 3, .inl (upd (fun _ => 0) 0 1))), (q5, .inl (cI, 3, .inl (upd (fun _ => 0) 0 0)))]) hD hS hA [0, 1, 2] rfl
  have hDv := hDc.self (sz := H8.size)
  have hpre := zpre (xs' := []) (av := [.ref a, .int 1, .int 1, .int 0]) hPc hK (hDc.weaken (fun _ _ _ h => h)) hZ hS hFc (fun r hr => by cases hr)
  refine va_callv (va_runV (As := [.int 1, .int 1, .int 0]) (rest := []) ⟨hx, hb, hml, hown, hts⟩ (k_mpZ3_1 l dC dI cI cB cR cO zk a q2 q5 kd 1 0 (upd (fun _ => 0) 0 1) (upd (fun _ => 0) 0 0) H8.size ) (cwV 3 hts gX3_init_X3_put rfl rfl rfl (by decide +kernel) ⟨Nat.le_of_ble_eq_true rfl, Nat.le_of_ble_eq_true rfl⟩) ⟨zblind, (zrecv_8 hK hPc (q0 := 0) rfl), hpre⟩ rfl rfl hl.1 rfl (lv_room (Nat.le_of_ble_eq_true rfl)) dX3_init_52 ⟨Nat.le_of_ble_eq_true rfl, Nat.le_of_ble_eq_true rfl⟩) hS (fun q _ h => hFc q h) hFc (fun u t H10 locs ht hvm hw hB hz1 hk1 hS => ?_)
  obtain ⟨hP1, hK1, hD1, hz2⟩ := hB
  rw [ht] at hP1 hz2
  have hPD9 := va_join (wr := []) (w1 := [(a, .inr (8, [.int kd, .ref q2, .ref q5])), (q2, .inl (cI, 3, .inl (upd (upd (fun _ => 0) 0 1) 1 1))), (q5, .inl (cI, 3, .inl (upd (upd (fun _ => 0) 0 0) 1 0)))]) hP hD [0, 1, 2] [] rfl rfl (by decide) (by decide) hk1 hFc hP1 hD1
  clear hPc hDc hFc hDv hpre hP hD hP1 hK1 hD1
  obtain ⟨hP, hD⟩ := hPD9
  replace hz : s.heap.size + 2 ≤ H10.size := by omega
  clear hz2
  replace hP : va_P (dC, dI) vwCl [(a, .inr (8, [.int kd, .ref q2, .ref q5])), (q2, .inl (cI, 3, .inl (upd (upd (fun _ => 0) 0 1) 1 1))), (q5, .inl (cI, 3, .inl (upd (upd (fun _ => 0) 0 0) 1 0)))] H10 := hP
  replace hD : va_D A [(a, .inr (8, [.int kd, .ref q2, .ref q5])), (q2, .inl (cI, 3, .inl (upd (upd (fun _ => 0) 0 1) 1 1))), (q5, .inl (cI, 3, .inl (upd (upd (fun _ => 0) 0 0) 1 0)))] := hD
  refine W.widen (k := 2) (n := 6) (by omega) (by omega) ?_
  refine lv_iinc (v := 2) (lv' := [(3, .int 2), (0, .ref a), (1, .int kd), (2, .int 3)]) hx hb dX3_init_55 hl (k := 0) rfl (by decide) (by decide) rfl (fun ls hl => ?_)
  refine lv_goto (tgt := 25) hx hb dX3_init_58 (by decide) ?_
  refine lv_iload_n hx hb dX3_init_25 rfl (lv_at hl 0 rfl) ?_
  refine lv_iload_n hx hb dX3_init_26 rfl (lv_at hl 3 rfl) ?_
  refine lv_icmp_ge (tgt := 61) hx hb dX3_init_27 (by decide) (fun c9 => ?_) (fun c9 => ?_)
  · exact absurd c9 (by decide)
  refine lv_aload_n hx hb dX3_init_30 rfl (lv_at hl 1 rfl) ?_
  refine lv_iload_n hx hb dX3_init_31 rfl (lv_at hl 0 rfl) ?_
  refine lv_iload_n hx hb dX3_init_32 rfl (lv_at hl 2 rfl) ?_
  refine lv_iconst (v := 4) hx hb dX3_init_33 (by decide) ?_
  refine lv_icmp_ne (tgt := 41) hx hb dX3_init_34 (by decide) (fun c9 => ?_) (fun c9 => ?_)
  rotate_left
  · exact absurd c9 (hkd)
  refine lv_iconst (v := 1) hx hb dX3_init_41 (by decide) ?_
  refine lv_iload_n hx hb dX3_init_42 rfl (lv_at hl 2 rfl) ?_
  refine lv_iconst (v := 4) hx hb dX3_init_43 (by decide) ?_
  refine lv_icmp_ne (tgt := 51) hx hb dX3_init_44 (by decide) (fun c9 => ?_) (fun c9 => ?_)
  rotate_left
  · exact absurd c9 (hkd)
  refine lv_iconst (v := 0) hx hb dX3_init_51 (by decide) ?_
  have hPc := hP.sub (ws' := [(a, .inr (8, [.int kd, .ref q2, .ref q5])), (q2, .inl (cI, 3, .inl (upd (upd (fun _ => 0) 0 1) 1 1))), (q5, .inl (cI, 3, .inl (upd (upd (fun _ => 0) 0 0) 1 0)))]) [0, 1, 2] rfl
  have hDc := hD.sub (ws' := [(a, .inr (8, [.int kd, .ref q2, .ref q5])), (q2, .inl (cI, 3, .inl (upd (upd (fun _ => 0) 0 1) 1 1))), (q5, .inl (cI, 3, .inl (upd (upd (fun _ => 0) 0 0) 1 0)))]) [0, 1, 2] (by decide) rfl
  have hFc := va_free (wc := [(a, .inr (8, [.int kd, .ref q2, .ref q5])), (q2, .inl (cI, 3, .inl (upd (upd (fun _ => 0) 0 1) 1 1))), (q5, .inl (cI, 3, .inl (upd (upd (fun _ => 0) 0 0) 1 0)))]) hD hS hA [0, 1, 2] rfl
  have hDv := hDc.self (sz := H10.size)
  have hpre := zpre (xs' := []) (av := [.ref a, .int 2, .int 1, .int 0]) hPc hK (hDc.weaken (fun _ _ _ h => h)) hZ hS hFc (fun r hr => by cases hr)
  refine va_callv (va_runV (As := [.int 2, .int 1, .int 0]) (rest := []) ⟨hx, hb, hml, hown, hts⟩ (k_mpZ3_2 l dC dI cI cB cR cO zk a q2 q5 kd 1 0 (upd (upd (fun _ => 0) 0 1) 1 1) (upd (upd (fun _ => 0) 0 0) 1 0) H10.size ) (cwV 3 hts gX3_init_X3_put rfl rfl rfl (by decide +kernel) ⟨Nat.le_of_ble_eq_true rfl, Nat.le_of_ble_eq_true rfl⟩) ⟨zblind, (zrecv_8 hK hPc (q0 := 0) rfl), hpre⟩ rfl rfl hl.1 rfl (lv_room (Nat.le_of_ble_eq_true rfl)) dX3_init_52 ⟨Nat.le_of_ble_eq_true rfl, Nat.le_of_ble_eq_true rfl⟩) hS (fun q _ h => hFc q h) hFc (fun u t H12 locs ht hvm hw hB hz1 hk1 hS => ?_)
  obtain ⟨hP1, hK1, hD1, hz2⟩ := hB
  rw [ht] at hP1 hz2
  have hPD9 := va_join (wr := []) (w1 := [(a, .inr (8, [.int kd, .ref q2, .ref q5])), (q2, .inl (cI, 3, .inl (upd (upd (upd (fun _ => 0) 0 1) 1 1) 2 1))), (q5, .inl (cI, 3, .inl (upd (upd (upd (fun _ => 0) 0 0) 1 0) 2 0)))]) hP hD [0, 1, 2] [] rfl rfl (by decide) (by decide) hk1 hFc hP1 hD1
  clear hPc hDc hFc hDv hpre hP hD hP1 hK1 hD1
  obtain ⟨hP, hD⟩ := hPD9
  replace hz : s.heap.size + 2 ≤ H12.size := by omega
  clear hz2
  replace hP : va_P (dC, dI) vwCl [(a, .inr (8, [.int kd, .ref q2, .ref q5])), (q2, .inl (cI, 3, .inl (upd (upd (upd (fun _ => 0) 0 1) 1 1) 2 1))), (q5, .inl (cI, 3, .inl (upd (upd (upd (fun _ => 0) 0 0) 1 0) 2 0)))] H12 := hP
  replace hD : va_D A [(a, .inr (8, [.int kd, .ref q2, .ref q5])), (q2, .inl (cI, 3, .inl (upd (upd (upd (fun _ => 0) 0 1) 1 1) 2 1))), (q5, .inl (cI, 3, .inl (upd (upd (upd (fun _ => 0) 0 0) 1 0) 2 0)))] := hD
  refine W.widen (k := 2) (n := 6) (by omega) (by omega) ?_
  refine lv_iinc (v := 3) (lv' := [(3, .int 3), (0, .ref a), (1, .int kd), (2, .int 3)]) hx hb dX3_init_55 hl (k := 0) rfl (by decide) (by decide) rfl (fun ls hl => ?_)
  refine lv_goto (tgt := 25) hx hb dX3_init_58 (by decide) ?_
  refine lv_iload_n hx hb dX3_init_25 rfl (lv_at hl 0 rfl) ?_
  refine lv_iload_n hx hb dX3_init_26 rfl (lv_at hl 3 rfl) ?_
  refine lv_icmp_ge (tgt := 61) hx hb dX3_init_27 (by decide) (fun c9 => ?_) (fun c9 => ?_)
  rotate_left
  · exact absurd (by decide) c9
  have hP9 := hP.sub (ws' := [(a, .inr (8, [.int kd, .ref q2, .ref q5]))]) [0] rfl
  have hD9 := hD.sub (ws' := [(a, .inr (8, [.int kd, .ref q2, .ref q5]))]) [0] (by decide) rfl
  exact W.vret hx hb hr (fun t ht hW => ⟨⟨(), rfl, trivial, ⟨_, _, ⟨by rw [ht]; exact hP9, va_K.moved hW.alike hK, hD9, by rw [ht]; exact hz⟩⟩⟩, hS.F ht⟩) hS.2.2 dX3_init_61

set_option maxHeartbeats 4000000 in
set_option maxRecDepth 100000 in
theorem k_mkM3s (l : Launch) (dC : Nat → ClassId) (dI : Nat → Nat → Nat) (cI cB cR cO : ClassId) (zk : Nat → Nat) (mo am : Nat) (th : Value) (mm : Int32) (kd : Int32) (sz : Nat) (hk0 : ¬ kd < 0) (hk4 : kd ≤ 4) (hkd : ¬ kd = 4) : Met l yX4_make wsX4_make ({ frames := 5, cells := 4, slots := 19, locals := 127 }) (va_Pc [.ref mo, .int kd, .int 3] (zPre (dC, dI) (zT cI cB cR cO) zk [] [(mo, .inr (9, [th, .ref am, .int 0, .int 0, .int 0])), (am, .inr (4, [.int mm, .ref (zk 0), .int 0]))] sz)) (va_Qi (fun r (_ : Unit) => r = 0) (fun _ t => zEnd (dC, dI) (zT cI cB cR cO) (va_A [(mo, .inr (9, [th, .ref am, .int 0, .int 0, .int 0])), (am, .inr (4, [.int mm, .ref (zk 0), .int 0]))] sz) [(mo, .inr (9, [.int 0, .ref am, .int 0, .int 0, .int 0]))] sz 4 t) (va_A [(mo, .inr (9, [th, .ref am, .int 0, .int 0, .int 0])), (am, .inr (4, [.int mm, .ref (zk 0), .int 0]))] sz)) 4 19 (va_A [(mo, .inr (9, [th, .ref am, .int 0, .int 0, .int 0])), (am, .inr (4, [.int mm, .ref (zk 0), .int 0]))] sz) := by
  refine Met.ofW (cc := cX4_make) (maxL := 3) (ret := (some .int)) (by decide) rfl ?_
  intro p e s mY args below meth c s₁ B hml hv
  obtain ⟨rfl, hsz, hP, hK, hD0, hZ⟩ := hv
  have hx := B.exec
  have hb := B.bytes
  have hr := B.returns
  have hts := atoms_spec (ws := wsX4_make) B.pre
  have hown : s.vm.findClass RX4 = some mY.cls := findClass_of_methodNamed B.named
  have hlocks := B.notSynchronized
  subst hsz
  have hD := hD0.self (sz := s.heap.size)
  generalize hAe : va_A [(mo, .inr (9, [th, .ref am, .int 0, .int 0, .int 0])), (am, .inr (4, [.int mm, .ref (zk 0), .int 0]))] s.heap.size = A at hD hZ ⊢
  have hA : ∀ q : Nat, s.heap.size ≤ q → A q := fun q h => by rw [← hAe]; exact Or.inr h
  have hS : va_S A s.heap s.heap [] := va_S.rf
  have hz : s.heap.size + 0 ≤ s.heap.size := Nat.le_refl _
  have hl := lv_entry ([.ref mo, .int kd, .int 3]) (n := 3) (Nat.le_of_ble_eq_true rfl)
  rw [lg_entry_eq]
  generalize (lg_sl ([.ref mo, .int kd, .int 3]) ++ List.replicate (3 - (lg_sl ([.ref mo, .int kd, .int 3])).length) Slot.unset).toArray = ls at hl ⊢
  have hl : lv_has ls 3 [(0, .ref mo), (1, .int kd), (2, .int 3)] := hl
  have hP : va_P (dC, dI) vwCl [(mo, .inr (9, [th, .ref am, .int 0, .int 0, .int 0])), (am, .inr (4, [.int mm, .ref (zk 0), .int 0]))] s.heap := hP
  have hD : va_D A [(mo, .inr (9, [th, .ref am, .int 0, .int 0, .int 0])), (am, .inr (4, [.int mm, .ref (zk 0), .int 0]))] := hD
  refine lv_aload_n hx hb dX4_make_0 rfl (lv_at hl 0 rfl) ?_
  refine lv_iload_n hx hb dX4_make_1 rfl (lv_at hl 1 rfl) ?_
  refine lv_iconst (v := 0) hx hb dX4_make_2 (by decide) ?_
  refine lv_iconst (v := 4) hx hb dX4_make_3 (by decide) ?_
  have hPc := hP.sub (ws' := []) [] rfl
  have hDc := hD.sub (ws' := []) [] (by decide) rfl
  have hFc := va_free (wc := []) hD hS hA [] rfl
  have hDv := hDc.self (sz := s.heap.size)
  have hpre := zpre (xs' := []) (av := [.int kd, .int 0, .int 4]) hPc hK (hDc.weaken (fun _ _ _ h => h)) hZ hS hFc (fun r hr => by cases hr)
  refine va_calli (va_runS (As := [.int kd, .int 0, .int 4]) (rest := [.ref mo]) ⟨hx, hb, hml, hown, hts⟩ (k_isInT4 l dC dI cI cB cR cO zk kd s.heap.size hk0 hk4) (va_cwS 3 hts gX4_make_X4_isIn rfl rfl rfl (by decide +kernel) ⟨Nat.le_of_ble_eq_true rfl, Nat.le_of_ble_eq_true rfl⟩) ⟨zblind, hpre⟩ rfl rfl hl.1 rfl (lv_room (Nat.le_of_ble_eq_true rfl)) dX4_make_4 ⟨Nat.le_of_ble_eq_true rfl, Nat.le_of_ble_eq_true rfl⟩) hS (fun q _ h => hFc q h) hFc (fun r2 u t H1 locs ht hvm hw hB hz1 hk1 hS => ?_)
  obtain rfl : 1 = r2 := (show r2 = 1 from hw).symm
  obtain ⟨hP1, hK1, hD1, hz2⟩ := hB
  rw [ht] at hP1 hz2
  have hPD9 := va_join (wr := [(mo, .inr (9, [th, .ref am, .int 0, .int 0, .int 0])), (am, .inr (4, [.int mm, .ref (zk 0), .int 0]))]) (w1 := []) hP hD [] [0, 1] rfl rfl (by decide) (by decide) hk1 hFc hP1 hD1
  clear hPc hDc hFc hDv hpre hP hD hP1 hK1 hD1
  obtain ⟨hP, hD⟩ := hPD9
  replace hz : s.heap.size + 0 ≤ H1.size := by omega
  clear hz2
  replace hP : va_P (dC, dI) vwCl [(mo, .inr (9, [th, .ref am, .int 0, .int 0, .int 0])), (am, .inr (4, [.int mm, .ref (zk 0), .int 0]))] H1 := hP
  replace hD : va_D A [(mo, .inr (9, [th, .ref am, .int 0, .int 0, .int 0])), (am, .inr (4, [.int mm, .ref (zk 0), .int 0]))] := hD
  refine W.widen (k := 0) (n := 0) (by omega) (by omega) ?_
  refine lv_if_eq (tgt := 19) hx hb dX4_make_7 (by decide) (fun c9 => ?_) (fun c9 => ?_)
  · exact absurd c9 (by decide)
  refine lv_iload_n hx hb dX4_make_10 rfl (lv_at hl 2 rfl) ?_
  refine lv_iconst (v := 0) hx hb dX4_make_11 (by decide) ?_
  refine lv_iconst (v := 4) hx hb dX4_make_12 (by decide) ?_
  have hPc := hP.sub (ws' := []) [] rfl
  have hDc := hD.sub (ws' := []) [] (by decide) rfl
  have hFc := va_free (wc := []) hD hS hA [] rfl
  have hDv := hDc.self (sz := H1.size)
  have hpre := zpre (xs' := []) (av := [.int 3, .int 0, .int 4]) hPc hK (hDc.weaken (fun _ _ _ h => h)) hZ hS hFc (fun r hr => by cases hr)
  refine va_calli (va_runS (As := [.int 3, .int 0, .int 4]) (rest := [.ref mo]) ⟨hx, hb, hml, hown, hts⟩ (k_isIn4_3 l dC dI cI cB cR cO zk  H1.size ) (va_cwS 3 hts gX4_make_X4_isIn rfl rfl rfl (by decide +kernel) ⟨Nat.le_of_ble_eq_true rfl, Nat.le_of_ble_eq_true rfl⟩) ⟨zblind, hpre⟩ rfl rfl hl.1 rfl (lv_room (Nat.le_of_ble_eq_true rfl)) dX4_make_13 ⟨Nat.le_of_ble_eq_true rfl, Nat.le_of_ble_eq_true rfl⟩) hS (fun q _ h => hFc q h) hFc (fun r4 u t H3 locs ht hvm hw hB hz1 hk1 hS => ?_)
  obtain rfl : 1 = r4 := (show r4 = 1 from hw).symm
  obtain ⟨hP1, hK1, hD1, hz2⟩ := hB
  rw [ht] at hP1 hz2
  have hPD9 := va_join (wr := [(mo, .inr (9, [th, .ref am, .int 0, .int 0, .int 0])), (am, .inr (4, [.int mm, .ref (zk 0), .int 0]))]) (w1 := []) hP hD [] [0, 1] rfl rfl (by decide) (by decide) hk1 hFc hP1 hD1
  clear hPc hDc hFc hDv hpre hP hD hP1 hK1 hD1
  obtain ⟨hP, hD⟩ := hPD9
  replace hz : s.heap.size + 0 ≤ H3.size := by omega
  clear hz2
  replace hP : va_P (dC, dI) vwCl [(mo, .inr (9, [th, .ref am, .int 0, .int 0, .int 0])), (am, .inr (4, [.int mm, .ref (zk 0), .int 0]))] H3 := hP
  replace hD : va_D A [(mo, .inr (9, [th, .ref am, .int 0, .int 0, .int 0])), (am, .inr (4, [.int mm, .ref (zk 0), .int 0]))] := hD
  refine W.widen (k := 0) (n := 0) (by omega) (by omega) ?_
  refine lv_if_ne (tgt := 23) hx hb dX4_make_16 (by decide) (fun c9 => ?_) (fun c9 => ?_)
  rotate_left
  · exact absurd c9 (by decide)
  refine lv_iconst (v := 0) hx hb dX4_make_23 (by decide) ?_
  refine lv_iconst (v := 1) hx hb dX4_make_24 (by decide) ?_
  have hPc := hP.sub (ws' := [(mo, .inr (9, [th, .ref am, .int 0, .int 0, .int 0]))]) [0] rfl
  have hDc := hD.sub (ws' := [(mo, .inr (9, [th, .ref am, .int 0, .int 0, .int 0]))]) [0] (by decide) rfl
  have hFc := va_free (wc := [(mo, .inr (9, [th, .ref am, .int 0, .int 0, .int 0]))]) hD hS hA [0] rfl
  have hDv := hDc.self (sz := H3.size)
  have hpre := zpre (xs' := []) (av := [.ref mo, .int 0, .int 1]) hPc hK (hDc.weaken (fun _ _ _ h => h)) hZ hS hFc (fun r hr => by cases hr)
  refine va_calli (va_runV (As := [.int 0, .int 1]) (rest := []) ⟨hx, hb, hml, hown, hts⟩ (k_stt0 l dC dI cI cB cR cO zk mo am th H3.size ) (cwV 2 hts gX4_make_X4_start rfl rfl rfl (by decide +kernel) ⟨Nat.le_of_ble_eq_true rfl, Nat.le_of_ble_eq_true rfl⟩) ⟨zblind, (zrecv_9 hK hPc (q0 := 0) rfl), hpre⟩ rfl rfl hl.1 rfl (lv_room (Nat.le_of_ble_eq_true rfl)) dX4_make_25 ⟨Nat.le_of_ble_eq_true rfl, Nat.le_of_ble_eq_true rfl⟩) hS (fun q _ h => hFc q h) hFc (fun r6 u t H5 locs ht hvm hw hB hz1 hk1 hS => ?_)
  obtain rfl : 0 = r6 := (show r6 = 0 from hw).symm
  obtain ⟨hP1, hK1, hD1, hz2⟩ := hB
  rw [ht] at hP1 hz2
  have hPD9 := va_join (wr := [(am, .inr (4, [.int mm, .ref (zk 0), .int 0]))]) (w1 := [(mo, .inr (9, [.int 0, .ref am, .int 0, .int 0, .int 0]))]) hP hD [0] [1] rfl rfl (by decide) (by decide) hk1 hFc hP1 hD1
  clear hPc hDc hFc hDv hpre hP hD hP1 hK1 hD1
  obtain ⟨hP, hD⟩ := hPD9
  replace hz : s.heap.size + 0 ≤ H5.size := by omega
  clear hz2
  replace hP : va_P (dC, dI) vwCl [(am, .inr (4, [.int mm, .ref (zk 0), .int 0])), (mo, .inr (9, [.int 0, .ref am, .int 0, .int 0, .int 0]))] H5 := hP
  replace hD : va_D A [(am, .inr (4, [.int mm, .ref (zk 0), .int 0])), (mo, .inr (9, [.int 0, .ref am, .int 0, .int 0, .int 0]))] := hD
  refine W.widen (k := 0) (n := 0) (by omega) (by omega) ?_
  refine lv_if_ne (tgt := 56) hx hb dX4_make_28 (by decide) (fun c9 => ?_) (fun c9 => ?_)
  · exact absurd (by decide) c9
  refine lv_aload_n hx hb dX4_make_31 rfl (lv_at hl 0 rfl) ?_
  refine lv_aload_n hx hb dX4_make_32 rfl (lv_at hl 0 rfl) ?_
  refine va_get (D := (dC, dI)) (ci := 9) (v := .ref am) (C := RX4) (T := TX4) (N := 5) hx hb hts hi_X4_make_X4 hown hK hP 1 rfl rfl 1 (by decide) (hts (.fieldLink RX4 10 "DeeprowsModel" "rows" "Ljava/util/ArrayList;") (List.mem_cons_of_mem _ zw_1128)) (fun _ h9 => h9) rfl dX4_make_33 ?_
  have hPc := hP.sub (ws' := [(am, .inr (4, [.int mm, .ref (zk 0), .int 0]))]) [0] rfl
  have hDc := hD.sub (ws' := [(am, .inr (4, [.int mm, .ref (zk 0), .int 0]))]) [0] (by decide) rfl
  have hFc := va_free (wc := [(am, .inr (4, [.int mm, .ref (zk 0), .int 0]))]) hD hS hA [0] rfl
  have hDv := hDc.self (sz := H5.size)
  have hpre := zpre (xs' := []) (av := [.ref am]) hPc hK (hDc.weaken (fun _ _ _ h => h)) hZ hS hFc (fun r hr => by cases hr)
  refine va_calli (va_runV (As := []) (rest := [.ref mo]) ⟨hx, hb, hml, hown, hts⟩ (k_size l dC dI cI cB cR cO zk am (zk 0) 0 (.int mm) H5.size ) (cwV 0 hts gX4_make_Jx4a65c_size_8abf5 rfl rfl rfl (by decide +kernel) ⟨Nat.le_of_ble_eq_true rfl, Nat.le_of_ble_eq_true rfl⟩) ⟨zblind, (zrecv_4 hK hPc (q0 := 0) rfl), hpre⟩ rfl rfl hl.1 rfl (lv_room (Nat.le_of_ble_eq_true rfl)) dX4_make_36 ⟨Nat.le_of_ble_eq_true rfl, Nat.le_of_ble_eq_true rfl⟩) hS (fun q _ h => hFc q h) hFc (fun r8 u t H7 locs ht hvm hw hB hz1 hk1 hS => ?_)
  obtain rfl : 0 = r8 := (show r8 = 0 from hw).symm
  obtain ⟨hP1, hK1, hD1, hz2⟩ := hB
  rw [ht] at hP1 hz2
  have hPD9 := va_join (wr := [(mo, .inr (9, [.int 0, .ref am, .int 0, .int 0, .int 0]))]) (w1 := [(am, .inr (4, [.int mm, .ref (zk 0), .int 0]))]) hP hD [0] [1] rfl rfl (by decide) (by decide) hk1 hFc hP1 hD1
  clear hPc hDc hFc hDv hpre hP hD hP1 hK1 hD1
  obtain ⟨hP, hD⟩ := hPD9
  replace hz : s.heap.size + 0 ≤ H7.size := by omega
  clear hz2
  replace hP : va_P (dC, dI) vwCl [(mo, .inr (9, [.int 0, .ref am, .int 0, .int 0, .int 0])), (am, .inr (4, [.int mm, .ref (zk 0), .int 0]))] H7 := hP
  replace hD : va_D A [(mo, .inr (9, [.int 0, .ref am, .int 0, .int 0, .int 0])), (am, .inr (4, [.int mm, .ref (zk 0), .int 0]))] := hD
  refine W.widen (k := 0) (n := 0) (by omega) (by omega) ?_
  refine lv_bipush (v := 12) hx hb dX4_make_39 (by decide) ?_
  refine lv_icmp_ne (tgt := 48) hx hb dX4_make_41 (by decide) (fun c9 => ?_) (fun c9 => ?_)
  rotate_left
  · exact absurd c9 (by decide)
  refine lv_iconst (v := 0) hx hb dX4_make_48 (by decide) ?_
  refine lv_iconst (v := 2) hx hb dX4_make_49 (by decide) ?_
  have hPc := hP.sub (ws' := [(mo, .inr (9, [.int 0, .ref am, .int 0, .int 0, .int 0]))]) [0] rfl
  have hDc := hD.sub (ws' := [(mo, .inr (9, [.int 0, .ref am, .int 0, .int 0, .int 0]))]) [0] (by decide) rfl
  have hFc := va_free (wc := [(mo, .inr (9, [.int 0, .ref am, .int 0, .int 0, .int 0]))]) hD hS hA [0] rfl
  have hDv := hDc.self (sz := H7.size)
  have hpre := zpre (xs' := []) (av := [.ref mo, .int 0, .int 2]) hPc hK (hDc.weaken (fun _ _ _ h => h)) hZ hS hFc (fun r hr => by cases hr)
  refine va_calli (va_runV (As := [.int 0, .int 2]) (rest := []) ⟨hx, hb, hml, hown, hts⟩ (k_ref02 l dC dI cI cB cR cO zk mo am H7.size ) (cwV 2 hts gX4_make_X4_refuse rfl rfl rfl (by decide +kernel) ⟨Nat.le_of_ble_eq_true rfl, Nat.le_of_ble_eq_true rfl⟩) ⟨zblind, (zrecv_9 hK hPc (q0 := 0) rfl), hpre⟩ rfl rfl hl.1 rfl (lv_room (Nat.le_of_ble_eq_true rfl)) dX4_make_50 ⟨Nat.le_of_ble_eq_true rfl, Nat.le_of_ble_eq_true rfl⟩) hS (fun q _ h => hFc q h) hFc (fun r10 u t H9 locs ht hvm hw hB hz1 hk1 hS => ?_)
  obtain rfl : 0 = r10 := (show r10 = 0 from hw).symm
  obtain ⟨hP1, hK1, hD1, hz2⟩ := hB
  rw [ht] at hP1 hz2
  have hPD9 := va_join (wr := [(am, .inr (4, [.int mm, .ref (zk 0), .int 0]))]) (w1 := [(mo, .inr (9, [.int 0, .ref am, .int 0, .int 0, .int 0]))]) hP hD [0] [1] rfl rfl (by decide) (by decide) hk1 hFc hP1 hD1
  clear hPc hDc hFc hDv hpre hP hD hP1 hK1 hD1
  obtain ⟨hP, hD⟩ := hPD9
  replace hz : s.heap.size + 0 ≤ H9.size := by omega
  clear hz2
  replace hP : va_P (dC, dI) vwCl [(am, .inr (4, [.int mm, .ref (zk 0), .int 0])), (mo, .inr (9, [.int 0, .ref am, .int 0, .int 0, .int 0]))] H9 := hP
  replace hD : va_D A [(am, .inr (4, [.int mm, .ref (zk 0), .int 0])), (mo, .inr (9, [.int 0, .ref am, .int 0, .int 0, .int 0]))] := hD
  refine W.widen (k := 0) (n := 0) (by omega) (by omega) ?_
  refine lv_if_eq (tgt := 58) hx hb dX4_make_53 (by decide) (fun c9 => ?_) (fun c9 => ?_)
  rotate_left
  · exact absurd (by decide) c9
  refine lv_aload_n hx hb dX4_make_58 rfl (lv_at hl 0 rfl) ?_
  refine va_get (D := (dC, dI)) (ci := 9) (v := .ref am) (C := RX4) (T := TX4) (N := 5) hx hb hts hi_X4_make_X4 hown hK hP 1 rfl rfl 1 (by decide) (hts (.fieldLink RX4 10 "DeeprowsModel" "rows" "Ljava/util/ArrayList;") (List.mem_cons_of_mem _ zw_1128)) (fun _ h9 => h9) rfl dX4_make_59 ?_
  refine zw_new (ci := 8) (fs := [.int 0, .null, .null]) (C := RX3) (T := TX3) (N := 3) hx hb hts hi_X4_make_X3 tyX3 tyX3_ok hown (hts (.classLink RX4 40 "DeeprowsModel$Row") (List.mem_cons_of_mem _ zw_1163)) (hts (.instantiable RX3 3) (List.mem_cons_of_mem _ zw_1164)) (hts (.initialized RX3) (List.mem_cons_of_mem _ zw_55)) hK hP hD hS hA rfl (fun j hj => by rcases (show j = 0 ∨ j = 1 ∨ j = 2 by omega) with rfl | rfl | rfl <;> rfl) (Nat.le_of_ble_eq_true rfl) (Nat.le_of_ble_eq_true rfl) dX4_make_62 hz (fun q11 H12 hP hD hS hz => ?_)
  replace hP : va_P (dC, dI) vwCl [(am, .inr (4, [.int mm, .ref (zk 0), .int 0])), (mo, .inr (9, [.int 0, .ref am, .int 0, .int 0, .int 0])), (q11, .inr (8, [.int 0, .null, .null]))] H12 := hP
  replace hD : va_D A [(am, .inr (4, [.int mm, .ref (zk 0), .int 0])), (mo, .inr (9, [.int 0, .ref am, .int 0, .int 0, .int 0])), (q11, .inr (8, [.int 0, .null, .null]))] := hD
  refine W.widen (k := 1) (n := 3) (by omega) (by omega) ?_
  refine lv_dup hx hb dX4_make_65 rfl ?_
  refine lv_iload_n hx hb dX4_make_66 rfl (lv_at hl 1 rfl) ?_
  refine lv_iload_n hx hb dX4_make_67 rfl (lv_at hl 2 rfl) ?_
  have hPc := hP.sub (ws' := [(q11, .inr (8, [.int 0, .null, .null]))]) [2] rfl
  have hDc := hD.sub (ws' := [(q11, .inr (8, [.int 0, .null, .null]))]) [2] (by decide) rfl
  have hFc := va_free (wc := [(q11, .inr (8, [.int 0, .null, .null]))]) hD hS hA [2] rfl
  have hDv := hDc.self (sz := H12.size)
  have hpre := zpre (xs' := []) (av := [.ref q11, .int kd, .int 3]) hPc hK (hDc.weaken (fun _ _ _ h => h)) hZ hS hFc (fun r hr => by cases hr)
  refine va_callv (va_runI (As := [.int kd, .int 3]) (rest := [.ref q11, .ref am]) ⟨hx, hb, hml, hown, hts⟩ (k_mI3s l dC dI cI cB cR cO zk q11 kd H12.size  hkd) (cwI 2 hts gX4_make_X3_init rfl rfl rfl (hts (.initialized RX3) (List.mem_cons_of_mem _ zw_55)) (hts (.methodLink RX4 76 yX3_init) (List.mem_cons_of_mem _ zw_1165)) (hts (.instanceMethod yX3_init) (List.mem_cons_of_mem _ zw_1166)) rfl (by decide +kernel) ⟨Nat.le_of_ble_eq_true rfl, Nat.le_of_ble_eq_true rfl⟩) ⟨zblind, hpre⟩ rfl rfl hl.1 rfl (lv_room (Nat.le_of_ble_eq_true rfl)) dX4_make_68 ⟨Nat.le_of_ble_eq_true rfl, Nat.le_of_ble_eq_true rfl⟩) hS (fun q _ h => hFc q h) hFc (fun u t H13 locs ht hvm hw hB hz1 hk1 hS => ?_)
  obtain ⟨wa15, na16, ⟨hP1, hK1, hD1, hz2⟩⟩ := hB
  rw [ht] at hP1 hz2
  have hPD9 := va_join (wr := [(am, .inr (4, [.int mm, .ref (zk 0), .int 0])), (mo, .inr (9, [.int 0, .ref am, .int 0, .int 0, .int 0]))]) (w1 := [(q11, .inr (8, [.int kd, .ref wa15, .ref na16]))]) hP hD [2] [0, 1] rfl rfl (by decide) (by decide) hk1 hFc hP1 hD1
  clear hPc hDc hFc hDv hpre hP hD hP1 hK1 hD1
  obtain ⟨hP, hD⟩ := hPD9
  replace hz : s.heap.size + 3 ≤ H13.size := by omega
  clear hz2
  replace hP : va_P (dC, dI) vwCl [(am, .inr (4, [.int mm, .ref (zk 0), .int 0])), (mo, .inr (9, [.int 0, .ref am, .int 0, .int 0, .int 0])), (q11, .inr (8, [.int kd, .ref wa15, .ref na16]))] H13 := hP
  replace hD : va_D A [(am, .inr (4, [.int mm, .ref (zk 0), .int 0])), (mo, .inr (9, [.int 0, .ref am, .int 0, .int 0, .int 0])), (q11, .inr (8, [.int kd, .ref wa15, .ref na16]))] := hD
  refine W.widen (k := 3) (n := 9) (by omega) (by omega) ?_
  have hPc := hP.sub (ws' := [(am, .inr (4, [.int mm, .ref (zk 0), .int 0])), (q11, .inr (8, [.int kd, .ref wa15, .ref na16]))]) [0, 2] rfl
  have hDc := hD.sub (ws' := [(am, .inr (4, [.int mm, .ref (zk 0), .int 0])), (q11, .inr (8, [.int kd, .ref wa15, .ref na16]))]) [0, 2] (by decide) rfl
  have hFc := va_free (wc := [(am, .inr (4, [.int mm, .ref (zk 0), .int 0])), (q11, .inr (8, [.int kd, .ref wa15, .ref na16]))]) hD hS hA [0, 2] rfl
  have hDv := hDc.self (sz := H13.size)
  have hpre := zpre (xs' := []) (av := [.ref am, .ref q11]) hPc hK (hDc.weaken (fun _ _ _ h => h)) hZ hS hFc (fun r hr => by cases hr)
  refine va_calli (va_runV (As := [.ref q11]) (rest := []) ⟨hx, hb, hml, hown, hts⟩ (k_addZX3 l dC dI cI cB cR cO zk am q11 mm kd wa15 na16 H13.size ) (cwV 1 hts gX4_make_Jx4a65c_add_9ea2d rfl rfl rfl (by decide +kernel) ⟨Nat.le_of_ble_eq_true rfl, Nat.le_of_ble_eq_true rfl⟩) ⟨zblind, (zrecv_4 hK hPc (q0 := 0) rfl), hpre⟩ rfl rfl hl.1 rfl (lv_room (Nat.le_of_ble_eq_true rfl)) dX4_make_71 ⟨Nat.le_of_ble_eq_true rfl, Nat.le_of_ble_eq_true rfl⟩) hS (fun q _ h => hFc q h) hFc (fun r18 u t H17 locs ht hvm hw hB hz1 hk1 hS => ?_)
  obtain rfl : 1 = r18 := (show r18 = 1 from hw).symm
  obtain ⟨em19, mm20, ⟨hP1, hK1, hD1, hz2⟩⟩ := hB
  rw [ht] at hP1 hz2
  have hPD9 := va_join (wr := [(mo, .inr (9, [.int 0, .ref am, .int 0, .int 0, .int 0]))]) (w1 := [(am, .inr (4, [.int mm20, .ref em19, .int 1])), (q11, .inr (8, [.int kd, .ref wa15, .ref na16]))]) hP hD [0, 2] [1] rfl rfl (by decide) (by decide) hk1 hFc hP1 hD1
  clear hPc hDc hFc hDv hpre hP hD hP1 hK1 hD1
  obtain ⟨hP, hD⟩ := hPD9
  replace hz : s.heap.size + 4 ≤ H17.size := by omega
  clear hz2
  replace hP : va_P (dC, dI) vwCl [(mo, .inr (9, [.int 0, .ref am, .int 0, .int 0, .int 0])), (am, .inr (4, [.int mm20, .ref em19, .int 1])), (q11, .inr (8, [.int kd, .ref wa15, .ref na16]))] H17 := hP
  replace hD : va_D A [(mo, .inr (9, [.int 0, .ref am, .int 0, .int 0, .int 0])), (am, .inr (4, [.int mm20, .ref em19, .int 1])), (q11, .inr (8, [.int kd, .ref wa15, .ref na16]))] := hD
  refine W.widen (k := 4) (n := 19) (by omega) (by omega) ?_
  refine lv_pop hx hb dX4_make_74 rfl ?_
  refine lv_aload_n hx hb dX4_make_75 rfl (lv_at hl 0 rfl) ?_
  refine va_get (D := (dC, dI)) (ci := 9) (v := .ref am) (C := RX4) (T := TX4) (N := 5) hx hb hts hi_X4_make_X4 hown hK hP 0 rfl rfl 1 (by decide) (hts (.fieldLink RX4 10 "DeeprowsModel" "rows" "Ljava/util/ArrayList;") (List.mem_cons_of_mem _ zw_1128)) (fun _ h9 => h9) rfl dX4_make_76 ?_
  have hPc := hP.sub (ws' := [(am, .inr (4, [.int mm20, .ref em19, .int 1]))]) [1] rfl
  have hDc := hD.sub (ws' := [(am, .inr (4, [.int mm20, .ref em19, .int 1]))]) [1] (by decide) rfl
  have hFc := va_free (wc := [(am, .inr (4, [.int mm20, .ref em19, .int 1]))]) hD hS hA [1] rfl
  have hDv := hDc.self (sz := H17.size)
  have hpre := zpre (xs' := []) (av := [.ref am]) hPc hK (hDc.weaken (fun _ _ _ h => h)) hZ hS hFc (fun r hr => by cases hr)
  refine va_calli (va_runV (As := []) (rest := []) ⟨hx, hb, hml, hown, hts⟩ (k_size l dC dI cI cB cR cO zk am em19 1 (.int mm20) H17.size ) (cwV 0 hts gX4_make_Jx4a65c_size_8abf5 rfl rfl rfl (by decide +kernel) ⟨Nat.le_of_ble_eq_true rfl, Nat.le_of_ble_eq_true rfl⟩) ⟨zblind, (zrecv_4 hK hPc (q0 := 0) rfl), hpre⟩ rfl rfl hl.1 rfl (lv_room (Nat.le_of_ble_eq_true rfl)) dX4_make_79 ⟨Nat.le_of_ble_eq_true rfl, Nat.le_of_ble_eq_true rfl⟩) hS (fun q _ h => hFc q h) hFc (fun r22 u t H21 locs ht hvm hw hB hz1 hk1 hS => ?_)
  obtain rfl : 1 = r22 := (show r22 = 1 from hw).symm
  obtain ⟨hP1, hK1, hD1, hz2⟩ := hB
  rw [ht] at hP1 hz2
  have hPD9 := va_join (wr := [(mo, .inr (9, [.int 0, .ref am, .int 0, .int 0, .int 0])), (q11, .inr (8, [.int kd, .ref wa15, .ref na16]))]) (w1 := [(am, .inr (4, [.int mm20, .ref em19, .int 1]))]) hP hD [1] [0, 2] rfl rfl (by decide) (by decide) hk1 hFc hP1 hD1
  clear hPc hDc hFc hDv hpre hP hD hP1 hK1 hD1
  obtain ⟨hP, hD⟩ := hPD9
  replace hz : s.heap.size + 4 ≤ H21.size := by omega
  clear hz2
  replace hP : va_P (dC, dI) vwCl [(mo, .inr (9, [.int 0, .ref am, .int 0, .int 0, .int 0])), (q11, .inr (8, [.int kd, .ref wa15, .ref na16])), (am, .inr (4, [.int mm20, .ref em19, .int 1]))] H21 := hP
  replace hD : va_D A [(mo, .inr (9, [.int 0, .ref am, .int 0, .int 0, .int 0])), (q11, .inr (8, [.int kd, .ref wa15, .ref na16])), (am, .inr (4, [.int mm20, .ref em19, .int 1]))] := hD
  refine W.widen (k := 4) (n := 19) (by omega) (by omega) ?_
  refine lv_iconst (v := 1) hx hb dX4_make_82 (by decide) ?_
  refine lv_isub hx hb dX4_make_83 ?_
  refine lv_topi (fun v23 ev23 => ?_)
  obtain rfl : v23 = 0 := ev23.trans (by decide)
  have hP9 := hP.sub (ws' := [(mo, .inr (9, [.int 0, .ref am, .int 0, .int 0, .int 0]))]) [0] rfl
  have hD9 := hD.sub (ws' := [(mo, .inr (9, [.int 0, .ref am, .int 0, .int 0, .int 0]))]) [0] (by decide) rfl
  exact W.iret (v := 0) hx hb hr (fun t ht hW => ⟨⟨_, (), rfl, rfl, ⟨by rw [ht]; exact hP9, va_K.moved hW.alike hK, hD9, by rw [ht]; exact hz⟩⟩, hS.F ht⟩) hS.2.2 dX4_make_84

set_option maxHeartbeats 4000000 in
set_option maxRecDepth 100000 in
theorem k_mI44 (l : Launch) (dC : Nat → ClassId) (dI : Nat → Nat → Nat) (cI cB cR cO : ClassId) (zk : Nat → Nat) (a : Nat) (sz : Nat)  : Met l yX3_init wsX3_init ({ frames := 1, cells := 2, slots := 8, locals := 60 }) (va_Pc [.ref a, .int 4, .int 4] (zPre (dC, dI) (zT cI cB cR cO) zk [] [(a, .inr (8, [.int 0, .null, .null]))] sz)) (va_Qv (fun _ : Unit => True) (fun _ t => ∃ wa, ∃ na, zEnd (dC, dI) (zT cI cB cR cO) (va_A [(a, .inr (8, [.int 0, .null, .null]))] sz) [(a, .inr (8, [.int 4, .ref wa, .ref na]))] sz 2 t) (va_A [(a, .inr (8, [.int 0, .null, .null]))] sz)) 2 8 (va_A [(a, .inr (8, [.int 0, .null, .null]))] sz) := by
  refine Met.ofW (cc := cX3_init) (maxL := 4) (ret := none) (by decide) rfl ?_
  intro p e s mY args below meth c s₁ B hml hv
  obtain ⟨rfl, hsz, hP, hK, hD0, hZ⟩ := hv
  have hx := B.exec
  have hb := B.bytes
  have hr := B.returns
  have hts := atoms_spec (ws := wsX3_init) B.pre
  have hown : s.vm.findClass RX3 = some mY.cls := findClass_of_methodNamed B.named
  have hlocks := B.notSynchronized
  have hin : meth.name = "<init>" := (name_of_methodNamed B.named B.method).1
  subst hsz
  have hD := hD0.self (sz := s.heap.size)
  generalize hAe : va_A [(a, .inr (8, [.int 0, .null, .null]))] s.heap.size = A at hD hZ ⊢
  have hA : ∀ q : Nat, s.heap.size ≤ q → A q := fun q h => by rw [← hAe]; exact Or.inr h
  have hS : va_S A s.heap s.heap [] := va_S.rf
  have hz : s.heap.size + 0 ≤ s.heap.size := Nat.le_refl _
  have hl := lv_entry ([.ref a, .int 4, .int 4]) (n := 4) (Nat.le_of_ble_eq_true rfl)
  rw [lg_entry_eq]
  generalize (lg_sl ([.ref a, .int 4, .int 4]) ++ List.replicate (4 - (lg_sl ([.ref a, .int 4, .int 4])).length) Slot.unset).toArray = ls at hl ⊢
  have hl : lv_has ls 4 [(0, .ref a), (1, .int 4), (2, .int 4)] := hl
  have hP : va_P (dC, dI) vwCl [(a, .inr (8, [.int 0, .null, .null]))] s.heap := hP
  have hD : va_D A [(a, .inr (8, [.int 0, .null, .null]))] := hD
  refine lv_aload_n hx hb dX3_init_0 rfl (lv_at hl 0 rfl) ?_
  refine W.objInit hx hb hown (hts (.methodLink RX3 3 objectInit) (List.mem_cons_of_mem _ zw_1168)) (hts (.instanceMethod objectInit) (List.mem_cons_of_mem _ zw_71)) (hts (.code objectInit ⟨#[0xb1]⟩ 1 none) (List.mem_cons_of_mem _ zw_72)) rfl (by rw [hml]; exact hl.1) rfl dX3_init_1 (Nat.le_of_ble_eq_true rfl) (Nat.le_of_ble_eq_true rfl) ?_
  refine W.eq (g2 := F0 mY 4 ls []) rfl ?_
  refine lv_aload_n hx hb dX3_init_4 rfl (lv_at hl 0 rfl) ?_
  refine lv_iload_n hx hb dX3_init_5 rfl (lv_at hl 1 rfl) ?_
  refine va_putF (D := (dC, dI)) (ci := 8) (v := .int 4) (ty := .int) (C := RX3) (T := TX3) (N := 3) hx hb hts hi_X3_init_X3 tyX3 tyX3_ok nmX3 hown hK hP hD (zS0 hS) 0 rfl rfl 0 (by decide) (hts (.fieldLink RX3 9 "DeeprowsModel$Row" "kind" "I") (List.mem_cons_of_mem _ zw_1173)) (fun _ h9 => h9) rfl hin rfl (by decide +kernel) rfl rfl (Nat.le_of_ble_eq_true rfl) dX3_init_6 (fun H1 locs hP hD hS1 => ?_)
  have hz : s.heap.size + 0 ≤ H1.size := Nat.le_trans hz hS1.1
  have hS := zSS hS hS1
  replace hP : va_P (dC, dI) vwCl [(a, .inr (8, [.int 4, .null, .null]))] H1 := hP
  replace hD : va_D A [(a, .inr (8, [.int 4, .null, .null]))] := hD
  refine lv_aload_n hx hb dX3_init_9 rfl (lv_at hl 0 rfl) ?_
  refine lv_iload_n hx hb dX3_init_10 rfl (lv_at hl 2 rfl) ?_
  refine zw_newa (atype := .int) (ty := .int) (N' := 4) hx hb (hts (.arrayClass .int) (List.mem_cons_of_mem _ zw_131)) rfl (by first | exact Or.inl rfl | exact Or.inr rfl) hK hP hD hS hA 0 rfl (by decide) (by decide) (Nat.le_of_ble_eq_true rfl) (Nat.le_of_ble_eq_true rfl) (Nat.le_of_ble_eq_true rfl) dX3_init_11 hz (fun q2 H3 hP hD hS hz => ?_)
  replace hP : va_P (dC, dI) vwCl [(a, .inr (8, [.int 4, .null, .null])), (q2, .inl (cI, 4, .inl (fun _ => 0)))] H3 := hP
  replace hD : va_D A [(a, .inr (8, [.int 4, .null, .null])), (q2, .inl (cI, 4, .inl (fun _ => 0)))] := hD
  refine W.widen (k := 1) (n := 4) (by omega) (by omega) ?_
  refine va_putF (D := (dC, dI)) (ci := 8) (v := .ref q2) (ty := .array .int) (C := RX3) (T := TX3) (N := 3) hx hb hts hi_X3_init_X3 tyX3 tyX3_ok nmX3 hown hK hP hD (zS0 hS) 0 rfl rfl 1 (by decide) (hts (.fieldLink RX3 15 "DeeprowsModel$Row" "whats" "[I") (List.mem_cons_of_mem _ zw_1175)) (fun _ h9 => h9) rfl hin rfl (by decide +kernel) rfl rfl (Nat.le_of_ble_eq_true rfl) dX3_init_13 (fun H4 locs hP hD hS1 => ?_)
  have hz : s.heap.size + 1 ≤ H4.size := Nat.le_trans hz hS1.1
  have hS := zSS hS hS1
  replace hP : va_P (dC, dI) vwCl [(a, .inr (8, [.int 4, .ref q2, .null])), (q2, .inl (cI, 4, .inl (fun _ => 0)))] H4 := hP
  replace hD : va_D A [(a, .inr (8, [.int 4, .ref q2, .null])), (q2, .inl (cI, 4, .inl (fun _ => 0)))] := hD
  refine lv_aload_n hx hb dX3_init_16 rfl (lv_at hl 0 rfl) ?_
  refine lv_iload_n hx hb dX3_init_17 rfl (lv_at hl 2 rfl) ?_
  refine zw_newa (atype := .int) (ty := .int) (N' := 4) hx hb (hts (.arrayClass .int) (List.mem_cons_of_mem _ zw_131)) rfl (by first | exact Or.inl rfl | exact Or.inr rfl) hK hP hD hS hA 0 rfl (by decide) (by decide) (Nat.le_of_ble_eq_true rfl) (Nat.le_of_ble_eq_true rfl) (Nat.le_of_ble_eq_true rfl) dX3_init_18 hz (fun q5 H6 hP hD hS hz => ?_)
  replace hP : va_P (dC, dI) vwCl [(a, .inr (8, [.int 4, .ref q2, .null])), (q2, .inl (cI, 4, .inl (fun _ => 0))), (q5, .inl (cI, 4, .inl (fun _ => 0)))] H6 := hP
  replace hD : va_D A [(a, .inr (8, [.int 4, .ref q2, .null])), (q2, .inl (cI, 4, .inl (fun _ => 0))), (q5, .inl (cI, 4, .inl (fun _ => 0)))] := hD
  refine W.widen (k := 2) (n := 8) (by omega) (by omega) ?_
  refine va_putF (D := (dC, dI)) (ci := 8) (v := .ref q5) (ty := .array .int) (C := RX3) (T := TX3) (N := 3) hx hb hts hi_X3_init_X3 tyX3 tyX3_ok nmX3 hown hK hP hD (zS0 hS) 0 rfl rfl 2 (by decide) (hts (.fieldLink RX3 19 "DeeprowsModel$Row" "numbers" "[I") (List.mem_cons_of_mem _ zw_1177)) (fun _ h9 => h9) rfl hin rfl (by decide +kernel) rfl rfl (Nat.le_of_ble_eq_true rfl) dX3_init_20 (fun H7 locs hP hD hS1 => ?_)
  have hz : s.heap.size + 2 ≤ H7.size := Nat.le_trans hz hS1.1
  have hS := zSS hS hS1
  replace hP : va_P (dC, dI) vwCl [(a, .inr (8, [.int 4, .ref q2, .ref q5])), (q2, .inl (cI, 4, .inl (fun _ => 0))), (q5, .inl (cI, 4, .inl (fun _ => 0)))] H7 := hP
  replace hD : va_D A [(a, .inr (8, [.int 4, .ref q2, .ref q5])), (q2, .inl (cI, 4, .inl (fun _ => 0))), (q5, .inl (cI, 4, .inl (fun _ => 0)))] := hD
  refine lv_iconst (v := 0) hx hb dX3_init_23 (by decide) ?_
  refine lv_istore_n (lv' := [(3, .int 0), (0, .ref a), (1, .int 4), (2, .int 4)]) hx hb dX3_init_24 rfl hl (by decide) rfl (fun ls hl => ?_)
  refine lv_iload_n hx hb dX3_init_25 rfl (lv_at hl 0 rfl) ?_
  refine lv_iload_n hx hb dX3_init_26 rfl (lv_at hl 3 rfl) ?_
  refine lv_icmp_ge (tgt := 61) hx hb dX3_init_27 (by decide) (fun c9 => ?_) (fun c9 => ?_)
  · exact absurd c9 (by decide)
  refine lv_aload_n hx hb dX3_init_30 rfl (lv_at hl 1 rfl) ?_
  refine lv_iload_n hx hb dX3_init_31 rfl (lv_at hl 0 rfl) ?_
  refine lv_iload_n hx hb dX3_init_32 rfl (lv_at hl 2 rfl) ?_
  refine lv_iconst (v := 4) hx hb dX3_init_33 (by decide) ?_
  refine lv_icmp_ne (tgt := 41) hx hb dX3_init_34 (by decide) (fun c9 => ?_) (fun c9 => ?_)
  · exact absurd (by decide) c9
  refine lv_iconst (v := 0) hx hb dX3_init_37 (by decide) ?_
  refine lv_goto (tgt := 42) hx hb dX3_init_38 (by decide) ?_
  refine lv_iload_n hx hb dX3_init_42 rfl (lv_at hl 2 rfl) ?_
  refine lv_iconst (v := 4) hx hb dX3_init_43 (by decide) ?_
  refine lv_icmp_ne (tgt := 51) hx hb dX3_init_44 (by decide) (fun c9 => ?_) (fun c9 => ?_)
  · exact absurd (by decide) c9
  refine lv_iconst (v := (-1)) hx hb dX3_init_47 (by decide) ?_
  refine lv_goto (tgt := 52) hx hb dX3_init_48 (by decide) ?_
  have hPc := hP.sub (ws' := [(a, .inr (8, [.int 4, .ref q2, .ref q5])), (q2, .inl (cI, 4, .inl (fun _ => 0))), (q5, .inl (cI, 4, .inl (fun _ => 0)))]) [0, 1, 2] rfl
  have hDc := hD.sub (ws' := [(a, .inr (8, [.int 4, .ref q2, .ref q5])), (q2, .inl (cI, 4, .inl (fun _ => 0))), (q5, .inl (cI, 4, .inl (fun _ => 0)))]) [0, 1, 2] (by decide) rfl
  have hFc := va_free (wc := [(a, .inr (8, [.int 4, .ref q2, .ref q5])), (q2, .inl (cI, 4, .inl (fun _ => 0))), (q5, .inl (cI, 4, .inl (fun _ => 0)))]) hD hS hA [0, 1, 2] rfl
  have hDv := hDc.self (sz := H7.size)
  have hpre := zpre (xs' := []) (av := [.ref a, .int 0, .int 0, .int (-1)]) hPc hK (hDc.weaken (fun _ _ _ h => h)) hZ hS hFc (fun r hr => by cases hr)
  refine va_callv (va_runV (As := [.int 0, .int 0, .int (-1)]) (rest := []) ⟨hx, hb, hml, hown, hts⟩ (k_mpZ4_0 l dC dI cI cB cR cO zk a q2 q5 4 0 (-1) (fun _ => 0) (fun _ => 0) H7.size ) (cwV 3 hts gX3_init_X3_put rfl rfl rfl (by decide +kernel) ⟨Nat.le_of_ble_eq_true rfl, Nat.le_of_ble_eq_true rfl⟩) ⟨zblind, (zrecv_8 hK hPc (q0 := 0) rfl), hpre⟩ rfl rfl hl.1 rfl (lv_room (Nat.le_of_ble_eq_true rfl)) dX3_init_52 ⟨Nat.le_of_ble_eq_true rfl, Nat.le_of_ble_eq_true rfl⟩) hS (fun q _ h => hFc q h) hFc (fun u t H8 locs ht hvm hw hB hz1 hk1 hS => ?_)
  obtain ⟨hP1, hK1, hD1, hz2⟩ := hB
  rw [ht] at hP1 hz2
  have hPD9 := va_join (wr := []) (w1 := [(a, .inr (8, [.int 4, .ref q2, .ref q5])), (q2, .inl (cI, 4, .inl (upd (fun _ => 0) 0 0))), (q5, .inl (cI, 4, .inl (upd (fun _ => 0) 0 (-1))))]) hP hD [0, 1, 2] [] rfl rfl (by decide) (by decide) hk1 hFc hP1 hD1
  clear hPc hDc hFc hDv hpre hP hD hP1 hK1 hD1
  obtain ⟨hP, hD⟩ := hPD9
  replace hz : s.heap.size + 2 ≤ H8.size := by omega
  clear hz2
  replace hP : va_P (dC, dI) vwCl [(a, .inr (8, [.int 4, .ref q2, .ref q5])), (q2, .inl (cI, 4, .inl (upd (fun _ => 0) 0 0))), (q5, .inl (cI, 4, .inl (upd (fun _ => 0) 0 (-1))))] H8 := hP
  replace hD : va_D A [(a, .inr (8, [.int 4, .ref q2, .ref q5])), (q2, .inl (cI, 4, .inl (upd (fun _ => 0) 0 0))), (q5, .inl (cI, 4, .inl (upd (fun _ => 0) 0 (-1))))] := hD
  refine W.widen (k := 2) (n := 8) (by omega) (by omega) ?_
  refine lv_iinc (v := 1) (lv' := [(3, .int 1), (0, .ref a), (1, .int 4), (2, .int 4)]) hx hb dX3_init_55 hl (k := 0) rfl (by decide) (by decide) rfl (fun ls hl => ?_)
  refine lv_goto (tgt := 25) hx hb dX3_init_58 (by decide) ?_
  refine lv_iload_n hx hb dX3_init_25 rfl (lv_at hl 0 rfl) ?_
  refine lv_iload_n hx hb dX3_init_26 rfl (lv_at hl 3 rfl) ?_
  refine lv_icmp_ge (tgt := 61) hx hb dX3_init_27 (by decide) (fun c9 => ?_) (fun c9 => ?_)
  · exact absurd c9 (by decide)
  refine lv_aload_n hx hb dX3_init_30 rfl (lv_at hl 1 rfl) ?_
  refine lv_iload_n hx hb dX3_init_31 rfl (lv_at hl 0 rfl) ?_
  refine lv_iload_n hx hb dX3_init_32 rfl (lv_at hl 2 rfl) ?_
  refine lv_iconst (v := 4) hx hb dX3_init_33 (by decide) ?_
  refine lv_icmp_ne (tgt := 41) hx hb dX3_init_34 (by decide) (fun c9 => ?_) (fun c9 => ?_)
  · exact absurd (by decide) c9
  refine lv_iconst (v := 0) hx hb dX3_init_37 (by decide) ?_
  refine lv_goto (tgt := 42) hx hb dX3_init_38 (by decide) ?_
  refine lv_iload_n hx hb dX3_init_42 rfl (lv_at hl 2 rfl) ?_
  refine lv_iconst (v := 4) hx hb dX3_init_43 (by decide) ?_
  refine lv_icmp_ne (tgt := 51) hx hb dX3_init_44 (by decide) (fun c9 => ?_) (fun c9 => ?_)
  · exact absurd (by decide) c9
  refine lv_iconst (v := (-1)) hx hb dX3_init_47 (by decide) ?_
  refine lv_goto (tgt := 52) hx hb dX3_init_48 (by decide) ?_
  have hPc := hP.sub (ws' := [(a, .inr (8, [.int 4, .ref q2, .ref q5])), (q2, .inl (cI, 4, .inl (upd (fun _ => 0) 0 0))), (q5, .inl (cI, 4, .inl (upd (fun _ => 0) 0 (-1))))]) [0, 1, 2] rfl
  have hDc := hD.sub (ws' := [(a, .inr (8, [.int 4, .ref q2, .ref q5])), (q2, .inl (cI, 4, .inl (upd (fun _ => 0) 0 0))), (q5, .inl (cI, 4, .inl (upd (fun _ => 0) 0 (-1))))]) [0, 1, 2] (by decide) rfl
  have hFc := va_free (wc := [(a, .inr (8, [.int 4, .ref q2, .ref q5])), (q2, .inl (cI, 4, .inl (upd (fun _ => 0) 0 0))), (q5, .inl (cI, 4, .inl (upd (fun _ => 0) 0 (-1))))]) hD hS hA [0, 1, 2] rfl
  have hDv := hDc.self (sz := H8.size)
  have hpre := zpre (xs' := []) (av := [.ref a, .int 1, .int 0, .int (-1)]) hPc hK (hDc.weaken (fun _ _ _ h => h)) hZ hS hFc (fun r hr => by cases hr)
  refine va_callv (va_runV (As := [.int 1, .int 0, .int (-1)]) (rest := []) ⟨hx, hb, hml, hown, hts⟩ (k_mpZ4_1 l dC dI cI cB cR cO zk a q2 q5 4 0 (-1) (upd (fun _ => 0) 0 0) (upd (fun _ => 0) 0 (-1)) H8.size ) (cwV 3 hts gX3_init_X3_put rfl rfl rfl (by decide +kernel) ⟨Nat.le_of_ble_eq_true rfl, Nat.le_of_ble_eq_true rfl⟩) ⟨zblind, (zrecv_8 hK hPc (q0 := 0) rfl), hpre⟩ rfl rfl hl.1 rfl (lv_room (Nat.le_of_ble_eq_true rfl)) dX3_init_52 ⟨Nat.le_of_ble_eq_true rfl, Nat.le_of_ble_eq_true rfl⟩) hS (fun q _ h => hFc q h) hFc (fun u t H10 locs ht hvm hw hB hz1 hk1 hS => ?_)
  obtain ⟨hP1, hK1, hD1, hz2⟩ := hB
  rw [ht] at hP1 hz2
  have hPD9 := va_join (wr := []) (w1 := [(a, .inr (8, [.int 4, .ref q2, .ref q5])), (q2, .inl (cI, 4, .inl (upd (upd (fun _ => 0) 0 0) 1 0))), (q5, .inl (cI, 4, .inl (upd (upd (fun _ => 0) 0 (-1)) 1 (-1))))]) hP hD [0, 1, 2] [] rfl rfl (by decide) (by decide) hk1 hFc hP1 hD1
  clear hPc hDc hFc hDv hpre hP hD hP1 hK1 hD1
  obtain ⟨hP, hD⟩ := hPD9
  replace hz : s.heap.size + 2 ≤ H10.size := by omega
  clear hz2
  replace hP : va_P (dC, dI) vwCl [(a, .inr (8, [.int 4, .ref q2, .ref q5])), (q2, .inl (cI, 4, .inl (upd (upd (fun _ => 0) 0 0) 1 0))), (q5, .inl (cI, 4, .inl (upd (upd (fun _ => 0) 0 (-1)) 1 (-1))))] H10 := hP
  replace hD : va_D A [(a, .inr (8, [.int 4, .ref q2, .ref q5])), (q2, .inl (cI, 4, .inl (upd (upd (fun _ => 0) 0 0) 1 0))), (q5, .inl (cI, 4, .inl (upd (upd (fun _ => 0) 0 (-1)) 1 (-1))))] := hD
  refine W.widen (k := 2) (n := 8) (by omega) (by omega) ?_
  refine lv_iinc (v := 2) (lv' := [(3, .int 2), (0, .ref a), (1, .int 4), (2, .int 4)]) hx hb dX3_init_55 hl (k := 0) rfl (by decide) (by decide) rfl (fun ls hl => ?_)
  refine lv_goto (tgt := 25) hx hb dX3_init_58 (by decide) ?_
  refine lv_iload_n hx hb dX3_init_25 rfl (lv_at hl 0 rfl) ?_
  refine lv_iload_n hx hb dX3_init_26 rfl (lv_at hl 3 rfl) ?_
  refine lv_icmp_ge (tgt := 61) hx hb dX3_init_27 (by decide) (fun c9 => ?_) (fun c9 => ?_)
  · exact absurd c9 (by decide)
  refine lv_aload_n hx hb dX3_init_30 rfl (lv_at hl 1 rfl) ?_
  refine lv_iload_n hx hb dX3_init_31 rfl (lv_at hl 0 rfl) ?_
  refine lv_iload_n hx hb dX3_init_32 rfl (lv_at hl 2 rfl) ?_
  refine lv_iconst (v := 4) hx hb dX3_init_33 (by decide) ?_
  refine lv_icmp_ne (tgt := 41) hx hb dX3_init_34 (by decide) (fun c9 => ?_) (fun c9 => ?_)
  · exact absurd (by decide) c9
  refine lv_iconst (v := 0) hx hb dX3_init_37 (by decide) ?_
  refine lv_goto (tgt := 42) hx hb dX3_init_38 (by decide) ?_
  refine lv_iload_n hx hb dX3_init_42 rfl (lv_at hl 2 rfl) ?_
  refine lv_iconst (v := 4) hx hb dX3_init_43 (by decide) ?_
  refine lv_icmp_ne (tgt := 51) hx hb dX3_init_44 (by decide) (fun c9 => ?_) (fun c9 => ?_)
  · exact absurd (by decide) c9
  refine lv_iconst (v := (-1)) hx hb dX3_init_47 (by decide) ?_
  refine lv_goto (tgt := 52) hx hb dX3_init_48 (by decide) ?_
  have hPc := hP.sub (ws' := [(a, .inr (8, [.int 4, .ref q2, .ref q5])), (q2, .inl (cI, 4, .inl (upd (upd (fun _ => 0) 0 0) 1 0))), (q5, .inl (cI, 4, .inl (upd (upd (fun _ => 0) 0 (-1)) 1 (-1))))]) [0, 1, 2] rfl
  have hDc := hD.sub (ws' := [(a, .inr (8, [.int 4, .ref q2, .ref q5])), (q2, .inl (cI, 4, .inl (upd (upd (fun _ => 0) 0 0) 1 0))), (q5, .inl (cI, 4, .inl (upd (upd (fun _ => 0) 0 (-1)) 1 (-1))))]) [0, 1, 2] (by decide) rfl
  have hFc := va_free (wc := [(a, .inr (8, [.int 4, .ref q2, .ref q5])), (q2, .inl (cI, 4, .inl (upd (upd (fun _ => 0) 0 0) 1 0))), (q5, .inl (cI, 4, .inl (upd (upd (fun _ => 0) 0 (-1)) 1 (-1))))]) hD hS hA [0, 1, 2] rfl
  have hDv := hDc.self (sz := H10.size)
  have hpre := zpre (xs' := []) (av := [.ref a, .int 2, .int 0, .int (-1)]) hPc hK (hDc.weaken (fun _ _ _ h => h)) hZ hS hFc (fun r hr => by cases hr)
  refine va_callv (va_runV (As := [.int 2, .int 0, .int (-1)]) (rest := []) ⟨hx, hb, hml, hown, hts⟩ (k_mpZ4_2 l dC dI cI cB cR cO zk a q2 q5 4 0 (-1) (upd (upd (fun _ => 0) 0 0) 1 0) (upd (upd (fun _ => 0) 0 (-1)) 1 (-1)) H10.size ) (cwV 3 hts gX3_init_X3_put rfl rfl rfl (by decide +kernel) ⟨Nat.le_of_ble_eq_true rfl, Nat.le_of_ble_eq_true rfl⟩) ⟨zblind, (zrecv_8 hK hPc (q0 := 0) rfl), hpre⟩ rfl rfl hl.1 rfl (lv_room (Nat.le_of_ble_eq_true rfl)) dX3_init_52 ⟨Nat.le_of_ble_eq_true rfl, Nat.le_of_ble_eq_true rfl⟩) hS (fun q _ h => hFc q h) hFc (fun u t H12 locs ht hvm hw hB hz1 hk1 hS => ?_)
  obtain ⟨hP1, hK1, hD1, hz2⟩ := hB
  rw [ht] at hP1 hz2
  have hPD9 := va_join (wr := []) (w1 := [(a, .inr (8, [.int 4, .ref q2, .ref q5])), (q2, .inl (cI, 4, .inl (upd (upd (upd (fun _ => 0) 0 0) 1 0) 2 0))), (q5, .inl (cI, 4, .inl (upd (upd (upd (fun _ => 0) 0 (-1)) 1 (-1)) 2 (-1))))]) hP hD [0, 1, 2] [] rfl rfl (by decide) (by decide) hk1 hFc hP1 hD1
  clear hPc hDc hFc hDv hpre hP hD hP1 hK1 hD1
  obtain ⟨hP, hD⟩ := hPD9
  replace hz : s.heap.size + 2 ≤ H12.size := by omega
  clear hz2
  replace hP : va_P (dC, dI) vwCl [(a, .inr (8, [.int 4, .ref q2, .ref q5])), (q2, .inl (cI, 4, .inl (upd (upd (upd (fun _ => 0) 0 0) 1 0) 2 0))), (q5, .inl (cI, 4, .inl (upd (upd (upd (fun _ => 0) 0 (-1)) 1 (-1)) 2 (-1))))] H12 := hP
  replace hD : va_D A [(a, .inr (8, [.int 4, .ref q2, .ref q5])), (q2, .inl (cI, 4, .inl (upd (upd (upd (fun _ => 0) 0 0) 1 0) 2 0))), (q5, .inl (cI, 4, .inl (upd (upd (upd (fun _ => 0) 0 (-1)) 1 (-1)) 2 (-1))))] := hD
  refine W.widen (k := 2) (n := 8) (by omega) (by omega) ?_
  refine lv_iinc (v := 3) (lv' := [(3, .int 3), (0, .ref a), (1, .int 4), (2, .int 4)]) hx hb dX3_init_55 hl (k := 0) rfl (by decide) (by decide) rfl (fun ls hl => ?_)
  refine lv_goto (tgt := 25) hx hb dX3_init_58 (by decide) ?_
  refine lv_iload_n hx hb dX3_init_25 rfl (lv_at hl 0 rfl) ?_
  refine lv_iload_n hx hb dX3_init_26 rfl (lv_at hl 3 rfl) ?_
  refine lv_icmp_ge (tgt := 61) hx hb dX3_init_27 (by decide) (fun c9 => ?_) (fun c9 => ?_)
  · exact absurd c9 (by decide)
  refine lv_aload_n hx hb dX3_init_30 rfl (lv_at hl 1 rfl) ?_
  refine lv_iload_n hx hb dX3_init_31 rfl (lv_at hl 0 rfl) ?_
  refine lv_iload_n hx hb dX3_init_32 rfl (lv_at hl 2 rfl) ?_
  refine lv_iconst (v := 4) hx hb dX3_init_33 (by decide) ?_
  refine lv_icmp_ne (tgt := 41) hx hb dX3_init_34 (by decide) (fun c9 => ?_) (fun c9 => ?_)
  · exact absurd (by decide) c9
  refine lv_iconst (v := 0) hx hb dX3_init_37 (by decide) ?_
  refine lv_goto (tgt := 42) hx hb dX3_init_38 (by decide) ?_
  refine lv_iload_n hx hb dX3_init_42 rfl (lv_at hl 2 rfl) ?_
  refine lv_iconst (v := 4) hx hb dX3_init_43 (by decide) ?_
  refine lv_icmp_ne (tgt := 51) hx hb dX3_init_44 (by decide) (fun c9 => ?_) (fun c9 => ?_)
  · exact absurd (by decide) c9
  refine lv_iconst (v := (-1)) hx hb dX3_init_47 (by decide) ?_
  refine lv_goto (tgt := 52) hx hb dX3_init_48 (by decide) ?_
  have hPc := hP.sub (ws' := [(a, .inr (8, [.int 4, .ref q2, .ref q5])), (q2, .inl (cI, 4, .inl (upd (upd (upd (fun _ => 0) 0 0) 1 0) 2 0))), (q5, .inl (cI, 4, .inl (upd (upd (upd (fun _ => 0) 0 (-1)) 1 (-1)) 2 (-1))))]) [0, 1, 2] rfl
  have hDc := hD.sub (ws' := [(a, .inr (8, [.int 4, .ref q2, .ref q5])), (q2, .inl (cI, 4, .inl (upd (upd (upd (fun _ => 0) 0 0) 1 0) 2 0))), (q5, .inl (cI, 4, .inl (upd (upd (upd (fun _ => 0) 0 (-1)) 1 (-1)) 2 (-1))))]) [0, 1, 2] (by decide) rfl
  have hFc := va_free (wc := [(a, .inr (8, [.int 4, .ref q2, .ref q5])), (q2, .inl (cI, 4, .inl (upd (upd (upd (fun _ => 0) 0 0) 1 0) 2 0))), (q5, .inl (cI, 4, .inl (upd (upd (upd (fun _ => 0) 0 (-1)) 1 (-1)) 2 (-1))))]) hD hS hA [0, 1, 2] rfl
  have hDv := hDc.self (sz := H12.size)
  have hpre := zpre (xs' := []) (av := [.ref a, .int 3, .int 0, .int (-1)]) hPc hK (hDc.weaken (fun _ _ _ h => h)) hZ hS hFc (fun r hr => by cases hr)
  refine va_callv (va_runV (As := [.int 3, .int 0, .int (-1)]) (rest := []) ⟨hx, hb, hml, hown, hts⟩ (k_mpZ4_3 l dC dI cI cB cR cO zk a q2 q5 4 0 (-1) (upd (upd (upd (fun _ => 0) 0 0) 1 0) 2 0) (upd (upd (upd (fun _ => 0) 0 (-1)) 1 (-1)) 2 (-1)) H12.size ) (cwV 3 hts gX3_init_X3_put rfl rfl rfl (by decide +kernel) ⟨Nat.le_of_ble_eq_true rfl, Nat.le_of_ble_eq_true rfl⟩) ⟨zblind, (zrecv_8 hK hPc (q0 := 0) rfl), hpre⟩ rfl rfl hl.1 rfl (lv_room (Nat.le_of_ble_eq_true rfl)) dX3_init_52 ⟨Nat.le_of_ble_eq_true rfl, Nat.le_of_ble_eq_true rfl⟩) hS (fun q _ h => hFc q h) hFc (fun u t H14 locs ht hvm hw hB hz1 hk1 hS => ?_)
  obtain ⟨hP1, hK1, hD1, hz2⟩ := hB
  rw [ht] at hP1 hz2
  have hPD9 := va_join (wr := []) (w1 := [(a, .inr (8, [.int 4, .ref q2, .ref q5])), (q2, .inl (cI, 4, .inl (upd (upd (upd (upd (fun _ => 0) 0 0) 1 0) 2 0) 3 0))), (q5, .inl (cI, 4, .inl (upd (upd (upd (upd (fun _ => 0) 0 (-1)) 1 (-1)) 2 (-1)) 3 (-1))))]) hP hD [0, 1, 2] [] rfl rfl (by decide) (by decide) hk1 hFc hP1 hD1
  clear hPc hDc hFc hDv hpre hP hD hP1 hK1 hD1
  obtain ⟨hP, hD⟩ := hPD9
  replace hz : s.heap.size + 2 ≤ H14.size := by omega
  clear hz2
  replace hP : va_P (dC, dI) vwCl [(a, .inr (8, [.int 4, .ref q2, .ref q5])), (q2, .inl (cI, 4, .inl (upd (upd (upd (upd (fun _ => 0) 0 0) 1 0) 2 0) 3 0))), (q5, .inl (cI, 4, .inl (upd (upd (upd (upd (fun _ => 0) 0 (-1)) 1 (-1)) 2 (-1)) 3 (-1))))] H14 := hP
  replace hD : va_D A [(a, .inr (8, [.int 4, .ref q2, .ref q5])), (q2, .inl (cI, 4, .inl (upd (upd (upd (upd (fun _ => 0) 0 0) 1 0) 2 0) 3 0))), (q5, .inl (cI, 4, .inl (upd (upd (upd (upd (fun _ => 0) 0 (-1)) 1 (-1)) 2 (-1)) 3 (-1))))] := hD
  refine W.widen (k := 2) (n := 8) (by omega) (by omega) ?_
  refine lv_iinc (v := 4) (lv' := [(3, .int 4), (0, .ref a), (1, .int 4), (2, .int 4)]) hx hb dX3_init_55 hl (k := 0) rfl (by decide) (by decide) rfl (fun ls hl => ?_)
  refine lv_goto (tgt := 25) hx hb dX3_init_58 (by decide) ?_
  refine lv_iload_n hx hb dX3_init_25 rfl (lv_at hl 0 rfl) ?_
  refine lv_iload_n hx hb dX3_init_26 rfl (lv_at hl 3 rfl) ?_
  refine lv_icmp_ge (tgt := 61) hx hb dX3_init_27 (by decide) (fun c9 => ?_) (fun c9 => ?_)
  rotate_left
  · exact absurd (by decide) c9
  have hP9 := hP.sub (ws' := [(a, .inr (8, [.int 4, .ref q2, .ref q5]))]) [0] rfl
  have hD9 := hD.sub (ws' := [(a, .inr (8, [.int 4, .ref q2, .ref q5]))]) [0] (by decide) rfl
  exact W.vret hx hb hr (fun t ht hW => ⟨⟨(), rfl, trivial, ⟨_, _, ⟨by rw [ht]; exact hP9, va_K.moved hW.alike hK, hD9, by rw [ht]; exact hz⟩⟩⟩, hS.F ht⟩) hS.2.2 dX3_init_61

set_option maxHeartbeats 4000000 in
set_option maxRecDepth 100000 in
theorem k_mkM44 (l : Launch) (dC : Nat → ClassId) (dI : Nat → Nat → Nat) (cI cB cR cO : ClassId) (zk : Nat → Nat) (mo am : Nat) (th : Value) (mm : Int32) (sz : Nat)  : Met l yX4_make wsX4_make ({ frames := 5, cells := 4, slots := 21, locals := 127 }) (va_Pc [.ref mo, .int 4, .int 4] (zPre (dC, dI) (zT cI cB cR cO) zk [] [(mo, .inr (9, [th, .ref am, .int 0, .int 0, .int 0])), (am, .inr (4, [.int mm, .ref (zk 0), .int 0]))] sz)) (va_Qi (fun r (_ : Unit) => r = 0) (fun _ t => zEnd (dC, dI) (zT cI cB cR cO) (va_A [(mo, .inr (9, [th, .ref am, .int 0, .int 0, .int 0])), (am, .inr (4, [.int mm, .ref (zk 0), .int 0]))] sz) [(mo, .inr (9, [.int 0, .ref am, .int 0, .int 0, .int 0]))] sz 4 t) (va_A [(mo, .inr (9, [th, .ref am, .int 0, .int 0, .int 0])), (am, .inr (4, [.int mm, .ref (zk 0), .int 0]))] sz)) 4 21 (va_A [(mo, .inr (9, [th, .ref am, .int 0, .int 0, .int 0])), (am, .inr (4, [.int mm, .ref (zk 0), .int 0]))] sz) := by
  refine Met.ofW (cc := cX4_make) (maxL := 3) (ret := (some .int)) (by decide) rfl ?_
  intro p e s mY args below meth c s₁ B hml hv
  obtain ⟨rfl, hsz, hP, hK, hD0, hZ⟩ := hv
  have hx := B.exec
  have hb := B.bytes
  have hr := B.returns
  have hts := atoms_spec (ws := wsX4_make) B.pre
  have hown : s.vm.findClass RX4 = some mY.cls := findClass_of_methodNamed B.named
  have hlocks := B.notSynchronized
  subst hsz
  have hD := hD0.self (sz := s.heap.size)
  generalize hAe : va_A [(mo, .inr (9, [th, .ref am, .int 0, .int 0, .int 0])), (am, .inr (4, [.int mm, .ref (zk 0), .int 0]))] s.heap.size = A at hD hZ ⊢
  have hA : ∀ q : Nat, s.heap.size ≤ q → A q := fun q h => by rw [← hAe]; exact Or.inr h
  have hS : va_S A s.heap s.heap [] := va_S.rf
  have hz : s.heap.size + 0 ≤ s.heap.size := Nat.le_refl _
  have hl := lv_entry ([.ref mo, .int 4, .int 4]) (n := 3) (Nat.le_of_ble_eq_true rfl)
  rw [lg_entry_eq]
  generalize (lg_sl ([.ref mo, .int 4, .int 4]) ++ List.replicate (3 - (lg_sl ([.ref mo, .int 4, .int 4])).length) Slot.unset).toArray = ls at hl ⊢
  have hl : lv_has ls 3 [(0, .ref mo), (1, .int 4), (2, .int 4)] := hl
  have hP : va_P (dC, dI) vwCl [(mo, .inr (9, [th, .ref am, .int 0, .int 0, .int 0])), (am, .inr (4, [.int mm, .ref (zk 0), .int 0]))] s.heap := hP
  have hD : va_D A [(mo, .inr (9, [th, .ref am, .int 0, .int 0, .int 0])), (am, .inr (4, [.int mm, .ref (zk 0), .int 0]))] := hD
  refine lv_aload_n hx hb dX4_make_0 rfl (lv_at hl 0 rfl) ?_
  refine lv_iload_n hx hb dX4_make_1 rfl (lv_at hl 1 rfl) ?_
  refine lv_iconst (v := 0) hx hb dX4_make_2 (by decide) ?_
  refine lv_iconst (v := 4) hx hb dX4_make_3 (by decide) ?_
  have hPc := hP.sub (ws' := []) [] rfl
  have hDc := hD.sub (ws' := []) [] (by decide) rfl
  have hFc := va_free (wc := []) hD hS hA [] rfl
  have hDv := hDc.self (sz := s.heap.size)
  have hpre := zpre (xs' := []) (av := [.int 4, .int 0, .int 4]) hPc hK (hDc.weaken (fun _ _ _ h => h)) hZ hS hFc (fun r hr => by cases hr)
  refine va_calli (va_runS (As := [.int 4, .int 0, .int 4]) (rest := [.ref mo]) ⟨hx, hb, hml, hown, hts⟩ (k_isIn4_4 l dC dI cI cB cR cO zk  s.heap.size ) (va_cwS 3 hts gX4_make_X4_isIn rfl rfl rfl (by decide +kernel) ⟨Nat.le_of_ble_eq_true rfl, Nat.le_of_ble_eq_true rfl⟩) ⟨zblind, hpre⟩ rfl rfl hl.1 rfl (lv_room (Nat.le_of_ble_eq_true rfl)) dX4_make_4 ⟨Nat.le_of_ble_eq_true rfl, Nat.le_of_ble_eq_true rfl⟩) hS (fun q _ h => hFc q h) hFc (fun r2 u t H1 locs ht hvm hw hB hz1 hk1 hS => ?_)
  obtain rfl : 1 = r2 := (show r2 = 1 from hw).symm
  obtain ⟨hP1, hK1, hD1, hz2⟩ := hB
  rw [ht] at hP1 hz2
  have hPD9 := va_join (wr := [(mo, .inr (9, [th, .ref am, .int 0, .int 0, .int 0])), (am, .inr (4, [.int mm, .ref (zk 0), .int 0]))]) (w1 := []) hP hD [] [0, 1] rfl rfl (by decide) (by decide) hk1 hFc hP1 hD1
  clear hPc hDc hFc hDv hpre hP hD hP1 hK1 hD1
  obtain ⟨hP, hD⟩ := hPD9
  replace hz : s.heap.size + 0 ≤ H1.size := by omega
  clear hz2
  replace hP : va_P (dC, dI) vwCl [(mo, .inr (9, [th, .ref am, .int 0, .int 0, .int 0])), (am, .inr (4, [.int mm, .ref (zk 0), .int 0]))] H1 := hP
  replace hD : va_D A [(mo, .inr (9, [th, .ref am, .int 0, .int 0, .int 0])), (am, .inr (4, [.int mm, .ref (zk 0), .int 0]))] := hD
  refine W.widen (k := 0) (n := 0) (by omega) (by omega) ?_
  refine lv_if_eq (tgt := 19) hx hb dX4_make_7 (by decide) (fun c9 => ?_) (fun c9 => ?_)
  · exact absurd c9 (by decide)
  refine lv_iload_n hx hb dX4_make_10 rfl (lv_at hl 2 rfl) ?_
  refine lv_iconst (v := 0) hx hb dX4_make_11 (by decide) ?_
  refine lv_iconst (v := 4) hx hb dX4_make_12 (by decide) ?_
  have hPc := hP.sub (ws' := []) [] rfl
  have hDc := hD.sub (ws' := []) [] (by decide) rfl
  have hFc := va_free (wc := []) hD hS hA [] rfl
  have hDv := hDc.self (sz := H1.size)
  have hpre := zpre (xs' := []) (av := [.int 4, .int 0, .int 4]) hPc hK (hDc.weaken (fun _ _ _ h => h)) hZ hS hFc (fun r hr => by cases hr)
  refine va_calli (va_runS (As := [.int 4, .int 0, .int 4]) (rest := [.ref mo]) ⟨hx, hb, hml, hown, hts⟩ (k_isIn4_4 l dC dI cI cB cR cO zk  H1.size ) (va_cwS 3 hts gX4_make_X4_isIn rfl rfl rfl (by decide +kernel) ⟨Nat.le_of_ble_eq_true rfl, Nat.le_of_ble_eq_true rfl⟩) ⟨zblind, hpre⟩ rfl rfl hl.1 rfl (lv_room (Nat.le_of_ble_eq_true rfl)) dX4_make_13 ⟨Nat.le_of_ble_eq_true rfl, Nat.le_of_ble_eq_true rfl⟩) hS (fun q _ h => hFc q h) hFc (fun r4 u t H3 locs ht hvm hw hB hz1 hk1 hS => ?_)
  obtain rfl : 1 = r4 := (show r4 = 1 from hw).symm
  obtain ⟨hP1, hK1, hD1, hz2⟩ := hB
  rw [ht] at hP1 hz2
  have hPD9 := va_join (wr := [(mo, .inr (9, [th, .ref am, .int 0, .int 0, .int 0])), (am, .inr (4, [.int mm, .ref (zk 0), .int 0]))]) (w1 := []) hP hD [] [0, 1] rfl rfl (by decide) (by decide) hk1 hFc hP1 hD1
  clear hPc hDc hFc hDv hpre hP hD hP1 hK1 hD1
  obtain ⟨hP, hD⟩ := hPD9
  replace hz : s.heap.size + 0 ≤ H3.size := by omega
  clear hz2
  replace hP : va_P (dC, dI) vwCl [(mo, .inr (9, [th, .ref am, .int 0, .int 0, .int 0])), (am, .inr (4, [.int mm, .ref (zk 0), .int 0]))] H3 := hP
  replace hD : va_D A [(mo, .inr (9, [th, .ref am, .int 0, .int 0, .int 0])), (am, .inr (4, [.int mm, .ref (zk 0), .int 0]))] := hD
  refine W.widen (k := 0) (n := 0) (by omega) (by omega) ?_
  refine lv_if_ne (tgt := 23) hx hb dX4_make_16 (by decide) (fun c9 => ?_) (fun c9 => ?_)
  rotate_left
  · exact absurd c9 (by decide)
  refine lv_iconst (v := 0) hx hb dX4_make_23 (by decide) ?_
  refine lv_iconst (v := 1) hx hb dX4_make_24 (by decide) ?_
  have hPc := hP.sub (ws' := [(mo, .inr (9, [th, .ref am, .int 0, .int 0, .int 0]))]) [0] rfl
  have hDc := hD.sub (ws' := [(mo, .inr (9, [th, .ref am, .int 0, .int 0, .int 0]))]) [0] (by decide) rfl
  have hFc := va_free (wc := [(mo, .inr (9, [th, .ref am, .int 0, .int 0, .int 0]))]) hD hS hA [0] rfl
  have hDv := hDc.self (sz := H3.size)
  have hpre := zpre (xs' := []) (av := [.ref mo, .int 0, .int 1]) hPc hK (hDc.weaken (fun _ _ _ h => h)) hZ hS hFc (fun r hr => by cases hr)
  refine va_calli (va_runV (As := [.int 0, .int 1]) (rest := []) ⟨hx, hb, hml, hown, hts⟩ (k_stt0 l dC dI cI cB cR cO zk mo am th H3.size ) (cwV 2 hts gX4_make_X4_start rfl rfl rfl (by decide +kernel) ⟨Nat.le_of_ble_eq_true rfl, Nat.le_of_ble_eq_true rfl⟩) ⟨zblind, (zrecv_9 hK hPc (q0 := 0) rfl), hpre⟩ rfl rfl hl.1 rfl (lv_room (Nat.le_of_ble_eq_true rfl)) dX4_make_25 ⟨Nat.le_of_ble_eq_true rfl, Nat.le_of_ble_eq_true rfl⟩) hS (fun q _ h => hFc q h) hFc (fun r6 u t H5 locs ht hvm hw hB hz1 hk1 hS => ?_)
  obtain rfl : 0 = r6 := (show r6 = 0 from hw).symm
  obtain ⟨hP1, hK1, hD1, hz2⟩ := hB
  rw [ht] at hP1 hz2
  have hPD9 := va_join (wr := [(am, .inr (4, [.int mm, .ref (zk 0), .int 0]))]) (w1 := [(mo, .inr (9, [.int 0, .ref am, .int 0, .int 0, .int 0]))]) hP hD [0] [1] rfl rfl (by decide) (by decide) hk1 hFc hP1 hD1
  clear hPc hDc hFc hDv hpre hP hD hP1 hK1 hD1
  obtain ⟨hP, hD⟩ := hPD9
  replace hz : s.heap.size + 0 ≤ H5.size := by omega
  clear hz2
  replace hP : va_P (dC, dI) vwCl [(am, .inr (4, [.int mm, .ref (zk 0), .int 0])), (mo, .inr (9, [.int 0, .ref am, .int 0, .int 0, .int 0]))] H5 := hP
  replace hD : va_D A [(am, .inr (4, [.int mm, .ref (zk 0), .int 0])), (mo, .inr (9, [.int 0, .ref am, .int 0, .int 0, .int 0]))] := hD
  refine W.widen (k := 0) (n := 0) (by omega) (by omega) ?_
  refine lv_if_ne (tgt := 56) hx hb dX4_make_28 (by decide) (fun c9 => ?_) (fun c9 => ?_)
  · exact absurd (by decide) c9
  refine lv_aload_n hx hb dX4_make_31 rfl (lv_at hl 0 rfl) ?_
  refine lv_aload_n hx hb dX4_make_32 rfl (lv_at hl 0 rfl) ?_
  refine va_get (D := (dC, dI)) (ci := 9) (v := .ref am) (C := RX4) (T := TX4) (N := 5) hx hb hts hi_X4_make_X4 hown hK hP 1 rfl rfl 1 (by decide) (hts (.fieldLink RX4 10 "DeeprowsModel" "rows" "Ljava/util/ArrayList;") (List.mem_cons_of_mem _ zw_1128)) (fun _ h9 => h9) rfl dX4_make_33 ?_
  have hPc := hP.sub (ws' := [(am, .inr (4, [.int mm, .ref (zk 0), .int 0]))]) [0] rfl
  have hDc := hD.sub (ws' := [(am, .inr (4, [.int mm, .ref (zk 0), .int 0]))]) [0] (by decide) rfl
  have hFc := va_free (wc := [(am, .inr (4, [.int mm, .ref (zk 0), .int 0]))]) hD hS hA [0] rfl
  have hDv := hDc.self (sz := H5.size)
  have hpre := zpre (xs' := []) (av := [.ref am]) hPc hK (hDc.weaken (fun _ _ _ h => h)) hZ hS hFc (fun r hr => by cases hr)
  refine va_calli (va_runV (As := []) (rest := [.ref mo]) ⟨hx, hb, hml, hown, hts⟩ (k_size l dC dI cI cB cR cO zk am (zk 0) 0 (.int mm) H5.size ) (cwV 0 hts gX4_make_Jx4a65c_size_8abf5 rfl rfl rfl (by decide +kernel) ⟨Nat.le_of_ble_eq_true rfl, Nat.le_of_ble_eq_true rfl⟩) ⟨zblind, (zrecv_4 hK hPc (q0 := 0) rfl), hpre⟩ rfl rfl hl.1 rfl (lv_room (Nat.le_of_ble_eq_true rfl)) dX4_make_36 ⟨Nat.le_of_ble_eq_true rfl, Nat.le_of_ble_eq_true rfl⟩) hS (fun q _ h => hFc q h) hFc (fun r8 u t H7 locs ht hvm hw hB hz1 hk1 hS => ?_)
  obtain rfl : 0 = r8 := (show r8 = 0 from hw).symm
  obtain ⟨hP1, hK1, hD1, hz2⟩ := hB
  rw [ht] at hP1 hz2
  have hPD9 := va_join (wr := [(mo, .inr (9, [.int 0, .ref am, .int 0, .int 0, .int 0]))]) (w1 := [(am, .inr (4, [.int mm, .ref (zk 0), .int 0]))]) hP hD [0] [1] rfl rfl (by decide) (by decide) hk1 hFc hP1 hD1
  clear hPc hDc hFc hDv hpre hP hD hP1 hK1 hD1
  obtain ⟨hP, hD⟩ := hPD9
  replace hz : s.heap.size + 0 ≤ H7.size := by omega
  clear hz2
  replace hP : va_P (dC, dI) vwCl [(mo, .inr (9, [.int 0, .ref am, .int 0, .int 0, .int 0])), (am, .inr (4, [.int mm, .ref (zk 0), .int 0]))] H7 := hP
  replace hD : va_D A [(mo, .inr (9, [.int 0, .ref am, .int 0, .int 0, .int 0])), (am, .inr (4, [.int mm, .ref (zk 0), .int 0]))] := hD
  refine W.widen (k := 0) (n := 0) (by omega) (by omega) ?_
  refine lv_bipush (v := 12) hx hb dX4_make_39 (by decide) ?_
  refine lv_icmp_ne (tgt := 48) hx hb dX4_make_41 (by decide) (fun c9 => ?_) (fun c9 => ?_)
  rotate_left
  · exact absurd c9 (by decide)
  refine lv_iconst (v := 0) hx hb dX4_make_48 (by decide) ?_
  refine lv_iconst (v := 2) hx hb dX4_make_49 (by decide) ?_
  have hPc := hP.sub (ws' := [(mo, .inr (9, [.int 0, .ref am, .int 0, .int 0, .int 0]))]) [0] rfl
  have hDc := hD.sub (ws' := [(mo, .inr (9, [.int 0, .ref am, .int 0, .int 0, .int 0]))]) [0] (by decide) rfl
  have hFc := va_free (wc := [(mo, .inr (9, [.int 0, .ref am, .int 0, .int 0, .int 0]))]) hD hS hA [0] rfl
  have hDv := hDc.self (sz := H7.size)
  have hpre := zpre (xs' := []) (av := [.ref mo, .int 0, .int 2]) hPc hK (hDc.weaken (fun _ _ _ h => h)) hZ hS hFc (fun r hr => by cases hr)
  refine va_calli (va_runV (As := [.int 0, .int 2]) (rest := []) ⟨hx, hb, hml, hown, hts⟩ (k_ref02 l dC dI cI cB cR cO zk mo am H7.size ) (cwV 2 hts gX4_make_X4_refuse rfl rfl rfl (by decide +kernel) ⟨Nat.le_of_ble_eq_true rfl, Nat.le_of_ble_eq_true rfl⟩) ⟨zblind, (zrecv_9 hK hPc (q0 := 0) rfl), hpre⟩ rfl rfl hl.1 rfl (lv_room (Nat.le_of_ble_eq_true rfl)) dX4_make_50 ⟨Nat.le_of_ble_eq_true rfl, Nat.le_of_ble_eq_true rfl⟩) hS (fun q _ h => hFc q h) hFc (fun r10 u t H9 locs ht hvm hw hB hz1 hk1 hS => ?_)
  obtain rfl : 0 = r10 := (show r10 = 0 from hw).symm
  obtain ⟨hP1, hK1, hD1, hz2⟩ := hB
  rw [ht] at hP1 hz2
  have hPD9 := va_join (wr := [(am, .inr (4, [.int mm, .ref (zk 0), .int 0]))]) (w1 := [(mo, .inr (9, [.int 0, .ref am, .int 0, .int 0, .int 0]))]) hP hD [0] [1] rfl rfl (by decide) (by decide) hk1 hFc hP1 hD1
  clear hPc hDc hFc hDv hpre hP hD hP1 hK1 hD1
  obtain ⟨hP, hD⟩ := hPD9
  replace hz : s.heap.size + 0 ≤ H9.size := by omega
  clear hz2
  replace hP : va_P (dC, dI) vwCl [(am, .inr (4, [.int mm, .ref (zk 0), .int 0])), (mo, .inr (9, [.int 0, .ref am, .int 0, .int 0, .int 0]))] H9 := hP
  replace hD : va_D A [(am, .inr (4, [.int mm, .ref (zk 0), .int 0])), (mo, .inr (9, [.int 0, .ref am, .int 0, .int 0, .int 0]))] := hD
  refine W.widen (k := 0) (n := 0) (by omega) (by omega) ?_
  refine lv_if_eq (tgt := 58) hx hb dX4_make_53 (by decide) (fun c9 => ?_) (fun c9 => ?_)
  rotate_left
  · exact absurd (by decide) c9
  refine lv_aload_n hx hb dX4_make_58 rfl (lv_at hl 0 rfl) ?_
  refine va_get (D := (dC, dI)) (ci := 9) (v := .ref am) (C := RX4) (T := TX4) (N := 5) hx hb hts hi_X4_make_X4 hown hK hP 1 rfl rfl 1 (by decide) (hts (.fieldLink RX4 10 "DeeprowsModel" "rows" "Ljava/util/ArrayList;") (List.mem_cons_of_mem _ zw_1128)) (fun _ h9 => h9) rfl dX4_make_59 ?_
  refine zw_new (ci := 8) (fs := [.int 0, .null, .null]) (C := RX3) (T := TX3) (N := 3) hx hb hts hi_X4_make_X3 tyX3 tyX3_ok hown (hts (.classLink RX4 40 "DeeprowsModel$Row") (List.mem_cons_of_mem _ zw_1163)) (hts (.instantiable RX3 3) (List.mem_cons_of_mem _ zw_1164)) (hts (.initialized RX3) (List.mem_cons_of_mem _ zw_55)) hK hP hD hS hA rfl (fun j hj => by rcases (show j = 0 ∨ j = 1 ∨ j = 2 by omega) with rfl | rfl | rfl <;> rfl) (Nat.le_of_ble_eq_true rfl) (Nat.le_of_ble_eq_true rfl) dX4_make_62 hz (fun q11 H12 hP hD hS hz => ?_)
  replace hP : va_P (dC, dI) vwCl [(am, .inr (4, [.int mm, .ref (zk 0), .int 0])), (mo, .inr (9, [.int 0, .ref am, .int 0, .int 0, .int 0])), (q11, .inr (8, [.int 0, .null, .null]))] H12 := hP
  replace hD : va_D A [(am, .inr (4, [.int mm, .ref (zk 0), .int 0])), (mo, .inr (9, [.int 0, .ref am, .int 0, .int 0, .int 0])), (q11, .inr (8, [.int 0, .null, .null]))] := hD
  refine W.widen (k := 1) (n := 3) (by omega) (by omega) ?_
  refine lv_dup hx hb dX4_make_65 rfl ?_
  refine lv_iload_n hx hb dX4_make_66 rfl (lv_at hl 1 rfl) ?_
  refine lv_iload_n hx hb dX4_make_67 rfl (lv_at hl 2 rfl) ?_
  have hPc := hP.sub (ws' := [(q11, .inr (8, [.int 0, .null, .null]))]) [2] rfl
  have hDc := hD.sub (ws' := [(q11, .inr (8, [.int 0, .null, .null]))]) [2] (by decide) rfl
  have hFc := va_free (wc := [(q11, .inr (8, [.int 0, .null, .null]))]) hD hS hA [2] rfl
  have hDv := hDc.self (sz := H12.size)
  have hpre := zpre (xs' := []) (av := [.ref q11, .int 4, .int 4]) hPc hK (hDc.weaken (fun _ _ _ h => h)) hZ hS hFc (fun r hr => by cases hr)
  refine va_callv (va_runI (As := [.int 4, .int 4]) (rest := [.ref q11, .ref am]) ⟨hx, hb, hml, hown, hts⟩ (k_mI44 l dC dI cI cB cR cO zk q11 H12.size ) (cwI 2 hts gX4_make_X3_init rfl rfl rfl (hts (.initialized RX3) (List.mem_cons_of_mem _ zw_55)) (hts (.methodLink RX4 76 yX3_init) (List.mem_cons_of_mem _ zw_1165)) (hts (.instanceMethod yX3_init) (List.mem_cons_of_mem _ zw_1166)) rfl (by decide +kernel) ⟨Nat.le_of_ble_eq_true rfl, Nat.le_of_ble_eq_true rfl⟩) ⟨zblind, hpre⟩ rfl rfl hl.1 rfl (lv_room (Nat.le_of_ble_eq_true rfl)) dX4_make_68 ⟨Nat.le_of_ble_eq_true rfl, Nat.le_of_ble_eq_true rfl⟩) hS (fun q _ h => hFc q h) hFc (fun u t H13 locs ht hvm hw hB hz1 hk1 hS => ?_)
  obtain ⟨wa15, na16, ⟨hP1, hK1, hD1, hz2⟩⟩ := hB
  rw [ht] at hP1 hz2
  have hPD9 := va_join (wr := [(am, .inr (4, [.int mm, .ref (zk 0), .int 0])), (mo, .inr (9, [.int 0, .ref am, .int 0, .int 0, .int 0]))]) (w1 := [(q11, .inr (8, [.int 4, .ref wa15, .ref na16]))]) hP hD [2] [0, 1] rfl rfl (by decide) (by decide) hk1 hFc hP1 hD1
  clear hPc hDc hFc hDv hpre hP hD hP1 hK1 hD1
  obtain ⟨hP, hD⟩ := hPD9
  replace hz : s.heap.size + 3 ≤ H13.size := by omega
  clear hz2
  replace hP : va_P (dC, dI) vwCl [(am, .inr (4, [.int mm, .ref (zk 0), .int 0])), (mo, .inr (9, [.int 0, .ref am, .int 0, .int 0, .int 0])), (q11, .inr (8, [.int 4, .ref wa15, .ref na16]))] H13 := hP
  replace hD : va_D A [(am, .inr (4, [.int mm, .ref (zk 0), .int 0])), (mo, .inr (9, [.int 0, .ref am, .int 0, .int 0, .int 0])), (q11, .inr (8, [.int 4, .ref wa15, .ref na16]))] := hD
  refine W.widen (k := 3) (n := 11) (by omega) (by omega) ?_
  have hPc := hP.sub (ws' := [(am, .inr (4, [.int mm, .ref (zk 0), .int 0])), (q11, .inr (8, [.int 4, .ref wa15, .ref na16]))]) [0, 2] rfl
  have hDc := hD.sub (ws' := [(am, .inr (4, [.int mm, .ref (zk 0), .int 0])), (q11, .inr (8, [.int 4, .ref wa15, .ref na16]))]) [0, 2] (by decide) rfl
  have hFc := va_free (wc := [(am, .inr (4, [.int mm, .ref (zk 0), .int 0])), (q11, .inr (8, [.int 4, .ref wa15, .ref na16]))]) hD hS hA [0, 2] rfl
  have hDv := hDc.self (sz := H13.size)
  have hpre := zpre (xs' := []) (av := [.ref am, .ref q11]) hPc hK (hDc.weaken (fun _ _ _ h => h)) hZ hS hFc (fun r hr => by cases hr)
  refine va_calli (va_runV (As := [.ref q11]) (rest := []) ⟨hx, hb, hml, hown, hts⟩ (k_addZX3 l dC dI cI cB cR cO zk am q11 mm 4 wa15 na16 H13.size ) (cwV 1 hts gX4_make_Jx4a65c_add_9ea2d rfl rfl rfl (by decide +kernel) ⟨Nat.le_of_ble_eq_true rfl, Nat.le_of_ble_eq_true rfl⟩) ⟨zblind, (zrecv_4 hK hPc (q0 := 0) rfl), hpre⟩ rfl rfl hl.1 rfl (lv_room (Nat.le_of_ble_eq_true rfl)) dX4_make_71 ⟨Nat.le_of_ble_eq_true rfl, Nat.le_of_ble_eq_true rfl⟩) hS (fun q _ h => hFc q h) hFc (fun r18 u t H17 locs ht hvm hw hB hz1 hk1 hS => ?_)
  obtain rfl : 1 = r18 := (show r18 = 1 from hw).symm
  obtain ⟨em19, mm20, ⟨hP1, hK1, hD1, hz2⟩⟩ := hB
  rw [ht] at hP1 hz2
  have hPD9 := va_join (wr := [(mo, .inr (9, [.int 0, .ref am, .int 0, .int 0, .int 0]))]) (w1 := [(am, .inr (4, [.int mm20, .ref em19, .int 1])), (q11, .inr (8, [.int 4, .ref wa15, .ref na16]))]) hP hD [0, 2] [1] rfl rfl (by decide) (by decide) hk1 hFc hP1 hD1
  clear hPc hDc hFc hDv hpre hP hD hP1 hK1 hD1
  obtain ⟨hP, hD⟩ := hPD9
  replace hz : s.heap.size + 4 ≤ H17.size := by omega
  clear hz2
  replace hP : va_P (dC, dI) vwCl [(mo, .inr (9, [.int 0, .ref am, .int 0, .int 0, .int 0])), (am, .inr (4, [.int mm20, .ref em19, .int 1])), (q11, .inr (8, [.int 4, .ref wa15, .ref na16]))] H17 := hP
  replace hD : va_D A [(mo, .inr (9, [.int 0, .ref am, .int 0, .int 0, .int 0])), (am, .inr (4, [.int mm20, .ref em19, .int 1])), (q11, .inr (8, [.int 4, .ref wa15, .ref na16]))] := hD
  refine W.widen (k := 4) (n := 21) (by omega) (by omega) ?_
  refine lv_pop hx hb dX4_make_74 rfl ?_
  refine lv_aload_n hx hb dX4_make_75 rfl (lv_at hl 0 rfl) ?_
  refine va_get (D := (dC, dI)) (ci := 9) (v := .ref am) (C := RX4) (T := TX4) (N := 5) hx hb hts hi_X4_make_X4 hown hK hP 0 rfl rfl 1 (by decide) (hts (.fieldLink RX4 10 "DeeprowsModel" "rows" "Ljava/util/ArrayList;") (List.mem_cons_of_mem _ zw_1128)) (fun _ h9 => h9) rfl dX4_make_76 ?_
  have hPc := hP.sub (ws' := [(am, .inr (4, [.int mm20, .ref em19, .int 1]))]) [1] rfl
  have hDc := hD.sub (ws' := [(am, .inr (4, [.int mm20, .ref em19, .int 1]))]) [1] (by decide) rfl
  have hFc := va_free (wc := [(am, .inr (4, [.int mm20, .ref em19, .int 1]))]) hD hS hA [1] rfl
  have hDv := hDc.self (sz := H17.size)
  have hpre := zpre (xs' := []) (av := [.ref am]) hPc hK (hDc.weaken (fun _ _ _ h => h)) hZ hS hFc (fun r hr => by cases hr)
  refine va_calli (va_runV (As := []) (rest := []) ⟨hx, hb, hml, hown, hts⟩ (k_size l dC dI cI cB cR cO zk am em19 1 (.int mm20) H17.size ) (cwV 0 hts gX4_make_Jx4a65c_size_8abf5 rfl rfl rfl (by decide +kernel) ⟨Nat.le_of_ble_eq_true rfl, Nat.le_of_ble_eq_true rfl⟩) ⟨zblind, (zrecv_4 hK hPc (q0 := 0) rfl), hpre⟩ rfl rfl hl.1 rfl (lv_room (Nat.le_of_ble_eq_true rfl)) dX4_make_79 ⟨Nat.le_of_ble_eq_true rfl, Nat.le_of_ble_eq_true rfl⟩) hS (fun q _ h => hFc q h) hFc (fun r22 u t H21 locs ht hvm hw hB hz1 hk1 hS => ?_)
  obtain rfl : 1 = r22 := (show r22 = 1 from hw).symm
  obtain ⟨hP1, hK1, hD1, hz2⟩ := hB
  rw [ht] at hP1 hz2
  have hPD9 := va_join (wr := [(mo, .inr (9, [.int 0, .ref am, .int 0, .int 0, .int 0])), (q11, .inr (8, [.int 4, .ref wa15, .ref na16]))]) (w1 := [(am, .inr (4, [.int mm20, .ref em19, .int 1]))]) hP hD [1] [0, 2] rfl rfl (by decide) (by decide) hk1 hFc hP1 hD1
  clear hPc hDc hFc hDv hpre hP hD hP1 hK1 hD1
  obtain ⟨hP, hD⟩ := hPD9
  replace hz : s.heap.size + 4 ≤ H21.size := by omega
  clear hz2
  replace hP : va_P (dC, dI) vwCl [(mo, .inr (9, [.int 0, .ref am, .int 0, .int 0, .int 0])), (q11, .inr (8, [.int 4, .ref wa15, .ref na16])), (am, .inr (4, [.int mm20, .ref em19, .int 1]))] H21 := hP
  replace hD : va_D A [(mo, .inr (9, [.int 0, .ref am, .int 0, .int 0, .int 0])), (q11, .inr (8, [.int 4, .ref wa15, .ref na16])), (am, .inr (4, [.int mm20, .ref em19, .int 1]))] := hD
  refine W.widen (k := 4) (n := 21) (by omega) (by omega) ?_
  refine lv_iconst (v := 1) hx hb dX4_make_82 (by decide) ?_
  refine lv_isub hx hb dX4_make_83 ?_
  refine lv_topi (fun v23 ev23 => ?_)
  obtain rfl : v23 = 0 := ev23.trans (by decide)
  have hP9 := hP.sub (ws' := [(mo, .inr (9, [.int 0, .ref am, .int 0, .int 0, .int 0]))]) [0] rfl
  have hD9 := hD.sub (ws' := [(mo, .inr (9, [.int 0, .ref am, .int 0, .int 0, .int 0]))]) [0] (by decide) rfl
  exact W.iret (v := 0) hx hb hr (fun t ht hW => ⟨⟨_, (), rfl, rfl, ⟨by rw [ht]; exact hP9, va_K.moved hW.alike hK, hD9, by rw [ht]; exact hz⟩⟩, hS.F ht⟩) hS.2.2 dX4_make_84

set_option maxHeartbeats 4000000 in
set_option maxRecDepth 100000 in
theorem k_mI4s (l : Launch) (dC : Nat → ClassId) (dI : Nat → Nat → Nat) (cI cB cR cO : ClassId) (zk : Nat → Nat) (a : Nat) (kd : Int32) (sz : Nat) (hkd : ¬ kd = 4) : Met l yX3_init wsX3_init ({ frames := 1, cells := 2, slots := 8, locals := 60 }) (va_Pc [.ref a, .int kd, .int 4] (zPre (dC, dI) (zT cI cB cR cO) zk [] [(a, .inr (8, [.int 0, .null, .null]))] sz)) (va_Qv (fun _ : Unit => True) (fun _ t => ∃ wa, ∃ na, zEnd (dC, dI) (zT cI cB cR cO) (va_A [(a, .inr (8, [.int 0, .null, .null]))] sz) [(a, .inr (8, [.int kd, .ref wa, .ref na]))] sz 2 t) (va_A [(a, .inr (8, [.int 0, .null, .null]))] sz)) 2 8 (va_A [(a, .inr (8, [.int 0, .null, .null]))] sz) := by
  refine Met.ofW (cc := cX3_init) (maxL := 4) (ret := none) (by decide) rfl ?_
  intro p e s mY args below meth c s₁ B hml hv
  obtain ⟨rfl, hsz, hP, hK, hD0, hZ⟩ := hv
  have hx := B.exec
  have hb := B.bytes
  have hr := B.returns
  have hts := atoms_spec (ws := wsX3_init) B.pre
  have hown : s.vm.findClass RX3 = some mY.cls := findClass_of_methodNamed B.named
  have hlocks := B.notSynchronized
  have hin : meth.name = "<init>" := (name_of_methodNamed B.named B.method).1
  subst hsz
  have hD := hD0.self (sz := s.heap.size)
  generalize hAe : va_A [(a, .inr (8, [.int 0, .null, .null]))] s.heap.size = A at hD hZ ⊢
  have hA : ∀ q : Nat, s.heap.size ≤ q → A q := fun q h => by rw [← hAe]; exact Or.inr h
  have hS : va_S A s.heap s.heap [] := va_S.rf
  have hz : s.heap.size + 0 ≤ s.heap.size := Nat.le_refl _
  have hl := lv_entry ([.ref a, .int kd, .int 4]) (n := 4) (Nat.le_of_ble_eq_true rfl)
  rw [lg_entry_eq]
  generalize (lg_sl ([.ref a, .int kd, .int 4]) ++ List.replicate (4 - (lg_sl ([.ref a, .int kd, .int 4])).length) Slot.unset).toArray = ls at hl ⊢
  have hl : lv_has ls 4 [(0, .ref a), (1, .int kd), (2, .int 4)] := hl
  have hP : va_P (dC, dI) vwCl [(a, .inr (8, [.int 0, .null, .null]))] s.heap := hP
  have hD : va_D A [(a, .inr (8, [.int 0, .null, .null]))] := hD
  refine lv_aload_n hx hb dX3_init_0 rfl (lv_at hl 0 rfl) ?_
  refine W.objInit hx hb hown (hts (.methodLink RX3 3 objectInit) (List.mem_cons_of_mem _ zw_1168)) (hts (.instanceMethod objectInit) (List.mem_cons_of_mem _ zw_71)) (hts (.code objectInit ⟨#[0xb1]⟩ 1 none) (List.mem_cons_of_mem _ zw_72)) rfl (by rw [hml]; exact hl.1) rfl dX3_init_1 (Nat.le_of_ble_eq_true rfl) (Nat.le_of_ble_eq_true rfl) ?_
  refine W.eq (g2 := F0 mY 4 ls []) rfl ?_
  refine lv_aload_n hx hb dX3_init_4 rfl (lv_at hl 0 rfl) ?_
  refine lv_iload_n hx hb dX3_init_5 rfl (lv_at hl 1 rfl) ?_
  refine va_putF (D := (dC, dI)) (ci := 8) (v := .int kd) (ty := .int) (C := RX3) (T := TX3) (N := 3) hx hb hts hi_X3_init_X3 tyX3 tyX3_ok nmX3 hown hK hP hD (zS0 hS) 0 rfl rfl 0 (by decide) (hts (.fieldLink RX3 9 "DeeprowsModel$Row" "kind" "I") (List.mem_cons_of_mem _ zw_1173)) (fun _ h9 => h9) rfl hin rfl (by decide +kernel) rfl rfl (Nat.le_of_ble_eq_true rfl) dX3_init_6 (fun H1 locs hP hD hS1 => ?_)
  have hz : s.heap.size + 0 ≤ H1.size := Nat.le_trans hz hS1.1
  have hS := zSS hS hS1
  replace hP : va_P (dC, dI) vwCl [(a, .inr (8, [.int kd, .null, .null]))] H1 := hP
  replace hD : va_D A [(a, .inr (8, [.int kd, .null, .null]))] := hD
  refine lv_aload_n hx hb dX3_init_9 rfl (lv_at hl 0 rfl) ?_
  refine lv_iload_n hx hb dX3_init_10 rfl (lv_at hl 2 rfl) ?_
  refine zw_newa (atype := .int) (ty := .int) (N' := 4) hx hb (hts (.arrayClass .int) (List.mem_cons_of_mem _ zw_131)) rfl (by first | exact Or.inl rfl | exact Or.inr rfl) hK hP hD hS hA 0 rfl (by decide) (by decide) (Nat.le_of_ble_eq_true rfl) (Nat.le_of_ble_eq_true rfl) (Nat.le_of_ble_eq_true rfl) dX3_init_11 hz (fun q2 H3 hP hD hS hz => ?_)
  replace hP : va_P (dC, dI) vwCl [(a, .inr (8, [.int kd, .null, .null])), (q2, .inl (cI, 4, .inl (fun _ => 0)))] H3 := hP
  replace hD : va_D A [(a, .inr (8, [.int kd, .null, .null])), (q2, .inl (cI, 4, .inl (fun _ => 0)))] := hD
  refine W.widen (k := 1) (n := 4) (by omega) (by omega) ?_
  refine va_putF (D := (dC, dI)) (ci := 8) (v := .ref q2) (ty := .array .int) (C := RX3) (T := TX3) (N := 3) hx hb hts hi_X3_init_X3 tyX3 tyX3_ok nmX3 hown hK hP hD (zS0 hS) 0 rfl rfl 1 (by decide) (hts (.fieldLink RX3 15 "DeeprowsModel$Row" "whats" "[I") (List.mem_cons_of_mem _ zw_1175)) (fun _ h9 => h9) rfl hin rfl (by decide +kernel) rfl rfl (Nat.le_of_ble_eq_true rfl) dX3_init_13 (fun H4 locs hP hD hS1 => ?_)
  have hz : s.heap.size + 1 ≤ H4.size := Nat.le_trans hz hS1.1
  have hS := zSS hS hS1
  replace hP : va_P (dC, dI) vwCl [(a, .inr (8, [.int kd, .ref q2, .null])), (q2, .inl (cI, 4, .inl (fun _ => 0)))] H4 := hP
  replace hD : va_D A [(a, .inr (8, [.int kd, .ref q2, .null])), (q2, .inl (cI, 4, .inl (fun _ => 0)))] := hD
  refine lv_aload_n hx hb dX3_init_16 rfl (lv_at hl 0 rfl) ?_
  refine lv_iload_n hx hb dX3_init_17 rfl (lv_at hl 2 rfl) ?_
  refine zw_newa (atype := .int) (ty := .int) (N' := 4) hx hb (hts (.arrayClass .int) (List.mem_cons_of_mem _ zw_131)) rfl (by first | exact Or.inl rfl | exact Or.inr rfl) hK hP hD hS hA 0 rfl (by decide) (by decide) (Nat.le_of_ble_eq_true rfl) (Nat.le_of_ble_eq_true rfl) (Nat.le_of_ble_eq_true rfl) dX3_init_18 hz (fun q5 H6 hP hD hS hz => ?_)
  replace hP : va_P (dC, dI) vwCl [(a, .inr (8, [.int kd, .ref q2, .null])), (q2, .inl (cI, 4, .inl (fun _ => 0))), (q5, .inl (cI, 4, .inl (fun _ => 0)))] H6 := hP
  replace hD : va_D A [(a, .inr (8, [.int kd, .ref q2, .null])), (q2, .inl (cI, 4, .inl (fun _ => 0))), (q5, .inl (cI, 4, .inl (fun _ => 0)))] := hD
  refine W.widen (k := 2) (n := 8) (by omega) (by omega) ?_
  refine va_putF (D := (dC, dI)) (ci := 8) (v := .ref q5) (ty := .array .int) (C := RX3) (T := TX3) (N := 3) hx hb hts hi_X3_init_X3 tyX3 tyX3_ok nmX3 hown hK hP hD (zS0 hS) 0 rfl rfl 2 (by decide) (hts (.fieldLink RX3 19 "DeeprowsModel$Row" "numbers" "[I") (List.mem_cons_of_mem _ zw_1177)) (fun _ h9 => h9) rfl hin rfl (by decide +kernel) rfl rfl (Nat.le_of_ble_eq_true rfl) dX3_init_20 (fun H7 locs hP hD hS1 => ?_)
  have hz : s.heap.size + 2 ≤ H7.size := Nat.le_trans hz hS1.1
  have hS := zSS hS hS1
  replace hP : va_P (dC, dI) vwCl [(a, .inr (8, [.int kd, .ref q2, .ref q5])), (q2, .inl (cI, 4, .inl (fun _ => 0))), (q5, .inl (cI, 4, .inl (fun _ => 0)))] H7 := hP
  replace hD : va_D A [(a, .inr (8, [.int kd, .ref q2, .ref q5])), (q2, .inl (cI, 4, .inl (fun _ => 0))), (q5, .inl (cI, 4, .inl (fun _ => 0)))] := hD
  refine lv_iconst (v := 0) hx hb dX3_init_23 (by decide) ?_
  refine lv_istore_n (lv' := [(3, .int 0), (0, .ref a), (1, .int kd), (2, .int 4)]) hx hb dX3_init_24 rfl hl (by decide) rfl (fun ls hl => ?_)
  refine lv_iload_n hx hb dX3_init_25 rfl (lv_at hl 0 rfl) ?_
  refine lv_iload_n hx hb dX3_init_26 rfl (lv_at hl 3 rfl) ?_
  refine lv_icmp_ge (tgt := 61) hx hb dX3_init_27 (by decide) (fun c9 => ?_) (fun c9 => ?_)
  · exact absurd c9 (by decide)
  refine lv_aload_n hx hb dX3_init_30 rfl (lv_at hl 1 rfl) ?_
  refine lv_iload_n hx hb dX3_init_31 rfl (lv_at hl 0 rfl) ?_
  refine lv_iload_n hx hb dX3_init_32 rfl (lv_at hl 2 rfl) ?_
  refine lv_iconst (v := 4) hx hb dX3_init_33 (by decide) ?_
  refine lv_icmp_ne (tgt := 41) hx hb dX3_init_34 (by decide) (fun c9 => ?_) (fun c9 => ?_)
  rotate_left
  · exact absurd c9 (hkd)
  refine lv_iconst (v := 1) hx hb dX3_init_41 (by decide) ?_
  refine lv_iload_n hx hb dX3_init_42 rfl (lv_at hl 2 rfl) ?_
  refine lv_iconst (v := 4) hx hb dX3_init_43 (by decide) ?_
  refine lv_icmp_ne (tgt := 51) hx hb dX3_init_44 (by decide) (fun c9 => ?_) (fun c9 => ?_)
  rotate_left
  · exact absurd c9 (hkd)
  refine lv_iconst (v := 0) hx hb dX3_init_51 (by decide) ?_
  have hPc := hP.sub (ws' := [(a, .inr (8, [.int kd, .ref q2, .ref q5])), (q2, .inl (cI, 4, .inl (fun _ => 0))), (q5, .inl (cI, 4, .inl (fun _ => 0)))]) [0, 1, 2] rfl
  have hDc := hD.sub (ws' := [(a, .inr (8, [.int kd, .ref q2, .ref q5])), (q2, .inl (cI, 4, .inl (fun _ => 0))), (q5, .inl (cI, 4, .inl (fun _ => 0)))]) [0, 1, 2] (by decide) rfl
  have hFc := va_free (wc := [(a, .inr (8, [.int kd, .ref q2, .ref q5])), (q2, .inl (cI, 4, .inl (fun _ => 0))), (q5, .inl (cI, 4, .inl (fun _ => 0)))]) hD hS hA [0, 1, 2] rfl
  have hDv := hDc.self (sz := H7.size)
  have hpre := zpre (xs' := []) (av := [.ref a, .int 0, .int 1, .int 0]) hPc hK (hDc.weaken (fun _ _ _ h => h)) hZ hS hFc (fun r hr => by cases hr)
  refine va_callv (va_runV (As := [.int 0, .int 1, .int 0]) (rest := []) ⟨hx, hb, hml, hown, hts⟩ (k_mpZ4_0 l dC dI cI cB cR cO zk a q2 q5 kd 1 0 (fun _ => 0) (fun _ => 0) H7.size ) (cwV 3 hts gX3_init_X3_put rfl rfl rfl (by decide +kernel) ⟨Nat.le_of_ble_eq_true rfl, Nat.le_of_ble_eq_true rfl⟩) ⟨zblind, (zrecv_8 hK hPc (q0 := 0) rfl), hpre⟩ rfl rfl hl.1 rfl (lv_room (Nat.le_of_ble_eq_true rfl)) dX3_init_52 ⟨Nat.le_of_ble_eq_true rfl, Nat.le_of_ble_eq_true rfl⟩) hS (fun q _ h => hFc q h) hFc (fun u t H8 locs ht hvm hw hB hz1 hk1 hS => ?_)
  obtain ⟨hP1, hK1, hD1, hz2⟩ := hB
  rw [ht] at hP1 hz2
  have hPD9 := va_join (wr := []) (w1 := [(a, .inr (8, [.int kd, .ref q2, .ref q5])), (q2, .inl (cI, 4, .inl (upd (fun _ => 0) 0 1))), (q5, .inl (cI, 4, .inl (upd (fun _ => 0) 0 0)))]) hP hD [0, 1, 2] [] rfl rfl (by decide) (by decide) hk1 hFc hP1 hD1
  clear hPc hDc hFc hDv hpre hP hD hP1 hK1 hD1
  obtain ⟨hP, hD⟩ := hPD9
  replace hz : s.heap.size + 2 ≤ H8.size := by omega
  clear hz2
  replace hP : va_P (dC, dI) vwCl [(a, .inr (8, [.int kd, .ref q2, .ref q5])), (q2, .inl (cI, 4, .inl (upd (fun _ => 0) 0 1))), (q5, .inl (cI, 4, .inl (upd (fun _ => 0) 0 0)))] H8 := hP
  replace hD : va_D A [(a, .inr (8, [.int kd, .ref q2, .ref q5])), (q2, .inl (cI, 4, .inl (upd (fun _ => 0) 0 1))), (q5, .inl (cI, 4, .inl (upd (fun _ => 0) 0 0)))] := hD
  refine W.widen (k := 2) (n := 8) (by omega) (by omega) ?_
  refine lv_iinc (v := 1) (lv' := [(3, .int 1), (0, .ref a), (1, .int kd), (2, .int 4)]) hx hb dX3_init_55 hl (k := 0) rfl (by decide) (by decide) rfl (fun ls hl => ?_)
  refine lv_goto (tgt := 25) hx hb dX3_init_58 (by decide) ?_
  refine lv_iload_n hx hb dX3_init_25 rfl (lv_at hl 0 rfl) ?_
  refine lv_iload_n hx hb dX3_init_26 rfl (lv_at hl 3 rfl) ?_
  refine lv_icmp_ge (tgt := 61) hx hb dX3_init_27 (by decide) (fun c9 => ?_) (fun c9 => ?_)
  · exact absurd c9 (by decide)
  refine lv_aload_n hx hb dX3_init_30 rfl (lv_at hl 1 rfl) ?_
  refine lv_iload_n hx hb dX3_init_31 rfl (lv_at hl 0 rfl) ?_
  refine lv_iload_n hx hb dX3_init_32 rfl (lv_at hl 2 rfl) ?_
  refine lv_iconst (v := 4) hx hb dX3_init_33 (by decide) ?_
  refine lv_icmp_ne (tgt := 41) hx hb dX3_init_34 (by decide) (fun c9 => ?_) (fun c9 => ?_)
  rotate_left
  · exact absurd c9 (hkd)
  refine lv_iconst (v := 1) hx hb dX3_init_41 (by decide) ?_
  refine lv_iload_n hx hb dX3_init_42 rfl (lv_at hl 2 rfl) ?_
  refine lv_iconst (v := 4) hx hb dX3_init_43 (by decide) ?_
  refine lv_icmp_ne (tgt := 51) hx hb dX3_init_44 (by decide) (fun c9 => ?_) (fun c9 => ?_)
  rotate_left
  · exact absurd c9 (hkd)
  refine lv_iconst (v := 0) hx hb dX3_init_51 (by decide) ?_
  have hPc := hP.sub (ws' := [(a, .inr (8, [.int kd, .ref q2, .ref q5])), (q2, .inl (cI, 4, .inl (upd (fun _ => 0) 0 1))), (q5, .inl (cI, 4, .inl (upd (fun _ => 0) 0 0)))]) [0, 1, 2] rfl
  have hDc := hD.sub (ws' := [(a, .inr (8, [.int kd, .ref q2, .ref q5])), (q2, .inl (cI, 4, .inl (upd (fun _ => 0) 0 1))), (q5, .inl (cI, 4, .inl (upd (fun _ => 0) 0 0)))]) [0, 1, 2] (by decide) rfl
  have hFc := va_free (wc := [(a, .inr (8, [.int kd, .ref q2, .ref q5])), (q2, .inl (cI, 4, .inl (upd (fun _ => 0) 0 1))), (q5, .inl (cI, 4, .inl (upd (fun _ => 0) 0 0)))]) hD hS hA [0, 1, 2] rfl
  have hDv := hDc.self (sz := H8.size)
  have hpre := zpre (xs' := []) (av := [.ref a, .int 1, .int 1, .int 0]) hPc hK (hDc.weaken (fun _ _ _ h => h)) hZ hS hFc (fun r hr => by cases hr)
  refine va_callv (va_runV (As := [.int 1, .int 1, .int 0]) (rest := []) ⟨hx, hb, hml, hown, hts⟩ (k_mpZ4_1 l dC dI cI cB cR cO zk a q2 q5 kd 1 0 (upd (fun _ => 0) 0 1) (upd (fun _ => 0) 0 0) H8.size ) (cwV 3 hts gX3_init_X3_put rfl rfl rfl (by decide +kernel) ⟨Nat.le_of_ble_eq_true rfl, Nat.le_of_ble_eq_true rfl⟩) ⟨zblind, (zrecv_8 hK hPc (q0 := 0) rfl), hpre⟩ rfl rfl hl.1 rfl (lv_room (Nat.le_of_ble_eq_true rfl)) dX3_init_52 ⟨Nat.le_of_ble_eq_true rfl, Nat.le_of_ble_eq_true rfl⟩) hS (fun q _ h => hFc q h) hFc (fun u t H10 locs ht hvm hw hB hz1 hk1 hS => ?_)
  obtain ⟨hP1, hK1, hD1, hz2⟩ := hB
  rw [ht] at hP1 hz2
  have hPD9 := va_join (wr := []) (w1 := [(a, .inr (8, [.int kd, .ref q2, .ref q5])), (q2, .inl (cI, 4, .inl (upd (upd (fun _ => 0) 0 1) 1 1))), (q5, .inl (cI, 4, .inl (upd (upd (fun _ => 0) 0 0) 1 0)))]) hP hD [0, 1, 2] [] rfl rfl (by decide) (by decide) hk1 hFc hP1 hD1
  clear hPc hDc hFc hDv hpre hP hD hP1 hK1 hD1
  obtain ⟨hP, hD⟩ := hPD9
  replace hz : s.heap.size + 2 ≤ H10.size := by omega
  clear hz2
  replace hP : va_P (dC, dI) vwCl [(a, .inr (8, [.int kd, .ref q2, .ref q5])), (q2, .inl (cI, 4, .inl (upd (upd (fun _ => 0) 0 1) 1 1))), (q5, .inl (cI, 4, .inl (upd (upd (fun _ => 0) 0 0) 1 0)))] H10 := hP
  replace hD : va_D A [(a, .inr (8, [.int kd, .ref q2, .ref q5])), (q2, .inl (cI, 4, .inl (upd (upd (fun _ => 0) 0 1) 1 1))), (q5, .inl (cI, 4, .inl (upd (upd (fun _ => 0) 0 0) 1 0)))] := hD
  refine W.widen (k := 2) (n := 8) (by omega) (by omega) ?_
  refine lv_iinc (v := 2) (lv' := [(3, .int 2), (0, .ref a), (1, .int kd), (2, .int 4)]) hx hb dX3_init_55 hl (k := 0) rfl (by decide) (by decide) rfl (fun ls hl => ?_)
  refine lv_goto (tgt := 25) hx hb dX3_init_58 (by decide) ?_
  refine lv_iload_n hx hb dX3_init_25 rfl (lv_at hl 0 rfl) ?_
  refine lv_iload_n hx hb dX3_init_26 rfl (lv_at hl 3 rfl) ?_
  refine lv_icmp_ge (tgt := 61) hx hb dX3_init_27 (by decide) (fun c9 => ?_) (fun c9 => ?_)
  · exact absurd c9 (by decide)
  refine lv_aload_n hx hb dX3_init_30 rfl (lv_at hl 1 rfl) ?_
  refine lv_iload_n hx hb dX3_init_31 rfl (lv_at hl 0 rfl) ?_
  refine lv_iload_n hx hb dX3_init_32 rfl (lv_at hl 2 rfl) ?_
  refine lv_iconst (v := 4) hx hb dX3_init_33 (by decide) ?_
  refine lv_icmp_ne (tgt := 41) hx hb dX3_init_34 (by decide) (fun c9 => ?_) (fun c9 => ?_)
  rotate_left
  · exact absurd c9 (hkd)
  refine lv_iconst (v := 1) hx hb dX3_init_41 (by decide) ?_
  refine lv_iload_n hx hb dX3_init_42 rfl (lv_at hl 2 rfl) ?_
  refine lv_iconst (v := 4) hx hb dX3_init_43 (by decide) ?_
  refine lv_icmp_ne (tgt := 51) hx hb dX3_init_44 (by decide) (fun c9 => ?_) (fun c9 => ?_)
  rotate_left
  · exact absurd c9 (hkd)
  refine lv_iconst (v := 0) hx hb dX3_init_51 (by decide) ?_
  have hPc := hP.sub (ws' := [(a, .inr (8, [.int kd, .ref q2, .ref q5])), (q2, .inl (cI, 4, .inl (upd (upd (fun _ => 0) 0 1) 1 1))), (q5, .inl (cI, 4, .inl (upd (upd (fun _ => 0) 0 0) 1 0)))]) [0, 1, 2] rfl
  have hDc := hD.sub (ws' := [(a, .inr (8, [.int kd, .ref q2, .ref q5])), (q2, .inl (cI, 4, .inl (upd (upd (fun _ => 0) 0 1) 1 1))), (q5, .inl (cI, 4, .inl (upd (upd (fun _ => 0) 0 0) 1 0)))]) [0, 1, 2] (by decide) rfl
  have hFc := va_free (wc := [(a, .inr (8, [.int kd, .ref q2, .ref q5])), (q2, .inl (cI, 4, .inl (upd (upd (fun _ => 0) 0 1) 1 1))), (q5, .inl (cI, 4, .inl (upd (upd (fun _ => 0) 0 0) 1 0)))]) hD hS hA [0, 1, 2] rfl
  have hDv := hDc.self (sz := H10.size)
  have hpre := zpre (xs' := []) (av := [.ref a, .int 2, .int 1, .int 0]) hPc hK (hDc.weaken (fun _ _ _ h => h)) hZ hS hFc (fun r hr => by cases hr)
  refine va_callv (va_runV (As := [.int 2, .int 1, .int 0]) (rest := []) ⟨hx, hb, hml, hown, hts⟩ (k_mpZ4_2 l dC dI cI cB cR cO zk a q2 q5 kd 1 0 (upd (upd (fun _ => 0) 0 1) 1 1) (upd (upd (fun _ => 0) 0 0) 1 0) H10.size ) (cwV 3 hts gX3_init_X3_put rfl rfl rfl (by decide +kernel) ⟨Nat.le_of_ble_eq_true rfl, Nat.le_of_ble_eq_true rfl⟩) ⟨zblind, (zrecv_8 hK hPc (q0 := 0) rfl), hpre⟩ rfl rfl hl.1 rfl (lv_room (Nat.le_of_ble_eq_true rfl)) dX3_init_52 ⟨Nat.le_of_ble_eq_true rfl, Nat.le_of_ble_eq_true rfl⟩) hS (fun q _ h => hFc q h) hFc (fun u t H12 locs ht hvm hw hB hz1 hk1 hS => ?_)
  obtain ⟨hP1, hK1, hD1, hz2⟩ := hB
  rw [ht] at hP1 hz2
  have hPD9 := va_join (wr := []) (w1 := [(a, .inr (8, [.int kd, .ref q2, .ref q5])), (q2, .inl (cI, 4, .inl (upd (upd (upd (fun _ => 0) 0 1) 1 1) 2 1))), (q5, .inl (cI, 4, .inl (upd (upd (upd (fun _ => 0) 0 0) 1 0) 2 0)))]) hP hD [0, 1, 2] [] rfl rfl (by decide) (by decide) hk1 hFc hP1 hD1
  clear hPc hDc hFc hDv hpre hP hD hP1 hK1 hD1
  obtain ⟨hP, hD⟩ := hPD9
  replace hz : s.heap.size + 2 ≤ H12.size := by omega
  clear hz2
  replace hP : va_P (dC, dI) vwCl [(a, .inr (8, [.int kd, .ref q2, .ref q5])), (q2, .inl (cI, 4, .inl (upd (upd (upd (fun _ => 0) 0 1) 1 1) 2 1))), (q5, .inl (cI, 4, .inl (upd (upd (upd (fun _ => 0) 0 0) 1 0) 2 0)))] H12 := hP
  replace hD : va_D A [(a, .inr (8, [.int kd, .ref q2, .ref q5])), (q2, .inl (cI, 4, .inl (upd (upd (upd (fun _ => 0) 0 1) 1 1) 2 1))), (q5, .inl (cI, 4, .inl (upd (upd (upd (fun _ => 0) 0 0) 1 0) 2 0)))] := hD
  refine W.widen (k := 2) (n := 8) (by omega) (by omega) ?_
  refine lv_iinc (v := 3) (lv' := [(3, .int 3), (0, .ref a), (1, .int kd), (2, .int 4)]) hx hb dX3_init_55 hl (k := 0) rfl (by decide) (by decide) rfl (fun ls hl => ?_)
  refine lv_goto (tgt := 25) hx hb dX3_init_58 (by decide) ?_
  refine lv_iload_n hx hb dX3_init_25 rfl (lv_at hl 0 rfl) ?_
  refine lv_iload_n hx hb dX3_init_26 rfl (lv_at hl 3 rfl) ?_
  refine lv_icmp_ge (tgt := 61) hx hb dX3_init_27 (by decide) (fun c9 => ?_) (fun c9 => ?_)
  · exact absurd c9 (by decide)
  refine lv_aload_n hx hb dX3_init_30 rfl (lv_at hl 1 rfl) ?_
  refine lv_iload_n hx hb dX3_init_31 rfl (lv_at hl 0 rfl) ?_
  refine lv_iload_n hx hb dX3_init_32 rfl (lv_at hl 2 rfl) ?_
  refine lv_iconst (v := 4) hx hb dX3_init_33 (by decide) ?_
  refine lv_icmp_ne (tgt := 41) hx hb dX3_init_34 (by decide) (fun c9 => ?_) (fun c9 => ?_)
  rotate_left
  · exact absurd c9 (hkd)
  refine lv_iconst (v := 1) hx hb dX3_init_41 (by decide) ?_
  refine lv_iload_n hx hb dX3_init_42 rfl (lv_at hl 2 rfl) ?_
  refine lv_iconst (v := 4) hx hb dX3_init_43 (by decide) ?_
  refine lv_icmp_ne (tgt := 51) hx hb dX3_init_44 (by decide) (fun c9 => ?_) (fun c9 => ?_)
  rotate_left
  · exact absurd c9 (hkd)
  refine lv_iconst (v := 0) hx hb dX3_init_51 (by decide) ?_
  have hPc := hP.sub (ws' := [(a, .inr (8, [.int kd, .ref q2, .ref q5])), (q2, .inl (cI, 4, .inl (upd (upd (upd (fun _ => 0) 0 1) 1 1) 2 1))), (q5, .inl (cI, 4, .inl (upd (upd (upd (fun _ => 0) 0 0) 1 0) 2 0)))]) [0, 1, 2] rfl
  have hDc := hD.sub (ws' := [(a, .inr (8, [.int kd, .ref q2, .ref q5])), (q2, .inl (cI, 4, .inl (upd (upd (upd (fun _ => 0) 0 1) 1 1) 2 1))), (q5, .inl (cI, 4, .inl (upd (upd (upd (fun _ => 0) 0 0) 1 0) 2 0)))]) [0, 1, 2] (by decide) rfl
  have hFc := va_free (wc := [(a, .inr (8, [.int kd, .ref q2, .ref q5])), (q2, .inl (cI, 4, .inl (upd (upd (upd (fun _ => 0) 0 1) 1 1) 2 1))), (q5, .inl (cI, 4, .inl (upd (upd (upd (fun _ => 0) 0 0) 1 0) 2 0)))]) hD hS hA [0, 1, 2] rfl
  have hDv := hDc.self (sz := H12.size)
  have hpre := zpre (xs' := []) (av := [.ref a, .int 3, .int 1, .int 0]) hPc hK (hDc.weaken (fun _ _ _ h => h)) hZ hS hFc (fun r hr => by cases hr)
  refine va_callv (va_runV (As := [.int 3, .int 1, .int 0]) (rest := []) ⟨hx, hb, hml, hown, hts⟩ (k_mpZ4_3 l dC dI cI cB cR cO zk a q2 q5 kd 1 0 (upd (upd (upd (fun _ => 0) 0 1) 1 1) 2 1) (upd (upd (upd (fun _ => 0) 0 0) 1 0) 2 0) H12.size ) (cwV 3 hts gX3_init_X3_put rfl rfl rfl (by decide +kernel) ⟨Nat.le_of_ble_eq_true rfl, Nat.le_of_ble_eq_true rfl⟩) ⟨zblind, (zrecv_8 hK hPc (q0 := 0) rfl), hpre⟩ rfl rfl hl.1 rfl (lv_room (Nat.le_of_ble_eq_true rfl)) dX3_init_52 ⟨Nat.le_of_ble_eq_true rfl, Nat.le_of_ble_eq_true rfl⟩) hS (fun q _ h => hFc q h) hFc (fun u t H14 locs ht hvm hw hB hz1 hk1 hS => ?_)
  obtain ⟨hP1, hK1, hD1, hz2⟩ := hB
  rw [ht] at hP1 hz2
  have hPD9 := va_join (wr := []) (w1 := [(a, .inr (8, [.int kd, .ref q2, .ref q5])), (q2, .inl (cI, 4, .inl (upd (upd (upd (upd (fun _ => 0) 0 1) 1 1) 2 1) 3 1))), (q5, .inl (cI, 4, .inl (upd (upd (upd (upd (fun _ => 0) 0 0) 1 0) 2 0) 3 0)))]) hP hD [0, 1, 2] [] rfl rfl (by decide) (by decide) hk1 hFc hP1 hD1
  clear hPc hDc hFc hDv hpre hP hD hP1 hK1 hD1
  obtain ⟨hP, hD⟩ := hPD9
  replace hz : s.heap.size + 2 ≤ H14.size := by omega
  clear hz2
  replace hP : va_P (dC, dI) vwCl [(a, .inr (8, [.int kd, .ref q2, .ref q5])), (q2, .inl (cI, 4, .inl (upd (upd (upd (upd (fun _ => 0) 0 1) 1 1) 2 1) 3 1))), (q5, .inl (cI, 4, .inl (upd (upd (upd (upd (fun _ => 0) 0 0) 1 0) 2 0) 3 0)))] H14 := hP
  replace hD : va_D A [(a, .inr (8, [.int kd, .ref q2, .ref q5])), (q2, .inl (cI, 4, .inl (upd (upd (upd (upd (fun _ => 0) 0 1) 1 1) 2 1) 3 1))), (q5, .inl (cI, 4, .inl (upd (upd (upd (upd (fun _ => 0) 0 0) 1 0) 2 0) 3 0)))] := hD
  refine W.widen (k := 2) (n := 8) (by omega) (by omega) ?_
  refine lv_iinc (v := 4) (lv' := [(3, .int 4), (0, .ref a), (1, .int kd), (2, .int 4)]) hx hb dX3_init_55 hl (k := 0) rfl (by decide) (by decide) rfl (fun ls hl => ?_)
  refine lv_goto (tgt := 25) hx hb dX3_init_58 (by decide) ?_
  refine lv_iload_n hx hb dX3_init_25 rfl (lv_at hl 0 rfl) ?_
  refine lv_iload_n hx hb dX3_init_26 rfl (lv_at hl 3 rfl) ?_
  refine lv_icmp_ge (tgt := 61) hx hb dX3_init_27 (by decide) (fun c9 => ?_) (fun c9 => ?_)
  rotate_left
  · exact absurd (by decide) c9
  have hP9 := hP.sub (ws' := [(a, .inr (8, [.int kd, .ref q2, .ref q5]))]) [0] rfl
  have hD9 := hD.sub (ws' := [(a, .inr (8, [.int kd, .ref q2, .ref q5]))]) [0] (by decide) rfl
  exact W.vret hx hb hr (fun t ht hW => ⟨⟨(), rfl, trivial, ⟨_, _, ⟨by rw [ht]; exact hP9, va_K.moved hW.alike hK, hD9, by rw [ht]; exact hz⟩⟩⟩, hS.F ht⟩) hS.2.2 dX3_init_61

set_option maxHeartbeats 4000000 in
set_option maxRecDepth 100000 in
theorem k_mkM4s (l : Launch) (dC : Nat → ClassId) (dI : Nat → Nat → Nat) (cI cB cR cO : ClassId) (zk : Nat → Nat) (mo am : Nat) (th : Value) (mm : Int32) (kd : Int32) (sz : Nat) (hk0 : ¬ kd < 0) (hk4 : kd ≤ 4) (hkd : ¬ kd = 4) : Met l yX4_make wsX4_make ({ frames := 5, cells := 4, slots := 21, locals := 127 }) (va_Pc [.ref mo, .int kd, .int 4] (zPre (dC, dI) (zT cI cB cR cO) zk [] [(mo, .inr (9, [th, .ref am, .int 0, .int 0, .int 0])), (am, .inr (4, [.int mm, .ref (zk 0), .int 0]))] sz)) (va_Qi (fun r (_ : Unit) => r = 0) (fun _ t => zEnd (dC, dI) (zT cI cB cR cO) (va_A [(mo, .inr (9, [th, .ref am, .int 0, .int 0, .int 0])), (am, .inr (4, [.int mm, .ref (zk 0), .int 0]))] sz) [(mo, .inr (9, [.int 0, .ref am, .int 0, .int 0, .int 0]))] sz 4 t) (va_A [(mo, .inr (9, [th, .ref am, .int 0, .int 0, .int 0])), (am, .inr (4, [.int mm, .ref (zk 0), .int 0]))] sz)) 4 21 (va_A [(mo, .inr (9, [th, .ref am, .int 0, .int 0, .int 0])), (am, .inr (4, [.int mm, .ref (zk 0), .int 0]))] sz) := by
  refine Met.ofW (cc := cX4_make) (maxL := 3) (ret := (some .int)) (by decide) rfl ?_
  intro p e s mY args below meth c s₁ B hml hv
  obtain ⟨rfl, hsz, hP, hK, hD0, hZ⟩ := hv
  have hx := B.exec
  have hb := B.bytes
  have hr := B.returns
  have hts := atoms_spec (ws := wsX4_make) B.pre
  have hown : s.vm.findClass RX4 = some mY.cls := findClass_of_methodNamed B.named
  have hlocks := B.notSynchronized
  subst hsz
  have hD := hD0.self (sz := s.heap.size)
  generalize hAe : va_A [(mo, .inr (9, [th, .ref am, .int 0, .int 0, .int 0])), (am, .inr (4, [.int mm, .ref (zk 0), .int 0]))] s.heap.size = A at hD hZ ⊢
  have hA : ∀ q : Nat, s.heap.size ≤ q → A q := fun q h => by rw [← hAe]; exact Or.inr h
  have hS : va_S A s.heap s.heap [] := va_S.rf
  have hz : s.heap.size + 0 ≤ s.heap.size := Nat.le_refl _
  have hl := lv_entry ([.ref mo, .int kd, .int 4]) (n := 3) (Nat.le_of_ble_eq_true rfl)
  rw [lg_entry_eq]
  generalize (lg_sl ([.ref mo, .int kd, .int 4]) ++ List.replicate (3 - (lg_sl ([.ref mo, .int kd, .int 4])).length) Slot.unset).toArray = ls at hl ⊢
  have hl : lv_has ls 3 [(0, .ref mo), (1, .int kd), (2, .int 4)] := hl
  have hP : va_P (dC, dI) vwCl [(mo, .inr (9, [th, .ref am, .int 0, .int 0, .int 0])), (am, .inr (4, [.int mm, .ref (zk 0), .int 0]))] s.heap := hP
  have hD : va_D A [(mo, .inr (9, [th, .ref am, .int 0, .int 0, .int 0])), (am, .inr (4, [.int mm, .ref (zk 0), .int 0]))] := hD
  refine lv_aload_n hx hb dX4_make_0 rfl (lv_at hl 0 rfl) ?_
  refine lv_iload_n hx hb dX4_make_1 rfl (lv_at hl 1 rfl) ?_
  refine lv_iconst (v := 0) hx hb dX4_make_2 (by decide) ?_
  refine lv_iconst (v := 4) hx hb dX4_make_3 (by decide) ?_
  have hPc := hP.sub (ws' := []) [] rfl
  have hDc := hD.sub (ws' := []) [] (by decide) rfl
  have hFc := va_free (wc := []) hD hS hA [] rfl
  have hDv := hDc.self (sz := s.heap.size)
  have hpre := zpre (xs' := []) (av := [.int kd, .int 0, .int 4]) hPc hK (hDc.weaken (fun _ _ _ h => h)) hZ hS hFc (fun r hr => by cases hr)
  refine va_calli (va_runS (As := [.int kd, .int 0, .int 4]) (rest := [.ref mo]) ⟨hx, hb, hml, hown, hts⟩ (k_isInT4 l dC dI cI cB cR cO zk kd s.heap.size hk0 hk4) (va_cwS 3 hts gX4_make_X4_isIn rfl rfl rfl (by decide +kernel) ⟨Nat.le_of_ble_eq_true rfl, Nat.le_of_ble_eq_true rfl⟩) ⟨zblind, hpre⟩ rfl rfl hl.1 rfl (lv_room (Nat.le_of_ble_eq_true rfl)) dX4_make_4 ⟨Nat.le_of_ble_eq_true rfl, Nat.le_of_ble_eq_true rfl⟩) hS (fun q _ h => hFc q h) hFc (fun r2 u t H1 locs ht hvm hw hB hz1 hk1 hS => ?_)
  obtain rfl : 1 = r2 := (show r2 = 1 from hw).symm
  obtain ⟨hP1, hK1, hD1, hz2⟩ := hB
  rw [ht] at hP1 hz2
  have hPD9 := va_join (wr := [(mo, .inr (9, [th, .ref am, .int 0, .int 0, .int 0])), (am, .inr (4, [.int mm, .ref (zk 0), .int 0]))]) (w1 := []) hP hD [] [0, 1] rfl rfl (by decide) (by decide) hk1 hFc hP1 hD1
  clear hPc hDc hFc hDv hpre hP hD hP1 hK1 hD1
  obtain ⟨hP, hD⟩ := hPD9
  replace hz : s.heap.size + 0 ≤ H1.size := by omega
  clear hz2
  replace hP : va_P (dC, dI) vwCl [(mo, .inr (9, [th, .ref am, .int 0, .int 0, .int 0])), (am, .inr (4, [.int mm, .ref (zk 0), .int 0]))] H1 := hP
  replace hD : va_D A [(mo, .inr (9, [th, .ref am, .int 0, .int 0, .int 0])), (am, .inr (4, [.int mm, .ref (zk 0), .int 0]))] := hD
  refine W.widen (k := 0) (n := 0) (by omega) (by omega) ?_
  refine lv_if_eq (tgt := 19) hx hb dX4_make_7 (by decide) (fun c9 => ?_) (fun c9 => ?_)
  · exact absurd c9 (by decide)
  refine lv_iload_n hx hb dX4_make_10 rfl (lv_at hl 2 rfl) ?_
  refine lv_iconst (v := 0) hx hb dX4_make_11 (by decide) ?_
  refine lv_iconst (v := 4) hx hb dX4_make_12 (by decide) ?_
  have hPc := hP.sub (ws' := []) [] rfl
  have hDc := hD.sub (ws' := []) [] (by decide) rfl
  have hFc := va_free (wc := []) hD hS hA [] rfl
  have hDv := hDc.self (sz := H1.size)
  have hpre := zpre (xs' := []) (av := [.int 4, .int 0, .int 4]) hPc hK (hDc.weaken (fun _ _ _ h => h)) hZ hS hFc (fun r hr => by cases hr)
  refine va_calli (va_runS (As := [.int 4, .int 0, .int 4]) (rest := [.ref mo]) ⟨hx, hb, hml, hown, hts⟩ (k_isIn4_4 l dC dI cI cB cR cO zk  H1.size ) (va_cwS 3 hts gX4_make_X4_isIn rfl rfl rfl (by decide +kernel) ⟨Nat.le_of_ble_eq_true rfl, Nat.le_of_ble_eq_true rfl⟩) ⟨zblind, hpre⟩ rfl rfl hl.1 rfl (lv_room (Nat.le_of_ble_eq_true rfl)) dX4_make_13 ⟨Nat.le_of_ble_eq_true rfl, Nat.le_of_ble_eq_true rfl⟩) hS (fun q _ h => hFc q h) hFc (fun r4 u t H3 locs ht hvm hw hB hz1 hk1 hS => ?_)
  obtain rfl : 1 = r4 := (show r4 = 1 from hw).symm
  obtain ⟨hP1, hK1, hD1, hz2⟩ := hB
  rw [ht] at hP1 hz2
  have hPD9 := va_join (wr := [(mo, .inr (9, [th, .ref am, .int 0, .int 0, .int 0])), (am, .inr (4, [.int mm, .ref (zk 0), .int 0]))]) (w1 := []) hP hD [] [0, 1] rfl rfl (by decide) (by decide) hk1 hFc hP1 hD1
  clear hPc hDc hFc hDv hpre hP hD hP1 hK1 hD1
  obtain ⟨hP, hD⟩ := hPD9
  replace hz : s.heap.size + 0 ≤ H3.size := by omega
  clear hz2
  replace hP : va_P (dC, dI) vwCl [(mo, .inr (9, [th, .ref am, .int 0, .int 0, .int 0])), (am, .inr (4, [.int mm, .ref (zk 0), .int 0]))] H3 := hP
  replace hD : va_D A [(mo, .inr (9, [th, .ref am, .int 0, .int 0, .int 0])), (am, .inr (4, [.int mm, .ref (zk 0), .int 0]))] := hD
  refine W.widen (k := 0) (n := 0) (by omega) (by omega) ?_
  refine lv_if_ne (tgt := 23) hx hb dX4_make_16 (by decide) (fun c9 => ?_) (fun c9 => ?_)
  rotate_left
  · exact absurd c9 (by decide)
  refine lv_iconst (v := 0) hx hb dX4_make_23 (by decide) ?_
  refine lv_iconst (v := 1) hx hb dX4_make_24 (by decide) ?_
  have hPc := hP.sub (ws' := [(mo, .inr (9, [th, .ref am, .int 0, .int 0, .int 0]))]) [0] rfl
  have hDc := hD.sub (ws' := [(mo, .inr (9, [th, .ref am, .int 0, .int 0, .int 0]))]) [0] (by decide) rfl
  have hFc := va_free (wc := [(mo, .inr (9, [th, .ref am, .int 0, .int 0, .int 0]))]) hD hS hA [0] rfl
  have hDv := hDc.self (sz := H3.size)
  have hpre := zpre (xs' := []) (av := [.ref mo, .int 0, .int 1]) hPc hK (hDc.weaken (fun _ _ _ h => h)) hZ hS hFc (fun r hr => by cases hr)
  refine va_calli (va_runV (As := [.int 0, .int 1]) (rest := []) ⟨hx, hb, hml, hown, hts⟩ (k_stt0 l dC dI cI cB cR cO zk mo am th H3.size ) (cwV 2 hts gX4_make_X4_start rfl rfl rfl (by decide +kernel) ⟨Nat.le_of_ble_eq_true rfl, Nat.le_of_ble_eq_true rfl⟩) ⟨zblind, (zrecv_9 hK hPc (q0 := 0) rfl), hpre⟩ rfl rfl hl.1 rfl (lv_room (Nat.le_of_ble_eq_true rfl)) dX4_make_25 ⟨Nat.le_of_ble_eq_true rfl, Nat.le_of_ble_eq_true rfl⟩) hS (fun q _ h => hFc q h) hFc (fun r6 u t H5 locs ht hvm hw hB hz1 hk1 hS => ?_)
  obtain rfl : 0 = r6 := (show r6 = 0 from hw).symm
  obtain ⟨hP1, hK1, hD1, hz2⟩ := hB
  rw [ht] at hP1 hz2
  have hPD9 := va_join (wr := [(am, .inr (4, [.int mm, .ref (zk 0), .int 0]))]) (w1 := [(mo, .inr (9, [.int 0, .ref am, .int 0, .int 0, .int 0]))]) hP hD [0] [1] rfl rfl (by decide) (by decide) hk1 hFc hP1 hD1
  clear hPc hDc hFc hDv hpre hP hD hP1 hK1 hD1
  obtain ⟨hP, hD⟩ := hPD9
  replace hz : s.heap.size + 0 ≤ H5.size := by omega
  clear hz2
  replace hP : va_P (dC, dI) vwCl [(am, .inr (4, [.int mm, .ref (zk 0), .int 0])), (mo, .inr (9, [.int 0, .ref am, .int 0, .int 0, .int 0]))] H5 := hP
  replace hD : va_D A [(am, .inr (4, [.int mm, .ref (zk 0), .int 0])), (mo, .inr (9, [.int 0, .ref am, .int 0, .int 0, .int 0]))] := hD
  refine W.widen (k := 0) (n := 0) (by omega) (by omega) ?_
  refine lv_if_ne (tgt := 56) hx hb dX4_make_28 (by decide) (fun c9 => ?_) (fun c9 => ?_)
  · exact absurd (by decide) c9
  refine lv_aload_n hx hb dX4_make_31 rfl (lv_at hl 0 rfl) ?_
  refine lv_aload_n hx hb dX4_make_32 rfl (lv_at hl 0 rfl) ?_
  refine va_get (D := (dC, dI)) (ci := 9) (v := .ref am) (C := RX4) (T := TX4) (N := 5) hx hb hts hi_X4_make_X4 hown hK hP 1 rfl rfl 1 (by decide) (hts (.fieldLink RX4 10 "DeeprowsModel" "rows" "Ljava/util/ArrayList;") (List.mem_cons_of_mem _ zw_1128)) (fun _ h9 => h9) rfl dX4_make_33 ?_
  have hPc := hP.sub (ws' := [(am, .inr (4, [.int mm, .ref (zk 0), .int 0]))]) [0] rfl
  have hDc := hD.sub (ws' := [(am, .inr (4, [.int mm, .ref (zk 0), .int 0]))]) [0] (by decide) rfl
  have hFc := va_free (wc := [(am, .inr (4, [.int mm, .ref (zk 0), .int 0]))]) hD hS hA [0] rfl
  have hDv := hDc.self (sz := H5.size)
  have hpre := zpre (xs' := []) (av := [.ref am]) hPc hK (hDc.weaken (fun _ _ _ h => h)) hZ hS hFc (fun r hr => by cases hr)
  refine va_calli (va_runV (As := []) (rest := [.ref mo]) ⟨hx, hb, hml, hown, hts⟩ (k_size l dC dI cI cB cR cO zk am (zk 0) 0 (.int mm) H5.size ) (cwV 0 hts gX4_make_Jx4a65c_size_8abf5 rfl rfl rfl (by decide +kernel) ⟨Nat.le_of_ble_eq_true rfl, Nat.le_of_ble_eq_true rfl⟩) ⟨zblind, (zrecv_4 hK hPc (q0 := 0) rfl), hpre⟩ rfl rfl hl.1 rfl (lv_room (Nat.le_of_ble_eq_true rfl)) dX4_make_36 ⟨Nat.le_of_ble_eq_true rfl, Nat.le_of_ble_eq_true rfl⟩) hS (fun q _ h => hFc q h) hFc (fun r8 u t H7 locs ht hvm hw hB hz1 hk1 hS => ?_)
  obtain rfl : 0 = r8 := (show r8 = 0 from hw).symm
  obtain ⟨hP1, hK1, hD1, hz2⟩ := hB
  rw [ht] at hP1 hz2
  have hPD9 := va_join (wr := [(mo, .inr (9, [.int 0, .ref am, .int 0, .int 0, .int 0]))]) (w1 := [(am, .inr (4, [.int mm, .ref (zk 0), .int 0]))]) hP hD [0] [1] rfl rfl (by decide) (by decide) hk1 hFc hP1 hD1
  clear hPc hDc hFc hDv hpre hP hD hP1 hK1 hD1
  obtain ⟨hP, hD⟩ := hPD9
  replace hz : s.heap.size + 0 ≤ H7.size := by omega
  clear hz2
  replace hP : va_P (dC, dI) vwCl [(mo, .inr (9, [.int 0, .ref am, .int 0, .int 0, .int 0])), (am, .inr (4, [.int mm, .ref (zk 0), .int 0]))] H7 := hP
  replace hD : va_D A [(mo, .inr (9, [.int 0, .ref am, .int 0, .int 0, .int 0])), (am, .inr (4, [.int mm, .ref (zk 0), .int 0]))] := hD
  refine W.widen (k := 0) (n := 0) (by omega) (by omega) ?_
  refine lv_bipush (v := 12) hx hb dX4_make_39 (by decide) ?_
  refine lv_icmp_ne (tgt := 48) hx hb dX4_make_41 (by decide) (fun c9 => ?_) (fun c9 => ?_)
  rotate_left
  · exact absurd c9 (by decide)
  refine lv_iconst (v := 0) hx hb dX4_make_48 (by decide) ?_
  refine lv_iconst (v := 2) hx hb dX4_make_49 (by decide) ?_
  have hPc := hP.sub (ws' := [(mo, .inr (9, [.int 0, .ref am, .int 0, .int 0, .int 0]))]) [0] rfl
  have hDc := hD.sub (ws' := [(mo, .inr (9, [.int 0, .ref am, .int 0, .int 0, .int 0]))]) [0] (by decide) rfl
  have hFc := va_free (wc := [(mo, .inr (9, [.int 0, .ref am, .int 0, .int 0, .int 0]))]) hD hS hA [0] rfl
  have hDv := hDc.self (sz := H7.size)
  have hpre := zpre (xs' := []) (av := [.ref mo, .int 0, .int 2]) hPc hK (hDc.weaken (fun _ _ _ h => h)) hZ hS hFc (fun r hr => by cases hr)
  refine va_calli (va_runV (As := [.int 0, .int 2]) (rest := []) ⟨hx, hb, hml, hown, hts⟩ (k_ref02 l dC dI cI cB cR cO zk mo am H7.size ) (cwV 2 hts gX4_make_X4_refuse rfl rfl rfl (by decide +kernel) ⟨Nat.le_of_ble_eq_true rfl, Nat.le_of_ble_eq_true rfl⟩) ⟨zblind, (zrecv_9 hK hPc (q0 := 0) rfl), hpre⟩ rfl rfl hl.1 rfl (lv_room (Nat.le_of_ble_eq_true rfl)) dX4_make_50 ⟨Nat.le_of_ble_eq_true rfl, Nat.le_of_ble_eq_true rfl⟩) hS (fun q _ h => hFc q h) hFc (fun r10 u t H9 locs ht hvm hw hB hz1 hk1 hS => ?_)
  obtain rfl : 0 = r10 := (show r10 = 0 from hw).symm
  obtain ⟨hP1, hK1, hD1, hz2⟩ := hB
  rw [ht] at hP1 hz2
  have hPD9 := va_join (wr := [(am, .inr (4, [.int mm, .ref (zk 0), .int 0]))]) (w1 := [(mo, .inr (9, [.int 0, .ref am, .int 0, .int 0, .int 0]))]) hP hD [0] [1] rfl rfl (by decide) (by decide) hk1 hFc hP1 hD1
  clear hPc hDc hFc hDv hpre hP hD hP1 hK1 hD1
  obtain ⟨hP, hD⟩ := hPD9
  replace hz : s.heap.size + 0 ≤ H9.size := by omega
  clear hz2
  replace hP : va_P (dC, dI) vwCl [(am, .inr (4, [.int mm, .ref (zk 0), .int 0])), (mo, .inr (9, [.int 0, .ref am, .int 0, .int 0, .int 0]))] H9 := hP
  replace hD : va_D A [(am, .inr (4, [.int mm, .ref (zk 0), .int 0])), (mo, .inr (9, [.int 0, .ref am, .int 0, .int 0, .int 0]))] := hD
  refine W.widen (k := 0) (n := 0) (by omega) (by omega) ?_
  refine lv_if_eq (tgt := 58) hx hb dX4_make_53 (by decide) (fun c9 => ?_) (fun c9 => ?_)
  rotate_left
  · exact absurd (by decide) c9
  refine lv_aload_n hx hb dX4_make_58 rfl (lv_at hl 0 rfl) ?_
  refine va_get (D := (dC, dI)) (ci := 9) (v := .ref am) (C := RX4) (T := TX4) (N := 5) hx hb hts hi_X4_make_X4 hown hK hP 1 rfl rfl 1 (by decide) (hts (.fieldLink RX4 10 "DeeprowsModel" "rows" "Ljava/util/ArrayList;") (List.mem_cons_of_mem _ zw_1128)) (fun _ h9 => h9) rfl dX4_make_59 ?_
  refine zw_new (ci := 8) (fs := [.int 0, .null, .null]) (C := RX3) (T := TX3) (N := 3) hx hb hts hi_X4_make_X3 tyX3 tyX3_ok hown (hts (.classLink RX4 40 "DeeprowsModel$Row") (List.mem_cons_of_mem _ zw_1163)) (hts (.instantiable RX3 3) (List.mem_cons_of_mem _ zw_1164)) (hts (.initialized RX3) (List.mem_cons_of_mem _ zw_55)) hK hP hD hS hA rfl (fun j hj => by rcases (show j = 0 ∨ j = 1 ∨ j = 2 by omega) with rfl | rfl | rfl <;> rfl) (Nat.le_of_ble_eq_true rfl) (Nat.le_of_ble_eq_true rfl) dX4_make_62 hz (fun q11 H12 hP hD hS hz => ?_)
  replace hP : va_P (dC, dI) vwCl [(am, .inr (4, [.int mm, .ref (zk 0), .int 0])), (mo, .inr (9, [.int 0, .ref am, .int 0, .int 0, .int 0])), (q11, .inr (8, [.int 0, .null, .null]))] H12 := hP
  replace hD : va_D A [(am, .inr (4, [.int mm, .ref (zk 0), .int 0])), (mo, .inr (9, [.int 0, .ref am, .int 0, .int 0, .int 0])), (q11, .inr (8, [.int 0, .null, .null]))] := hD
  refine W.widen (k := 1) (n := 3) (by omega) (by omega) ?_
  refine lv_dup hx hb dX4_make_65 rfl ?_
  refine lv_iload_n hx hb dX4_make_66 rfl (lv_at hl 1 rfl) ?_
  refine lv_iload_n hx hb dX4_make_67 rfl (lv_at hl 2 rfl) ?_
  have hPc := hP.sub (ws' := [(q11, .inr (8, [.int 0, .null, .null]))]) [2] rfl
  have hDc := hD.sub (ws' := [(q11, .inr (8, [.int 0, .null, .null]))]) [2] (by decide) rfl
  have hFc := va_free (wc := [(q11, .inr (8, [.int 0, .null, .null]))]) hD hS hA [2] rfl
  have hDv := hDc.self (sz := H12.size)
  have hpre := zpre (xs' := []) (av := [.ref q11, .int kd, .int 4]) hPc hK (hDc.weaken (fun _ _ _ h => h)) hZ hS hFc (fun r hr => by cases hr)
  refine va_callv (va_runI (As := [.int kd, .int 4]) (rest := [.ref q11, .ref am]) ⟨hx, hb, hml, hown, hts⟩ (k_mI4s l dC dI cI cB cR cO zk q11 kd H12.size  hkd) (cwI 2 hts gX4_make_X3_init rfl rfl rfl (hts (.initialized RX3) (List.mem_cons_of_mem _ zw_55)) (hts (.methodLink RX4 76 yX3_init) (List.mem_cons_of_mem _ zw_1165)) (hts (.instanceMethod yX3_init) (List.mem_cons_of_mem _ zw_1166)) rfl (by decide +kernel) ⟨Nat.le_of_ble_eq_true rfl, Nat.le_of_ble_eq_true rfl⟩) ⟨zblind, hpre⟩ rfl rfl hl.1 rfl (lv_room (Nat.le_of_ble_eq_true rfl)) dX4_make_68 ⟨Nat.le_of_ble_eq_true rfl, Nat.le_of_ble_eq_true rfl⟩) hS (fun q _ h => hFc q h) hFc (fun u t H13 locs ht hvm hw hB hz1 hk1 hS => ?_)
  obtain ⟨wa15, na16, ⟨hP1, hK1, hD1, hz2⟩⟩ := hB
  rw [ht] at hP1 hz2
  have hPD9 := va_join (wr := [(am, .inr (4, [.int mm, .ref (zk 0), .int 0])), (mo, .inr (9, [.int 0, .ref am, .int 0, .int 0, .int 0]))]) (w1 := [(q11, .inr (8, [.int kd, .ref wa15, .ref na16]))]) hP hD [2] [0, 1] rfl rfl (by decide) (by decide) hk1 hFc hP1 hD1
  clear hPc hDc hFc hDv hpre hP hD hP1 hK1 hD1
  obtain ⟨hP, hD⟩ := hPD9
  replace hz : s.heap.size + 3 ≤ H13.size := by omega
  clear hz2
  replace hP : va_P (dC, dI) vwCl [(am, .inr (4, [.int mm, .ref (zk 0), .int 0])), (mo, .inr (9, [.int 0, .ref am, .int 0, .int 0, .int 0])), (q11, .inr (8, [.int kd, .ref wa15, .ref na16]))] H13 := hP
  replace hD : va_D A [(am, .inr (4, [.int mm, .ref (zk 0), .int 0])), (mo, .inr (9, [.int 0, .ref am, .int 0, .int 0, .int 0])), (q11, .inr (8, [.int kd, .ref wa15, .ref na16]))] := hD
  refine W.widen (k := 3) (n := 11) (by omega) (by omega) ?_
  have hPc := hP.sub (ws' := [(am, .inr (4, [.int mm, .ref (zk 0), .int 0])), (q11, .inr (8, [.int kd, .ref wa15, .ref na16]))]) [0, 2] rfl
  have hDc := hD.sub (ws' := [(am, .inr (4, [.int mm, .ref (zk 0), .int 0])), (q11, .inr (8, [.int kd, .ref wa15, .ref na16]))]) [0, 2] (by decide) rfl
  have hFc := va_free (wc := [(am, .inr (4, [.int mm, .ref (zk 0), .int 0])), (q11, .inr (8, [.int kd, .ref wa15, .ref na16]))]) hD hS hA [0, 2] rfl
  have hDv := hDc.self (sz := H13.size)
  have hpre := zpre (xs' := []) (av := [.ref am, .ref q11]) hPc hK (hDc.weaken (fun _ _ _ h => h)) hZ hS hFc (fun r hr => by cases hr)
  refine va_calli (va_runV (As := [.ref q11]) (rest := []) ⟨hx, hb, hml, hown, hts⟩ (k_addZX3 l dC dI cI cB cR cO zk am q11 mm kd wa15 na16 H13.size ) (cwV 1 hts gX4_make_Jx4a65c_add_9ea2d rfl rfl rfl (by decide +kernel) ⟨Nat.le_of_ble_eq_true rfl, Nat.le_of_ble_eq_true rfl⟩) ⟨zblind, (zrecv_4 hK hPc (q0 := 0) rfl), hpre⟩ rfl rfl hl.1 rfl (lv_room (Nat.le_of_ble_eq_true rfl)) dX4_make_71 ⟨Nat.le_of_ble_eq_true rfl, Nat.le_of_ble_eq_true rfl⟩) hS (fun q _ h => hFc q h) hFc (fun r18 u t H17 locs ht hvm hw hB hz1 hk1 hS => ?_)
  obtain rfl : 1 = r18 := (show r18 = 1 from hw).symm
  obtain ⟨em19, mm20, ⟨hP1, hK1, hD1, hz2⟩⟩ := hB
  rw [ht] at hP1 hz2
  have hPD9 := va_join (wr := [(mo, .inr (9, [.int 0, .ref am, .int 0, .int 0, .int 0]))]) (w1 := [(am, .inr (4, [.int mm20, .ref em19, .int 1])), (q11, .inr (8, [.int kd, .ref wa15, .ref na16]))]) hP hD [0, 2] [1] rfl rfl (by decide) (by decide) hk1 hFc hP1 hD1
  clear hPc hDc hFc hDv hpre hP hD hP1 hK1 hD1
  obtain ⟨hP, hD⟩ := hPD9
  replace hz : s.heap.size + 4 ≤ H17.size := by omega
  clear hz2
  replace hP : va_P (dC, dI) vwCl [(mo, .inr (9, [.int 0, .ref am, .int 0, .int 0, .int 0])), (am, .inr (4, [.int mm20, .ref em19, .int 1])), (q11, .inr (8, [.int kd, .ref wa15, .ref na16]))] H17 := hP
  replace hD : va_D A [(mo, .inr (9, [.int 0, .ref am, .int 0, .int 0, .int 0])), (am, .inr (4, [.int mm20, .ref em19, .int 1])), (q11, .inr (8, [.int kd, .ref wa15, .ref na16]))] := hD
  refine W.widen (k := 4) (n := 21) (by omega) (by omega) ?_
  refine lv_pop hx hb dX4_make_74 rfl ?_
  refine lv_aload_n hx hb dX4_make_75 rfl (lv_at hl 0 rfl) ?_
  refine va_get (D := (dC, dI)) (ci := 9) (v := .ref am) (C := RX4) (T := TX4) (N := 5) hx hb hts hi_X4_make_X4 hown hK hP 0 rfl rfl 1 (by decide) (hts (.fieldLink RX4 10 "DeeprowsModel" "rows" "Ljava/util/ArrayList;") (List.mem_cons_of_mem _ zw_1128)) (fun _ h9 => h9) rfl dX4_make_76 ?_
  have hPc := hP.sub (ws' := [(am, .inr (4, [.int mm20, .ref em19, .int 1]))]) [1] rfl
  have hDc := hD.sub (ws' := [(am, .inr (4, [.int mm20, .ref em19, .int 1]))]) [1] (by decide) rfl
  have hFc := va_free (wc := [(am, .inr (4, [.int mm20, .ref em19, .int 1]))]) hD hS hA [1] rfl
  have hDv := hDc.self (sz := H17.size)
  have hpre := zpre (xs' := []) (av := [.ref am]) hPc hK (hDc.weaken (fun _ _ _ h => h)) hZ hS hFc (fun r hr => by cases hr)
  refine va_calli (va_runV (As := []) (rest := []) ⟨hx, hb, hml, hown, hts⟩ (k_size l dC dI cI cB cR cO zk am em19 1 (.int mm20) H17.size ) (cwV 0 hts gX4_make_Jx4a65c_size_8abf5 rfl rfl rfl (by decide +kernel) ⟨Nat.le_of_ble_eq_true rfl, Nat.le_of_ble_eq_true rfl⟩) ⟨zblind, (zrecv_4 hK hPc (q0 := 0) rfl), hpre⟩ rfl rfl hl.1 rfl (lv_room (Nat.le_of_ble_eq_true rfl)) dX4_make_79 ⟨Nat.le_of_ble_eq_true rfl, Nat.le_of_ble_eq_true rfl⟩) hS (fun q _ h => hFc q h) hFc (fun r22 u t H21 locs ht hvm hw hB hz1 hk1 hS => ?_)
  obtain rfl : 1 = r22 := (show r22 = 1 from hw).symm
  obtain ⟨hP1, hK1, hD1, hz2⟩ := hB
  rw [ht] at hP1 hz2
  have hPD9 := va_join (wr := [(mo, .inr (9, [.int 0, .ref am, .int 0, .int 0, .int 0])), (q11, .inr (8, [.int kd, .ref wa15, .ref na16]))]) (w1 := [(am, .inr (4, [.int mm20, .ref em19, .int 1]))]) hP hD [1] [0, 2] rfl rfl (by decide) (by decide) hk1 hFc hP1 hD1
  clear hPc hDc hFc hDv hpre hP hD hP1 hK1 hD1
  obtain ⟨hP, hD⟩ := hPD9
  replace hz : s.heap.size + 4 ≤ H21.size := by omega
  clear hz2
  replace hP : va_P (dC, dI) vwCl [(mo, .inr (9, [.int 0, .ref am, .int 0, .int 0, .int 0])), (q11, .inr (8, [.int kd, .ref wa15, .ref na16])), (am, .inr (4, [.int mm20, .ref em19, .int 1]))] H21 := hP
  replace hD : va_D A [(mo, .inr (9, [.int 0, .ref am, .int 0, .int 0, .int 0])), (q11, .inr (8, [.int kd, .ref wa15, .ref na16])), (am, .inr (4, [.int mm20, .ref em19, .int 1]))] := hD
  refine W.widen (k := 4) (n := 21) (by omega) (by omega) ?_
  refine lv_iconst (v := 1) hx hb dX4_make_82 (by decide) ?_
  refine lv_isub hx hb dX4_make_83 ?_
  refine lv_topi (fun v23 ev23 => ?_)
  obtain rfl : v23 = 0 := ev23.trans (by decide)
  have hP9 := hP.sub (ws' := [(mo, .inr (9, [.int 0, .ref am, .int 0, .int 0, .int 0]))]) [0] rfl
  have hD9 := hD.sub (ws' := [(mo, .inr (9, [.int 0, .ref am, .int 0, .int 0, .int 0]))]) [0] (by decide) rfl
  exact W.iret (v := 0) hx hb hr (fun t ht hW => ⟨⟨_, (), rfl, rfl, ⟨by rw [ht]; exact hP9, va_K.moved hW.alike hK, hD9, by rw [ht]; exact hz⟩⟩, hS.F ht⟩) hS.2.2 dX4_make_84

set_option maxHeartbeats 4000000 in
set_option maxRecDepth 100000 in
theorem k_mkKM (l : Launch) (dC : Nat → ClassId) (dI : Nat → Nat → Nat) (cI cB cR cO : ClassId) (zk : Nat → Nat) (mo am : Nat) (th : Value) (mm : Int32) (kd ln : Int32) (sz : Nat) (hp : kd < 0 ∨ ¬ kd ≤ 4) : Met l yX4_make wsX4_make ({ frames := 2, cells := 0, slots := 0, locals := 44 }) (va_Pc [.ref mo, .int kd, .int ln] (zPre (dC, dI) (zT cI cB cR cO) zk [] [(mo, .inr (9, [th, .ref am, .int 0, .int 0, .int 0])), (am, .inr (4, [.int mm, .ref (zk 0), .int 0]))] sz)) (va_Qi (fun r (_ : Unit) => True) (fun _ t => zEnd (dC, dI) (zT cI cB cR cO) (va_A [(mo, .inr (9, [th, .ref am, .int 0, .int 0, .int 0])), (am, .inr (4, [.int mm, .ref (zk 0), .int 0]))] sz) [(mo, .inr (9, [.int 1, .ref am, .int 0, .int 0, .int 0])), (am, .inr (4, [.int mm, .ref (zk 0), .int 0]))] sz 0 t) (va_A [(mo, .inr (9, [th, .ref am, .int 0, .int 0, .int 0])), (am, .inr (4, [.int mm, .ref (zk 0), .int 0]))] sz)) 0 0 (va_A [(mo, .inr (9, [th, .ref am, .int 0, .int 0, .int 0])), (am, .inr (4, [.int mm, .ref (zk 0), .int 0]))] sz) := by
  refine Met.ofW (cc := cX4_make) (maxL := 3) (ret := (some .int)) (by decide) rfl ?_
  intro p e s mY args below meth c s₁ B hml hv
  obtain ⟨rfl, hsz, hP, hK, hD0, hZ⟩ := hv
  have hx := B.exec
  have hb := B.bytes
  have hr := B.returns
  have hts := atoms_spec (ws := wsX4_make) B.pre
  have hown : s.vm.findClass RX4 = some mY.cls := findClass_of_methodNamed B.named
  have hlocks := B.notSynchronized
  subst hsz
  have hD := hD0.self (sz := s.heap.size)
  generalize hAe : va_A [(mo, .inr (9, [th, .ref am, .int 0, .int 0, .int 0])), (am, .inr (4, [.int mm, .ref (zk 0), .int 0]))] s.heap.size = A at hD hZ ⊢
  have hA : ∀ q : Nat, s.heap.size ≤ q → A q := fun q h => by rw [← hAe]; exact Or.inr h
  have hS : va_S A s.heap s.heap [] := va_S.rf
  have hz : s.heap.size + 0 ≤ s.heap.size := Nat.le_refl _
  have hl := lv_entry ([.ref mo, .int kd, .int ln]) (n := 3) (Nat.le_of_ble_eq_true rfl)
  rw [lg_entry_eq]
  generalize (lg_sl ([.ref mo, .int kd, .int ln]) ++ List.replicate (3 - (lg_sl ([.ref mo, .int kd, .int ln])).length) Slot.unset).toArray = ls at hl ⊢
  have hl : lv_has ls 3 [(0, .ref mo), (1, .int kd), (2, .int ln)] := hl
  have hP : va_P (dC, dI) vwCl [(mo, .inr (9, [th, .ref am, .int 0, .int 0, .int 0])), (am, .inr (4, [.int mm, .ref (zk 0), .int 0]))] s.heap := hP
  have hD : va_D A [(mo, .inr (9, [th, .ref am, .int 0, .int 0, .int 0])), (am, .inr (4, [.int mm, .ref (zk 0), .int 0]))] := hD
  refine lv_aload_n hx hb dX4_make_0 rfl (lv_at hl 0 rfl) ?_
  refine lv_iload_n hx hb dX4_make_1 rfl (lv_at hl 1 rfl) ?_
  refine lv_iconst (v := 0) hx hb dX4_make_2 (by decide) ?_
  refine lv_iconst (v := 4) hx hb dX4_make_3 (by decide) ?_
  have hPc := hP.sub (ws' := []) [] rfl
  have hDc := hD.sub (ws' := []) [] (by decide) rfl
  have hFc := va_free (wc := []) hD hS hA [] rfl
  have hDv := hDc.self (sz := s.heap.size)
  have hpre := zpre (xs' := []) (av := [.int kd, .int 0, .int 4]) hPc hK (hDc.weaken (fun _ _ _ h => h)) hZ hS hFc (fun r hr => by cases hr)
  refine va_calli (va_runS (As := [.int kd, .int 0, .int 4]) (rest := [.ref mo]) ⟨hx, hb, hml, hown, hts⟩ (k_isInX4 l dC dI cI cB cR cO zk kd s.heap.size hp) (va_cwS 3 hts gX4_make_X4_isIn rfl rfl rfl (by decide +kernel) ⟨Nat.le_of_ble_eq_true rfl, Nat.le_of_ble_eq_true rfl⟩) ⟨zblind, hpre⟩ rfl rfl hl.1 rfl (lv_room (Nat.le_of_ble_eq_true rfl)) dX4_make_4 ⟨Nat.le_of_ble_eq_true rfl, Nat.le_of_ble_eq_true rfl⟩) hS (fun q _ h => hFc q h) hFc (fun r2 u t H1 locs ht hvm hw hB hz1 hk1 hS => ?_)
  obtain rfl : 0 = r2 := (show r2 = 0 from hw).symm
  obtain ⟨hP1, hK1, hD1, hz2⟩ := hB
  rw [ht] at hP1 hz2
  have hPD9 := va_join (wr := [(mo, .inr (9, [th, .ref am, .int 0, .int 0, .int 0])), (am, .inr (4, [.int mm, .ref (zk 0), .int 0]))]) (w1 := []) hP hD [] [0, 1] rfl rfl (by decide) (by decide) hk1 hFc hP1 hD1
  clear hPc hDc hFc hDv hpre hP hD hP1 hK1 hD1
  obtain ⟨hP, hD⟩ := hPD9
  replace hz : s.heap.size + 0 ≤ H1.size := by omega
  clear hz2
  replace hP : va_P (dC, dI) vwCl [(mo, .inr (9, [th, .ref am, .int 0, .int 0, .int 0])), (am, .inr (4, [.int mm, .ref (zk 0), .int 0]))] H1 := hP
  replace hD : va_D A [(mo, .inr (9, [th, .ref am, .int 0, .int 0, .int 0])), (am, .inr (4, [.int mm, .ref (zk 0), .int 0]))] := hD
  refine W.widen (k := 0) (n := 0) (by omega) (by omega) ?_
  refine lv_if_eq (tgt := 19) hx hb dX4_make_7 (by decide) (fun c9 => ?_) (fun c9 => ?_)
  rotate_left
  · exact absurd (by decide) c9
  refine lv_iconst (v := 1) hx hb dX4_make_19 (by decide) ?_
  refine lv_goto (tgt := 24) hx hb dX4_make_20 (by decide) ?_
  refine lv_iconst (v := 1) hx hb dX4_make_24 (by decide) ?_
  have hPc := hP.sub (ws' := [(mo, .inr (9, [th, .ref am, .int 0, .int 0, .int 0]))]) [0] rfl
  have hDc := hD.sub (ws' := [(mo, .inr (9, [th, .ref am, .int 0, .int 0, .int 0]))]) [0] (by decide) rfl
  have hFc := va_free (wc := [(mo, .inr (9, [th, .ref am, .int 0, .int 0, .int 0]))]) hD hS hA [0] rfl
  have hDv := hDc.self (sz := H1.size)
  have hpre := zpre (xs' := []) (av := [.ref mo, .int 1, .int 1]) hPc hK (hDc.weaken (fun _ _ _ h => h)) hZ hS hFc (fun r hr => by cases hr)
  refine va_calli (va_runV (As := [.int 1, .int 1]) (rest := []) ⟨hx, hb, hml, hown, hts⟩ (k_sttz l dC dI cI cB cR cO zk mo am th (.int 0) (.int 0) (.int 0) H1.size ) (cwV 2 hts gX4_make_X4_start rfl rfl rfl (by decide +kernel) ⟨Nat.le_of_ble_eq_true rfl, Nat.le_of_ble_eq_true rfl⟩) ⟨zblind, (zrecv_9 hK hPc (q0 := 0) rfl), hpre⟩ rfl rfl hl.1 rfl (lv_room (Nat.le_of_ble_eq_true rfl)) dX4_make_25 ⟨Nat.le_of_ble_eq_true rfl, Nat.le_of_ble_eq_true rfl⟩) hS (fun q _ h => hFc q h) hFc (fun r4 u t H3 locs ht hvm hw hB hz1 hk1 hS => ?_)
  obtain rfl : 1 = r4 := (show r4 = 1 from hw).symm
  obtain ⟨hP1, hK1, hD1, hz2⟩ := hB
  rw [ht] at hP1 hz2
  have hPD9 := va_join (wr := [(am, .inr (4, [.int mm, .ref (zk 0), .int 0]))]) (w1 := [(mo, .inr (9, [.int 1, .ref am, .int 0, .int 0, .int 0]))]) hP hD [0] [1] rfl rfl (by decide) (by decide) hk1 hFc hP1 hD1
  clear hPc hDc hFc hDv hpre hP hD hP1 hK1 hD1
  obtain ⟨hP, hD⟩ := hPD9
  replace hz : s.heap.size + 0 ≤ H3.size := by omega
  clear hz2
  replace hP : va_P (dC, dI) vwCl [(am, .inr (4, [.int mm, .ref (zk 0), .int 0])), (mo, .inr (9, [.int 1, .ref am, .int 0, .int 0, .int 0]))] H3 := hP
  replace hD : va_D A [(am, .inr (4, [.int mm, .ref (zk 0), .int 0])), (mo, .inr (9, [.int 1, .ref am, .int 0, .int 0, .int 0]))] := hD
  refine W.widen (k := 0) (n := 0) (by omega) (by omega) ?_
  refine lv_if_ne (tgt := 56) hx hb dX4_make_28 (by decide) (fun c9 => ?_) (fun c9 => ?_)
  rotate_left
  · exact absurd c9 (by decide)
  refine lv_iconst (v := 0) hx hb dX4_make_56 (by decide) ?_
  have hP9 := hP.sub (ws' := [(mo, .inr (9, [.int 1, .ref am, .int 0, .int 0, .int 0])), (am, .inr (4, [.int mm, .ref (zk 0), .int 0]))]) [1, 0] rfl
  have hD9 := hD.sub (ws' := [(mo, .inr (9, [.int 1, .ref am, .int 0, .int 0, .int 0])), (am, .inr (4, [.int mm, .ref (zk 0), .int 0]))]) [1, 0] (by decide) rfl
  exact W.iret (v := 0) hx hb hr (fun t ht hW => ⟨⟨_, (), rfl, trivial, ⟨by rw [ht]; exact hP9, va_K.moved hW.alike hK, hD9, by rw [ht]; exact hz⟩⟩, hS.F ht⟩) hS.2.2 dX4_make_57

set_option maxHeartbeats 4000000 in
set_option maxRecDepth 100000 in
theorem k_mkLM (l : Launch) (dC : Nat → ClassId) (dI : Nat → Nat → Nat) (cI cB cR cO : ClassId) (zk : Nat → Nat) (mo am : Nat) (th : Value) (mm : Int32) (kd ln : Int32) (sz : Nat) (hk0 : ¬ kd < 0) (hk4 : kd ≤ 4) (hp : ln < 0 ∨ ¬ ln ≤ 4) : Met l yX4_make wsX4_make ({ frames := 2, cells := 0, slots := 0, locals := 44 }) (va_Pc [.ref mo, .int kd, .int ln] (zPre (dC, dI) (zT cI cB cR cO) zk [] [(mo, .inr (9, [th, .ref am, .int 0, .int 0, .int 0])), (am, .inr (4, [.int mm, .ref (zk 0), .int 0]))] sz)) (va_Qi (fun r (_ : Unit) => True) (fun _ t => zEnd (dC, dI) (zT cI cB cR cO) (va_A [(mo, .inr (9, [th, .ref am, .int 0, .int 0, .int 0])), (am, .inr (4, [.int mm, .ref (zk 0), .int 0]))] sz) [(mo, .inr (9, [.int 1, .ref am, .int 0, .int 0, .int 0])), (am, .inr (4, [.int mm, .ref (zk 0), .int 0]))] sz 0 t) (va_A [(mo, .inr (9, [th, .ref am, .int 0, .int 0, .int 0])), (am, .inr (4, [.int mm, .ref (zk 0), .int 0]))] sz)) 0 0 (va_A [(mo, .inr (9, [th, .ref am, .int 0, .int 0, .int 0])), (am, .inr (4, [.int mm, .ref (zk 0), .int 0]))] sz) := by
  refine Met.ofW (cc := cX4_make) (maxL := 3) (ret := (some .int)) (by decide) rfl ?_
  intro p e s mY args below meth c s₁ B hml hv
  obtain ⟨rfl, hsz, hP, hK, hD0, hZ⟩ := hv
  have hx := B.exec
  have hb := B.bytes
  have hr := B.returns
  have hts := atoms_spec (ws := wsX4_make) B.pre
  have hown : s.vm.findClass RX4 = some mY.cls := findClass_of_methodNamed B.named
  have hlocks := B.notSynchronized
  subst hsz
  have hD := hD0.self (sz := s.heap.size)
  generalize hAe : va_A [(mo, .inr (9, [th, .ref am, .int 0, .int 0, .int 0])), (am, .inr (4, [.int mm, .ref (zk 0), .int 0]))] s.heap.size = A at hD hZ ⊢
  have hA : ∀ q : Nat, s.heap.size ≤ q → A q := fun q h => by rw [← hAe]; exact Or.inr h
  have hS : va_S A s.heap s.heap [] := va_S.rf
  have hz : s.heap.size + 0 ≤ s.heap.size := Nat.le_refl _
  have hl := lv_entry ([.ref mo, .int kd, .int ln]) (n := 3) (Nat.le_of_ble_eq_true rfl)
  rw [lg_entry_eq]
  generalize (lg_sl ([.ref mo, .int kd, .int ln]) ++ List.replicate (3 - (lg_sl ([.ref mo, .int kd, .int ln])).length) Slot.unset).toArray = ls at hl ⊢
  have hl : lv_has ls 3 [(0, .ref mo), (1, .int kd), (2, .int ln)] := hl
  have hP : va_P (dC, dI) vwCl [(mo, .inr (9, [th, .ref am, .int 0, .int 0, .int 0])), (am, .inr (4, [.int mm, .ref (zk 0), .int 0]))] s.heap := hP
  have hD : va_D A [(mo, .inr (9, [th, .ref am, .int 0, .int 0, .int 0])), (am, .inr (4, [.int mm, .ref (zk 0), .int 0]))] := hD
  refine lv_aload_n hx hb dX4_make_0 rfl (lv_at hl 0 rfl) ?_
  refine lv_iload_n hx hb dX4_make_1 rfl (lv_at hl 1 rfl) ?_
  refine lv_iconst (v := 0) hx hb dX4_make_2 (by decide) ?_
  refine lv_iconst (v := 4) hx hb dX4_make_3 (by decide) ?_
  have hPc := hP.sub (ws' := []) [] rfl
  have hDc := hD.sub (ws' := []) [] (by decide) rfl
  have hFc := va_free (wc := []) hD hS hA [] rfl
  have hDv := hDc.self (sz := s.heap.size)
  have hpre := zpre (xs' := []) (av := [.int kd, .int 0, .int 4]) hPc hK (hDc.weaken (fun _ _ _ h => h)) hZ hS hFc (fun r hr => by cases hr)
  refine va_calli (va_runS (As := [.int kd, .int 0, .int 4]) (rest := [.ref mo]) ⟨hx, hb, hml, hown, hts⟩ (k_isInT4 l dC dI cI cB cR cO zk kd s.heap.size hk0 hk4) (va_cwS 3 hts gX4_make_X4_isIn rfl rfl rfl (by decide +kernel) ⟨Nat.le_of_ble_eq_true rfl, Nat.le_of_ble_eq_true rfl⟩) ⟨zblind, hpre⟩ rfl rfl hl.1 rfl (lv_room (Nat.le_of_ble_eq_true rfl)) dX4_make_4 ⟨Nat.le_of_ble_eq_true rfl, Nat.le_of_ble_eq_true rfl⟩) hS (fun q _ h => hFc q h) hFc (fun r2 u t H1 locs ht hvm hw hB hz1 hk1 hS => ?_)
  obtain rfl : 1 = r2 := (show r2 = 1 from hw).symm
  obtain ⟨hP1, hK1, hD1, hz2⟩ := hB
  rw [ht] at hP1 hz2
  have hPD9 := va_join (wr := [(mo, .inr (9, [th, .ref am, .int 0, .int 0, .int 0])), (am, .inr (4, [.int mm, .ref (zk 0), .int 0]))]) (w1 := []) hP hD [] [0, 1] rfl rfl (by decide) (by decide) hk1 hFc hP1 hD1
  clear hPc hDc hFc hDv hpre hP hD hP1 hK1 hD1
  obtain ⟨hP, hD⟩ := hPD9
  replace hz : s.heap.size + 0 ≤ H1.size := by omega
  clear hz2
  replace hP : va_P (dC, dI) vwCl [(mo, .inr (9, [th, .ref am, .int 0, .int 0, .int 0])), (am, .inr (4, [.int mm, .ref (zk 0), .int 0]))] H1 := hP
  replace hD : va_D A [(mo, .inr (9, [th, .ref am, .int 0, .int 0, .int 0])), (am, .inr (4, [.int mm, .ref (zk 0), .int 0]))] := hD
  refine W.widen (k := 0) (n := 0) (by omega) (by omega) ?_
  refine lv_if_eq (tgt := 19) hx hb dX4_make_7 (by decide) (fun c9 => ?_) (fun c9 => ?_)
  · exact absurd c9 (by decide)
  refine lv_iload_n hx hb dX4_make_10 rfl (lv_at hl 2 rfl) ?_
  refine lv_iconst (v := 0) hx hb dX4_make_11 (by decide) ?_
  refine lv_iconst (v := 4) hx hb dX4_make_12 (by decide) ?_
  have hPc := hP.sub (ws' := []) [] rfl
  have hDc := hD.sub (ws' := []) [] (by decide) rfl
  have hFc := va_free (wc := []) hD hS hA [] rfl
  have hDv := hDc.self (sz := H1.size)
  have hpre := zpre (xs' := []) (av := [.int ln, .int 0, .int 4]) hPc hK (hDc.weaken (fun _ _ _ h => h)) hZ hS hFc (fun r hr => by cases hr)
  refine va_calli (va_runS (As := [.int ln, .int 0, .int 4]) (rest := [.ref mo]) ⟨hx, hb, hml, hown, hts⟩ (k_isInX4 l dC dI cI cB cR cO zk ln H1.size hp) (va_cwS 3 hts gX4_make_X4_isIn rfl rfl rfl (by decide +kernel) ⟨Nat.le_of_ble_eq_true rfl, Nat.le_of_ble_eq_true rfl⟩) ⟨zblind, hpre⟩ rfl rfl hl.1 rfl (lv_room (Nat.le_of_ble_eq_true rfl)) dX4_make_13 ⟨Nat.le_of_ble_eq_true rfl, Nat.le_of_ble_eq_true rfl⟩) hS (fun q _ h => hFc q h) hFc (fun r4 u t H3 locs ht hvm hw hB hz1 hk1 hS => ?_)
  obtain rfl : 0 = r4 := (show r4 = 0 from hw).symm
  obtain ⟨hP1, hK1, hD1, hz2⟩ := hB
  rw [ht] at hP1 hz2
  have hPD9 := va_join (wr := [(mo, .inr (9, [th, .ref am, .int 0, .int 0, .int 0])), (am, .inr (4, [.int mm, .ref (zk 0), .int 0]))]) (w1 := []) hP hD [] [0, 1] rfl rfl (by decide) (by decide) hk1 hFc hP1 hD1
  clear hPc hDc hFc hDv hpre hP hD hP1 hK1 hD1
  obtain ⟨hP, hD⟩ := hPD9
  replace hz : s.heap.size + 0 ≤ H3.size := by omega
  clear hz2
  replace hP : va_P (dC, dI) vwCl [(mo, .inr (9, [th, .ref am, .int 0, .int 0, .int 0])), (am, .inr (4, [.int mm, .ref (zk 0), .int 0]))] H3 := hP
  replace hD : va_D A [(mo, .inr (9, [th, .ref am, .int 0, .int 0, .int 0])), (am, .inr (4, [.int mm, .ref (zk 0), .int 0]))] := hD
  refine W.widen (k := 0) (n := 0) (by omega) (by omega) ?_
  refine lv_if_ne (tgt := 23) hx hb dX4_make_16 (by decide) (fun c9 => ?_) (fun c9 => ?_)
  · exact absurd (by decide) c9
  refine lv_iconst (v := 1) hx hb dX4_make_19 (by decide) ?_
  refine lv_goto (tgt := 24) hx hb dX4_make_20 (by decide) ?_
  refine lv_iconst (v := 1) hx hb dX4_make_24 (by decide) ?_
  have hPc := hP.sub (ws' := [(mo, .inr (9, [th, .ref am, .int 0, .int 0, .int 0]))]) [0] rfl
  have hDc := hD.sub (ws' := [(mo, .inr (9, [th, .ref am, .int 0, .int 0, .int 0]))]) [0] (by decide) rfl
  have hFc := va_free (wc := [(mo, .inr (9, [th, .ref am, .int 0, .int 0, .int 0]))]) hD hS hA [0] rfl
  have hDv := hDc.self (sz := H3.size)
  have hpre := zpre (xs' := []) (av := [.ref mo, .int 1, .int 1]) hPc hK (hDc.weaken (fun _ _ _ h => h)) hZ hS hFc (fun r hr => by cases hr)
  refine va_calli (va_runV (As := [.int 1, .int 1]) (rest := []) ⟨hx, hb, hml, hown, hts⟩ (k_sttz l dC dI cI cB cR cO zk mo am th (.int 0) (.int 0) (.int 0) H3.size ) (cwV 2 hts gX4_make_X4_start rfl rfl rfl (by decide +kernel) ⟨Nat.le_of_ble_eq_true rfl, Nat.le_of_ble_eq_true rfl⟩) ⟨zblind, (zrecv_9 hK hPc (q0 := 0) rfl), hpre⟩ rfl rfl hl.1 rfl (lv_room (Nat.le_of_ble_eq_true rfl)) dX4_make_25 ⟨Nat.le_of_ble_eq_true rfl, Nat.le_of_ble_eq_true rfl⟩) hS (fun q _ h => hFc q h) hFc (fun r6 u t H5 locs ht hvm hw hB hz1 hk1 hS => ?_)
  obtain rfl : 1 = r6 := (show r6 = 1 from hw).symm
  obtain ⟨hP1, hK1, hD1, hz2⟩ := hB
  rw [ht] at hP1 hz2
  have hPD9 := va_join (wr := [(am, .inr (4, [.int mm, .ref (zk 0), .int 0]))]) (w1 := [(mo, .inr (9, [.int 1, .ref am, .int 0, .int 0, .int 0]))]) hP hD [0] [1] rfl rfl (by decide) (by decide) hk1 hFc hP1 hD1
  clear hPc hDc hFc hDv hpre hP hD hP1 hK1 hD1
  obtain ⟨hP, hD⟩ := hPD9
  replace hz : s.heap.size + 0 ≤ H5.size := by omega
  clear hz2
  replace hP : va_P (dC, dI) vwCl [(am, .inr (4, [.int mm, .ref (zk 0), .int 0])), (mo, .inr (9, [.int 1, .ref am, .int 0, .int 0, .int 0]))] H5 := hP
  replace hD : va_D A [(am, .inr (4, [.int mm, .ref (zk 0), .int 0])), (mo, .inr (9, [.int 1, .ref am, .int 0, .int 0, .int 0]))] := hD
  refine W.widen (k := 0) (n := 0) (by omega) (by omega) ?_
  refine lv_if_ne (tgt := 56) hx hb dX4_make_28 (by decide) (fun c9 => ?_) (fun c9 => ?_)
  rotate_left
  · exact absurd c9 (by decide)
  refine lv_iconst (v := 0) hx hb dX4_make_56 (by decide) ?_
  have hP9 := hP.sub (ws' := [(mo, .inr (9, [.int 1, .ref am, .int 0, .int 0, .int 0])), (am, .inr (4, [.int mm, .ref (zk 0), .int 0]))]) [1, 0] rfl
  have hD9 := hD.sub (ws' := [(mo, .inr (9, [.int 1, .ref am, .int 0, .int 0, .int 0])), (am, .inr (4, [.int mm, .ref (zk 0), .int 0]))]) [1, 0] (by decide) rfl
  exact W.iret (v := 0) hx hb hr (fun t ht hW => ⟨⟨_, (), rfl, trivial, ⟨by rw [ht]; exact hP9, va_K.moved hW.alike hK, hD9, by rw [ht]; exact hz⟩⟩, hS.F ht⟩) hS.2.2 dX4_make_57
