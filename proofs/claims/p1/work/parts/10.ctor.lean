theorem hi_J5_init_d00df_J4 : ∀ w ∈ u_ws RJ4 TJ4 4, w ∈ wsJ5_init_d00df := fun w h => List.mem_cons_of_mem _ (zhi_J4 w h)
set_option maxHeartbeats 4000000 in
set_option maxRecDepth 100000 in
theorem k_init5 (l : Launch) (dC : Nat → ClassId) (dI : Nat → Nat → Nat) (cI cB cR cO : ClassId) (zk : Nat → Nat) (h0 : Nat) (sz : Nat)  : Met l yJ5_init_d00df wsJ5_init_d00df ({ frames := 1, cells := 1, slots := 16, locals := 60 }) (va_Pc [.ref h0, .int 16] (zPre (dC, dI) (zT cI cB cR cO) zk [] [(h0, .inr (1, [.null, .int 0, .int 0, .int 0]))] sz)) (va_Qv (fun _ : Unit => True) (fun _ t => ∃ v1, zEnd (dC, dI) (zT cI cB cR cO) (va_A [(h0, .inr (1, [.null, .int 0, .int 0, .int 0]))] sz) [(h0, .inr (1, [.ref v1, .int 0, .int 0, .int 0])), (v1, .inl (cB, 16, .inl (fun _ => 0)))] sz 1 t) (va_A [(h0, .inr (1, [.null, .int 0, .int 0, .int 0]))] sz)) 1 16 (va_A [(h0, .inr (1, [.null, .int 0, .int 0, .int 0]))] sz) := by
  refine Met.ofW (cc := cJ5_init_d00df) (maxL := 2) (ret := none) (by decide) rfl ?_
  intro p e s mY args below meth c s₁ B hml hv
  obtain ⟨rfl, hsz, hP, hK, hD0, hZ⟩ := hv
  have hx := B.exec
  have hb := B.bytes
  have hr := B.returns
  have hts := atoms_spec (ws := wsJ5_init_d00df) B.pre
  have hown : s.vm.findClass RJ5 = some mY.cls := findClass_of_methodNamed B.named
  have hlocks := B.notSynchronized
  have hin : meth.name = "<init>" := (name_of_methodNamed B.named B.method).1
  subst hsz
  have hD := hD0.self (sz := s.heap.size)
  generalize hAe : va_A [(h0, .inr (1, [.null, .int 0, .int 0, .int 0]))] s.heap.size = A at hD hZ ⊢
  have hA : ∀ q : Nat, s.heap.size ≤ q → A q := fun q h => by rw [← hAe]; exact Or.inr h
  have hS : va_S A s.heap s.heap [] := va_S.rf
  have hz : s.heap.size + 0 ≤ s.heap.size := Nat.le_refl _
  have hl := lv_entry ([.ref h0, .int 16]) (n := 2) (Nat.le_of_ble_eq_true rfl)
  rw [lg_entry_eq]
  generalize (lg_sl ([.ref h0, .int 16]) ++ List.replicate (2 - (lg_sl ([.ref h0, .int 16])).length) Slot.unset).toArray = ls at hl ⊢
  have hl : lv_has ls 2 [(0, .ref h0), (1, .int 16)] := hl
  have hP : va_P (dC, dI) vwCl [(h0, .inr (1, [.null, .int 0, .int 0, .int 0]))] s.heap := hP
  have hD : va_D A [(h0, .inr (1, [.null, .int 0, .int 0, .int 0]))] := hD
  refine lv_aload_n hx hb dJ5_init_d00df_0 rfl (lv_at hl 0 rfl) ?_
  refine W.objInit hx hb hown (hts (.methodLink RJ5 3 objectInit) (List.mem_cons_of_mem _ zw_140)) (hts (.instanceMethod objectInit) (List.mem_cons_of_mem _ zw_71)) (hts (.code objectInit ⟨#[0xb1]⟩ 1 none) (List.mem_cons_of_mem _ zw_72)) rfl (by rw [hml]; exact hl.1) rfl dJ5_init_d00df_1 (Nat.le_of_ble_eq_true rfl) (Nat.le_of_ble_eq_true rfl) ?_
  refine W.eq (g2 := F0 mY 4 ls []) rfl ?_
  refine va_gets hx hb hZ.1.1 hS hown (hts (.fieldLink RJ5 18 "java/lang/String" "COMPACT_STRINGS" "Z") (List.mem_cons_of_mem _ zw_141)) (fun _ h9 => h9) dJ5_init_d00df_4 ?_
  refine lv_if_eq (tgt := 25) hx hb dJ5_init_d00df_7 (by decide) (fun c9 => ?_) (fun c9 => ?_)
  · exact absurd c9 (by decide)
  refine lv_aload_n hx hb dJ5_init_d00df_10 rfl (lv_at hl 0 rfl) ?_
  refine lv_iload_n hx hb dJ5_init_d00df_11 rfl (lv_at hl 1 rfl) ?_
  refine zw_newa (atype := .byte) (ty := .byte) (N' := 16) hx hb (hts (.arrayClass .byte) (List.mem_cons_of_mem _ zw_164)) rfl (by first | exact Or.inl rfl | exact Or.inr rfl) hK hP hD hS hA 1 rfl (by decide) (by decide) (Nat.le_of_ble_eq_true rfl) (Nat.le_of_ble_eq_true rfl) (Nat.le_of_ble_eq_true rfl) dJ5_init_d00df_12 hz (fun q1 H2 hP hD hS hz => ?_)
  replace hP : va_P (dC, dI) vwCl [(h0, .inr (1, [.null, .int 0, .int 0, .int 0])), (q1, .inl (cB, 16, .inl (fun _ => 0)))] H2 := hP
  replace hD : va_D A [(h0, .inr (1, [.null, .int 0, .int 0, .int 0])), (q1, .inl (cB, 16, .inl (fun _ => 0)))] := hD
  refine W.widen (k := 1) (n := 16) (by omega) (by omega) ?_
  refine va_put (D := (dC, dI)) (ci := 1) (v := .ref q1) (ty := .array .byte) (C := RJ4) (T := TJ4) (N := 4) hx hb hts hi_J5_init_d00df_J4 tyJ4 tyJ4_ok nmJ4 hown hK hP hD (zS0 hS) 0 rfl rfl 0 (by decide) (hts (.fieldLink RJ5 15 "java/lang/AbstractStringBuilder" "value" "[B") (List.mem_cons_of_mem _ zw_150)) (fun _ h9 => h9) rfl (by decide +kernel) rfl rfl (Nat.le_of_ble_eq_true rfl) dJ5_init_d00df_14 (fun H3 locs hP hD hS1 => ?_)
  have hz : s.heap.size + 1 ≤ H3.size := Nat.le_trans hz hS1.1
  have hS := zSS hS hS1
  replace hP : va_P (dC, dI) vwCl [(h0, .inr (1, [.ref q1, .int 0, .int 0, .int 0])), (q1, .inl (cB, 16, .inl (fun _ => 0)))] H3 := hP
  replace hD : va_D A [(h0, .inr (1, [.ref q1, .int 0, .int 0, .int 0])), (q1, .inl (cB, 16, .inl (fun _ => 0)))] := hD
  refine lv_aload_n hx hb dJ5_init_d00df_17 rfl (lv_at hl 0 rfl) ?_
  refine lv_iconst (v := 0) hx hb dJ5_init_d00df_18 (by decide) ?_
  refine va_put (D := (dC, dI)) (ci := 1) (v := .int 0) (ty := .byte) (C := RJ4) (T := TJ4) (N := 4) hx hb hts hi_J5_init_d00df_J4 tyJ4 tyJ4_ok nmJ4 hown hK hP hD (zS0 hS) 0 rfl rfl 1 (by decide) (hts (.fieldLink RJ5 22 "java/lang/AbstractStringBuilder" "coder" "B") (List.mem_cons_of_mem _ zw_151)) (fun _ h9 => h9) rfl (by decide +kernel) rfl rfl (Nat.le_of_ble_eq_true rfl) dJ5_init_d00df_19 (fun H4 locs hP hD hS1 => ?_)
  have hz : s.heap.size + 1 ≤ H4.size := Nat.le_trans hz hS1.1
  have hS := zSS hS hS1
  replace hP : va_P (dC, dI) vwCl [(h0, .inr (1, [.ref q1, .int 0, .int 0, .int 0])), (q1, .inl (cB, 16, .inl (fun _ => 0)))] H4 := hP
  replace hD : va_D A [(h0, .inr (1, [.ref q1, .int 0, .int 0, .int 0])), (q1, .inl (cB, 16, .inl (fun _ => 0)))] := hD
  refine lv_goto (tgt := 38) hx hb dJ5_init_d00df_22 (by decide) ?_
  have hP9 := hP.sub (ws' := [(h0, .inr (1, [.ref q1, .int 0, .int 0, .int 0])), (q1, .inl (cB, 16, .inl (fun _ => 0)))]) [0, 1] rfl
  have hD9 := hD.sub (ws' := [(h0, .inr (1, [.ref q1, .int 0, .int 0, .int 0])), (q1, .inl (cB, 16, .inl (fun _ => 0)))]) [0, 1] (by decide) rfl
  exact W.vret hx hb hr (fun t ht hW => ⟨⟨(), rfl, trivial, ⟨_, ⟨by rw [ht]; exact hP9, va_K.moved hW.alike hK, hD9, by rw [ht]; exact hz⟩⟩⟩, hS.F ht⟩) hS.2.2 dJ5_init_d00df_38

set_option maxHeartbeats 4000000 in
set_option maxRecDepth 100000 in
theorem k_init4 (l : Launch) (dC : Nat → ClassId) (dI : Nat → Nat → Nat) (cI cB cR cO : ClassId) (zk : Nat → Nat) (h0 : Nat) (sz : Nat)  : Met l yJ4_init_da8c8 wsJ4_init_da8c8 ({ frames := 2, cells := 1, slots := 16, locals := 81 }) (va_Pc [.ref h0] (zPre (dC, dI) (zT cI cB cR cO) zk [] [(h0, .inr (1, [.null, .int 0, .int 0, .int 0]))] sz)) (va_Qv (fun _ : Unit => True) (fun _ t => ∃ v1, zEnd (dC, dI) (zT cI cB cR cO) (va_A [(h0, .inr (1, [.null, .int 0, .int 0, .int 0]))] sz) [(h0, .inr (1, [.ref v1, .int 0, .int 0, .int 0])), (v1, .inl (cB, 16, .inl (fun _ => 0)))] sz 1 t) (va_A [(h0, .inr (1, [.null, .int 0, .int 0, .int 0]))] sz)) 1 16 (va_A [(h0, .inr (1, [.null, .int 0, .int 0, .int 0]))] sz) := by
  refine Met.ofW (cc := cJ4_init_da8c8) (maxL := 1) (ret := none) (by decide) rfl ?_
  intro p e s mY args below meth c s₁ B hml hv
  obtain ⟨rfl, hsz, hP, hK, hD0, hZ⟩ := hv
  have hx := B.exec
  have hb := B.bytes
  have hr := B.returns
  have hts := atoms_spec (ws := wsJ4_init_da8c8) B.pre
  have hown : s.vm.findClass RJ4 = some mY.cls := findClass_of_methodNamed B.named
  have hlocks := B.notSynchronized
  have hin : meth.name = "<init>" := (name_of_methodNamed B.named B.method).1
  subst hsz
  have hD := hD0.self (sz := s.heap.size)
  generalize hAe : va_A [(h0, .inr (1, [.null, .int 0, .int 0, .int 0]))] s.heap.size = A at hD hZ ⊢
  have hA : ∀ q : Nat, s.heap.size ≤ q → A q := fun q h => by rw [← hAe]; exact Or.inr h
  have hS : va_S A s.heap s.heap [] := va_S.rf
  have hz : s.heap.size + 0 ≤ s.heap.size := Nat.le_refl _
  have hl := lv_entry ([.ref h0]) (n := 1) (Nat.le_of_ble_eq_true rfl)
  rw [lg_entry_eq]
  generalize (lg_sl ([.ref h0]) ++ List.replicate (1 - (lg_sl ([.ref h0])).length) Slot.unset).toArray = ls at hl ⊢
  have hl : lv_has ls 1 [(0, .ref h0)] := hl
  have hP : va_P (dC, dI) vwCl [(h0, .inr (1, [.null, .int 0, .int 0, .int 0]))] s.heap := hP
  have hD : va_D A [(h0, .inr (1, [.null, .int 0, .int 0, .int 0]))] := hD
  refine lv_aload_n hx hb dJ4_init_da8c8_0 rfl (lv_at hl 0 rfl) ?_
  refine lv_bipush (v := 16) hx hb dJ4_init_da8c8_1 (by decide) ?_
  have hPc := hP.sub (ws' := [(h0, .inr (1, [.null, .int 0, .int 0, .int 0]))]) [0] rfl
  have hDc := hD.sub (ws' := [(h0, .inr (1, [.null, .int 0, .int 0, .int 0]))]) [0] (by decide) rfl
  have hFc := va_free (wc := [(h0, .inr (1, [.null, .int 0, .int 0, .int 0]))]) hD hS hA [0] rfl
  have hDv := hDc.self (sz := s.heap.size)
  have hpre := zpre (xs' := []) (av := [.ref h0, .int 16]) hPc hK (hDc.weaken (fun _ _ _ h => h)) hZ hS hFc (fun r hr => by cases hr)
  refine va_callv (va_runI (As := [.int 16]) (rest := []) ⟨hx, hb, hml, hown, hts⟩ (k_init5 l dC dI cI cB cR cO zk h0 s.heap.size ) (cwI 1 hts gJ4_init_da8c8_J5_init_d00df rfl rfl rfl (hts (.initialized RJ5) (List.mem_cons_of_mem _ zw_40)) (hts (.methodLink RJ4 1 yJ5_init_d00df) (List.mem_cons_of_mem _ zw_137)) (hts (.instanceMethod yJ5_init_d00df) (List.mem_cons_of_mem _ zw_138)) rfl (by decide +kernel) ⟨Nat.le_of_ble_eq_true rfl, Nat.le_of_ble_eq_true rfl⟩) ⟨zblind, hpre⟩ rfl rfl hl.1 rfl (lv_room (Nat.le_of_ble_eq_true rfl)) dJ4_init_da8c8_3 ⟨Nat.le_of_ble_eq_true rfl, Nat.le_of_ble_eq_true rfl⟩) hS (fun q _ h => hFc q h) hFc (fun u t H1 locs ht hvm hw hB hz1 hk1 hS => ?_)
  obtain ⟨w3, ⟨hP1, hK1, hD1, hz2⟩⟩ := hB
  rw [ht] at hP1 hz2
  have hPD9 := va_join (wr := []) (w1 := [(h0, .inr (1, [.ref w3, .int 0, .int 0, .int 0])), (w3, .inl (cB, 16, .inl (fun _ => 0)))]) hP hD [0] [] rfl rfl (by decide) (by decide) hk1 hFc hP1 hD1
  clear hPc hDc hFc hDv hpre hP hD hP1 hK1 hD1
  obtain ⟨hP, hD⟩ := hPD9
  replace hz : s.heap.size + 1 ≤ H1.size := by omega
  clear hz2
  replace hP : va_P (dC, dI) vwCl [(h0, .inr (1, [.ref w3, .int 0, .int 0, .int 0])), (w3, .inl (cB, 16, .inl (fun _ => 0)))] H1 := hP
  replace hD : va_D A [(h0, .inr (1, [.ref w3, .int 0, .int 0, .int 0])), (w3, .inl (cB, 16, .inl (fun _ => 0)))] := hD
  refine W.widen (k := 1) (n := 16) (by omega) (by omega) ?_
  have hP9 := hP.sub (ws' := [(h0, .inr (1, [.ref w3, .int 0, .int 0, .int 0])), (w3, .inl (cB, 16, .inl (fun _ => 0)))]) [0, 1] rfl
  have hD9 := hD.sub (ws' := [(h0, .inr (1, [.ref w3, .int 0, .int 0, .int 0])), (w3, .inl (cB, 16, .inl (fun _ => 0)))]) [0, 1] (by decide) rfl
  exact W.vret hx hb hr (fun t ht hW => ⟨⟨(), rfl, trivial, ⟨_, ⟨by rw [ht]; exact hP9, va_K.moved hW.alike hK, hD9, by rw [ht]; exact hz⟩⟩⟩, hS.F ht⟩) hS.2.2 dJ4_init_da8c8_6

theorem hi_X0_init_X0 : ∀ w ∈ u_ws RX0 TX0 6, w ∈ wsX0_init := fun w h => List.mem_cons_of_mem _ (zhi_X0 w h)
set_option maxHeartbeats 4000000 in
set_option maxRecDepth 100000 in
theorem k_rin4 (l : Launch) (dC : Nat → ClassId) (dI : Nat → Nat → Nat) (cI cB cR cO : ClassId) (zk : Nat → Nat) (a0 : Nat) (sz : Nat)  : Met l yX0_init wsX0_init ({ frames := 1, cells := 3, slots := 12, locals := 60 }) (va_Pc [.ref a0, .int 4, .int 4] (zPre (dC, dI) (zT cI cB cR cO) zk [] [(a0, .inr (5, [.int 0, .int 0, .null, .null, .null, .int 0]))] sz)) (va_Qv (fun _ : Unit => True) (fun _ t => ∃ w1, ∃ v1, ∃ h1, ∃ (gw : Nat → Int32), ∃ (gv : Nat → Int32), ∃ (gh : Nat → Option Nat), zEnd (dC, dI) (zT cI cB cR cO) (va_A [(a0, .inr (5, [.int 0, .int 0, .null, .null, .null, .int 0]))] sz) [(a0, .inr (5, [.int 4, .int 4, .ref w1, .ref v1, .ref h1, .int 0])), (w1, .inl (cI, 4, .inl gw)), (v1, .inl (cI, 4, .inl gv)), (h1, .inl (cR, 4, .inr (.inr (.inr (.inr gh)))))] sz 3 t ∧ (∀ i, i < 4 → gw i = 0) ∧ (∀ i, i < 4 → gh i = none)) (va_A [(a0, .inr (5, [.int 0, .int 0, .null, .null, .null, .int 0]))] sz)) 3 12 (va_A [(a0, .inr (5, [.int 0, .int 0, .null, .null, .null, .int 0]))] sz) := by
  refine Met.ofW (cc := cX0_init) (maxL := 4) (ret := none) (by decide) rfl ?_
  intro p e s mY args below meth c s₁ B hml hv
  obtain ⟨rfl, hsz, hP, hK, hD0, hZ⟩ := hv
  have hx := B.exec
  have hb := B.bytes
  have hr := B.returns
  have hts := atoms_spec (ws := wsX0_init) B.pre
  have hown : s.vm.findClass RX0 = some mY.cls := findClass_of_methodNamed B.named
  have hlocks := B.notSynchronized
  have hin : meth.name = "<init>" := (name_of_methodNamed B.named B.method).1
  subst hsz
  have hD := hD0.self (sz := s.heap.size)
  generalize hAe : va_A [(a0, .inr (5, [.int 0, .int 0, .null, .null, .null, .int 0]))] s.heap.size = A at hD hZ ⊢
  have hA : ∀ q : Nat, s.heap.size ≤ q → A q := fun q h => by rw [← hAe]; exact Or.inr h
  have hS : va_S A s.heap s.heap [] := va_S.rf
  have hz : s.heap.size + 0 ≤ s.heap.size := Nat.le_refl _
  have hl := lv_entry ([.ref a0, .int 4, .int 4]) (n := 4) (Nat.le_of_ble_eq_true rfl)
  rw [lg_entry_eq]
  generalize (lg_sl ([.ref a0, .int 4, .int 4]) ++ List.replicate (4 - (lg_sl ([.ref a0, .int 4, .int 4])).length) Slot.unset).toArray = ls at hl ⊢
  have hl : lv_has ls 4 [(0, .ref a0), (1, .int 4), (2, .int 4)] := hl
  have hP : va_P (dC, dI) vwCl [(a0, .inr (5, [.int 0, .int 0, .null, .null, .null, .int 0]))] s.heap := hP
  have hD : va_D A [(a0, .inr (5, [.int 0, .int 0, .null, .null, .null, .int 0]))] := hD
  refine lv_aload_n hx hb dX0_init_0 rfl (lv_at hl 0 rfl) ?_
  refine W.objInit hx hb hown (hts (.methodLink RX0 3 objectInit) (List.mem_cons_of_mem _ zw_104)) (hts (.instanceMethod objectInit) (List.mem_cons_of_mem _ zw_71)) (hts (.code objectInit ⟨#[0xb1]⟩ 1 none) (List.mem_cons_of_mem _ zw_72)) rfl (by rw [hml]; exact hl.1) rfl dX0_init_1 (Nat.le_of_ble_eq_true rfl) (Nat.le_of_ble_eq_true rfl) ?_
  refine W.eq (g2 := F0 mY 4 ls []) rfl ?_
  refine lv_aload_n hx hb dX0_init_4 rfl (lv_at hl 0 rfl) ?_
  refine lv_iload_n hx hb dX0_init_5 rfl (lv_at hl 1 rfl) ?_
  refine va_putF (D := (dC, dI)) (ci := 5) (v := .int 4) (ty := .int) (C := RX0) (T := TX0) (N := 6) hx hb hts hi_X0_init_X0 tyX0 tyX0_ok nmX0 hown hK hP hD (zS0 hS) 0 rfl rfl 0 (by decide) (hts (.fieldLink RX0 9 "Deeprows$Row" "kind" "I") (List.mem_cons_of_mem _ zw_107)) (fun _ h9 => h9) rfl hin rfl (by decide +kernel) rfl rfl (Nat.le_of_ble_eq_true rfl) dX0_init_6 (fun H1 locs hP hD hS1 => ?_)
  have hz : s.heap.size + 0 ≤ H1.size := Nat.le_trans hz hS1.1
  have hS := zSS hS hS1
  replace hP : va_P (dC, dI) vwCl [(a0, .inr (5, [.int 4, .int 0, .null, .null, .null, .int 0]))] H1 := hP
  replace hD : va_D A [(a0, .inr (5, [.int 4, .int 0, .null, .null, .null, .int 0]))] := hD
  refine lv_aload_n hx hb dX0_init_9 rfl (lv_at hl 0 rfl) ?_
  refine lv_iload_n hx hb dX0_init_10 rfl (lv_at hl 2 rfl) ?_
  refine va_putF (D := (dC, dI)) (ci := 5) (v := .int 4) (ty := .int) (C := RX0) (T := TX0) (N := 6) hx hb hts hi_X0_init_X0 tyX0 tyX0_ok nmX0 hown hK hP hD (zS0 hS) 0 rfl rfl 1 (by decide) (hts (.fieldLink RX0 15 "Deeprows$Row" "length" "I") (List.mem_cons_of_mem _ zw_109)) (fun _ h9 => h9) rfl hin rfl (by decide +kernel) rfl rfl (Nat.le_of_ble_eq_true rfl) dX0_init_11 (fun H2 locs hP hD hS1 => ?_)
  have hz : s.heap.size + 0 ≤ H2.size := Nat.le_trans hz hS1.1
  have hS := zSS hS hS1
  replace hP : va_P (dC, dI) vwCl [(a0, .inr (5, [.int 4, .int 4, .null, .null, .null, .int 0]))] H2 := hP
  replace hD : va_D A [(a0, .inr (5, [.int 4, .int 4, .null, .null, .null, .int 0]))] := hD
  refine lv_aload_n hx hb dX0_init_14 rfl (lv_at hl 0 rfl) ?_
  refine lv_iload_n hx hb dX0_init_15 rfl (lv_at hl 2 rfl) ?_
  refine zw_newa (atype := .int) (ty := .int) (N' := 4) hx hb (hts (.arrayClass .int) (List.mem_cons_of_mem _ zw_131)) rfl (by first | exact Or.inl rfl | exact Or.inr rfl) hK hP hD hS hA 0 rfl (by decide) (by decide) (Nat.le_of_ble_eq_true rfl) (Nat.le_of_ble_eq_true rfl) (Nat.le_of_ble_eq_true rfl) dX0_init_16 hz (fun q3 H4 hP hD hS hz => ?_)
  replace hP : va_P (dC, dI) vwCl [(a0, .inr (5, [.int 4, .int 4, .null, .null, .null, .int 0])), (q3, .inl (cI, 4, .inl (fun _ => 0)))] H4 := hP
  replace hD : va_D A [(a0, .inr (5, [.int 4, .int 4, .null, .null, .null, .int 0])), (q3, .inl (cI, 4, .inl (fun _ => 0)))] := hD
  refine W.widen (k := 1) (n := 4) (by omega) (by omega) ?_
  refine va_putF (D := (dC, dI)) (ci := 5) (v := .ref q3) (ty := .array .int) (C := RX0) (T := TX0) (N := 6) hx hb hts hi_X0_init_X0 tyX0 tyX0_ok nmX0 hown hK hP hD (zS0 hS) 0 rfl rfl 2 (by decide) (hts (.fieldLink RX0 18 "Deeprows$Row" "whats" "[I") (List.mem_cons_of_mem _ zw_111)) (fun _ h9 => h9) rfl hin rfl (by decide +kernel) rfl rfl (Nat.le_of_ble_eq_true rfl) dX0_init_18 (fun H5 locs hP hD hS1 => ?_)
  have hz : s.heap.size + 1 ≤ H5.size := Nat.le_trans hz hS1.1
  have hS := zSS hS hS1
  replace hP : va_P (dC, dI) vwCl [(a0, .inr (5, [.int 4, .int 4, .ref q3, .null, .null, .int 0])), (q3, .inl (cI, 4, .inl (fun _ => 0)))] H5 := hP
  replace hD : va_D A [(a0, .inr (5, [.int 4, .int 4, .ref q3, .null, .null, .int 0])), (q3, .inl (cI, 4, .inl (fun _ => 0)))] := hD
  refine lv_aload_n hx hb dX0_init_21 rfl (lv_at hl 0 rfl) ?_
  refine lv_iload_n hx hb dX0_init_22 rfl (lv_at hl 2 rfl) ?_
  refine zw_newa (atype := .int) (ty := .int) (N' := 4) hx hb (hts (.arrayClass .int) (List.mem_cons_of_mem _ zw_131)) rfl (by first | exact Or.inl rfl | exact Or.inr rfl) hK hP hD hS hA 0 rfl (by decide) (by decide) (Nat.le_of_ble_eq_true rfl) (Nat.le_of_ble_eq_true rfl) (Nat.le_of_ble_eq_true rfl) dX0_init_23 hz (fun q6 H7 hP hD hS hz => ?_)
  replace hP : va_P (dC, dI) vwCl [(a0, .inr (5, [.int 4, .int 4, .ref q3, .null, .null, .int 0])), (q3, .inl (cI, 4, .inl (fun _ => 0))), (q6, .inl (cI, 4, .inl (fun _ => 0)))] H7 := hP
  replace hD : va_D A [(a0, .inr (5, [.int 4, .int 4, .ref q3, .null, .null, .int 0])), (q3, .inl (cI, 4, .inl (fun _ => 0))), (q6, .inl (cI, 4, .inl (fun _ => 0)))] := hD
  refine W.widen (k := 2) (n := 8) (by omega) (by omega) ?_
  refine va_putF (D := (dC, dI)) (ci := 5) (v := .ref q6) (ty := .array .int) (C := RX0) (T := TX0) (N := 6) hx hb hts hi_X0_init_X0 tyX0 tyX0_ok nmX0 hown hK hP hD (zS0 hS) 0 rfl rfl 3 (by decide) (hts (.fieldLink RX0 22 "Deeprows$Row" "values" "[I") (List.mem_cons_of_mem _ zw_113)) (fun _ h9 => h9) rfl hin rfl (by decide +kernel) rfl rfl (Nat.le_of_ble_eq_true rfl) dX0_init_25 (fun H8 locs hP hD hS1 => ?_)
  have hz : s.heap.size + 2 ≤ H8.size := Nat.le_trans hz hS1.1
  have hS := zSS hS hS1
  replace hP : va_P (dC, dI) vwCl [(a0, .inr (5, [.int 4, .int 4, .ref q3, .ref q6, .null, .int 0])), (q3, .inl (cI, 4, .inl (fun _ => 0))), (q6, .inl (cI, 4, .inl (fun _ => 0)))] H8 := hP
  replace hD : va_D A [(a0, .inr (5, [.int 4, .int 4, .ref q3, .ref q6, .null, .int 0])), (q3, .inl (cI, 4, .inl (fun _ => 0))), (q6, .inl (cI, 4, .inl (fun _ => 0)))] := hD
  refine lv_aload_n hx hb dX0_init_28 rfl (lv_at hl 0 rfl) ?_
  refine lv_iload_n hx hb dX0_init_29 rfl (lv_at hl 2 rfl) ?_
  refine zw_newq (C := "Deeprows$Row") (N' := 4) hx hb hown (hts (.classLink RX0 10 RX0) (List.mem_cons_of_mem _ zw_105)) (za0 hZ) hK hP hD hS hA 2 rfl (by decide) (by decide) (by decide) (Nat.le_of_ble_eq_true rfl) (Nat.le_of_ble_eq_true rfl) dX0_init_30 hz (fun q9 H10 hP hD hS hz => ?_)
  replace hP : va_P (dC, dI) vwCl [(a0, .inr (5, [.int 4, .int 4, .ref q3, .ref q6, .null, .int 0])), (q3, .inl (cI, 4, .inl (fun _ => 0))), (q6, .inl (cI, 4, .inl (fun _ => 0))), (q9, .inl (cR, 4, .inr (.inr (.inr (.inr (fun _ => none))))))] H10 := hP
  replace hD : va_D A [(a0, .inr (5, [.int 4, .int 4, .ref q3, .ref q6, .null, .int 0])), (q3, .inl (cI, 4, .inl (fun _ => 0))), (q6, .inl (cI, 4, .inl (fun _ => 0))), (q9, .inl (cR, 4, .inr (.inr (.inr (.inr (fun _ => none))))))] := hD
  refine W.widen (k := 3) (n := 12) (by omega) (by omega) ?_
  refine va_putF (D := (dC, dI)) (ci := 5) (v := .ref q9) (ty := .array (.object "Deeprows$Row")) (C := RX0) (T := TX0) (N := 6) hx hb hts hi_X0_init_X0 tyX0 tyX0_ok nmX0 hown hK hP hD (zS0 hS) 0 rfl rfl 4 (by decide) (hts (.fieldLink RX0 25 "Deeprows$Row" "hung" "[LDeeprows$Row;") (List.mem_cons_of_mem _ zw_115)) (fun _ h9 => h9) rfl hin rfl (by decide +kernel) rfl rfl (Nat.le_of_ble_eq_true rfl) dX0_init_33 (fun H11 locs hP hD hS1 => ?_)
  have hz : s.heap.size + 3 ≤ H11.size := Nat.le_trans hz hS1.1
  have hS := zSS hS hS1
  replace hP : va_P (dC, dI) vwCl [(a0, .inr (5, [.int 4, .int 4, .ref q3, .ref q6, .ref q9, .int 0])), (q3, .inl (cI, 4, .inl (fun _ => 0))), (q6, .inl (cI, 4, .inl (fun _ => 0))), (q9, .inl (cR, 4, .inr (.inr (.inr (.inr (fun _ => none))))))] H11 := hP
  replace hD : va_D A [(a0, .inr (5, [.int 4, .int 4, .ref q3, .ref q6, .ref q9, .int 0])), (q3, .inl (cI, 4, .inl (fun _ => 0))), (q6, .inl (cI, 4, .inl (fun _ => 0))), (q9, .inl (cR, 4, .inr (.inr (.inr (.inr (fun _ => none))))))] := hD
  refine lv_iconst (v := 0) hx hb dX0_init_36 (by decide) ?_
  refine lv_istore_n (lv' := [(3, .int 0), (0, .ref a0), (1, .int 4), (2, .int 4)]) hx hb dX0_init_37 rfl hl (by decide) rfl (fun ls hl => ?_)
  refine lv_iload_n hx hb dX0_init_38 rfl (lv_at hl 0 rfl) ?_
  refine lv_iload_n hx hb dX0_init_39 rfl (lv_at hl 3 rfl) ?_
  refine lv_icmp_ge (tgt := 81) hx hb dX0_init_40 (by decide) (fun c9 => ?_) (fun c9 => ?_)
  · exact absurd c9 (by decide)
  refine lv_aload_n hx hb dX0_init_43 rfl (lv_at hl 1 rfl) ?_
  refine va_get (D := (dC, dI)) (ci := 5) (v := .ref q3) (C := RX0) (T := TX0) (N := 6) hx hb hts hi_X0_init_X0 hown hK hP 0 rfl rfl 2 (by decide) (hts (.fieldLink RX0 18 "Deeprows$Row" "whats" "[I") (List.mem_cons_of_mem _ zw_111)) (fun _ h9 => h9) rfl dX0_init_44 ?_
  refine lv_iload_n hx hb dX0_init_47 rfl (lv_at hl 0 rfl) ?_
  refine lv_iload_n hx hb dX0_init_48 rfl (lv_at hl 2 rfl) ?_
  refine lv_iconst (v := 4) hx hb dX0_init_49 (by decide) ?_
  refine lv_icmp_ne (tgt := 57) hx hb dX0_init_50 (by decide) (fun c9 => ?_) (fun c9 => ?_)
  · exact absurd (by decide) c9
  refine lv_iconst (v := 0) hx hb dX0_init_53 (by decide) ?_
  refine lv_goto (tgt := 58) hx hb dX0_init_54 (by decide) ?_
  refine va_iast (D := (dC, dI)) (cl := vwCl) hx hb hK hP hD (zS0 hS) 1 0 rfl rfl (by unfold vp_in; decide) dX0_init_58 (fun H12 locs hP hD hS1 => ?_)
  have hz : s.heap.size + 3 ≤ H12.size := Nat.le_trans hz hS1.1
  have hS := zSS hS hS1
  replace hP : va_P (dC, dI) vwCl [(a0, .inr (5, [.int 4, .int 4, .ref q3, .ref q6, .ref q9, .int 0])), (q3, .inl (cI, 4, .inl (upd (fun _ => 0) 0 0))), (q6, .inl (cI, 4, .inl (fun _ => 0))), (q9, .inl (cR, 4, .inr (.inr (.inr (.inr (fun _ => none))))))] H12 := hP
  replace hD : va_D A [(a0, .inr (5, [.int 4, .int 4, .ref q3, .ref q6, .ref q9, .int 0])), (q3, .inl (cI, 4, .inl (upd (fun _ => 0) 0 0))), (q6, .inl (cI, 4, .inl (fun _ => 0))), (q9, .inl (cR, 4, .inr (.inr (.inr (.inr (fun _ => none))))))] := hD
  refine lv_aload_n hx hb dX0_init_59 rfl (lv_at hl 1 rfl) ?_
  refine va_get (D := (dC, dI)) (ci := 5) (v := .ref q6) (C := RX0) (T := TX0) (N := 6) hx hb hts hi_X0_init_X0 hown hK hP 0 rfl rfl 3 (by decide) (hts (.fieldLink RX0 22 "Deeprows$Row" "values" "[I") (List.mem_cons_of_mem _ zw_113)) (fun _ h9 => h9) rfl dX0_init_60 ?_
  refine lv_iload_n hx hb dX0_init_63 rfl (lv_at hl 0 rfl) ?_
  refine lv_iload_n hx hb dX0_init_64 rfl (lv_at hl 2 rfl) ?_
  refine lv_iconst (v := 4) hx hb dX0_init_65 (by decide) ?_
  refine lv_icmp_ne (tgt := 73) hx hb dX0_init_66 (by decide) (fun c9 => ?_) (fun c9 => ?_)
  · exact absurd (by decide) c9
  refine lv_iconst (v := (-1)) hx hb dX0_init_69 (by decide) ?_
  refine lv_goto (tgt := 74) hx hb dX0_init_70 (by decide) ?_
  refine va_iast (D := (dC, dI)) (cl := vwCl) hx hb hK hP hD (zS0 hS) 2 0 rfl rfl (by unfold vp_in; decide) dX0_init_74 (fun H13 locs hP hD hS1 => ?_)
  have hz : s.heap.size + 3 ≤ H13.size := Nat.le_trans hz hS1.1
  have hS := zSS hS hS1
  replace hP : va_P (dC, dI) vwCl [(a0, .inr (5, [.int 4, .int 4, .ref q3, .ref q6, .ref q9, .int 0])), (q3, .inl (cI, 4, .inl (upd (fun _ => 0) 0 0))), (q6, .inl (cI, 4, .inl (upd (fun _ => 0) 0 (-1)))), (q9, .inl (cR, 4, .inr (.inr (.inr (.inr (fun _ => none))))))] H13 := hP
  replace hD : va_D A [(a0, .inr (5, [.int 4, .int 4, .ref q3, .ref q6, .ref q9, .int 0])), (q3, .inl (cI, 4, .inl (upd (fun _ => 0) 0 0))), (q6, .inl (cI, 4, .inl (upd (fun _ => 0) 0 (-1)))), (q9, .inl (cR, 4, .inr (.inr (.inr (.inr (fun _ => none))))))] := hD
  refine lv_iinc (v := 1) (lv' := [(3, .int 1), (0, .ref a0), (1, .int 4), (2, .int 4)]) hx hb dX0_init_75 hl (k := 0) rfl (by decide) (by decide) rfl (fun ls hl => ?_)
  refine lv_goto (tgt := 38) hx hb dX0_init_78 (by decide) ?_
  refine lv_iload_n hx hb dX0_init_38 rfl (lv_at hl 0 rfl) ?_
  refine lv_iload_n hx hb dX0_init_39 rfl (lv_at hl 3 rfl) ?_
  refine lv_icmp_ge (tgt := 81) hx hb dX0_init_40 (by decide) (fun c9 => ?_) (fun c9 => ?_)
  · exact absurd c9 (by decide)
  refine lv_aload_n hx hb dX0_init_43 rfl (lv_at hl 1 rfl) ?_
  refine va_get (D := (dC, dI)) (ci := 5) (v := .ref q3) (C := RX0) (T := TX0) (N := 6) hx hb hts hi_X0_init_X0 hown hK hP 0 rfl rfl 2 (by decide) (hts (.fieldLink RX0 18 "Deeprows$Row" "whats" "[I") (List.mem_cons_of_mem _ zw_111)) (fun _ h9 => h9) rfl dX0_init_44 ?_
  refine lv_iload_n hx hb dX0_init_47 rfl (lv_at hl 0 rfl) ?_
  refine lv_iload_n hx hb dX0_init_48 rfl (lv_at hl 2 rfl) ?_
  refine lv_iconst (v := 4) hx hb dX0_init_49 (by decide) ?_
  refine lv_icmp_ne (tgt := 57) hx hb dX0_init_50 (by decide) (fun c9 => ?_) (fun c9 => ?_)
  · exact absurd (by decide) c9
  refine lv_iconst (v := 0) hx hb dX0_init_53 (by decide) ?_
  refine lv_goto (tgt := 58) hx hb dX0_init_54 (by decide) ?_
  refine va_iast (D := (dC, dI)) (cl := vwCl) hx hb hK hP hD (zS0 hS) 1 0 rfl rfl (by unfold vp_in; decide) dX0_init_58 (fun H14 locs hP hD hS1 => ?_)
  have hz : s.heap.size + 3 ≤ H14.size := Nat.le_trans hz hS1.1
  have hS := zSS hS hS1
  replace hP : va_P (dC, dI) vwCl [(a0, .inr (5, [.int 4, .int 4, .ref q3, .ref q6, .ref q9, .int 0])), (q3, .inl (cI, 4, .inl (upd (upd (fun _ => 0) 0 0) 1 0))), (q6, .inl (cI, 4, .inl (upd (fun _ => 0) 0 (-1)))), (q9, .inl (cR, 4, .inr (.inr (.inr (.inr (fun _ => none))))))] H14 := hP
  replace hD : va_D A [(a0, .inr (5, [.int 4, .int 4, .ref q3, .ref q6, .ref q9, .int 0])), (q3, .inl (cI, 4, .inl (upd (upd (fun _ => 0) 0 0) 1 0))), (q6, .inl (cI, 4, .inl (upd (fun _ => 0) 0 (-1)))), (q9, .inl (cR, 4, .inr (.inr (.inr (.inr (fun _ => none))))))] := hD
  refine lv_aload_n hx hb dX0_init_59 rfl (lv_at hl 1 rfl) ?_
  refine va_get (D := (dC, dI)) (ci := 5) (v := .ref q6) (C := RX0) (T := TX0) (N := 6) hx hb hts hi_X0_init_X0 hown hK hP 0 rfl rfl 3 (by decide) (hts (.fieldLink RX0 22 "Deeprows$Row" "values" "[I") (List.mem_cons_of_mem _ zw_113)) (fun _ h9 => h9) rfl dX0_init_60 ?_
  refine lv_iload_n hx hb dX0_init_63 rfl (lv_at hl 0 rfl) ?_
  refine lv_iload_n hx hb dX0_init_64 rfl (lv_at hl 2 rfl) ?_
  refine lv_iconst (v := 4) hx hb dX0_init_65 (by decide) ?_
  refine lv_icmp_ne (tgt := 73) hx hb dX0_init_66 (by decide) (fun c9 => ?_) (fun c9 => ?_)
  · exact absurd (by decide) c9
  refine lv_iconst (v := (-1)) hx hb dX0_init_69 (by decide) ?_
  refine lv_goto (tgt := 74) hx hb dX0_init_70 (by decide) ?_
  refine va_iast (D := (dC, dI)) (cl := vwCl) hx hb hK hP hD (zS0 hS) 2 0 rfl rfl (by unfold vp_in; decide) dX0_init_74 (fun H15 locs hP hD hS1 => ?_)
  have hz : s.heap.size + 3 ≤ H15.size := Nat.le_trans hz hS1.1
  have hS := zSS hS hS1
  replace hP : va_P (dC, dI) vwCl [(a0, .inr (5, [.int 4, .int 4, .ref q3, .ref q6, .ref q9, .int 0])), (q3, .inl (cI, 4, .inl (upd (upd (fun _ => 0) 0 0) 1 0))), (q6, .inl (cI, 4, .inl (upd (upd (fun _ => 0) 0 (-1)) 1 (-1)))), (q9, .inl (cR, 4, .inr (.inr (.inr (.inr (fun _ => none))))))] H15 := hP
  replace hD : va_D A [(a0, .inr (5, [.int 4, .int 4, .ref q3, .ref q6, .ref q9, .int 0])), (q3, .inl (cI, 4, .inl (upd (upd (fun _ => 0) 0 0) 1 0))), (q6, .inl (cI, 4, .inl (upd (upd (fun _ => 0) 0 (-1)) 1 (-1)))), (q9, .inl (cR, 4, .inr (.inr (.inr (.inr (fun _ => none))))))] := hD
  refine lv_iinc (v := 2) (lv' := [(3, .int 2), (0, .ref a0), (1, .int 4), (2, .int 4)]) hx hb dX0_init_75 hl (k := 0) rfl (by decide) (by decide) rfl (fun ls hl => ?_)
  refine lv_goto (tgt := 38) hx hb dX0_init_78 (by decide) ?_
  refine lv_iload_n hx hb dX0_init_38 rfl (lv_at hl 0 rfl) ?_
  refine lv_iload_n hx hb dX0_init_39 rfl (lv_at hl 3 rfl) ?_
  refine lv_icmp_ge (tgt := 81) hx hb dX0_init_40 (by decide) (fun c9 => ?_) (fun c9 => ?_)
  · exact absurd c9 (by decide)
  refine lv_aload_n hx hb dX0_init_43 rfl (lv_at hl 1 rfl) ?_
  refine va_get (D := (dC, dI)) (ci := 5) (v := .ref q3) (C := RX0) (T := TX0) (N := 6) hx hb hts hi_X0_init_X0 hown hK hP 0 rfl rfl 2 (by decide) (hts (.fieldLink RX0 18 "Deeprows$Row" "whats" "[I") (List.mem_cons_of_mem _ zw_111)) (fun _ h9 => h9) rfl dX0_init_44 ?_
  refine lv_iload_n hx hb dX0_init_47 rfl (lv_at hl 0 rfl) ?_
  refine lv_iload_n hx hb dX0_init_48 rfl (lv_at hl 2 rfl) ?_
  refine lv_iconst (v := 4) hx hb dX0_init_49 (by decide) ?_
  refine lv_icmp_ne (tgt := 57) hx hb dX0_init_50 (by decide) (fun c9 => ?_) (fun c9 => ?_)
  · exact absurd (by decide) c9
  refine lv_iconst (v := 0) hx hb dX0_init_53 (by decide) ?_
  refine lv_goto (tgt := 58) hx hb dX0_init_54 (by decide) ?_
  refine va_iast (D := (dC, dI)) (cl := vwCl) hx hb hK hP hD (zS0 hS) 1 0 rfl rfl (by unfold vp_in; decide) dX0_init_58 (fun H16 locs hP hD hS1 => ?_)
  have hz : s.heap.size + 3 ≤ H16.size := Nat.le_trans hz hS1.1
  have hS := zSS hS hS1
  replace hP : va_P (dC, dI) vwCl [(a0, .inr (5, [.int 4, .int 4, .ref q3, .ref q6, .ref q9, .int 0])), (q3, .inl (cI, 4, .inl (upd (upd (upd (fun _ => 0) 0 0) 1 0) 2 0))), (q6, .inl (cI, 4, .inl (upd (upd (fun _ => 0) 0 (-1)) 1 (-1)))), (q9, .inl (cR, 4, .inr (.inr (.inr (.inr (fun _ => none))))))] H16 := hP
  replace hD : va_D A [(a0, .inr (5, [.int 4, .int 4, .ref q3, .ref q6, .ref q9, .int 0])), (q3, .inl (cI, 4, .inl (upd (upd (upd (fun _ => 0) 0 0) 1 0) 2 0))), (q6, .inl (cI, 4, .inl (upd (upd (fun _ => 0) 0 (-1)) 1 (-1)))), (q9, .inl (cR, 4, .inr (.inr (.inr (.inr (fun _ => none))))))] := hD
  refine lv_aload_n hx hb dX0_init_59 rfl (lv_at hl 1 rfl) ?_
  refine va_get (D := (dC, dI)) (ci := 5) (v := .ref q6) (C := RX0) (T := TX0) (N := 6) hx hb hts hi_X0_init_X0 hown hK hP 0 rfl rfl 3 (by decide) (hts (.fieldLink RX0 22 "Deeprows$Row" "values" "[I") (List.mem_cons_of_mem _ zw_113)) (fun _ h9 => h9) rfl dX0_init_60 ?_
  refine lv_iload_n hx hb dX0_init_63 rfl (lv_at hl 0 rfl) ?_
  refine lv_iload_n hx hb dX0_init_64 rfl (lv_at hl 2 rfl) ?_
  refine lv_iconst (v := 4) hx hb dX0_init_65 (by decide) ?_
  refine lv_icmp_ne (tgt := 73) hx hb dX0_init_66 (by decide) (fun c9 => ?_) (fun c9 => ?_)
  · exact absurd (by decide) c9
  refine lv_iconst (v := (-1)) hx hb dX0_init_69 (by decide) ?_
  refine lv_goto (tgt := 74) hx hb dX0_init_70 (by decide) ?_
  refine va_iast (D := (dC, dI)) (cl := vwCl) hx hb hK hP hD (zS0 hS) 2 0 rfl rfl (by unfold vp_in; decide) dX0_init_74 (fun H17 locs hP hD hS1 => ?_)
  have hz : s.heap.size + 3 ≤ H17.size := Nat.le_trans hz hS1.1
  have hS := zSS hS hS1
  replace hP : va_P (dC, dI) vwCl [(a0, .inr (5, [.int 4, .int 4, .ref q3, .ref q6, .ref q9, .int 0])), (q3, .inl (cI, 4, .inl (upd (upd (upd (fun _ => 0) 0 0) 1 0) 2 0))), (q6, .inl (cI, 4, .inl (upd (upd (upd (fun _ => 0) 0 (-1)) 1 (-1)) 2 (-1)))), (q9, .inl (cR, 4, .inr (.inr (.inr (.inr (fun _ => none))))))] H17 := hP
  replace hD : va_D A [(a0, .inr (5, [.int 4, .int 4, .ref q3, .ref q6, .ref q9, .int 0])), (q3, .inl (cI, 4, .inl (upd (upd (upd (fun _ => 0) 0 0) 1 0) 2 0))), (q6, .inl (cI, 4, .inl (upd (upd (upd (fun _ => 0) 0 (-1)) 1 (-1)) 2 (-1)))), (q9, .inl (cR, 4, .inr (.inr (.inr (.inr (fun _ => none))))))] := hD
  refine lv_iinc (v := 3) (lv' := [(3, .int 3), (0, .ref a0), (1, .int 4), (2, .int 4)]) hx hb dX0_init_75 hl (k := 0) rfl (by decide) (by decide) rfl (fun ls hl => ?_)
  refine lv_goto (tgt := 38) hx hb dX0_init_78 (by decide) ?_
  refine lv_iload_n hx hb dX0_init_38 rfl (lv_at hl 0 rfl) ?_
  refine lv_iload_n hx hb dX0_init_39 rfl (lv_at hl 3 rfl) ?_
  refine lv_icmp_ge (tgt := 81) hx hb dX0_init_40 (by decide) (fun c9 => ?_) (fun c9 => ?_)
  · exact absurd c9 (by decide)
  refine lv_aload_n hx hb dX0_init_43 rfl (lv_at hl 1 rfl) ?_
  refine va_get (D := (dC, dI)) (ci := 5) (v := .ref q3) (C := RX0) (T := TX0) (N := 6) hx hb hts hi_X0_init_X0 hown hK hP 0 rfl rfl 2 (by decide) (hts (.fieldLink RX0 18 "Deeprows$Row" "whats" "[I") (List.mem_cons_of_mem _ zw_111)) (fun _ h9 => h9) rfl dX0_init_44 ?_
  refine lv_iload_n hx hb dX0_init_47 rfl (lv_at hl 0 rfl) ?_
  refine lv_iload_n hx hb dX0_init_48 rfl (lv_at hl 2 rfl) ?_
  refine lv_iconst (v := 4) hx hb dX0_init_49 (by decide) ?_
  refine lv_icmp_ne (tgt := 57) hx hb dX0_init_50 (by decide) (fun c9 => ?_) (fun c9 => ?_)
  · exact absurd (by decide) c9
  refine lv_iconst (v := 0) hx hb dX0_init_53 (by decide) ?_
  refine lv_goto (tgt := 58) hx hb dX0_init_54 (by decide) ?_
  refine va_iast (D := (dC, dI)) (cl := vwCl) hx hb hK hP hD (zS0 hS) 1 0 rfl rfl (by unfold vp_in; decide) dX0_init_58 (fun H18 locs hP hD hS1 => ?_)
  have hz : s.heap.size + 3 ≤ H18.size := Nat.le_trans hz hS1.1
  have hS := zSS hS hS1
  replace hP : va_P (dC, dI) vwCl [(a0, .inr (5, [.int 4, .int 4, .ref q3, .ref q6, .ref q9, .int 0])), (q3, .inl (cI, 4, .inl (upd (upd (upd (upd (fun _ => 0) 0 0) 1 0) 2 0) 3 0))), (q6, .inl (cI, 4, .inl (upd (upd (upd (fun _ => 0) 0 (-1)) 1 (-1)) 2 (-1)))), (q9, .inl (cR, 4, .inr (.inr (.inr (.inr (fun _ => none))))))] H18 := hP
  replace hD : va_D A [(a0, .inr (5, [.int 4, .int 4, .ref q3, .ref q6, .ref q9, .int 0])), (q3, .inl (cI, 4, .inl (upd (upd (upd (upd (fun _ => 0) 0 0) 1 0) 2 0) 3 0))), (q6, .inl (cI, 4, .inl (upd (upd (upd (fun _ => 0) 0 (-1)) 1 (-1)) 2 (-1)))), (q9, .inl (cR, 4, .inr (.inr (.inr (.inr (fun _ => none))))))] := hD
  refine lv_aload_n hx hb dX0_init_59 rfl (lv_at hl 1 rfl) ?_
  refine va_get (D := (dC, dI)) (ci := 5) (v := .ref q6) (C := RX0) (T := TX0) (N := 6) hx hb hts hi_X0_init_X0 hown hK hP 0 rfl rfl 3 (by decide) (hts (.fieldLink RX0 22 "Deeprows$Row" "values" "[I") (List.mem_cons_of_mem _ zw_113)) (fun _ h9 => h9) rfl dX0_init_60 ?_
  refine lv_iload_n hx hb dX0_init_63 rfl (lv_at hl 0 rfl) ?_
  refine lv_iload_n hx hb dX0_init_64 rfl (lv_at hl 2 rfl) ?_
  refine lv_iconst (v := 4) hx hb dX0_init_65 (by decide) ?_
  refine lv_icmp_ne (tgt := 73) hx hb dX0_init_66 (by decide) (fun c9 => ?_) (fun c9 => ?_)
  · exact absurd (by decide) c9
  refine lv_iconst (v := (-1)) hx hb dX0_init_69 (by decide) ?_
  refine lv_goto (tgt := 74) hx hb dX0_init_70 (by decide) ?_
  refine va_iast (D := (dC, dI)) (cl := vwCl) hx hb hK hP hD (zS0 hS) 2 0 rfl rfl (by unfold vp_in; decide) dX0_init_74 (fun H19 locs hP hD hS1 => ?_)
  have hz : s.heap.size + 3 ≤ H19.size := Nat.le_trans hz hS1.1
  have hS := zSS hS hS1
  replace hP : va_P (dC, dI) vwCl [(a0, .inr (5, [.int 4, .int 4, .ref q3, .ref q6, .ref q9, .int 0])), (q3, .inl (cI, 4, .inl (upd (upd (upd (upd (fun _ => 0) 0 0) 1 0) 2 0) 3 0))), (q6, .inl (cI, 4, .inl (upd (upd (upd (upd (fun _ => 0) 0 (-1)) 1 (-1)) 2 (-1)) 3 (-1)))), (q9, .inl (cR, 4, .inr (.inr (.inr (.inr (fun _ => none))))))] H19 := hP
  replace hD : va_D A [(a0, .inr (5, [.int 4, .int 4, .ref q3, .ref q6, .ref q9, .int 0])), (q3, .inl (cI, 4, .inl (upd (upd (upd (upd (fun _ => 0) 0 0) 1 0) 2 0) 3 0))), (q6, .inl (cI, 4, .inl (upd (upd (upd (upd (fun _ => 0) 0 (-1)) 1 (-1)) 2 (-1)) 3 (-1)))), (q9, .inl (cR, 4, .inr (.inr (.inr (.inr (fun _ => none))))))] := hD
  refine lv_iinc (v := 4) (lv' := [(3, .int 4), (0, .ref a0), (1, .int 4), (2, .int 4)]) hx hb dX0_init_75 hl (k := 0) rfl (by decide) (by decide) rfl (fun ls hl => ?_)
  refine lv_goto (tgt := 38) hx hb dX0_init_78 (by decide) ?_
  refine lv_iload_n hx hb dX0_init_38 rfl (lv_at hl 0 rfl) ?_
  refine lv_iload_n hx hb dX0_init_39 rfl (lv_at hl 3 rfl) ?_
  refine lv_icmp_ge (tgt := 81) hx hb dX0_init_40 (by decide) (fun c9 => ?_) (fun c9 => ?_)
  rotate_left
  · exact absurd (by decide) c9
  have hP9 := hP.sub (ws' := [(a0, .inr (5, [.int 4, .int 4, .ref q3, .ref q6, .ref q9, .int 0])), (q3, .inl (cI, 4, .inl (upd (upd (upd (upd (fun _ => 0) 0 0) 1 0) 2 0) 3 0))), (q6, .inl (cI, 4, .inl (upd (upd (upd (upd (fun _ => 0) 0 (-1)) 1 (-1)) 2 (-1)) 3 (-1)))), (q9, .inl (cR, 4, .inr (.inr (.inr (.inr (fun _ => none))))))]) [0, 1, 2, 3] rfl
  have hD9 := hD.sub (ws' := [(a0, .inr (5, [.int 4, .int 4, .ref q3, .ref q6, .ref q9, .int 0])), (q3, .inl (cI, 4, .inl (upd (upd (upd (upd (fun _ => 0) 0 0) 1 0) 2 0) 3 0))), (q6, .inl (cI, 4, .inl (upd (upd (upd (upd (fun _ => 0) 0 (-1)) 1 (-1)) 2 (-1)) 3 (-1)))), (q9, .inl (cR, 4, .inr (.inr (.inr (.inr (fun _ => none))))))]) [0, 1, 2, 3] (by decide) rfl
  exact W.vret hx hb hr (fun t ht hW => ⟨⟨(), rfl, trivial, ⟨_, _, _, _, _, _, ⟨by rw [ht]; exact hP9, va_K.moved hW.alike hK, hD9, by rw [ht]; exact hz⟩, fun i hi => by rcases (show i = 0 ∨ i = 1 ∨ i = 2 ∨ i = 3 by omega) with rfl | rfl | rfl | rfl <;> rfl, fun i hi => rfl⟩⟩, hS.F ht⟩) hS.2.2 dX0_init_81

set_option maxHeartbeats 4000000 in
set_option maxRecDepth 100000 in
theorem k_rin1 (l : Launch) (dC : Nat → ClassId) (dI : Nat → Nat → Nat) (cI cB cR cO : ClassId) (zk : Nat → Nat) (a0 : Nat) (sz : Nat)  : Met l yX0_init wsX0_init ({ frames := 1, cells := 3, slots := 3, locals := 60 }) (va_Pc [.ref a0, .int 4, .int 1] (zPre (dC, dI) (zT cI cB cR cO) zk [] [(a0, .inr (5, [.int 0, .int 0, .null, .null, .null, .int 0]))] sz)) (va_Qv (fun _ : Unit => True) (fun _ t => ∃ w1, ∃ v1, ∃ h1, ∃ (gw : Nat → Int32), ∃ (gv : Nat → Int32), ∃ (gh : Nat → Option Nat), zEnd (dC, dI) (zT cI cB cR cO) (va_A [(a0, .inr (5, [.int 0, .int 0, .null, .null, .null, .int 0]))] sz) [(a0, .inr (5, [.int 4, .int 1, .ref w1, .ref v1, .ref h1, .int 0])), (w1, .inl (cI, 1, .inl gw)), (v1, .inl (cI, 1, .inl gv)), (h1, .inl (cR, 1, .inr (.inr (.inr (.inr gh)))))] sz 3 t ∧ (∀ i, i < 1 → gw i = 0) ∧ (∀ i, i < 1 → gh i = none)) (va_A [(a0, .inr (5, [.int 0, .int 0, .null, .null, .null, .int 0]))] sz)) 3 3 (va_A [(a0, .inr (5, [.int 0, .int 0, .null, .null, .null, .int 0]))] sz) := by
  refine Met.ofW (cc := cX0_init) (maxL := 4) (ret := none) (by decide) rfl ?_
  intro p e s mY args below meth c s₁ B hml hv
  obtain ⟨rfl, hsz, hP, hK, hD0, hZ⟩ := hv
  have hx := B.exec
  have hb := B.bytes
  have hr := B.returns
  have hts := atoms_spec (ws := wsX0_init) B.pre
  have hown : s.vm.findClass RX0 = some mY.cls := findClass_of_methodNamed B.named
  have hlocks := B.notSynchronized
  have hin : meth.name = "<init>" := (name_of_methodNamed B.named B.method).1
  subst hsz
  have hD := hD0.self (sz := s.heap.size)
  generalize hAe : va_A [(a0, .inr (5, [.int 0, .int 0, .null, .null, .null, .int 0]))] s.heap.size = A at hD hZ ⊢
  have hA : ∀ q : Nat, s.heap.size ≤ q → A q := fun q h => by rw [← hAe]; exact Or.inr h
  have hS : va_S A s.heap s.heap [] := va_S.rf
  have hz : s.heap.size + 0 ≤ s.heap.size := Nat.le_refl _
  have hl := lv_entry ([.ref a0, .int 4, .int 1]) (n := 4) (Nat.le_of_ble_eq_true rfl)
  rw [lg_entry_eq]
  generalize (lg_sl ([.ref a0, .int 4, .int 1]) ++ List.replicate (4 - (lg_sl ([.ref a0, .int 4, .int 1])).length) Slot.unset).toArray = ls at hl ⊢
  have hl : lv_has ls 4 [(0, .ref a0), (1, .int 4), (2, .int 1)] := hl
  have hP : va_P (dC, dI) vwCl [(a0, .inr (5, [.int 0, .int 0, .null, .null, .null, .int 0]))] s.heap := hP
  have hD : va_D A [(a0, .inr (5, [.int 0, .int 0, .null, .null, .null, .int 0]))] := hD
  refine lv_aload_n hx hb dX0_init_0 rfl (lv_at hl 0 rfl) ?_
  refine W.objInit hx hb hown (hts (.methodLink RX0 3 objectInit) (List.mem_cons_of_mem _ zw_104)) (hts (.instanceMethod objectInit) (List.mem_cons_of_mem _ zw_71)) (hts (.code objectInit ⟨#[0xb1]⟩ 1 none) (List.mem_cons_of_mem _ zw_72)) rfl (by rw [hml]; exact hl.1) rfl dX0_init_1 (Nat.le_of_ble_eq_true rfl) (Nat.le_of_ble_eq_true rfl) ?_
  refine W.eq (g2 := F0 mY 4 ls []) rfl ?_
  refine lv_aload_n hx hb dX0_init_4 rfl (lv_at hl 0 rfl) ?_
  refine lv_iload_n hx hb dX0_init_5 rfl (lv_at hl 1 rfl) ?_
  refine va_putF (D := (dC, dI)) (ci := 5) (v := .int 4) (ty := .int) (C := RX0) (T := TX0) (N := 6) hx hb hts hi_X0_init_X0 tyX0 tyX0_ok nmX0 hown hK hP hD (zS0 hS) 0 rfl rfl 0 (by decide) (hts (.fieldLink RX0 9 "Deeprows$Row" "kind" "I") (List.mem_cons_of_mem _ zw_107)) (fun _ h9 => h9) rfl hin rfl (by decide +kernel) rfl rfl (Nat.le_of_ble_eq_true rfl) dX0_init_6 (fun H1 locs hP hD hS1 => ?_)
  have hz : s.heap.size + 0 ≤ H1.size := Nat.le_trans hz hS1.1
  have hS := zSS hS hS1
  replace hP : va_P (dC, dI) vwCl [(a0, .inr (5, [.int 4, .int 0, .null, .null, .null, .int 0]))] H1 := hP
  replace hD : va_D A [(a0, .inr (5, [.int 4, .int 0, .null, .null, .null, .int 0]))] := hD
  refine lv_aload_n hx hb dX0_init_9 rfl (lv_at hl 0 rfl) ?_
  refine lv_iload_n hx hb dX0_init_10 rfl (lv_at hl 2 rfl) ?_
  refine va_putF (D := (dC, dI)) (ci := 5) (v := .int 1) (ty := .int) (C := RX0) (T := TX0) (N := 6) hx hb hts hi_X0_init_X0 tyX0 tyX0_ok nmX0 hown hK hP hD (zS0 hS) 0 rfl rfl 1 (by decide) (hts (.fieldLink RX0 15 "Deeprows$Row" "length" "I") (List.mem_cons_of_mem _ zw_109)) (fun _ h9 => h9) rfl hin rfl (by decide +kernel) rfl rfl (Nat.le_of_ble_eq_true rfl) dX0_init_11 (fun H2 locs hP hD hS1 => ?_)
  have hz : s.heap.size + 0 ≤ H2.size := Nat.le_trans hz hS1.1
  have hS := zSS hS hS1
  replace hP : va_P (dC, dI) vwCl [(a0, .inr (5, [.int 4, .int 1, .null, .null, .null, .int 0]))] H2 := hP
  replace hD : va_D A [(a0, .inr (5, [.int 4, .int 1, .null, .null, .null, .int 0]))] := hD
  refine lv_aload_n hx hb dX0_init_14 rfl (lv_at hl 0 rfl) ?_
  refine lv_iload_n hx hb dX0_init_15 rfl (lv_at hl 2 rfl) ?_
  refine zw_newa (atype := .int) (ty := .int) (N' := 1) hx hb (hts (.arrayClass .int) (List.mem_cons_of_mem _ zw_131)) rfl (by first | exact Or.inl rfl | exact Or.inr rfl) hK hP hD hS hA 0 rfl (by decide) (by decide) (Nat.le_of_ble_eq_true rfl) (Nat.le_of_ble_eq_true rfl) (Nat.le_of_ble_eq_true rfl) dX0_init_16 hz (fun q3 H4 hP hD hS hz => ?_)
  replace hP : va_P (dC, dI) vwCl [(a0, .inr (5, [.int 4, .int 1, .null, .null, .null, .int 0])), (q3, .inl (cI, 1, .inl (fun _ => 0)))] H4 := hP
  replace hD : va_D A [(a0, .inr (5, [.int 4, .int 1, .null, .null, .null, .int 0])), (q3, .inl (cI, 1, .inl (fun _ => 0)))] := hD
  refine W.widen (k := 1) (n := 1) (by omega) (by omega) ?_
  refine va_putF (D := (dC, dI)) (ci := 5) (v := .ref q3) (ty := .array .int) (C := RX0) (T := TX0) (N := 6) hx hb hts hi_X0_init_X0 tyX0 tyX0_ok nmX0 hown hK hP hD (zS0 hS) 0 rfl rfl 2 (by decide) (hts (.fieldLink RX0 18 "Deeprows$Row" "whats" "[I") (List.mem_cons_of_mem _ zw_111)) (fun _ h9 => h9) rfl hin rfl (by decide +kernel) rfl rfl (Nat.le_of_ble_eq_true rfl) dX0_init_18 (fun H5 locs hP hD hS1 => ?_)
  have hz : s.heap.size + 1 ≤ H5.size := Nat.le_trans hz hS1.1
  have hS := zSS hS hS1
  replace hP : va_P (dC, dI) vwCl [(a0, .inr (5, [.int 4, .int 1, .ref q3, .null, .null, .int 0])), (q3, .inl (cI, 1, .inl (fun _ => 0)))] H5 := hP
  replace hD : va_D A [(a0, .inr (5, [.int 4, .int 1, .ref q3, .null, .null, .int 0])), (q3, .inl (cI, 1, .inl (fun _ => 0)))] := hD
  refine lv_aload_n hx hb dX0_init_21 rfl (lv_at hl 0 rfl) ?_
  refine lv_iload_n hx hb dX0_init_22 rfl (lv_at hl 2 rfl) ?_
  refine zw_newa (atype := .int) (ty := .int) (N' := 1) hx hb (hts (.arrayClass .int) (List.mem_cons_of_mem _ zw_131)) rfl (by first | exact Or.inl rfl | exact Or.inr rfl) hK hP hD hS hA 0 rfl (by decide) (by decide) (Nat.le_of_ble_eq_true rfl) (Nat.le_of_ble_eq_true rfl) (Nat.le_of_ble_eq_true rfl) dX0_init_23 hz (fun q6 H7 hP hD hS hz => ?_)
  replace hP : va_P (dC, dI) vwCl [(a0, .inr (5, [.int 4, .int 1, .ref q3, .null, .null, .int 0])), (q3, .inl (cI, 1, .inl (fun _ => 0))), (q6, .inl (cI, 1, .inl (fun _ => 0)))] H7 := hP
  replace hD : va_D A [(a0, .inr (5, [.int 4, .int 1, .ref q3, .null, .null, .int 0])), (q3, .inl (cI, 1, .inl (fun _ => 0))), (q6, .inl (cI, 1, .inl (fun _ => 0)))] := hD
  refine W.widen (k := 2) (n := 2) (by omega) (by omega) ?_
  refine va_putF (D := (dC, dI)) (ci := 5) (v := .ref q6) (ty := .array .int) (C := RX0) (T := TX0) (N := 6) hx hb hts hi_X0_init_X0 tyX0 tyX0_ok nmX0 hown hK hP hD (zS0 hS) 0 rfl rfl 3 (by decide) (hts (.fieldLink RX0 22 "Deeprows$Row" "values" "[I") (List.mem_cons_of_mem _ zw_113)) (fun _ h9 => h9) rfl hin rfl (by decide +kernel) rfl rfl (Nat.le_of_ble_eq_true rfl) dX0_init_25 (fun H8 locs hP hD hS1 => ?_)
  have hz : s.heap.size + 2 ≤ H8.size := Nat.le_trans hz hS1.1
  have hS := zSS hS hS1
  replace hP : va_P (dC, dI) vwCl [(a0, .inr (5, [.int 4, .int 1, .ref q3, .ref q6, .null, .int 0])), (q3, .inl (cI, 1, .inl (fun _ => 0))), (q6, .inl (cI, 1, .inl (fun _ => 0)))] H8 := hP
  replace hD : va_D A [(a0, .inr (5, [.int 4, .int 1, .ref q3, .ref q6, .null, .int 0])), (q3, .inl (cI, 1, .inl (fun _ => 0))), (q6, .inl (cI, 1, .inl (fun _ => 0)))] := hD
  refine lv_aload_n hx hb dX0_init_28 rfl (lv_at hl 0 rfl) ?_
  refine lv_iload_n hx hb dX0_init_29 rfl (lv_at hl 2 rfl) ?_
  refine zw_newq (C := "Deeprows$Row") (N' := 1) hx hb hown (hts (.classLink RX0 10 RX0) (List.mem_cons_of_mem _ zw_105)) (za0 hZ) hK hP hD hS hA 2 rfl (by decide) (by decide) (by decide) (Nat.le_of_ble_eq_true rfl) (Nat.le_of_ble_eq_true rfl) dX0_init_30 hz (fun q9 H10 hP hD hS hz => ?_)
  replace hP : va_P (dC, dI) vwCl [(a0, .inr (5, [.int 4, .int 1, .ref q3, .ref q6, .null, .int 0])), (q3, .inl (cI, 1, .inl (fun _ => 0))), (q6, .inl (cI, 1, .inl (fun _ => 0))), (q9, .inl (cR, 1, .inr (.inr (.inr (.inr (fun _ => none))))))] H10 := hP
  replace hD : va_D A [(a0, .inr (5, [.int 4, .int 1, .ref q3, .ref q6, .null, .int 0])), (q3, .inl (cI, 1, .inl (fun _ => 0))), (q6, .inl (cI, 1, .inl (fun _ => 0))), (q9, .inl (cR, 1, .inr (.inr (.inr (.inr (fun _ => none))))))] := hD
  refine W.widen (k := 3) (n := 3) (by omega) (by omega) ?_
  refine va_putF (D := (dC, dI)) (ci := 5) (v := .ref q9) (ty := .array (.object "Deeprows$Row")) (C := RX0) (T := TX0) (N := 6) hx hb hts hi_X0_init_X0 tyX0 tyX0_ok nmX0 hown hK hP hD (zS0 hS) 0 rfl rfl 4 (by decide) (hts (.fieldLink RX0 25 "Deeprows$Row" "hung" "[LDeeprows$Row;") (List.mem_cons_of_mem _ zw_115)) (fun _ h9 => h9) rfl hin rfl (by decide +kernel) rfl rfl (Nat.le_of_ble_eq_true rfl) dX0_init_33 (fun H11 locs hP hD hS1 => ?_)
  have hz : s.heap.size + 3 ≤ H11.size := Nat.le_trans hz hS1.1
  have hS := zSS hS hS1
  replace hP : va_P (dC, dI) vwCl [(a0, .inr (5, [.int 4, .int 1, .ref q3, .ref q6, .ref q9, .int 0])), (q3, .inl (cI, 1, .inl (fun _ => 0))), (q6, .inl (cI, 1, .inl (fun _ => 0))), (q9, .inl (cR, 1, .inr (.inr (.inr (.inr (fun _ => none))))))] H11 := hP
  replace hD : va_D A [(a0, .inr (5, [.int 4, .int 1, .ref q3, .ref q6, .ref q9, .int 0])), (q3, .inl (cI, 1, .inl (fun _ => 0))), (q6, .inl (cI, 1, .inl (fun _ => 0))), (q9, .inl (cR, 1, .inr (.inr (.inr (.inr (fun _ => none))))))] := hD
  refine lv_iconst (v := 0) hx hb dX0_init_36 (by decide) ?_
  refine lv_istore_n (lv' := [(3, .int 0), (0, .ref a0), (1, .int 4), (2, .int 1)]) hx hb dX0_init_37 rfl hl (by decide) rfl (fun ls hl => ?_)
  refine lv_iload_n hx hb dX0_init_38 rfl (lv_at hl 0 rfl) ?_
  refine lv_iload_n hx hb dX0_init_39 rfl (lv_at hl 3 rfl) ?_
  refine lv_icmp_ge (tgt := 81) hx hb dX0_init_40 (by decide) (fun c9 => ?_) (fun c9 => ?_)
  · exact absurd c9 (by decide)
  refine lv_aload_n hx hb dX0_init_43 rfl (lv_at hl 1 rfl) ?_
  refine va_get (D := (dC, dI)) (ci := 5) (v := .ref q3) (C := RX0) (T := TX0) (N := 6) hx hb hts hi_X0_init_X0 hown hK hP 0 rfl rfl 2 (by decide) (hts (.fieldLink RX0 18 "Deeprows$Row" "whats" "[I") (List.mem_cons_of_mem _ zw_111)) (fun _ h9 => h9) rfl dX0_init_44 ?_
  refine lv_iload_n hx hb dX0_init_47 rfl (lv_at hl 0 rfl) ?_
  refine lv_iload_n hx hb dX0_init_48 rfl (lv_at hl 2 rfl) ?_
  refine lv_iconst (v := 4) hx hb dX0_init_49 (by decide) ?_
  refine lv_icmp_ne (tgt := 57) hx hb dX0_init_50 (by decide) (fun c9 => ?_) (fun c9 => ?_)
  · exact absurd (by decide) c9
  refine lv_iconst (v := 0) hx hb dX0_init_53 (by decide) ?_
  refine lv_goto (tgt := 58) hx hb dX0_init_54 (by decide) ?_
  refine va_iast (D := (dC, dI)) (cl := vwCl) hx hb hK hP hD (zS0 hS) 1 0 rfl rfl (by unfold vp_in; decide) dX0_init_58 (fun H12 locs hP hD hS1 => ?_)
  have hz : s.heap.size + 3 ≤ H12.size := Nat.le_trans hz hS1.1
  have hS := zSS hS hS1
  replace hP : va_P (dC, dI) vwCl [(a0, .inr (5, [.int 4, .int 1, .ref q3, .ref q6, .ref q9, .int 0])), (q3, .inl (cI, 1, .inl (upd (fun _ => 0) 0 0))), (q6, .inl (cI, 1, .inl (fun _ => 0))), (q9, .inl (cR, 1, .inr (.inr (.inr (.inr (fun _ => none))))))] H12 := hP
  replace hD : va_D A [(a0, .inr (5, [.int 4, .int 1, .ref q3, .ref q6, .ref q9, .int 0])), (q3, .inl (cI, 1, .inl (upd (fun _ => 0) 0 0))), (q6, .inl (cI, 1, .inl (fun _ => 0))), (q9, .inl (cR, 1, .inr (.inr (.inr (.inr (fun _ => none))))))] := hD
  refine lv_aload_n hx hb dX0_init_59 rfl (lv_at hl 1 rfl) ?_
  refine va_get (D := (dC, dI)) (ci := 5) (v := .ref q6) (C := RX0) (T := TX0) (N := 6) hx hb hts hi_X0_init_X0 hown hK hP 0 rfl rfl 3 (by decide) (hts (.fieldLink RX0 22 "Deeprows$Row" "values" "[I") (List.mem_cons_of_mem _ zw_113)) (fun _ h9 => h9) rfl dX0_init_60 ?_
  refine lv_iload_n hx hb dX0_init_63 rfl (lv_at hl 0 rfl) ?_
  refine lv_iload_n hx hb dX0_init_64 rfl (lv_at hl 2 rfl) ?_
  refine lv_iconst (v := 4) hx hb dX0_init_65 (by decide) ?_
  refine lv_icmp_ne (tgt := 73) hx hb dX0_init_66 (by decide) (fun c9 => ?_) (fun c9 => ?_)
  · exact absurd (by decide) c9
  refine lv_iconst (v := (-1)) hx hb dX0_init_69 (by decide) ?_
  refine lv_goto (tgt := 74) hx hb dX0_init_70 (by decide) ?_
  refine va_iast (D := (dC, dI)) (cl := vwCl) hx hb hK hP hD (zS0 hS) 2 0 rfl rfl (by unfold vp_in; decide) dX0_init_74 (fun H13 locs hP hD hS1 => ?_)
  have hz : s.heap.size + 3 ≤ H13.size := Nat.le_trans hz hS1.1
  have hS := zSS hS hS1
  replace hP : va_P (dC, dI) vwCl [(a0, .inr (5, [.int 4, .int 1, .ref q3, .ref q6, .ref q9, .int 0])), (q3, .inl (cI, 1, .inl (upd (fun _ => 0) 0 0))), (q6, .inl (cI, 1, .inl (upd (fun _ => 0) 0 (-1)))), (q9, .inl (cR, 1, .inr (.inr (.inr (.inr (fun _ => none))))))] H13 := hP
  replace hD : va_D A [(a0, .inr (5, [.int 4, .int 1, .ref q3, .ref q6, .ref q9, .int 0])), (q3, .inl (cI, 1, .inl (upd (fun _ => 0) 0 0))), (q6, .inl (cI, 1, .inl (upd (fun _ => 0) 0 (-1)))), (q9, .inl (cR, 1, .inr (.inr (.inr (.inr (fun _ => none))))))] := hD
  refine lv_iinc (v := 1) (lv' := [(3, .int 1), (0, .ref a0), (1, .int 4), (2, .int 1)]) hx hb dX0_init_75 hl (k := 0) rfl (by decide) (by decide) rfl (fun ls hl => ?_)
  refine lv_goto (tgt := 38) hx hb dX0_init_78 (by decide) ?_
  refine lv_iload_n hx hb dX0_init_38 rfl (lv_at hl 0 rfl) ?_
  refine lv_iload_n hx hb dX0_init_39 rfl (lv_at hl 3 rfl) ?_
  refine lv_icmp_ge (tgt := 81) hx hb dX0_init_40 (by decide) (fun c9 => ?_) (fun c9 => ?_)
  rotate_left
  · exact absurd (by decide) c9
  have hP9 := hP.sub (ws' := [(a0, .inr (5, [.int 4, .int 1, .ref q3, .ref q6, .ref q9, .int 0])), (q3, .inl (cI, 1, .inl (upd (fun _ => 0) 0 0))), (q6, .inl (cI, 1, .inl (upd (fun _ => 0) 0 (-1)))), (q9, .inl (cR, 1, .inr (.inr (.inr (.inr (fun _ => none))))))]) [0, 1, 2, 3] rfl
  have hD9 := hD.sub (ws' := [(a0, .inr (5, [.int 4, .int 1, .ref q3, .ref q6, .ref q9, .int 0])), (q3, .inl (cI, 1, .inl (upd (fun _ => 0) 0 0))), (q6, .inl (cI, 1, .inl (upd (fun _ => 0) 0 (-1)))), (q9, .inl (cR, 1, .inr (.inr (.inr (.inr (fun _ => none))))))]) [0, 1, 2, 3] (by decide) rfl
  exact W.vret hx hb hr (fun t ht hW => ⟨⟨(), rfl, trivial, ⟨_, _, _, _, _, _, ⟨by rw [ht]; exact hP9, va_K.moved hW.alike hK, hD9, by rw [ht]; exact hz⟩, fun i hi => by rw [show i = 0 by omega]; rfl, fun i hi => rfl⟩⟩, hS.F ht⟩) hS.2.2 dX0_init_81

set_option maxHeartbeats 4000000 in
set_option maxRecDepth 100000 in
theorem k_ac (l : Launch) (dC : Nat → ClassId) (dI : Nat → Nat → Nat) (cI cB cR cO : ClassId) (zk : Nat → Nat) (al : Nat) (sz : Nat)  : Met l yJxa1e45_init_da8c8 wsJxa1e45_init_da8c8 ({ frames := 1, cells := 0, slots := 0, locals := 60 }) (va_Pc [.ref al] (zPre (dC, dI) (zT cI cB cR cO) zk [] [(al, .inr (4, [.int 0, .null, .int 0]))] sz)) (va_Qv (fun _ : Unit => True) (fun _ t => zEnd (dC, dI) (zT cI cB cR cO) (va_A [(al, .inr (4, [.int 0, .null, .int 0]))] sz) [(al, .inr (4, [.int 0, .null, .int 0]))] sz 0 t) (va_A [(al, .inr (4, [.int 0, .null, .int 0]))] sz)) 0 0 (va_A [(al, .inr (4, [.int 0, .null, .int 0]))] sz) := by
  refine Met.ofW (cc := cJxa1e45_init_da8c8) (maxL := 1) (ret := none) (by decide) rfl ?_
  intro p e s mY args below meth c s₁ B hml hv
  obtain ⟨rfl, hsz, hP, hK, hD0, hZ⟩ := hv
  have hx := B.exec
  have hb := B.bytes
  have hr := B.returns
  have hts := atoms_spec (ws := wsJxa1e45_init_da8c8) B.pre
  have hown : s.vm.findClass RJxa1e45 = some mY.cls := findClass_of_methodNamed B.named
  have hlocks := B.notSynchronized
  have hin : meth.name = "<init>" := (name_of_methodNamed B.named B.method).1
  subst hsz
  have hD := hD0.self (sz := s.heap.size)
  generalize hAe : va_A [(al, .inr (4, [.int 0, .null, .int 0]))] s.heap.size = A at hD hZ ⊢
  have hA : ∀ q : Nat, s.heap.size ≤ q → A q := fun q h => by rw [← hAe]; exact Or.inr h
  have hS : va_S A s.heap s.heap [] := va_S.rf
  have hz : s.heap.size + 0 ≤ s.heap.size := Nat.le_refl _
  have hl := lv_entry ([.ref al]) (n := 1) (Nat.le_of_ble_eq_true rfl)
  rw [lg_entry_eq]
  generalize (lg_sl ([.ref al]) ++ List.replicate (1 - (lg_sl ([.ref al])).length) Slot.unset).toArray = ls at hl ⊢
  have hl : lv_has ls 1 [(0, .ref al)] := hl
  have hP : va_P (dC, dI) vwCl [(al, .inr (4, [.int 0, .null, .int 0]))] s.heap := hP
  have hD : va_D A [(al, .inr (4, [.int 0, .null, .int 0]))] := hD
  refine lv_aload_n hx hb dJxa1e45_init_da8c8_0 rfl (lv_at hl 0 rfl) ?_
  refine W.objInit hx hb hown (hts (.methodLink RJxa1e45 1 objectInit) (List.mem_cons_of_mem _ zw_84)) (hts (.instanceMethod objectInit) (List.mem_cons_of_mem _ zw_71)) (hts (.code objectInit ⟨#[0xb1]⟩ 1 none) (List.mem_cons_of_mem _ zw_72)) rfl (by rw [hml]; exact hl.1) rfl dJxa1e45_init_da8c8_1 (Nat.le_of_ble_eq_true rfl) (Nat.le_of_ble_eq_true rfl) ?_
  refine W.eq (g2 := F0 mY 4 ls []) rfl ?_
  have hP9 := hP.sub (ws' := [(al, .inr (4, [.int 0, .null, .int 0]))]) [0] rfl
  have hD9 := hD.sub (ws' := [(al, .inr (4, [.int 0, .null, .int 0]))]) [0] (by decide) rfl
  exact W.vret hx hb hr (fun t ht hW => ⟨⟨(), rfl, trivial, ⟨by rw [ht]; exact hP9, va_K.moved hW.alike hK, hD9, by rw [ht]; exact hz⟩⟩, hS.F ht⟩) hS.2.2 dJxa1e45_init_da8c8_4

theorem hi_Jxc12de_init_da8c8_Jx4a65c : ∀ w ∈ u_ws RJx4a65c TJx4a65c 3, w ∈ wsJxc12de_init_da8c8 := fun w h => List.mem_cons_of_mem _ (zhi_Jx4a65c w h)
set_option maxHeartbeats 4000000 in
set_option maxRecDepth 100000 in
theorem k_abl (l : Launch) (dC : Nat → ClassId) (dI : Nat → Nat → Nat) (cI cB cR cO : ClassId) (zk : Nat → Nat) (al : Nat) (sz : Nat)  : Met l yJxc12de_init_da8c8 wsJxc12de_init_da8c8 ({ frames := 2, cells := 0, slots := 0, locals := 80 }) (va_Pc [.ref al] (zPre (dC, dI) (zT cI cB cR cO) zk [] [(al, .inr (4, [.int 0, .null, .int 0]))] sz)) (va_Qv (fun _ : Unit => True) (fun _ t => zEnd (dC, dI) (zT cI cB cR cO) (va_A [(al, .inr (4, [.int 0, .null, .int 0]))] sz) [(al, .inr (4, [.int 0, .null, .int 0]))] sz 0 t) (va_A [(al, .inr (4, [.int 0, .null, .int 0]))] sz)) 0 0 (va_A [(al, .inr (4, [.int 0, .null, .int 0]))] sz) := by
  refine Met.ofW (cc := cJxc12de_init_da8c8) (maxL := 1) (ret := none) (by decide) rfl ?_
  intro p e s mY args below meth c s₁ B hml hv
  obtain ⟨rfl, hsz, hP, hK, hD0, hZ⟩ := hv
  have hx := B.exec
  have hb := B.bytes
  have hr := B.returns
  have hts := atoms_spec (ws := wsJxc12de_init_da8c8) B.pre
  have hown : s.vm.findClass RJxc12de = some mY.cls := findClass_of_methodNamed B.named
  have hlocks := B.notSynchronized
  have hin : meth.name = "<init>" := (name_of_methodNamed B.named B.method).1
  subst hsz
  have hD := hD0.self (sz := s.heap.size)
  generalize hAe : va_A [(al, .inr (4, [.int 0, .null, .int 0]))] s.heap.size = A at hD hZ ⊢
  have hA : ∀ q : Nat, s.heap.size ≤ q → A q := fun q h => by rw [← hAe]; exact Or.inr h
  have hS : va_S A s.heap s.heap [] := va_S.rf
  have hz : s.heap.size + 0 ≤ s.heap.size := Nat.le_refl _
  have hl := lv_entry ([.ref al]) (n := 1) (Nat.le_of_ble_eq_true rfl)
  rw [lg_entry_eq]
  generalize (lg_sl ([.ref al]) ++ List.replicate (1 - (lg_sl ([.ref al])).length) Slot.unset).toArray = ls at hl ⊢
  have hl : lv_has ls 1 [(0, .ref al)] := hl
  have hP : va_P (dC, dI) vwCl [(al, .inr (4, [.int 0, .null, .int 0]))] s.heap := hP
  have hD : va_D A [(al, .inr (4, [.int 0, .null, .int 0]))] := hD
  refine lv_aload_n hx hb dJxc12de_init_da8c8_0 rfl (lv_at hl 0 rfl) ?_
  have hPc := hP.sub (ws' := [(al, .inr (4, [.int 0, .null, .int 0]))]) [0] rfl
  have hDc := hD.sub (ws' := [(al, .inr (4, [.int 0, .null, .int 0]))]) [0] (by decide) rfl
  have hFc := va_free (wc := [(al, .inr (4, [.int 0, .null, .int 0]))]) hD hS hA [0] rfl
  have hDv := hDc.self (sz := s.heap.size)
  have hpre := zpre (xs' := []) (av := [.ref al]) hPc hK (hDc.weaken (fun _ _ _ h => h)) hZ hS hFc (fun r hr => by cases hr)
  refine va_callv (va_runI (As := []) (rest := []) ⟨hx, hb, hml, hown, hts⟩ (k_ac l dC dI cI cB cR cO zk al s.heap.size ) (cwI 0 hts gJxc12de_init_da8c8_Jxa1e45_init_da8c8 rfl rfl rfl (hts (.initialized RJxa1e45) (List.mem_cons_of_mem _ zw_36)) (hts (.methodLink RJxc12de 1 yJxa1e45_init_da8c8) (List.mem_cons_of_mem _ zw_81)) (hts (.instanceMethod yJxa1e45_init_da8c8) (List.mem_cons_of_mem _ zw_82)) rfl (by decide +kernel) ⟨Nat.le_of_ble_eq_true rfl, Nat.le_of_ble_eq_true rfl⟩) ⟨zblind, hpre⟩ rfl rfl hl.1 rfl (lv_room (Nat.le_of_ble_eq_true rfl)) dJxc12de_init_da8c8_1 ⟨Nat.le_of_ble_eq_true rfl, Nat.le_of_ble_eq_true rfl⟩) hS (fun q _ h => hFc q h) hFc (fun u t H1 locs ht hvm hw hB hz1 hk1 hS => ?_)
  obtain ⟨hP1, hK1, hD1, hz2⟩ := hB
  rw [ht] at hP1 hz2
  have hPD9 := va_join (wr := []) (w1 := [(al, .inr (4, [.int 0, .null, .int 0]))]) hP hD [0] [] rfl rfl (by decide) (by decide) hk1 hFc hP1 hD1
  clear hPc hDc hFc hDv hpre hP hD hP1 hK1 hD1
  obtain ⟨hP, hD⟩ := hPD9
  replace hz : s.heap.size + 0 ≤ H1.size := by omega
  clear hz2
  replace hP : va_P (dC, dI) vwCl [(al, .inr (4, [.int 0, .null, .int 0]))] H1 := hP
  replace hD : va_D A [(al, .inr (4, [.int 0, .null, .int 0]))] := hD
  refine W.widen (k := 0) (n := 0) (by omega) (by omega) ?_
  refine lv_aload_n hx hb dJxc12de_init_da8c8_4 rfl (lv_at hl 0 rfl) ?_
  refine lv_iconst (v := 0) hx hb dJxc12de_init_da8c8_5 (by decide) ?_
  refine va_put (D := (dC, dI)) (ci := 4) (v := .int 0) (ty := .int) (C := RJx4a65c) (T := TJx4a65c) (N := 3) hx hb hts hi_Jxc12de_init_da8c8_Jx4a65c tyJx4a65c tyJx4a65c_ok nmJx4a65c hown hK hP hD (zS0 hS) 0 rfl rfl 0 (by decide) (hts (.fieldLink RJxc12de 7 "java/util/AbstractList" "modCount" "I") (List.mem_cons_of_mem _ zw_89)) (fun _ h9 => h9) rfl (by decide +kernel) rfl rfl (Nat.le_of_ble_eq_true rfl) dJxc12de_init_da8c8_6 (fun H3 locs hP hD hS1 => ?_)
  have hz : s.heap.size + 0 ≤ H3.size := Nat.le_trans hz hS1.1
  have hS := zSS hS hS1
  replace hP : va_P (dC, dI) vwCl [(al, .inr (4, [.int 0, .null, .int 0]))] H3 := hP
  replace hD : va_D A [(al, .inr (4, [.int 0, .null, .int 0]))] := hD
  have hP9 := hP.sub (ws' := [(al, .inr (4, [.int 0, .null, .int 0]))]) [0] rfl
  have hD9 := hD.sub (ws' := [(al, .inr (4, [.int 0, .null, .int 0]))]) [0] (by decide) rfl
  exact W.vret hx hb hr (fun t ht hW => ⟨⟨(), rfl, trivial, ⟨by rw [ht]; exact hP9, va_K.moved hW.alike hK, hD9, by rw [ht]; exact hz⟩⟩, hS.F ht⟩) hS.2.2 dJxc12de_init_da8c8_9

theorem hi_Jx4a65c_init_da8c8_Jx4a65c : ∀ w ∈ u_ws RJx4a65c TJx4a65c 3, w ∈ wsJx4a65c_init_da8c8 := fun w h => List.mem_cons_of_mem _ (zhi_Jx4a65c w h)
set_option maxHeartbeats 4000000 in
set_option maxRecDepth 100000 in
theorem k_alin (l : Launch) (dC : Nat → ClassId) (dI : Nat → Nat → Nat) (cI cB cR cO : ClassId) (zk : Nat → Nat) (al : Nat) (sz : Nat)  : Met l yJx4a65c_init_da8c8 wsJx4a65c_init_da8c8 ({ frames := 3, cells := 0, slots := 0, locals := 100 }) (va_Pc [.ref al] (zPre (dC, dI) (zT cI cB cR cO) zk [] [(al, .inr (4, [.int 0, .null, .int 0]))] sz)) (va_Qv (fun _ : Unit => True) (fun _ t => zEnd (dC, dI) (zT cI cB cR cO) (va_A [(al, .inr (4, [.int 0, .null, .int 0]))] sz) [(al, .inr (4, [.int 0, .ref (zk 0), .int 0]))] sz 0 t) (va_A [(al, .inr (4, [.int 0, .null, .int 0]))] sz)) 0 0 (va_A [(al, .inr (4, [.int 0, .null, .int 0]))] sz) := by
  refine Met.ofW (cc := cJx4a65c_init_da8c8) (maxL := 1) (ret := none) (by decide) rfl ?_
  intro p e s mY args below meth c s₁ B hml hv
  obtain ⟨rfl, hsz, hP, hK, hD0, hZ⟩ := hv
  have hx := B.exec
  have hb := B.bytes
  have hr := B.returns
  have hts := atoms_spec (ws := wsJx4a65c_init_da8c8) B.pre
  have hown : s.vm.findClass RJx4a65c = some mY.cls := findClass_of_methodNamed B.named
  have hlocks := B.notSynchronized
  have hin : meth.name = "<init>" := (name_of_methodNamed B.named B.method).1
  subst hsz
  have hD := hD0.self (sz := s.heap.size)
  generalize hAe : va_A [(al, .inr (4, [.int 0, .null, .int 0]))] s.heap.size = A at hD hZ ⊢
  have hA : ∀ q : Nat, s.heap.size ≤ q → A q := fun q h => by rw [← hAe]; exact Or.inr h
  have hS : va_S A s.heap s.heap [] := va_S.rf
  have hz : s.heap.size + 0 ≤ s.heap.size := Nat.le_refl _
  have hl := lv_entry ([.ref al]) (n := 1) (Nat.le_of_ble_eq_true rfl)
  rw [lg_entry_eq]
  generalize (lg_sl ([.ref al]) ++ List.replicate (1 - (lg_sl ([.ref al])).length) Slot.unset).toArray = ls at hl ⊢
  have hl : lv_has ls 1 [(0, .ref al)] := hl
  have hP : va_P (dC, dI) vwCl [(al, .inr (4, [.int 0, .null, .int 0]))] s.heap := hP
  have hD : va_D A [(al, .inr (4, [.int 0, .null, .int 0]))] := hD
  refine lv_aload_n hx hb dJx4a65c_init_da8c8_0 rfl (lv_at hl 0 rfl) ?_
  have hPc := hP.sub (ws' := [(al, .inr (4, [.int 0, .null, .int 0]))]) [0] rfl
  have hDc := hD.sub (ws' := [(al, .inr (4, [.int 0, .null, .int 0]))]) [0] (by decide) rfl
  have hFc := va_free (wc := [(al, .inr (4, [.int 0, .null, .int 0]))]) hD hS hA [0] rfl
  have hDv := hDc.self (sz := s.heap.size)
  have hpre := zpre (xs' := []) (av := [.ref al]) hPc hK (hDc.weaken (fun _ _ _ h => h)) hZ hS hFc (fun r hr => by cases hr)
  refine va_callv (va_runI (As := []) (rest := []) ⟨hx, hb, hml, hown, hts⟩ (k_abl l dC dI cI cB cR cO zk al s.heap.size ) (cwI 0 hts gJx4a65c_init_da8c8_Jxc12de_init_da8c8 rfl rfl rfl (hts (.initialized RJxc12de) (List.mem_cons_of_mem _ zw_37)) (hts (.methodLink RJx4a65c 1 yJxc12de_init_da8c8) (List.mem_cons_of_mem _ zw_78)) (hts (.instanceMethod yJxc12de_init_da8c8) (List.mem_cons_of_mem _ zw_79)) rfl (by decide +kernel) ⟨Nat.le_of_ble_eq_true rfl, Nat.le_of_ble_eq_true rfl⟩) ⟨zblind, hpre⟩ rfl rfl hl.1 rfl (lv_room (Nat.le_of_ble_eq_true rfl)) dJx4a65c_init_da8c8_1 ⟨Nat.le_of_ble_eq_true rfl, Nat.le_of_ble_eq_true rfl⟩) hS (fun q _ h => hFc q h) hFc (fun u t H1 locs ht hvm hw hB hz1 hk1 hS => ?_)
  obtain ⟨hP1, hK1, hD1, hz2⟩ := hB
  rw [ht] at hP1 hz2
  have hPD9 := va_join (wr := []) (w1 := [(al, .inr (4, [.int 0, .null, .int 0]))]) hP hD [0] [] rfl rfl (by decide) (by decide) hk1 hFc hP1 hD1
  clear hPc hDc hFc hDv hpre hP hD hP1 hK1 hD1
  obtain ⟨hP, hD⟩ := hPD9
  replace hz : s.heap.size + 0 ≤ H1.size := by omega
  clear hz2
  replace hP : va_P (dC, dI) vwCl [(al, .inr (4, [.int 0, .null, .int 0]))] H1 := hP
  replace hD : va_D A [(al, .inr (4, [.int 0, .null, .int 0]))] := hD
  refine W.widen (k := 0) (n := 0) (by omega) (by omega) ?_
  refine lv_aload_n hx hb dJx4a65c_init_da8c8_4 rfl (lv_at hl 0 rfl) ?_
  refine va_gets hx hb hZ.1.2.2.1 hS hown (hts (.fieldLink RJx4a65c 39 "java/util/ArrayList" "DEFAULTCAPACITY_EMPTY_ELEMENTDATA" "[Ljava/lang/Object;") (List.mem_cons_of_mem _ zw_85)) (fun _ h9 => h9) dJx4a65c_init_da8c8_5 ?_
  refine va_put (D := (dC, dI)) (ci := 4) (v := .ref (zk 0)) (ty := .array (.object "java/lang/Object")) (C := RJx4a65c) (T := TJx4a65c) (N := 3) hx hb hts hi_Jx4a65c_init_da8c8_Jx4a65c tyJx4a65c tyJx4a65c_ok nmJx4a65c hown hK hP hD (zS0 hS) 0 rfl rfl 1 (by decide) (hts (.fieldLink RJx4a65c 9 "java/util/ArrayList" "elementData" "[Ljava/lang/Object;") (List.mem_cons_of_mem _ zw_87)) (fun _ h9 => h9) rfl (by decide +kernel) rfl rfl (Nat.le_of_ble_eq_true rfl) dJx4a65c_init_da8c8_8 (fun H3 locs hP hD hS1 => ?_)
  have hz : s.heap.size + 0 ≤ H3.size := Nat.le_trans hz hS1.1
  have hS := zSS hS hS1
  replace hP : va_P (dC, dI) vwCl [(al, .inr (4, [.int 0, .ref (zk 0), .int 0]))] H3 := hP
  replace hD : va_D A [(al, .inr (4, [.int 0, .ref (zk 0), .int 0]))] := hD
  have hP9 := hP.sub (ws' := [(al, .inr (4, [.int 0, .ref (zk 0), .int 0]))]) [0] rfl
  have hD9 := hD.sub (ws' := [(al, .inr (4, [.int 0, .ref (zk 0), .int 0]))]) [0] (by decide) rfl
  exact W.vret hx hb hr (fun t ht hW => ⟨⟨(), rfl, trivial, ⟨by rw [ht]; exact hP9, va_K.moved hW.alike hK, hD9, by rw [ht]; exact hz⟩⟩, hS.F ht⟩) hS.2.2 dJx4a65c_init_da8c8_11

theorem hi_X1_init_Jx4a65c : ∀ w ∈ u_ws RJx4a65c TJx4a65c 3, w ∈ wsX1_init := fun w h => List.mem_cons_of_mem _ (zhi_Jx4a65c w h)
theorem hi_X1_init_X1 : ∀ w ∈ u_ws RX1 TX1 8, w ∈ wsX1_init := fun w h => List.mem_cons_of_mem _ (zhi_X1 w h)
theorem hi_X1_init_X0 : ∀ w ∈ u_ws RX0 TX0 6, w ∈ wsX1_init := fun w h => List.mem_cons_of_mem _ (zhi_X0 w h)
theorem hi_X1_init_J4 : ∀ w ∈ u_ws RJ4 TJ4 4, w ∈ wsX1_init := fun w h => List.mem_cons_of_mem _ (zhi_J4 w h)
set_option maxHeartbeats 4000000 in
set_option maxRecDepth 100000 in
theorem k_xin (l : Launch) (dC : Nat → ClassId) (dI : Nat → Nat → Nat) (cI cB cR cO : ClassId) (zk : Nat → Nat) (xo : Nat) (sz : Nat)  : Met l yX1_init wsX1_init ({ frames := 4, cells := 13, slots := 61, locals := 120 }) (va_Pc [.ref xo] (zPre (dC, dI) (zT cI cB cR cO) zk [] [(xo, .inr (6, [.null, .int 0, .int 0, .int 0, .null, .null, .null, .null]))] sz)) (va_Qv (fun _ : Unit => True) (fun _ t => ∃ al, ∃ s1, ∃ s2, ∃ b1, ∃ b2, ∃ v1, zEnd (dC, dI) (zT cI cB cR cO) (va_A [(xo, .inr (6, [.null, .int 0, .int 0, .int 0, .null, .null, .null, .null]))] sz) [(xo, .inr (6, [.ref al, .int 0, .int 0, .int 0, .ref s1, .ref s2, .ref b1, .ref b2])), (al, .inr (4, [.int 0, .ref (zk 0), .int 0])), (b1, .inr (1, [.ref v1, .int 0, .int 0, .int 0])), (v1, .inl (cB, 16, .inl (fun _ => 0)))] sz 13 t) (va_A [(xo, .inr (6, [.null, .int 0, .int 0, .int 0, .null, .null, .null, .null]))] sz)) 13 61 (va_A [(xo, .inr (6, [.null, .int 0, .int 0, .int 0, .null, .null, .null, .null]))] sz) := by
  refine Met.ofW (cc := cX1_init) (maxL := 1) (ret := none) (by decide) rfl ?_
  intro p e s mY args below meth c s₁ B hml hv
  obtain ⟨rfl, hsz, hP, hK, hD0, hZ⟩ := hv
  have hx := B.exec
  have hb := B.bytes
  have hr := B.returns
  have hts := atoms_spec (ws := wsX1_init) B.pre
  have hown : s.vm.findClass RX1 = some mY.cls := findClass_of_methodNamed B.named
  have hlocks := B.notSynchronized
  have hin : meth.name = "<init>" := (name_of_methodNamed B.named B.method).1
  subst hsz
  have hD := hD0.self (sz := s.heap.size)
  generalize hAe : va_A [(xo, .inr (6, [.null, .int 0, .int 0, .int 0, .null, .null, .null, .null]))] s.heap.size = A at hD hZ ⊢
  have hA : ∀ q : Nat, s.heap.size ≤ q → A q := fun q h => by rw [← hAe]; exact Or.inr h
  have hS : va_S A s.heap s.heap [] := va_S.rf
  have hz : s.heap.size + 0 ≤ s.heap.size := Nat.le_refl _
  have hl := lv_entry ([.ref xo]) (n := 1) (Nat.le_of_ble_eq_true rfl)
  rw [lg_entry_eq]
  generalize (lg_sl ([.ref xo]) ++ List.replicate (1 - (lg_sl ([.ref xo])).length) Slot.unset).toArray = ls at hl ⊢
  have hl : lv_has ls 1 [(0, .ref xo)] := hl
  have hP : va_P (dC, dI) vwCl [(xo, .inr (6, [.null, .int 0, .int 0, .int 0, .null, .null, .null, .null]))] s.heap := hP
  have hD : va_D A [(xo, .inr (6, [.null, .int 0, .int 0, .int 0, .null, .null, .null, .null]))] := hD
  refine lv_aload_n hx hb dX1_init_0 rfl (lv_at hl 0 rfl) ?_
  refine W.objInit hx hb hown (hts (.methodLink RX1 3 objectInit) (List.mem_cons_of_mem _ zw_70)) (hts (.instanceMethod objectInit) (List.mem_cons_of_mem _ zw_71)) (hts (.code objectInit ⟨#[0xb1]⟩ 1 none) (List.mem_cons_of_mem _ zw_72)) rfl (by rw [hml]; exact hl.1) rfl dX1_init_1 (Nat.le_of_ble_eq_true rfl) (Nat.le_of_ble_eq_true rfl) ?_
  refine W.eq (g2 := F0 mY 4 ls []) rfl ?_
  refine lv_aload_n hx hb dX1_init_4 rfl (lv_at hl 0 rfl) ?_
  refine zw_new (ci := 4) (fs := [.int 0, .null, .int 0]) (C := RJx4a65c) (T := TJx4a65c) (N := 3) hx hb hts hi_X1_init_Jx4a65c tyJx4a65c tyJx4a65c_ok hown (hts (.classLink RX1 9 RJx4a65c) (List.mem_cons_of_mem _ zw_73)) (hts (.instantiable RJx4a65c 3) (List.mem_cons_of_mem _ zw_74)) (hts (.initialized RJx4a65c) (List.mem_cons_of_mem _ zw_38)) hK hP hD hS hA rfl (fun j hj => by rcases (show j = 0 ∨ j = 1 ∨ j = 2 by omega) with rfl | rfl | rfl <;> rfl) (Nat.le_of_ble_eq_true rfl) (Nat.le_of_ble_eq_true rfl) dX1_init_5 hz (fun q1 H2 hP hD hS hz => ?_)
  replace hP : va_P (dC, dI) vwCl [(xo, .inr (6, [.null, .int 0, .int 0, .int 0, .null, .null, .null, .null])), (q1, .inr (4, [.int 0, .null, .int 0]))] H2 := hP
  replace hD : va_D A [(xo, .inr (6, [.null, .int 0, .int 0, .int 0, .null, .null, .null, .null])), (q1, .inr (4, [.int 0, .null, .int 0]))] := hD
  refine W.widen (k := 1) (n := 3) (by omega) (by omega) ?_
  refine lv_dup hx hb dX1_init_8 rfl ?_
  have hPc := hP.sub (ws' := [(q1, .inr (4, [.int 0, .null, .int 0]))]) [1] rfl
  have hDc := hD.sub (ws' := [(q1, .inr (4, [.int 0, .null, .int 0]))]) [1] (by decide) rfl
  have hFc := va_free (wc := [(q1, .inr (4, [.int 0, .null, .int 0]))]) hD hS hA [1] rfl
  have hDv := hDc.self (sz := H2.size)
  have hpre := zpre (xs' := []) (av := [.ref q1]) hPc hK (hDc.weaken (fun _ _ _ h => h)) hZ hS hFc (fun r hr => by cases hr)
  refine va_callv (va_runI (As := []) (rest := [.ref q1, .ref xo]) ⟨hx, hb, hml, hown, hts⟩ (k_alin l dC dI cI cB cR cO zk q1 H2.size ) (cwI 0 hts gX1_init_Jx4a65c_init_da8c8 rfl rfl rfl (hts (.initialized RJx4a65c) (List.mem_cons_of_mem _ zw_38)) (hts (.methodLink RX1 11 yJx4a65c_init_da8c8) (List.mem_cons_of_mem _ zw_75)) (hts (.instanceMethod yJx4a65c_init_da8c8) (List.mem_cons_of_mem _ zw_76)) rfl (by decide +kernel) ⟨Nat.le_of_ble_eq_true rfl, Nat.le_of_ble_eq_true rfl⟩) ⟨zblind, hpre⟩ rfl rfl hl.1 rfl (lv_room (Nat.le_of_ble_eq_true rfl)) dX1_init_9 ⟨Nat.le_of_ble_eq_true rfl, Nat.le_of_ble_eq_true rfl⟩) hS (fun q _ h => hFc q h) hFc (fun u t H3 locs ht hvm hw hB hz1 hk1 hS => ?_)
  obtain ⟨hP1, hK1, hD1, hz2⟩ := hB
  rw [ht] at hP1 hz2
  have hPD9 := va_join (wr := [(xo, .inr (6, [.null, .int 0, .int 0, .int 0, .null, .null, .null, .null]))]) (w1 := [(q1, .inr (4, [.int 0, .ref (zk 0), .int 0]))]) hP hD [1] [0] rfl rfl (by decide) (by decide) hk1 hFc hP1 hD1
  clear hPc hDc hFc hDv hpre hP hD hP1 hK1 hD1
  obtain ⟨hP, hD⟩ := hPD9
  replace hz : s.heap.size + 1 ≤ H3.size := by omega
  clear hz2
  replace hP : va_P (dC, dI) vwCl [(xo, .inr (6, [.null, .int 0, .int 0, .int 0, .null, .null, .null, .null])), (q1, .inr (4, [.int 0, .ref (zk 0), .int 0]))] H3 := hP
  replace hD : va_D A [(xo, .inr (6, [.null, .int 0, .int 0, .int 0, .null, .null, .null, .null])), (q1, .inr (4, [.int 0, .ref (zk 0), .int 0]))] := hD
  refine W.widen (k := 1) (n := 3) (by omega) (by omega) ?_
  refine va_putF (D := (dC, dI)) (ci := 6) (v := .ref q1) (ty := .object "java/util/ArrayList") (C := RX1) (T := TX1) (N := 8) hx hb hts hi_X1_init_X1 tyX1 tyX1_ok nmX1 hown hK hP hD (zS0 hS) 0 rfl rfl 0 (by decide) (hts (.fieldLink RX1 12 "Deeprows" "rows" "Ljava/util/ArrayList;") (List.mem_cons_of_mem _ zw_165)) (fun _ h9 => h9) rfl hin rfl (by decide +kernel) rfl rfl (Nat.le_of_ble_eq_true rfl) dX1_init_12 (fun H5 locs hP hD hS1 => ?_)
  have hz : s.heap.size + 1 ≤ H5.size := Nat.le_trans hz hS1.1
  have hS := zSS hS hS1
  replace hP : va_P (dC, dI) vwCl [(xo, .inr (6, [.ref q1, .int 0, .int 0, .int 0, .null, .null, .null, .null])), (q1, .inr (4, [.int 0, .ref (zk 0), .int 0]))] H5 := hP
  replace hD : va_D A [(xo, .inr (6, [.ref q1, .int 0, .int 0, .int 0, .null, .null, .null, .null])), (q1, .inr (4, [.int 0, .ref (zk 0), .int 0]))] := hD
  refine lv_aload_n hx hb dX1_init_15 rfl (lv_at hl 0 rfl) ?_
  refine lv_iconst (v := 0) hx hb dX1_init_16 (by decide) ?_
  refine va_put (D := (dC, dI)) (ci := 6) (v := .int 0) (ty := .int) (C := RX1) (T := TX1) (N := 8) hx hb hts hi_X1_init_X1 tyX1 tyX1_ok nmX1 hown hK hP hD (zS0 hS) 0 rfl rfl 1 (by decide) (hts (.fieldLink RX1 16 "Deeprows" "makerMade" "I") (List.mem_cons_of_mem _ zw_166)) (fun _ h9 => h9) rfl (by decide +kernel) rfl rfl (Nat.le_of_ble_eq_true rfl) dX1_init_17 (fun H6 locs hP hD hS1 => ?_)
  have hz : s.heap.size + 1 ≤ H6.size := Nat.le_trans hz hS1.1
  have hS := zSS hS hS1
  replace hP : va_P (dC, dI) vwCl [(xo, .inr (6, [.ref q1, .int 0, .int 0, .int 0, .null, .null, .null, .null])), (q1, .inr (4, [.int 0, .ref (zk 0), .int 0]))] H6 := hP
  replace hD : va_D A [(xo, .inr (6, [.ref q1, .int 0, .int 0, .int 0, .null, .null, .null, .null])), (q1, .inr (4, [.int 0, .ref (zk 0), .int 0]))] := hD
  refine lv_aload_n hx hb dX1_init_20 rfl (lv_at hl 0 rfl) ?_
  refine lv_iconst (v := 0) hx hb dX1_init_21 (by decide) ?_
  refine va_put (D := (dC, dI)) (ci := 6) (v := .int 0) (ty := .int) (C := RX1) (T := TX1) (N := 8) hx hb hts hi_X1_init_X1 tyX1 tyX1_ok nmX1 hown hK hP hD (zS0 hS) 0 rfl rfl 2 (by decide) (hts (.fieldLink RX1 20 "Deeprows" "makerRefused" "I") (List.mem_cons_of_mem _ zw_167)) (fun _ h9 => h9) rfl (by decide +kernel) rfl rfl (Nat.le_of_ble_eq_true rfl) dX1_init_22 (fun H7 locs hP hD hS1 => ?_)
  have hz : s.heap.size + 1 ≤ H7.size := Nat.le_trans hz hS1.1
  have hS := zSS hS hS1
  replace hP : va_P (dC, dI) vwCl [(xo, .inr (6, [.ref q1, .int 0, .int 0, .int 0, .null, .null, .null, .null])), (q1, .inr (4, [.int 0, .ref (zk 0), .int 0]))] H7 := hP
  replace hD : va_D A [(xo, .inr (6, [.ref q1, .int 0, .int 0, .int 0, .null, .null, .null, .null])), (q1, .inr (4, [.int 0, .ref (zk 0), .int 0]))] := hD
  refine lv_aload_n hx hb dX1_init_25 rfl (lv_at hl 0 rfl) ?_
  refine lv_iconst (v := 0) hx hb dX1_init_26 (by decide) ?_
  refine va_put (D := (dC, dI)) (ci := 6) (v := .int 0) (ty := .int) (C := RX1) (T := TX1) (N := 8) hx hb hts hi_X1_init_X1 tyX1 tyX1_ok nmX1 hown hK hP hD (zS0 hS) 0 rfl rfl 3 (by decide) (hts (.fieldLink RX1 23 "Deeprows" "knocks" "I") (List.mem_cons_of_mem _ zw_168)) (fun _ h9 => h9) rfl (by decide +kernel) rfl rfl (Nat.le_of_ble_eq_true rfl) dX1_init_27 (fun H8 locs hP hD hS1 => ?_)
  have hz : s.heap.size + 1 ≤ H8.size := Nat.le_trans hz hS1.1
  have hS := zSS hS hS1
  replace hP : va_P (dC, dI) vwCl [(xo, .inr (6, [.ref q1, .int 0, .int 0, .int 0, .null, .null, .null, .null])), (q1, .inr (4, [.int 0, .ref (zk 0), .int 0]))] H8 := hP
  replace hD : va_D A [(xo, .inr (6, [.ref q1, .int 0, .int 0, .int 0, .null, .null, .null, .null])), (q1, .inr (4, [.int 0, .ref (zk 0), .int 0]))] := hD
  refine lv_aload_n hx hb dX1_init_30 rfl (lv_at hl 0 rfl) ?_
  refine zw_new (ci := 5) (fs := [.int 0, .int 0, .null, .null, .null, .int 0]) (C := RX0) (T := TX0) (N := 6) hx hb hts hi_X1_init_X0 tyX0 tyX0_ok hown (hts (.classLink RX1 26 "Deeprows$Row") (List.mem_cons_of_mem _ zw_99)) (hts (.instantiable RX0 6) (List.mem_cons_of_mem _ zw_100)) (hts (.initialized RX0) (List.mem_cons_of_mem _ zw_39)) hK hP hD hS hA rfl (fun j hj => by rcases (show j = 0 ∨ j = 1 ∨ j = 2 ∨ j = 3 ∨ j = 4 ∨ j = 5 by omega) with rfl | rfl | rfl | rfl | rfl | rfl <;> rfl) (Nat.le_of_ble_eq_true rfl) (Nat.le_of_ble_eq_true rfl) dX1_init_31 hz (fun q9 H10 hP hD hS hz => ?_)
  replace hP : va_P (dC, dI) vwCl [(xo, .inr (6, [.ref q1, .int 0, .int 0, .int 0, .null, .null, .null, .null])), (q1, .inr (4, [.int 0, .ref (zk 0), .int 0])), (q9, .inr (5, [.int 0, .int 0, .null, .null, .null, .int 0]))] H10 := hP
  replace hD : va_D A [(xo, .inr (6, [.ref q1, .int 0, .int 0, .int 0, .null, .null, .null, .null])), (q1, .inr (4, [.int 0, .ref (zk 0), .int 0])), (q9, .inr (5, [.int 0, .int 0, .null, .null, .null, .int 0]))] := hD
  refine W.widen (k := 2) (n := 9) (by omega) (by omega) ?_
  refine lv_dup hx hb dX1_init_34 rfl ?_
  refine lv_iconst (v := 4) hx hb dX1_init_35 (by decide) ?_
  refine lv_iconst (v := 1) hx hb dX1_init_36 (by decide) ?_
  have hPc := hP.sub (ws' := [(q9, .inr (5, [.int 0, .int 0, .null, .null, .null, .int 0]))]) [2] rfl
  have hDc := hD.sub (ws' := [(q9, .inr (5, [.int 0, .int 0, .null, .null, .null, .int 0]))]) [2] (by decide) rfl
  have hFc := va_free (wc := [(q9, .inr (5, [.int 0, .int 0, .null, .null, .null, .int 0]))]) hD hS hA [2] rfl
  have hDv := hDc.self (sz := H10.size)
  have hpre := zpre (xs' := []) (av := [.ref q9, .int 4, .int 1]) hPc hK (hDc.weaken (fun _ _ _ h => h)) hZ hS hFc (fun r hr => by cases hr)
  refine va_callv (va_runI (As := [.int 4, .int 1]) (rest := [.ref q9, .ref xo]) ⟨hx, hb, hml, hown, hts⟩ (k_rin1 l dC dI cI cB cR cO zk q9 H10.size ) (cwI 2 hts gX1_init_X0_init rfl rfl rfl (hts (.initialized RX0) (List.mem_cons_of_mem _ zw_39)) (hts (.methodLink RX1 28 yX0_init) (List.mem_cons_of_mem _ zw_101)) (hts (.instanceMethod yX0_init) (List.mem_cons_of_mem _ zw_102)) rfl (by decide +kernel) ⟨Nat.le_of_ble_eq_true rfl, Nat.le_of_ble_eq_true rfl⟩) ⟨zblind, hpre⟩ rfl rfl hl.1 rfl (lv_room (Nat.le_of_ble_eq_true rfl)) dX1_init_37 ⟨Nat.le_of_ble_eq_true rfl, Nat.le_of_ble_eq_true rfl⟩) hS (fun q _ h => hFc q h) hFc (fun u t H11 locs ht hvm hw hB hz1 hk1 hS => ?_)
  obtain ⟨w13, v14, h15, gw16, gv17, gh18, ⟨hP1, hK1, hD1, hz2⟩, hwgw16, hhgh18⟩ := hB
  rw [ht] at hP1 hz2
  have hPD9 := va_join (wr := [(xo, .inr (6, [.ref q1, .int 0, .int 0, .int 0, .null, .null, .null, .null])), (q1, .inr (4, [.int 0, .ref (zk 0), .int 0]))]) (w1 := [(q9, .inr (5, [.int 4, .int 1, .ref w13, .ref v14, .ref h15, .int 0])), (w13, .inl (cI, 1, .inl gw16)), (v14, .inl (cI, 1, .inl gv17)), (h15, .inl (cR, 1, .inr (.inr (.inr (.inr gh18)))))]) hP hD [2] [0, 1] rfl rfl (by decide) (by decide) hk1 hFc hP1 hD1
  clear hPc hDc hFc hDv hpre hP hD hP1 hK1 hD1
  obtain ⟨hP, hD⟩ := hPD9
  replace hz : s.heap.size + 5 ≤ H11.size := by omega
  clear hz2
  replace hP : va_P (dC, dI) vwCl [(xo, .inr (6, [.ref q1, .int 0, .int 0, .int 0, .null, .null, .null, .null])), (q1, .inr (4, [.int 0, .ref (zk 0), .int 0])), (q9, .inr (5, [.int 4, .int 1, .ref w13, .ref v14, .ref h15, .int 0])), (w13, .inl (cI, 1, .inl gw16)), (v14, .inl (cI, 1, .inl gv17)), (h15, .inl (cR, 1, .inr (.inr (.inr (.inr gh18)))))] H11 := hP
  replace hD : va_D A [(xo, .inr (6, [.ref q1, .int 0, .int 0, .int 0, .null, .null, .null, .null])), (q1, .inr (4, [.int 0, .ref (zk 0), .int 0])), (q9, .inr (5, [.int 4, .int 1, .ref w13, .ref v14, .ref h15, .int 0])), (w13, .inl (cI, 1, .inl gw16)), (v14, .inl (cI, 1, .inl gv17)), (h15, .inl (cR, 1, .inr (.inr (.inr (.inr gh18)))))] := hD
  refine W.widen (k := 5) (n := 12) (by omega) (by omega) ?_
  refine va_putF (D := (dC, dI)) (ci := 6) (v := .ref q9) (ty := .object "Deeprows$Row") (C := RX1) (T := TX1) (N := 8) hx hb hts hi_X1_init_X1 tyX1 tyX1_ok nmX1 hown hK hP hD (zS0 hS) 0 rfl rfl 4 (by decide) (hts (.fieldLink RX1 31 "Deeprows" "shell" "LDeeprows$Row;") (List.mem_cons_of_mem _ zw_169)) (fun _ h9 => h9) rfl hin rfl (by decide +kernel) rfl rfl (Nat.le_of_ble_eq_true rfl) dX1_init_40 (fun H19 locs hP hD hS1 => ?_)
  have hz : s.heap.size + 5 ≤ H19.size := Nat.le_trans hz hS1.1
  have hS := zSS hS hS1
  replace hP : va_P (dC, dI) vwCl [(xo, .inr (6, [.ref q1, .int 0, .int 0, .int 0, .ref q9, .null, .null, .null])), (q1, .inr (4, [.int 0, .ref (zk 0), .int 0])), (q9, .inr (5, [.int 4, .int 1, .ref w13, .ref v14, .ref h15, .int 0])), (w13, .inl (cI, 1, .inl gw16)), (v14, .inl (cI, 1, .inl gv17)), (h15, .inl (cR, 1, .inr (.inr (.inr (.inr gh18)))))] H19 := hP
  replace hD : va_D A [(xo, .inr (6, [.ref q1, .int 0, .int 0, .int 0, .ref q9, .null, .null, .null])), (q1, .inr (4, [.int 0, .ref (zk 0), .int 0])), (q9, .inr (5, [.int 4, .int 1, .ref w13, .ref v14, .ref h15, .int 0])), (w13, .inl (cI, 1, .inl gw16)), (v14, .inl (cI, 1, .inl gv17)), (h15, .inl (cR, 1, .inr (.inr (.inr (.inr gh18)))))] := hD
  refine lv_aload_n hx hb dX1_init_43 rfl (lv_at hl 0 rfl) ?_
  refine zw_new (ci := 5) (fs := [.int 0, .int 0, .null, .null, .null, .int 0]) (C := RX0) (T := TX0) (N := 6) hx hb hts hi_X1_init_X0 tyX0 tyX0_ok hown (hts (.classLink RX1 26 "Deeprows$Row") (List.mem_cons_of_mem _ zw_99)) (hts (.instantiable RX0 6) (List.mem_cons_of_mem _ zw_100)) (hts (.initialized RX0) (List.mem_cons_of_mem _ zw_39)) hK hP hD hS hA rfl (fun j hj => by rcases (show j = 0 ∨ j = 1 ∨ j = 2 ∨ j = 3 ∨ j = 4 ∨ j = 5 by omega) with rfl | rfl | rfl | rfl | rfl | rfl <;> rfl) (Nat.le_of_ble_eq_true rfl) (Nat.le_of_ble_eq_true rfl) dX1_init_44 hz (fun q20 H21 hP hD hS hz => ?_)
  replace hP : va_P (dC, dI) vwCl [(xo, .inr (6, [.ref q1, .int 0, .int 0, .int 0, .ref q9, .null, .null, .null])), (q1, .inr (4, [.int 0, .ref (zk 0), .int 0])), (q9, .inr (5, [.int 4, .int 1, .ref w13, .ref v14, .ref h15, .int 0])), (w13, .inl (cI, 1, .inl gw16)), (v14, .inl (cI, 1, .inl gv17)), (h15, .inl (cR, 1, .inr (.inr (.inr (.inr gh18))))), (q20, .inr (5, [.int 0, .int 0, .null, .null, .null, .int 0]))] H21 := hP
  replace hD : va_D A [(xo, .inr (6, [.ref q1, .int 0, .int 0, .int 0, .ref q9, .null, .null, .null])), (q1, .inr (4, [.int 0, .ref (zk 0), .int 0])), (q9, .inr (5, [.int 4, .int 1, .ref w13, .ref v14, .ref h15, .int 0])), (w13, .inl (cI, 1, .inl gw16)), (v14, .inl (cI, 1, .inl gv17)), (h15, .inl (cR, 1, .inr (.inr (.inr (.inr gh18))))), (q20, .inr (5, [.int 0, .int 0, .null, .null, .null, .int 0]))] := hD
  refine W.widen (k := 6) (n := 18) (by omega) (by omega) ?_
  refine lv_dup hx hb dX1_init_47 rfl ?_
  refine lv_iconst (v := 4) hx hb dX1_init_48 (by decide) ?_
  refine lv_iconst (v := 1) hx hb dX1_init_49 (by decide) ?_
  have hPc := hP.sub (ws' := [(q20, .inr (5, [.int 0, .int 0, .null, .null, .null, .int 0]))]) [6] rfl
  have hDc := hD.sub (ws' := [(q20, .inr (5, [.int 0, .int 0, .null, .null, .null, .int 0]))]) [6] (by decide) rfl
  have hFc := va_free (wc := [(q20, .inr (5, [.int 0, .int 0, .null, .null, .null, .int 0]))]) hD hS hA [6] rfl
  have hDv := hDc.self (sz := H21.size)
  have hpre := zpre (xs' := []) (av := [.ref q20, .int 4, .int 1]) hPc hK (hDc.weaken (fun _ _ _ h => h)) hZ hS hFc (fun r hr => by cases hr)
  refine va_callv (va_runI (As := [.int 4, .int 1]) (rest := [.ref q20, .ref xo]) ⟨hx, hb, hml, hown, hts⟩ (k_rin1 l dC dI cI cB cR cO zk q20 H21.size ) (cwI 2 hts gX1_init_X0_init rfl rfl rfl (hts (.initialized RX0) (List.mem_cons_of_mem _ zw_39)) (hts (.methodLink RX1 28 yX0_init) (List.mem_cons_of_mem _ zw_101)) (hts (.instanceMethod yX0_init) (List.mem_cons_of_mem _ zw_102)) rfl (by decide +kernel) ⟨Nat.le_of_ble_eq_true rfl, Nat.le_of_ble_eq_true rfl⟩) ⟨zblind, hpre⟩ rfl rfl hl.1 rfl (lv_room (Nat.le_of_ble_eq_true rfl)) dX1_init_50 ⟨Nat.le_of_ble_eq_true rfl, Nat.le_of_ble_eq_true rfl⟩) hS (fun q _ h => hFc q h) hFc (fun u t H22 locs ht hvm hw hB hz1 hk1 hS => ?_)
  obtain ⟨w24, v25, h26, gw27, gv28, gh29, ⟨hP1, hK1, hD1, hz2⟩, hwgw27, hhgh29⟩ := hB
  rw [ht] at hP1 hz2
  have hPD9 := va_join (wr := [(xo, .inr (6, [.ref q1, .int 0, .int 0, .int 0, .ref q9, .null, .null, .null])), (q1, .inr (4, [.int 0, .ref (zk 0), .int 0])), (q9, .inr (5, [.int 4, .int 1, .ref w13, .ref v14, .ref h15, .int 0])), (w13, .inl (cI, 1, .inl gw16)), (v14, .inl (cI, 1, .inl gv17)), (h15, .inl (cR, 1, .inr (.inr (.inr (.inr gh18)))))]) (w1 := [(q20, .inr (5, [.int 4, .int 1, .ref w24, .ref v25, .ref h26, .int 0])), (w24, .inl (cI, 1, .inl gw27)), (v25, .inl (cI, 1, .inl gv28)), (h26, .inl (cR, 1, .inr (.inr (.inr (.inr gh29)))))]) hP hD [6] [0, 1, 2, 3, 4, 5] rfl rfl (by decide) (by decide) hk1 hFc hP1 hD1
  clear hPc hDc hFc hDv hpre hP hD hP1 hK1 hD1
  obtain ⟨hP, hD⟩ := hPD9
  replace hz : s.heap.size + 9 ≤ H22.size := by omega
  clear hz2
  replace hP : va_P (dC, dI) vwCl [(xo, .inr (6, [.ref q1, .int 0, .int 0, .int 0, .ref q9, .null, .null, .null])), (q1, .inr (4, [.int 0, .ref (zk 0), .int 0])), (q9, .inr (5, [.int 4, .int 1, .ref w13, .ref v14, .ref h15, .int 0])), (w13, .inl (cI, 1, .inl gw16)), (v14, .inl (cI, 1, .inl gv17)), (h15, .inl (cR, 1, .inr (.inr (.inr (.inr gh18))))), (q20, .inr (5, [.int 4, .int 1, .ref w24, .ref v25, .ref h26, .int 0])), (w24, .inl (cI, 1, .inl gw27)), (v25, .inl (cI, 1, .inl gv28)), (h26, .inl (cR, 1, .inr (.inr (.inr (.inr gh29)))))] H22 := hP
  replace hD : va_D A [(xo, .inr (6, [.ref q1, .int 0, .int 0, .int 0, .ref q9, .null, .null, .null])), (q1, .inr (4, [.int 0, .ref (zk 0), .int 0])), (q9, .inr (5, [.int 4, .int 1, .ref w13, .ref v14, .ref h15, .int 0])), (w13, .inl (cI, 1, .inl gw16)), (v14, .inl (cI, 1, .inl gv17)), (h15, .inl (cR, 1, .inr (.inr (.inr (.inr gh18))))), (q20, .inr (5, [.int 4, .int 1, .ref w24, .ref v25, .ref h26, .int 0])), (w24, .inl (cI, 1, .inl gw27)), (v25, .inl (cI, 1, .inl gv28)), (h26, .inl (cR, 1, .inr (.inr (.inr (.inr gh29)))))] := hD
  refine W.widen (k := 9) (n := 21) (by omega) (by omega) ?_
  refine va_putF (D := (dC, dI)) (ci := 6) (v := .ref q20) (ty := .object "Deeprows$Row") (C := RX1) (T := TX1) (N := 8) hx hb hts hi_X1_init_X1 tyX1 tyX1_ok nmX1 hown hK hP hD (zS0 hS) 0 rfl rfl 5 (by decide) (hts (.fieldLink RX1 35 "Deeprows" "otherShell" "LDeeprows$Row;") (List.mem_cons_of_mem _ zw_170)) (fun _ h9 => h9) rfl hin rfl (by decide +kernel) rfl rfl (Nat.le_of_ble_eq_true rfl) dX1_init_53 (fun H30 locs hP hD hS1 => ?_)
  have hz : s.heap.size + 9 ≤ H30.size := Nat.le_trans hz hS1.1
  have hS := zSS hS hS1
  replace hP : va_P (dC, dI) vwCl [(xo, .inr (6, [.ref q1, .int 0, .int 0, .int 0, .ref q9, .ref q20, .null, .null])), (q1, .inr (4, [.int 0, .ref (zk 0), .int 0])), (q9, .inr (5, [.int 4, .int 1, .ref w13, .ref v14, .ref h15, .int 0])), (w13, .inl (cI, 1, .inl gw16)), (v14, .inl (cI, 1, .inl gv17)), (h15, .inl (cR, 1, .inr (.inr (.inr (.inr gh18))))), (q20, .inr (5, [.int 4, .int 1, .ref w24, .ref v25, .ref h26, .int 0])), (w24, .inl (cI, 1, .inl gw27)), (v25, .inl (cI, 1, .inl gv28)), (h26, .inl (cR, 1, .inr (.inr (.inr (.inr gh29)))))] H30 := hP
  replace hD : va_D A [(xo, .inr (6, [.ref q1, .int 0, .int 0, .int 0, .ref q9, .ref q20, .null, .null])), (q1, .inr (4, [.int 0, .ref (zk 0), .int 0])), (q9, .inr (5, [.int 4, .int 1, .ref w13, .ref v14, .ref h15, .int 0])), (w13, .inl (cI, 1, .inl gw16)), (v14, .inl (cI, 1, .inl gv17)), (h15, .inl (cR, 1, .inr (.inr (.inr (.inr gh18))))), (q20, .inr (5, [.int 4, .int 1, .ref w24, .ref v25, .ref h26, .int 0])), (w24, .inl (cI, 1, .inl gw27)), (v25, .inl (cI, 1, .inl gv28)), (h26, .inl (cR, 1, .inr (.inr (.inr (.inr gh29)))))] := hD
  refine lv_aload_n hx hb dX1_init_56 rfl (lv_at hl 0 rfl) ?_
  refine zw_new (ci := 1) (fs := [.null, .int 0, .int 0, .int 0]) (C := RJ4) (T := TJ4) (N := 4) hx hb hts hi_X1_init_J4 tyJ4 tyJ4_ok hown (hts (.classLink RX1 38 RJ4) (List.mem_cons_of_mem _ zw_132)) (hts (.instantiable RJ4 4) (List.mem_cons_of_mem _ zw_133)) (hts (.initialized RJ4) (List.mem_cons_of_mem _ zw_41)) hK hP hD hS hA rfl (fun j hj => by rcases (show j = 0 ∨ j = 1 ∨ j = 2 ∨ j = 3 by omega) with rfl | rfl | rfl | rfl <;> rfl) (Nat.le_of_ble_eq_true rfl) (Nat.le_of_ble_eq_true rfl) dX1_init_57 hz (fun q31 H32 hP hD hS hz => ?_)
  replace hP : va_P (dC, dI) vwCl [(xo, .inr (6, [.ref q1, .int 0, .int 0, .int 0, .ref q9, .ref q20, .null, .null])), (q1, .inr (4, [.int 0, .ref (zk 0), .int 0])), (q9, .inr (5, [.int 4, .int 1, .ref w13, .ref v14, .ref h15, .int 0])), (w13, .inl (cI, 1, .inl gw16)), (v14, .inl (cI, 1, .inl gv17)), (h15, .inl (cR, 1, .inr (.inr (.inr (.inr gh18))))), (q20, .inr (5, [.int 4, .int 1, .ref w24, .ref v25, .ref h26, .int 0])), (w24, .inl (cI, 1, .inl gw27)), (v25, .inl (cI, 1, .inl gv28)), (h26, .inl (cR, 1, .inr (.inr (.inr (.inr gh29))))), (q31, .inr (1, [.null, .int 0, .int 0, .int 0]))] H32 := hP
  replace hD : va_D A [(xo, .inr (6, [.ref q1, .int 0, .int 0, .int 0, .ref q9, .ref q20, .null, .null])), (q1, .inr (4, [.int 0, .ref (zk 0), .int 0])), (q9, .inr (5, [.int 4, .int 1, .ref w13, .ref v14, .ref h15, .int 0])), (w13, .inl (cI, 1, .inl gw16)), (v14, .inl (cI, 1, .inl gv17)), (h15, .inl (cR, 1, .inr (.inr (.inr (.inr gh18))))), (q20, .inr (5, [.int 4, .int 1, .ref w24, .ref v25, .ref h26, .int 0])), (w24, .inl (cI, 1, .inl gw27)), (v25, .inl (cI, 1, .inl gv28)), (h26, .inl (cR, 1, .inr (.inr (.inr (.inr gh29))))), (q31, .inr (1, [.null, .int 0, .int 0, .int 0]))] := hD
  refine W.widen (k := 10) (n := 25) (by omega) (by omega) ?_
  refine lv_dup hx hb dX1_init_60 rfl ?_
  have hPc := hP.sub (ws' := [(q31, .inr (1, [.null, .int 0, .int 0, .int 0]))]) [10] rfl
  have hDc := hD.sub (ws' := [(q31, .inr (1, [.null, .int 0, .int 0, .int 0]))]) [10] (by decide) rfl
  have hFc := va_free (wc := [(q31, .inr (1, [.null, .int 0, .int 0, .int 0]))]) hD hS hA [10] rfl
  have hDv := hDc.self (sz := H32.size)
  have hpre := zpre (xs' := []) (av := [.ref q31]) hPc hK (hDc.weaken (fun _ _ _ h => h)) hZ hS hFc (fun r hr => by cases hr)
  refine va_callv (va_runI (As := []) (rest := [.ref q31, .ref xo]) ⟨hx, hb, hml, hown, hts⟩ (k_init4 l dC dI cI cB cR cO zk q31 H32.size ) (cwI 0 hts gX1_init_J4_init_da8c8 rfl rfl rfl (hts (.initialized RJ4) (List.mem_cons_of_mem _ zw_41)) (hts (.methodLink RX1 40 yJ4_init_da8c8) (List.mem_cons_of_mem _ zw_134)) (hts (.instanceMethod yJ4_init_da8c8) (List.mem_cons_of_mem _ zw_135)) rfl (by decide +kernel) ⟨Nat.le_of_ble_eq_true rfl, Nat.le_of_ble_eq_true rfl⟩) ⟨zblind, hpre⟩ rfl rfl hl.1 rfl (lv_room (Nat.le_of_ble_eq_true rfl)) dX1_init_61 ⟨Nat.le_of_ble_eq_true rfl, Nat.le_of_ble_eq_true rfl⟩) hS (fun q _ h => hFc q h) hFc (fun u t H33 locs ht hvm hw hB hz1 hk1 hS => ?_)
  obtain ⟨w35, ⟨hP1, hK1, hD1, hz2⟩⟩ := hB
  rw [ht] at hP1 hz2
  have hPD9 := va_join (wr := [(xo, .inr (6, [.ref q1, .int 0, .int 0, .int 0, .ref q9, .ref q20, .null, .null])), (q1, .inr (4, [.int 0, .ref (zk 0), .int 0])), (q9, .inr (5, [.int 4, .int 1, .ref w13, .ref v14, .ref h15, .int 0])), (w13, .inl (cI, 1, .inl gw16)), (v14, .inl (cI, 1, .inl gv17)), (h15, .inl (cR, 1, .inr (.inr (.inr (.inr gh18))))), (q20, .inr (5, [.int 4, .int 1, .ref w24, .ref v25, .ref h26, .int 0])), (w24, .inl (cI, 1, .inl gw27)), (v25, .inl (cI, 1, .inl gv28)), (h26, .inl (cR, 1, .inr (.inr (.inr (.inr gh29)))))]) (w1 := [(q31, .inr (1, [.ref w35, .int 0, .int 0, .int 0])), (w35, .inl (cB, 16, .inl (fun _ => 0)))]) hP hD [10] [0, 1, 2, 3, 4, 5, 6, 7, 8, 9] rfl rfl (by decide) (by decide) hk1 hFc hP1 hD1
  clear hPc hDc hFc hDv hpre hP hD hP1 hK1 hD1
  obtain ⟨hP, hD⟩ := hPD9
  replace hz : s.heap.size + 11 ≤ H33.size := by omega
  clear hz2
  replace hP : va_P (dC, dI) vwCl [(xo, .inr (6, [.ref q1, .int 0, .int 0, .int 0, .ref q9, .ref q20, .null, .null])), (q1, .inr (4, [.int 0, .ref (zk 0), .int 0])), (q9, .inr (5, [.int 4, .int 1, .ref w13, .ref v14, .ref h15, .int 0])), (w13, .inl (cI, 1, .inl gw16)), (v14, .inl (cI, 1, .inl gv17)), (h15, .inl (cR, 1, .inr (.inr (.inr (.inr gh18))))), (q20, .inr (5, [.int 4, .int 1, .ref w24, .ref v25, .ref h26, .int 0])), (w24, .inl (cI, 1, .inl gw27)), (v25, .inl (cI, 1, .inl gv28)), (h26, .inl (cR, 1, .inr (.inr (.inr (.inr gh29))))), (q31, .inr (1, [.ref w35, .int 0, .int 0, .int 0])), (w35, .inl (cB, 16, .inl (fun _ => 0)))] H33 := hP
  replace hD : va_D A [(xo, .inr (6, [.ref q1, .int 0, .int 0, .int 0, .ref q9, .ref q20, .null, .null])), (q1, .inr (4, [.int 0, .ref (zk 0), .int 0])), (q9, .inr (5, [.int 4, .int 1, .ref w13, .ref v14, .ref h15, .int 0])), (w13, .inl (cI, 1, .inl gw16)), (v14, .inl (cI, 1, .inl gv17)), (h15, .inl (cR, 1, .inr (.inr (.inr (.inr gh18))))), (q20, .inr (5, [.int 4, .int 1, .ref w24, .ref v25, .ref h26, .int 0])), (w24, .inl (cI, 1, .inl gw27)), (v25, .inl (cI, 1, .inl gv28)), (h26, .inl (cR, 1, .inr (.inr (.inr (.inr gh29))))), (q31, .inr (1, [.ref w35, .int 0, .int 0, .int 0])), (w35, .inl (cB, 16, .inl (fun _ => 0)))] := hD
  refine W.widen (k := 11) (n := 41) (by omega) (by omega) ?_
  refine va_putF (D := (dC, dI)) (ci := 6) (v := .ref q31) (ty := .object "java/lang/StringBuilder") (C := RX1) (T := TX1) (N := 8) hx hb hts hi_X1_init_X1 tyX1 tyX1_ok nmX1 hown hK hP hD (zS0 hS) 0 rfl rfl 6 (by decide) (hts (.fieldLink RX1 41 "Deeprows" "words" "Ljava/lang/StringBuilder;") (List.mem_cons_of_mem _ zw_171)) (fun _ h9 => h9) rfl hin rfl (by decide +kernel) rfl rfl (Nat.le_of_ble_eq_true rfl) dX1_init_64 (fun H36 locs hP hD hS1 => ?_)
  have hz : s.heap.size + 11 ≤ H36.size := Nat.le_trans hz hS1.1
  have hS := zSS hS hS1
  replace hP : va_P (dC, dI) vwCl [(xo, .inr (6, [.ref q1, .int 0, .int 0, .int 0, .ref q9, .ref q20, .ref q31, .null])), (q1, .inr (4, [.int 0, .ref (zk 0), .int 0])), (q9, .inr (5, [.int 4, .int 1, .ref w13, .ref v14, .ref h15, .int 0])), (w13, .inl (cI, 1, .inl gw16)), (v14, .inl (cI, 1, .inl gv17)), (h15, .inl (cR, 1, .inr (.inr (.inr (.inr gh18))))), (q20, .inr (5, [.int 4, .int 1, .ref w24, .ref v25, .ref h26, .int 0])), (w24, .inl (cI, 1, .inl gw27)), (v25, .inl (cI, 1, .inl gv28)), (h26, .inl (cR, 1, .inr (.inr (.inr (.inr gh29))))), (q31, .inr (1, [.ref w35, .int 0, .int 0, .int 0])), (w35, .inl (cB, 16, .inl (fun _ => 0)))] H36 := hP
  replace hD : va_D A [(xo, .inr (6, [.ref q1, .int 0, .int 0, .int 0, .ref q9, .ref q20, .ref q31, .null])), (q1, .inr (4, [.int 0, .ref (zk 0), .int 0])), (q9, .inr (5, [.int 4, .int 1, .ref w13, .ref v14, .ref h15, .int 0])), (w13, .inl (cI, 1, .inl gw16)), (v14, .inl (cI, 1, .inl gv17)), (h15, .inl (cR, 1, .inr (.inr (.inr (.inr gh18))))), (q20, .inr (5, [.int 4, .int 1, .ref w24, .ref v25, .ref h26, .int 0])), (w24, .inl (cI, 1, .inl gw27)), (v25, .inl (cI, 1, .inl gv28)), (h26, .inl (cR, 1, .inr (.inr (.inr (.inr gh29))))), (q31, .inr (1, [.ref w35, .int 0, .int 0, .int 0])), (w35, .inl (cB, 16, .inl (fun _ => 0)))] := hD
  refine lv_aload_n hx hb dX1_init_67 rfl (lv_at hl 0 rfl) ?_
  refine zw_new (ci := 1) (fs := [.null, .int 0, .int 0, .int 0]) (C := RJ4) (T := TJ4) (N := 4) hx hb hts hi_X1_init_J4 tyJ4 tyJ4_ok hown (hts (.classLink RX1 38 RJ4) (List.mem_cons_of_mem _ zw_132)) (hts (.instantiable RJ4 4) (List.mem_cons_of_mem _ zw_133)) (hts (.initialized RJ4) (List.mem_cons_of_mem _ zw_41)) hK hP hD hS hA rfl (fun j hj => by rcases (show j = 0 ∨ j = 1 ∨ j = 2 ∨ j = 3 by omega) with rfl | rfl | rfl | rfl <;> rfl) (Nat.le_of_ble_eq_true rfl) (Nat.le_of_ble_eq_true rfl) dX1_init_68 hz (fun q37 H38 hP hD hS hz => ?_)
  replace hP : va_P (dC, dI) vwCl [(xo, .inr (6, [.ref q1, .int 0, .int 0, .int 0, .ref q9, .ref q20, .ref q31, .null])), (q1, .inr (4, [.int 0, .ref (zk 0), .int 0])), (q9, .inr (5, [.int 4, .int 1, .ref w13, .ref v14, .ref h15, .int 0])), (w13, .inl (cI, 1, .inl gw16)), (v14, .inl (cI, 1, .inl gv17)), (h15, .inl (cR, 1, .inr (.inr (.inr (.inr gh18))))), (q20, .inr (5, [.int 4, .int 1, .ref w24, .ref v25, .ref h26, .int 0])), (w24, .inl (cI, 1, .inl gw27)), (v25, .inl (cI, 1, .inl gv28)), (h26, .inl (cR, 1, .inr (.inr (.inr (.inr gh29))))), (q31, .inr (1, [.ref w35, .int 0, .int 0, .int 0])), (w35, .inl (cB, 16, .inl (fun _ => 0))), (q37, .inr (1, [.null, .int 0, .int 0, .int 0]))] H38 := hP
  replace hD : va_D A [(xo, .inr (6, [.ref q1, .int 0, .int 0, .int 0, .ref q9, .ref q20, .ref q31, .null])), (q1, .inr (4, [.int 0, .ref (zk 0), .int 0])), (q9, .inr (5, [.int 4, .int 1, .ref w13, .ref v14, .ref h15, .int 0])), (w13, .inl (cI, 1, .inl gw16)), (v14, .inl (cI, 1, .inl gv17)), (h15, .inl (cR, 1, .inr (.inr (.inr (.inr gh18))))), (q20, .inr (5, [.int 4, .int 1, .ref w24, .ref v25, .ref h26, .int 0])), (w24, .inl (cI, 1, .inl gw27)), (v25, .inl (cI, 1, .inl gv28)), (h26, .inl (cR, 1, .inr (.inr (.inr (.inr gh29))))), (q31, .inr (1, [.ref w35, .int 0, .int 0, .int 0])), (w35, .inl (cB, 16, .inl (fun _ => 0))), (q37, .inr (1, [.null, .int 0, .int 0, .int 0]))] := hD
  refine W.widen (k := 12) (n := 45) (by omega) (by omega) ?_
  refine lv_dup hx hb dX1_init_71 rfl ?_
  have hPc := hP.sub (ws' := [(q37, .inr (1, [.null, .int 0, .int 0, .int 0]))]) [12] rfl
  have hDc := hD.sub (ws' := [(q37, .inr (1, [.null, .int 0, .int 0, .int 0]))]) [12] (by decide) rfl
  have hFc := va_free (wc := [(q37, .inr (1, [.null, .int 0, .int 0, .int 0]))]) hD hS hA [12] rfl
  have hDv := hDc.self (sz := H38.size)
  have hpre := zpre (xs' := []) (av := [.ref q37]) hPc hK (hDc.weaken (fun _ _ _ h => h)) hZ hS hFc (fun r hr => by cases hr)
  refine va_callv (va_runI (As := []) (rest := [.ref q37, .ref xo]) ⟨hx, hb, hml, hown, hts⟩ (k_init4 l dC dI cI cB cR cO zk q37 H38.size ) (cwI 0 hts gX1_init_J4_init_da8c8 rfl rfl rfl (hts (.initialized RJ4) (List.mem_cons_of_mem _ zw_41)) (hts (.methodLink RX1 40 yJ4_init_da8c8) (List.mem_cons_of_mem _ zw_134)) (hts (.instanceMethod yJ4_init_da8c8) (List.mem_cons_of_mem _ zw_135)) rfl (by decide +kernel) ⟨Nat.le_of_ble_eq_true rfl, Nat.le_of_ble_eq_true rfl⟩) ⟨zblind, hpre⟩ rfl rfl hl.1 rfl (lv_room (Nat.le_of_ble_eq_true rfl)) dX1_init_72 ⟨Nat.le_of_ble_eq_true rfl, Nat.le_of_ble_eq_true rfl⟩) hS (fun q _ h => hFc q h) hFc (fun u t H39 locs ht hvm hw hB hz1 hk1 hS => ?_)
  obtain ⟨w41, ⟨hP1, hK1, hD1, hz2⟩⟩ := hB
  rw [ht] at hP1 hz2
  have hPD9 := va_join (wr := [(xo, .inr (6, [.ref q1, .int 0, .int 0, .int 0, .ref q9, .ref q20, .ref q31, .null])), (q1, .inr (4, [.int 0, .ref (zk 0), .int 0])), (q9, .inr (5, [.int 4, .int 1, .ref w13, .ref v14, .ref h15, .int 0])), (w13, .inl (cI, 1, .inl gw16)), (v14, .inl (cI, 1, .inl gv17)), (h15, .inl (cR, 1, .inr (.inr (.inr (.inr gh18))))), (q20, .inr (5, [.int 4, .int 1, .ref w24, .ref v25, .ref h26, .int 0])), (w24, .inl (cI, 1, .inl gw27)), (v25, .inl (cI, 1, .inl gv28)), (h26, .inl (cR, 1, .inr (.inr (.inr (.inr gh29))))), (q31, .inr (1, [.ref w35, .int 0, .int 0, .int 0])), (w35, .inl (cB, 16, .inl (fun _ => 0)))]) (w1 := [(q37, .inr (1, [.ref w41, .int 0, .int 0, .int 0])), (w41, .inl (cB, 16, .inl (fun _ => 0)))]) hP hD [12] [0, 1, 2, 3, 4, 5, 6, 7, 8, 9, 10, 11] rfl rfl (by decide) (by decide) hk1 hFc hP1 hD1
  clear hPc hDc hFc hDv hpre hP hD hP1 hK1 hD1
  obtain ⟨hP, hD⟩ := hPD9
  replace hz : s.heap.size + 13 ≤ H39.size := by omega
  clear hz2
  replace hP : va_P (dC, dI) vwCl [(xo, .inr (6, [.ref q1, .int 0, .int 0, .int 0, .ref q9, .ref q20, .ref q31, .null])), (q1, .inr (4, [.int 0, .ref (zk 0), .int 0])), (q9, .inr (5, [.int 4, .int 1, .ref w13, .ref v14, .ref h15, .int 0])), (w13, .inl (cI, 1, .inl gw16)), (v14, .inl (cI, 1, .inl gv17)), (h15, .inl (cR, 1, .inr (.inr (.inr (.inr gh18))))), (q20, .inr (5, [.int 4, .int 1, .ref w24, .ref v25, .ref h26, .int 0])), (w24, .inl (cI, 1, .inl gw27)), (v25, .inl (cI, 1, .inl gv28)), (h26, .inl (cR, 1, .inr (.inr (.inr (.inr gh29))))), (q31, .inr (1, [.ref w35, .int 0, .int 0, .int 0])), (w35, .inl (cB, 16, .inl (fun _ => 0))), (q37, .inr (1, [.ref w41, .int 0, .int 0, .int 0])), (w41, .inl (cB, 16, .inl (fun _ => 0)))] H39 := hP
  replace hD : va_D A [(xo, .inr (6, [.ref q1, .int 0, .int 0, .int 0, .ref q9, .ref q20, .ref q31, .null])), (q1, .inr (4, [.int 0, .ref (zk 0), .int 0])), (q9, .inr (5, [.int 4, .int 1, .ref w13, .ref v14, .ref h15, .int 0])), (w13, .inl (cI, 1, .inl gw16)), (v14, .inl (cI, 1, .inl gv17)), (h15, .inl (cR, 1, .inr (.inr (.inr (.inr gh18))))), (q20, .inr (5, [.int 4, .int 1, .ref w24, .ref v25, .ref h26, .int 0])), (w24, .inl (cI, 1, .inl gw27)), (v25, .inl (cI, 1, .inl gv28)), (h26, .inl (cR, 1, .inr (.inr (.inr (.inr gh29))))), (q31, .inr (1, [.ref w35, .int 0, .int 0, .int 0])), (w35, .inl (cB, 16, .inl (fun _ => 0))), (q37, .inr (1, [.ref w41, .int 0, .int 0, .int 0])), (w41, .inl (cB, 16, .inl (fun _ => 0)))] := hD
  refine W.widen (k := 13) (n := 61) (by omega) (by omega) ?_
  refine va_putF (D := (dC, dI)) (ci := 6) (v := .ref q37) (ty := .object "java/lang/StringBuilder") (C := RX1) (T := TX1) (N := 8) hx hb hts hi_X1_init_X1 tyX1 tyX1_ok nmX1 hown hK hP hD (zS0 hS) 0 rfl rfl 7 (by decide) (hts (.fieldLink RX1 45 "Deeprows" "otherWords" "Ljava/lang/StringBuilder;") (List.mem_cons_of_mem _ zw_172)) (fun _ h9 => h9) rfl hin rfl (by decide +kernel) rfl rfl (Nat.le_of_ble_eq_true rfl) dX1_init_75 (fun H42 locs hP hD hS1 => ?_)
  have hz : s.heap.size + 13 ≤ H42.size := Nat.le_trans hz hS1.1
  have hS := zSS hS hS1
  replace hP : va_P (dC, dI) vwCl [(xo, .inr (6, [.ref q1, .int 0, .int 0, .int 0, .ref q9, .ref q20, .ref q31, .ref q37])), (q1, .inr (4, [.int 0, .ref (zk 0), .int 0])), (q9, .inr (5, [.int 4, .int 1, .ref w13, .ref v14, .ref h15, .int 0])), (w13, .inl (cI, 1, .inl gw16)), (v14, .inl (cI, 1, .inl gv17)), (h15, .inl (cR, 1, .inr (.inr (.inr (.inr gh18))))), (q20, .inr (5, [.int 4, .int 1, .ref w24, .ref v25, .ref h26, .int 0])), (w24, .inl (cI, 1, .inl gw27)), (v25, .inl (cI, 1, .inl gv28)), (h26, .inl (cR, 1, .inr (.inr (.inr (.inr gh29))))), (q31, .inr (1, [.ref w35, .int 0, .int 0, .int 0])), (w35, .inl (cB, 16, .inl (fun _ => 0))), (q37, .inr (1, [.ref w41, .int 0, .int 0, .int 0])), (w41, .inl (cB, 16, .inl (fun _ => 0)))] H42 := hP
  replace hD : va_D A [(xo, .inr (6, [.ref q1, .int 0, .int 0, .int 0, .ref q9, .ref q20, .ref q31, .ref q37])), (q1, .inr (4, [.int 0, .ref (zk 0), .int 0])), (q9, .inr (5, [.int 4, .int 1, .ref w13, .ref v14, .ref h15, .int 0])), (w13, .inl (cI, 1, .inl gw16)), (v14, .inl (cI, 1, .inl gv17)), (h15, .inl (cR, 1, .inr (.inr (.inr (.inr gh18))))), (q20, .inr (5, [.int 4, .int 1, .ref w24, .ref v25, .ref h26, .int 0])), (w24, .inl (cI, 1, .inl gw27)), (v25, .inl (cI, 1, .inl gv28)), (h26, .inl (cR, 1, .inr (.inr (.inr (.inr gh29))))), (q31, .inr (1, [.ref w35, .int 0, .int 0, .int 0])), (w35, .inl (cB, 16, .inl (fun _ => 0))), (q37, .inr (1, [.ref w41, .int 0, .int 0, .int 0])), (w41, .inl (cB, 16, .inl (fun _ => 0)))] := hD
  have hP9 := hP.sub (ws' := [(xo, .inr (6, [.ref q1, .int 0, .int 0, .int 0, .ref q9, .ref q20, .ref q31, .ref q37])), (q1, .inr (4, [.int 0, .ref (zk 0), .int 0])), (q31, .inr (1, [.ref w35, .int 0, .int 0, .int 0])), (w35, .inl (cB, 16, .inl (fun _ => 0)))]) [0, 1, 10, 11] rfl
  have hD9 := hD.sub (ws' := [(xo, .inr (6, [.ref q1, .int 0, .int 0, .int 0, .ref q9, .ref q20, .ref q31, .ref q37])), (q1, .inr (4, [.int 0, .ref (zk 0), .int 0])), (q31, .inr (1, [.ref w35, .int 0, .int 0, .int 0])), (w35, .inl (cB, 16, .inl (fun _ => 0)))]) [0, 1, 10, 11] (by decide) rfl
  exact W.vret hx hb hr (fun t ht hW => ⟨⟨(), rfl, trivial, ⟨_, _, _, _, _, _, ⟨by rw [ht]; exact hP9, va_K.moved hW.alike hK, hD9, by rw [ht]; exact hz⟩⟩⟩, hS.F ht⟩) hS.2.2 dX1_init_78

theorem hi_Jx4a65c_size_8abf5_Jx4a65c : ∀ w ∈ u_ws RJx4a65c TJx4a65c 3, w ∈ wsJx4a65c_size_8abf5 := fun w h => List.mem_cons_of_mem _ (zhi_Jx4a65c w h)
set_option maxHeartbeats 4000000 in
set_option maxRecDepth 100000 in
theorem k_size (l : Launch) (dC : Nat → ClassId) (dI : Nat → Nat → Nat) (cI cB cR cO : ClassId) (zk : Nat → Nat) (al ed : Nat) (cc : Int32) (mc : Value) (sz : Nat)  : Met l yJx4a65c_size_8abf5 wsJx4a65c_size_8abf5 ({ frames := 0, cells := 0, slots := 0, locals := 0 }) (va_Pc [.ref al] (zPre (dC, dI) (zT cI cB cR cO) zk [] [(al, .inr (4, [mc, .ref ed, .int cc]))] sz)) (va_Qi (fun r (_ : Unit) => r = cc) (fun _ t => zEnd (dC, dI) (zT cI cB cR cO) (va_A [(al, .inr (4, [mc, .ref ed, .int cc]))] sz) [(al, .inr (4, [mc, .ref ed, .int cc]))] sz 0 t) (va_A [(al, .inr (4, [mc, .ref ed, .int cc]))] sz)) 0 0 (va_A [(al, .inr (4, [mc, .ref ed, .int cc]))] sz) := by
  refine Met.ofW (cc := cJx4a65c_size_8abf5) (maxL := 1) (ret := (some .int)) (by decide) rfl ?_
  intro p e s mY args below meth c s₁ B hml hv
  obtain ⟨rfl, hsz, hP, hK, hD0, hZ⟩ := hv
  have hx := B.exec
  have hb := B.bytes
  have hr := B.returns
  have hts := atoms_spec (ws := wsJx4a65c_size_8abf5) B.pre
  have hown : s.vm.findClass RJx4a65c = some mY.cls := findClass_of_methodNamed B.named
  have hlocks := B.notSynchronized
  subst hsz
  have hD := hD0.self (sz := s.heap.size)
  generalize hAe : va_A [(al, .inr (4, [mc, .ref ed, .int cc]))] s.heap.size = A at hD hZ ⊢
  have hA : ∀ q : Nat, s.heap.size ≤ q → A q := fun q h => by rw [← hAe]; exact Or.inr h
  have hS : va_S A s.heap s.heap [] := va_S.rf
  have hz : s.heap.size + 0 ≤ s.heap.size := Nat.le_refl _
  have hl := lv_entry ([.ref al]) (n := 1) (Nat.le_of_ble_eq_true rfl)
  rw [lg_entry_eq]
  generalize (lg_sl ([.ref al]) ++ List.replicate (1 - (lg_sl ([.ref al])).length) Slot.unset).toArray = ls at hl ⊢
  have hl : lv_has ls 1 [(0, .ref al)] := hl
  have hP : va_P (dC, dI) vwCl [(al, .inr (4, [mc, .ref ed, .int cc]))] s.heap := hP
  have hD : va_D A [(al, .inr (4, [mc, .ref ed, .int cc]))] := hD
  refine lv_aload_n hx hb dJx4a65c_size_8abf5_0 rfl (lv_at hl 0 rfl) ?_
  refine va_get (D := (dC, dI)) (ci := 4) (v := .int cc) (C := RJx4a65c) (T := TJx4a65c) (N := 3) hx hb hts hi_Jx4a65c_size_8abf5_Jx4a65c hown hK hP 0 rfl rfl 2 (by decide) (hts (.fieldLink RJx4a65c 48 "java/util/ArrayList" "size" "I") (List.mem_cons_of_mem _ zw_88)) (fun _ h9 => h9) rfl dJx4a65c_size_8abf5_1 ?_
  have hP9 := hP.sub (ws' := [(al, .inr (4, [mc, .ref ed, .int cc]))]) [0] rfl
  have hD9 := hD.sub (ws' := [(al, .inr (4, [mc, .ref ed, .int cc]))]) [0] (by decide) rfl
  exact W.iret (v := cc) hx hb hr (fun t ht hW => ⟨⟨_, (), rfl, rfl, ⟨by rw [ht]; exact hP9, va_K.moved hW.alike hK, hD9, by rw [ht]; exact hz⟩⟩, hS.F ht⟩) hS.2.2 dJx4a65c_size_8abf5_4

theorem hi_X4_init_Jx4a65c : ∀ w ∈ u_ws RJx4a65c TJx4a65c 3, w ∈ wsX4_init := fun w h => List.mem_cons_of_mem _ (zhi_Jx4a65c w h)
theorem hi_X4_init_X4 : ∀ w ∈ u_ws RX4 TX4 5, w ∈ wsX4_init := fun w h => List.mem_cons_of_mem _ (zhi_X4 w h)
set_option maxHeartbeats 4000000 in
set_option maxRecDepth 100000 in
theorem k_min (l : Launch) (dC : Nat → ClassId) (dI : Nat → Nat → Nat) (cI cB cR cO : ClassId) (zk : Nat → Nat) (mo : Nat) (sz : Nat)  : Met l yX4_init wsX4_init ({ frames := 4, cells := 1, slots := 3, locals := 120 }) (va_Pc [.ref mo] (zPre (dC, dI) (zT cI cB cR cO) zk [] [(mo, .inr (9, [.int 0, .null, .int 0, .int 0, .int 0]))] sz)) (va_Qv (fun _ : Unit => True) (fun _ t => ∃ al, zEnd (dC, dI) (zT cI cB cR cO) (va_A [(mo, .inr (9, [.int 0, .null, .int 0, .int 0, .int 0]))] sz) [(mo, .inr (9, [.int 0, .ref al, .int 0, .int 0, .int 0])), (al, .inr (4, [.int 0, .ref (zk 0), .int 0]))] sz 1 t) (va_A [(mo, .inr (9, [.int 0, .null, .int 0, .int 0, .int 0]))] sz)) 1 3 (va_A [(mo, .inr (9, [.int 0, .null, .int 0, .int 0, .int 0]))] sz) := by
  refine Met.ofW (cc := cX4_init) (maxL := 1) (ret := none) (by decide) rfl ?_
  intro p e s mY args below meth c s₁ B hml hv
  obtain ⟨rfl, hsz, hP, hK, hD0, hZ⟩ := hv
  have hx := B.exec
  have hb := B.bytes
  have hr := B.returns
  have hts := atoms_spec (ws := wsX4_init) B.pre
  have hown : s.vm.findClass RX4 = some mY.cls := findClass_of_methodNamed B.named
  have hlocks := B.notSynchronized
  have hin : meth.name = "<init>" := (name_of_methodNamed B.named B.method).1
  subst hsz
  have hD := hD0.self (sz := s.heap.size)
  generalize hAe : va_A [(mo, .inr (9, [.int 0, .null, .int 0, .int 0, .int 0]))] s.heap.size = A at hD hZ ⊢
  have hA : ∀ q : Nat, s.heap.size ≤ q → A q := fun q h => by rw [← hAe]; exact Or.inr h
  have hS : va_S A s.heap s.heap [] := va_S.rf
  have hz : s.heap.size + 0 ≤ s.heap.size := Nat.le_refl _
  have hl := lv_entry ([.ref mo]) (n := 1) (Nat.le_of_ble_eq_true rfl)
  rw [lg_entry_eq]
  generalize (lg_sl ([.ref mo]) ++ List.replicate (1 - (lg_sl ([.ref mo])).length) Slot.unset).toArray = ls at hl ⊢
  have hl : lv_has ls 1 [(0, .ref mo)] := hl
  have hP : va_P (dC, dI) vwCl [(mo, .inr (9, [.int 0, .null, .int 0, .int 0, .int 0]))] s.heap := hP
  have hD : va_D A [(mo, .inr (9, [.int 0, .null, .int 0, .int 0, .int 0]))] := hD
  refine lv_aload_n hx hb dX4_init_0 rfl (lv_at hl 0 rfl) ?_
  refine W.objInit hx hb hown (hts (.methodLink RX4 1 objectInit) (List.mem_cons_of_mem _ zw_1124)) (hts (.instanceMethod objectInit) (List.mem_cons_of_mem _ zw_71)) (hts (.code objectInit ⟨#[0xb1]⟩ 1 none) (List.mem_cons_of_mem _ zw_72)) rfl (by rw [hml]; exact hl.1) rfl dX4_init_1 (Nat.le_of_ble_eq_true rfl) (Nat.le_of_ble_eq_true rfl) ?_
  refine W.eq (g2 := F0 mY 4 ls []) rfl ?_
  refine lv_aload_n hx hb dX4_init_4 rfl (lv_at hl 0 rfl) ?_
  refine zw_new (ci := 4) (fs := [.int 0, .null, .int 0]) (C := RJx4a65c) (T := TJx4a65c) (N := 3) hx hb hts hi_X4_init_Jx4a65c tyJx4a65c tyJx4a65c_ok hown (hts (.classLink RX4 7 RJx4a65c) (List.mem_cons_of_mem _ zw_1125)) (hts (.instantiable RJx4a65c 3) (List.mem_cons_of_mem _ zw_74)) (hts (.initialized RJx4a65c) (List.mem_cons_of_mem _ zw_38)) hK hP hD hS hA rfl (fun j hj => by rcases (show j = 0 ∨ j = 1 ∨ j = 2 by omega) with rfl | rfl | rfl <;> rfl) (Nat.le_of_ble_eq_true rfl) (Nat.le_of_ble_eq_true rfl) dX4_init_5 hz (fun q1 H2 hP hD hS hz => ?_)
  replace hP : va_P (dC, dI) vwCl [(mo, .inr (9, [.int 0, .null, .int 0, .int 0, .int 0])), (q1, .inr (4, [.int 0, .null, .int 0]))] H2 := hP
  replace hD : va_D A [(mo, .inr (9, [.int 0, .null, .int 0, .int 0, .int 0])), (q1, .inr (4, [.int 0, .null, .int 0]))] := hD
  refine W.widen (k := 1) (n := 3) (by omega) (by omega) ?_
  refine lv_dup hx hb dX4_init_8 rfl ?_
  have hPc := hP.sub (ws' := [(q1, .inr (4, [.int 0, .null, .int 0]))]) [1] rfl
  have hDc := hD.sub (ws' := [(q1, .inr (4, [.int 0, .null, .int 0]))]) [1] (by decide) rfl
  have hFc := va_free (wc := [(q1, .inr (4, [.int 0, .null, .int 0]))]) hD hS hA [1] rfl
  have hDv := hDc.self (sz := H2.size)
  have hpre := zpre (xs' := []) (av := [.ref q1]) hPc hK (hDc.weaken (fun _ _ _ h => h)) hZ hS hFc (fun r hr => by cases hr)
  refine va_callv (va_runI (As := []) (rest := [.ref q1, .ref mo]) ⟨hx, hb, hml, hown, hts⟩ (k_alin l dC dI cI cB cR cO zk q1 H2.size ) (cwI 0 hts gX4_init_Jx4a65c_init_da8c8 rfl rfl rfl (hts (.initialized RJx4a65c) (List.mem_cons_of_mem _ zw_38)) (hts (.methodLink RX4 9 yJx4a65c_init_da8c8) (List.mem_cons_of_mem _ zw_1126)) (hts (.instanceMethod yJx4a65c_init_da8c8) (List.mem_cons_of_mem _ zw_76)) rfl (by decide +kernel) ⟨Nat.le_of_ble_eq_true rfl, Nat.le_of_ble_eq_true rfl⟩) ⟨zblind, hpre⟩ rfl rfl hl.1 rfl (lv_room (Nat.le_of_ble_eq_true rfl)) dX4_init_9 ⟨Nat.le_of_ble_eq_true rfl, Nat.le_of_ble_eq_true rfl⟩) hS (fun q _ h => hFc q h) hFc (fun u t H3 locs ht hvm hw hB hz1 hk1 hS => ?_)
  obtain ⟨hP1, hK1, hD1, hz2⟩ := hB
  rw [ht] at hP1 hz2
  have hPD9 := va_join (wr := [(mo, .inr (9, [.int 0, .null, .int 0, .int 0, .int 0]))]) (w1 := [(q1, .inr (4, [.int 0, .ref (zk 0), .int 0]))]) hP hD [1] [0] rfl rfl (by decide) (by decide) hk1 hFc hP1 hD1
  clear hPc hDc hFc hDv hpre hP hD hP1 hK1 hD1
  obtain ⟨hP, hD⟩ := hPD9
  replace hz : s.heap.size + 1 ≤ H3.size := by omega
  clear hz2
  replace hP : va_P (dC, dI) vwCl [(mo, .inr (9, [.int 0, .null, .int 0, .int 0, .int 0])), (q1, .inr (4, [.int 0, .ref (zk 0), .int 0]))] H3 := hP
  replace hD : va_D A [(mo, .inr (9, [.int 0, .null, .int 0, .int 0, .int 0])), (q1, .inr (4, [.int 0, .ref (zk 0), .int 0]))] := hD
  refine W.widen (k := 1) (n := 3) (by omega) (by omega) ?_
  refine va_putF (D := (dC, dI)) (ci := 9) (v := .ref q1) (ty := .object "java/util/ArrayList") (C := RX4) (T := TX4) (N := 5) hx hb hts hi_X4_init_X4 tyX4 tyX4_ok nmX4 hown hK hP hD (zS0 hS) 0 rfl rfl 1 (by decide) (hts (.fieldLink RX4 10 "DeeprowsModel" "rows" "Ljava/util/ArrayList;") (List.mem_cons_of_mem _ zw_1128)) (fun _ h9 => h9) rfl hin rfl (by decide +kernel) rfl rfl (Nat.le_of_ble_eq_true rfl) dX4_init_12 (fun H5 locs hP hD hS1 => ?_)
  have hz : s.heap.size + 1 ≤ H5.size := Nat.le_trans hz hS1.1
  have hS := zSS hS hS1
  replace hP : va_P (dC, dI) vwCl [(mo, .inr (9, [.int 0, .ref q1, .int 0, .int 0, .int 0])), (q1, .inr (4, [.int 0, .ref (zk 0), .int 0]))] H5 := hP
  replace hD : va_D A [(mo, .inr (9, [.int 0, .ref q1, .int 0, .int 0, .int 0])), (q1, .inr (4, [.int 0, .ref (zk 0), .int 0]))] := hD
  have hP9 := hP.sub (ws' := [(mo, .inr (9, [.int 0, .ref q1, .int 0, .int 0, .int 0])), (q1, .inr (4, [.int 0, .ref (zk 0), .int 0]))]) [0, 1] rfl
  have hD9 := hD.sub (ws' := [(mo, .inr (9, [.int 0, .ref q1, .int 0, .int 0, .int 0])), (q1, .inr (4, [.int 0, .ref (zk 0), .int 0]))]) [0, 1] (by decide) rfl
  exact W.vret hx hb hr (fun t ht hW => ⟨⟨(), rfl, trivial, ⟨_, ⟨by rw [ht]; exact hP9, va_K.moved hW.alike hK, hD9, by rw [ht]; exact hz⟩⟩⟩, hS.F ht⟩) hS.2.2 dX4_init_15

theorem hi_Jx4a65c_grow_92f84_Jx4a65c : ∀ w ∈ u_ws RJx4a65c TJx4a65c 3, w ∈ wsJx4a65c_grow_92f84 := fun w h => List.mem_cons_of_mem _ (zhi_Jx4a65c w h)
set_option maxHeartbeats 4000000 in
set_option maxRecDepth 100000 in
theorem k_grow1 (l : Launch) (dC : Nat → ClassId) (dI : Nat → Nat → Nat) (cI cB cR cO : ClassId) (zk : Nat → Nat) (al : Nat) (mc : Int32) (sz : Nat)  : Met l yJx4a65c_grow_92f84 wsJx4a65c_grow_92f84 ({ frames := 1, cells := 1, slots := 10, locals := 40 }) (va_Pc [.ref al, .int 1] (zPre (dC, dI) (zT cI cB cR cO) zk [] [(al, .inr (4, [.int mc, .ref (zk 0), .int 0]))] sz)) (va_Qr (fun _ : Unit => True) (fun _ ra t => zEnd (dC, dI) (zT cI cB cR cO) (va_A [(al, .inr (4, [.int mc, .ref (zk 0), .int 0]))] sz) [(al, .inr (4, [.int mc, .ref ra, .int 0])), (ra, .inl (cO, 10, .inr (.inr (.inr (.inr (fun _ => none))))))] sz 1 t) (va_A [(al, .inr (4, [.int mc, .ref (zk 0), .int 0]))] sz)) 1 10 (va_A [(al, .inr (4, [.int mc, .ref (zk 0), .int 0]))] sz) := by
  refine Met.ofW (cc := cJx4a65c_grow_92f84) (maxL := 4) (ret := (some (.array (.object "java/lang/Object")))) (by decide) rfl ?_
  intro p e s mY args below meth c s₁ B hml hv
  obtain ⟨rfl, hsz, hP, hK, hD0, hZ⟩ := hv
  have hx := B.exec
  have hb := B.bytes
  have hr := B.returns
  have hts := atoms_spec (ws := wsJx4a65c_grow_92f84) B.pre
  have hown : s.vm.findClass RJx4a65c = some mY.cls := findClass_of_methodNamed B.named
  have hlocks := B.notSynchronized
  subst hsz
  have hD := hD0.self (sz := s.heap.size)
  generalize hAe : va_A [(al, .inr (4, [.int mc, .ref (zk 0), .int 0]))] s.heap.size = A at hD hZ ⊢
  have hA : ∀ q : Nat, s.heap.size ≤ q → A q := fun q h => by rw [← hAe]; exact Or.inr h
  have hS : va_S A s.heap s.heap [] := va_S.rf
  have hz : s.heap.size + 0 ≤ s.heap.size := Nat.le_refl _
  have hl := lv_entry ([.ref al, .int 1]) (n := 4) (Nat.le_of_ble_eq_true rfl)
  rw [lg_entry_eq]
  generalize (lg_sl ([.ref al, .int 1]) ++ List.replicate (4 - (lg_sl ([.ref al, .int 1])).length) Slot.unset).toArray = ls at hl ⊢
  have hl : lv_has ls 4 [(0, .ref al), (1, .int 1)] := hl
  have hP : va_P (dC, dI) vwCl [(al, .inr (4, [.int mc, .ref (zk 0), .int 0]))] s.heap := hP
  have hD : va_D A [(al, .inr (4, [.int mc, .ref (zk 0), .int 0]))] := hD
  refine lv_aload_n hx hb dJx4a65c_grow_92f84_0 rfl (lv_at hl 0 rfl) ?_
  refine va_get (D := (dC, dI)) (ci := 4) (v := .ref (zk 0)) (C := RJx4a65c) (T := TJx4a65c) (N := 3) hx hb hts hi_Jx4a65c_grow_92f84_Jx4a65c hown hK hP 0 rfl rfl 1 (by decide) (hts (.fieldLink RJx4a65c 9 "java/util/ArrayList" "elementData" "[Ljava/lang/Object;") (List.mem_cons_of_mem _ zw_87)) (fun _ h9 => h9) rfl dJx4a65c_grow_92f84_1 ?_
  refine va_tlen (v := 0) hx hb hZ.1.2.2.2.1 hS rfl dJx4a65c_grow_92f84_4 ?_
  refine lv_istore_n (lv' := [(2, .int 0), (0, .ref al), (1, .int 1)]) hx hb dJx4a65c_grow_92f84_5 rfl hl (by decide) rfl (fun ls hl => ?_)
  refine lv_iload_n hx hb dJx4a65c_grow_92f84_6 rfl (lv_at hl 0 rfl) ?_
  refine lv_if_gt (tgt := 20) hx hb dJx4a65c_grow_92f84_7 (by decide) (fun c9 => ?_) (fun c9 => ?_)
  · exact absurd c9 (by decide)
  refine lv_aload_n hx hb dJx4a65c_grow_92f84_10 rfl (lv_at hl 1 rfl) ?_
  refine va_get (D := (dC, dI)) (ci := 4) (v := .ref (zk 0)) (C := RJx4a65c) (T := TJx4a65c) (N := 3) hx hb hts hi_Jx4a65c_grow_92f84_Jx4a65c hown hK hP 0 rfl rfl 1 (by decide) (hts (.fieldLink RJx4a65c 9 "java/util/ArrayList" "elementData" "[Ljava/lang/Object;") (List.mem_cons_of_mem _ zw_87)) (fun _ h9 => h9) rfl dJx4a65c_grow_92f84_11 ?_
  refine va_gets hx hb hZ.1.2.2.1 hS hown (hts (.fieldLink RJx4a65c 39 "java/util/ArrayList" "DEFAULTCAPACITY_EMPTY_ELEMENTDATA" "[Ljava/lang/Object;") (List.mem_cons_of_mem _ zw_85)) (fun _ h9 => h9) dJx4a65c_grow_92f84_14 ?_
  refine lv_acmp_eq (rx := (some (zk 0))) (ry := (some (zk 0))) (tgt := 45) hx hb dJx4a65c_grow_92f84_17 (by decide) (fun c9 => ?_) (fun c9 => ?_)
  rotate_left
  · exact absurd (rfl) c9
  refine lv_aload_n hx hb dJx4a65c_grow_92f84_45 rfl (lv_at hl 1 rfl) ?_
  refine lv_bipush (v := 10) hx hb dJx4a65c_grow_92f84_46 (by decide) ?_
  refine lv_iload_n hx hb dJx4a65c_grow_92f84_48 rfl (lv_at hl 2 rfl) ?_
  refine va_mmax (x := 10) (y := 1) hx hb (hml.trans hl.1.symm) hown (hts (.methodLink RJx4a65c 79 Lib.Math.max.name) (List.mem_cons_of_mem _ zw_858)) (hts (.static Lib.Math.max.name) (List.mem_cons_of_mem _ zw_265)) (hts (.initialized "java/lang/Math") (List.mem_cons_of_mem _ zw_52)) (hts (.code Lib.Math.max.name Lib.Math.max.code 2 (some .int)) (List.mem_cons_of_mem _ zw_266)) (Nat.le_of_ble_eq_true rfl) (Nat.le_of_ble_eq_true rfl) (Nat.le_of_ble_eq_true rfl) (Nat.le_of_ble_eq_true rfl) dJx4a65c_grow_92f84_49 ?_
  refine lv_topi (fun v1 ev1 => ?_)
  obtain rfl : v1 = 10 := ev1.trans (by decide)
  refine zw_newq (C := "java/lang/Object") (N' := 10) hx hb hown (hts (.classLink RJx4a65c 7 "java/lang/Object") (List.mem_cons_of_mem _ zw_859)) (za1 hZ) hK hP hD hS hA 3 rfl (by decide) (by decide) (by decide) (Nat.le_of_ble_eq_true rfl) (Nat.le_of_ble_eq_true rfl) dJx4a65c_grow_92f84_52 hz (fun q2 H3 hP hD hS hz => ?_)
  replace hP : va_P (dC, dI) vwCl [(al, .inr (4, [.int mc, .ref (zk 0), .int 0])), (q2, .inl (cO, 10, .inr (.inr (.inr (.inr (fun _ => none))))))] H3 := hP
  replace hD : va_D A [(al, .inr (4, [.int mc, .ref (zk 0), .int 0])), (q2, .inl (cO, 10, .inr (.inr (.inr (.inr (fun _ => none))))))] := hD
  refine W.widen (k := 1) (n := 10) (by omega) (by omega) ?_
  refine lv_dup_x1 hx hb dJx4a65c_grow_92f84_55 rfl rfl ?_
  refine va_put (D := (dC, dI)) (ci := 4) (v := .ref q2) (ty := .array (.object "java/lang/Object")) (C := RJx4a65c) (T := TJx4a65c) (N := 3) hx hb hts hi_Jx4a65c_grow_92f84_Jx4a65c tyJx4a65c tyJx4a65c_ok nmJx4a65c hown hK hP hD (zS0 hS) 0 rfl rfl 1 (by decide) (hts (.fieldLink RJx4a65c 9 "java/util/ArrayList" "elementData" "[Ljava/lang/Object;") (List.mem_cons_of_mem _ zw_87)) (fun _ h9 => h9) rfl (by decide +kernel) rfl rfl (Nat.le_of_ble_eq_true rfl) dJx4a65c_grow_92f84_56 (fun H4 locs hP hD hS1 => ?_)
  have hz : s.heap.size + 1 ≤ H4.size := Nat.le_trans hz hS1.1
  have hS := zSS hS hS1
  replace hP : va_P (dC, dI) vwCl [(al, .inr (4, [.int mc, .ref q2, .int 0])), (q2, .inl (cO, 10, .inr (.inr (.inr (.inr (fun _ => none))))))] H4 := hP
  replace hD : va_D A [(al, .inr (4, [.int mc, .ref q2, .int 0])), (q2, .inl (cO, 10, .inr (.inr (.inr (.inr (fun _ => none))))))] := hD
  have hP9 := hP.sub (ws' := [(al, .inr (4, [.int mc, .ref q2, .int 0])), (q2, .inl (cO, 10, .inr (.inr (.inr (.inr (fun _ => none))))))]) [0, 1] rfl
  have hD9 := hD.sub (ws' := [(al, .inr (4, [.int mc, .ref q2, .int 0])), (q2, .inl (cO, 10, .inr (.inr (.inr (.inr (fun _ => none))))))]) [0, 1] (by decide) rfl
  exact W.aret hx hb hr (by first | exact Or.inl ⟨_, rfl⟩ | exact Or.inr ⟨_, rfl⟩) (Or.inr ⟨_, rfl⟩) (fun t ht hW => ⟨⟨(), _, rfl, trivial, ⟨by rw [ht]; exact hP9, va_K.moved hW.alike hK, hD9, by rw [ht]; exact hz⟩⟩, hS.F ht⟩) hS.2.2 dJx4a65c_grow_92f84_59

theorem hi_Jx4a65c_grow_d5877_Jx4a65c : ∀ w ∈ u_ws RJx4a65c TJx4a65c 3, w ∈ wsJx4a65c_grow_d5877 := fun w h => List.mem_cons_of_mem _ (zhi_Jx4a65c w h)
set_option maxHeartbeats 4000000 in
set_option maxRecDepth 100000 in
theorem k_grow0 (l : Launch) (dC : Nat → ClassId) (dI : Nat → Nat → Nat) (cI cB cR cO : ClassId) (zk : Nat → Nat) (al : Nat) (mc : Int32) (sz : Nat)  : Met l yJx4a65c_grow_d5877 wsJx4a65c_grow_d5877 ({ frames := 2, cells := 1, slots := 10, locals := 63 }) (va_Pc [.ref al] (zPre (dC, dI) (zT cI cB cR cO) zk [] [(al, .inr (4, [.int mc, .ref (zk 0), .int 0]))] sz)) (va_Qr (fun _ : Unit => True) (fun _ ra t => zEnd (dC, dI) (zT cI cB cR cO) (va_A [(al, .inr (4, [.int mc, .ref (zk 0), .int 0]))] sz) [(al, .inr (4, [.int mc, .ref ra, .int 0])), (ra, .inl (cO, 10, .inr (.inr (.inr (.inr (fun _ => none))))))] sz 1 t) (va_A [(al, .inr (4, [.int mc, .ref (zk 0), .int 0]))] sz)) 1 10 (va_A [(al, .inr (4, [.int mc, .ref (zk 0), .int 0]))] sz) := by
  refine Met.ofW (cc := cJx4a65c_grow_d5877) (maxL := 1) (ret := (some (.array (.object "java/lang/Object")))) (by decide) rfl ?_
  intro p e s mY args below meth c s₁ B hml hv
  obtain ⟨rfl, hsz, hP, hK, hD0, hZ⟩ := hv
  have hx := B.exec
  have hb := B.bytes
  have hr := B.returns
  have hts := atoms_spec (ws := wsJx4a65c_grow_d5877) B.pre
  have hown : s.vm.findClass RJx4a65c = some mY.cls := findClass_of_methodNamed B.named
  have hlocks := B.notSynchronized
  subst hsz
  have hD := hD0.self (sz := s.heap.size)
  generalize hAe : va_A [(al, .inr (4, [.int mc, .ref (zk 0), .int 0]))] s.heap.size = A at hD hZ ⊢
  have hA : ∀ q : Nat, s.heap.size ≤ q → A q := fun q h => by rw [← hAe]; exact Or.inr h
  have hS : va_S A s.heap s.heap [] := va_S.rf
  have hz : s.heap.size + 0 ≤ s.heap.size := Nat.le_refl _
  have hl := lv_entry ([.ref al]) (n := 1) (Nat.le_of_ble_eq_true rfl)
  rw [lg_entry_eq]
  generalize (lg_sl ([.ref al]) ++ List.replicate (1 - (lg_sl ([.ref al])).length) Slot.unset).toArray = ls at hl ⊢
  have hl : lv_has ls 1 [(0, .ref al)] := hl
  have hP : va_P (dC, dI) vwCl [(al, .inr (4, [.int mc, .ref (zk 0), .int 0]))] s.heap := hP
  have hD : va_D A [(al, .inr (4, [.int mc, .ref (zk 0), .int 0]))] := hD
  refine lv_aload_n hx hb dJx4a65c_grow_d5877_0 rfl (lv_at hl 0 rfl) ?_
  refine lv_aload_n hx hb dJx4a65c_grow_d5877_1 rfl (lv_at hl 0 rfl) ?_
  refine va_get (D := (dC, dI)) (ci := 4) (v := .int 0) (C := RJx4a65c) (T := TJx4a65c) (N := 3) hx hb hts hi_Jx4a65c_grow_d5877_Jx4a65c hown hK hP 0 rfl rfl 2 (by decide) (hts (.fieldLink RJx4a65c 48 "java/util/ArrayList" "size" "I") (List.mem_cons_of_mem _ zw_88)) (fun _ h9 => h9) rfl dJx4a65c_grow_d5877_2 ?_
  refine lv_iconst (v := 1) hx hb dJx4a65c_grow_d5877_5 (by decide) ?_
  refine lv_iadd hx hb dJx4a65c_grow_d5877_6 ?_
  refine lv_topi (fun v1 ev1 => ?_)
  obtain rfl : v1 = 1 := ev1.trans (by decide)
  have hPc := hP.sub (ws' := [(al, .inr (4, [.int mc, .ref (zk 0), .int 0]))]) [0] rfl
  have hDc := hD.sub (ws' := [(al, .inr (4, [.int mc, .ref (zk 0), .int 0]))]) [0] (by decide) rfl
  have hFc := va_free (wc := [(al, .inr (4, [.int mc, .ref (zk 0), .int 0]))]) hD hS hA [0] rfl
  have hDv := hDc.self (sz := s.heap.size)
  have hpre := zpre (xs' := []) (av := [.ref al, .int 1]) hPc hK (hDc.weaken (fun _ _ _ h => h)) hZ hS hFc (fun r hr => by cases hr)
  refine va_callr (va_runV (As := [.int 1]) (rest := []) ⟨hx, hb, hml, hown, hts⟩ (k_grow1 l dC dI cI cB cR cO zk al mc s.heap.size ) (cwV 1 hts gJx4a65c_grow_d5877_Jx4a65c_grow_92f84 rfl rfl rfl (by decide +kernel) ⟨Nat.le_of_ble_eq_true rfl, Nat.le_of_ble_eq_true rfl⟩) ⟨zblind, (zrecv_4 hK hPc (q0 := 0) rfl), hpre⟩ rfl rfl hl.1 rfl (lv_room (Nat.le_of_ble_eq_true rfl)) dJx4a65c_grow_d5877_7 ⟨Nat.le_of_ble_eq_true rfl, Nat.le_of_ble_eq_true rfl⟩) hS (fun q _ h => hFc q h) hFc (fun u r3 t H2 locs ht hvm hw hB hz1 hk1 hS => ?_)
  obtain ⟨hP1, hK1, hD1, hz2⟩ := hB
  rw [ht] at hP1 hz2
  have hPD9 := va_join (wr := []) (w1 := [(al, .inr (4, [.int mc, .ref r3, .int 0])), (r3, .inl (cO, 10, .inr (.inr (.inr (.inr (fun _ => none))))))]) hP hD [0] [] rfl rfl (by decide) (by decide) hk1 hFc hP1 hD1
  clear hPc hDc hFc hDv hpre hP hD hP1 hK1 hD1
  obtain ⟨hP, hD⟩ := hPD9
  replace hz : s.heap.size + 1 ≤ H2.size := by omega
  clear hz2
  replace hP : va_P (dC, dI) vwCl [(al, .inr (4, [.int mc, .ref r3, .int 0])), (r3, .inl (cO, 10, .inr (.inr (.inr (.inr (fun _ => none))))))] H2 := hP
  replace hD : va_D A [(al, .inr (4, [.int mc, .ref r3, .int 0])), (r3, .inl (cO, 10, .inr (.inr (.inr (.inr (fun _ => none))))))] := hD
  refine W.widen (k := 1) (n := 10) (by omega) (by omega) ?_
  have hP9 := hP.sub (ws' := [(al, .inr (4, [.int mc, .ref r3, .int 0])), (r3, .inl (cO, 10, .inr (.inr (.inr (.inr (fun _ => none))))))]) [0, 1] rfl
  have hD9 := hD.sub (ws' := [(al, .inr (4, [.int mc, .ref r3, .int 0])), (r3, .inl (cO, 10, .inr (.inr (.inr (.inr (fun _ => none))))))]) [0, 1] (by decide) rfl
  exact W.aret hx hb hr (by first | exact Or.inl ⟨_, rfl⟩ | exact Or.inr ⟨_, rfl⟩) (Or.inr ⟨_, rfl⟩) (fun t ht hW => ⟨⟨(), _, rfl, trivial, ⟨by rw [ht]; exact hP9, va_K.moved hW.alike hK, hD9, by rw [ht]; exact hz⟩⟩, hS.F ht⟩) hS.2.2 dJx4a65c_grow_d5877_10

theorem hi_X1_requireRoom_X1 : ∀ w ∈ u_ws RX1 TX1 8, w ∈ wsX1_requireRoom := fun w h => List.mem_cons_of_mem _ (zhi_X1 w h)
set_option maxHeartbeats 4000000 in
set_option maxRecDepth 100000 in
theorem k_rqR0 (l : Launch) (dC : Nat → ClassId) (dI : Nat → Nat → Nat) (cI cB cR cO : ClassId) (zk : Nat → Nat) (xo al b1 : Nat) (x1 x2 x3 x4 x5 x7 : Value) (ed : Nat) (mc : Int32) (sz : Nat)  : Met l yX1_requireRoom wsX1_requireRoom ({ frames := 1, cells := 0, slots := 0, locals := 20 }) (va_Pc [.ref xo, .int 1] (zPre (dC, dI) (zT cI cB cR cO) zk [] [(xo, .inr (6, [.ref al, x1, x2, x3, x4, x5, .ref b1, x7])), (al, .inr (4, [.int mc, .ref (zk 0), .int 0]))] sz)) (va_Qv (fun _ : Unit => True) (fun _ t => zEnd (dC, dI) (zT cI cB cR cO) (va_A [(xo, .inr (6, [.ref al, x1, x2, x3, x4, x5, .ref b1, x7])), (al, .inr (4, [.int mc, .ref (zk 0), .int 0]))] sz) [(xo, .inr (6, [.ref al, x1, x2, x3, x4, x5, .ref b1, x7])), (al, .inr (4, [.int mc, .ref (zk 0), .int 0]))] sz 0 t) (va_A [(xo, .inr (6, [.ref al, x1, x2, x3, x4, x5, .ref b1, x7])), (al, .inr (4, [.int mc, .ref (zk 0), .int 0]))] sz)) 0 0 (va_A [(xo, .inr (6, [.ref al, x1, x2, x3, x4, x5, .ref b1, x7])), (al, .inr (4, [.int mc, .ref (zk 0), .int 0]))] sz) := by
  refine Met.ofW (cc := cX1_requireRoom) (maxL := 2) (ret := none) (by decide) rfl ?_
  intro p e s mY args below meth c s₁ B hml hv
  obtain ⟨rfl, hsz, hP, hK, hD0, hZ⟩ := hv
  have hx := B.exec
  have hb := B.bytes
  have hr := B.returns
  have hts := atoms_spec (ws := wsX1_requireRoom) B.pre
  have hown : s.vm.findClass RX1 = some mY.cls := findClass_of_methodNamed B.named
  have hlocks := B.notSynchronized
  subst hsz
  have hD := hD0.self (sz := s.heap.size)
  generalize hAe : va_A [(xo, .inr (6, [.ref al, x1, x2, x3, x4, x5, .ref b1, x7])), (al, .inr (4, [.int mc, .ref (zk 0), .int 0]))] s.heap.size = A at hD hZ ⊢
  have hA : ∀ q : Nat, s.heap.size ≤ q → A q := fun q h => by rw [← hAe]; exact Or.inr h
  have hS : va_S A s.heap s.heap [] := va_S.rf
  have hz : s.heap.size + 0 ≤ s.heap.size := Nat.le_refl _
  have hl := lv_entry ([.ref xo, .int 1]) (n := 2) (Nat.le_of_ble_eq_true rfl)
  rw [lg_entry_eq]
  generalize (lg_sl ([.ref xo, .int 1]) ++ List.replicate (2 - (lg_sl ([.ref xo, .int 1])).length) Slot.unset).toArray = ls at hl ⊢
  have hl : lv_has ls 2 [(0, .ref xo), (1, .int 1)] := hl
  have hP : va_P (dC, dI) vwCl [(xo, .inr (6, [.ref al, x1, x2, x3, x4, x5, .ref b1, x7])), (al, .inr (4, [.int mc, .ref (zk 0), .int 0]))] s.heap := hP
  have hD : va_D A [(xo, .inr (6, [.ref al, x1, x2, x3, x4, x5, .ref b1, x7])), (al, .inr (4, [.int mc, .ref (zk 0), .int 0]))] := hD
  refine lv_aload_n hx hb dX1_requireRoom_0 rfl (lv_at hl 0 rfl) ?_
  refine va_get (D := (dC, dI)) (ci := 6) (v := .ref al) (C := RX1) (T := TX1) (N := 8) hx hb hts hi_X1_requireRoom_X1 hown hK hP 0 rfl rfl 0 (by decide) (hts (.fieldLink RX1 12 "Deeprows" "rows" "Ljava/util/ArrayList;") (List.mem_cons_of_mem _ zw_165)) (fun _ h9 => h9) rfl dX1_requireRoom_1 ?_
  have hPc := hP.sub (ws' := [(al, .inr (4, [.int mc, .ref (zk 0), .int 0]))]) [1] rfl
  have hDc := hD.sub (ws' := [(al, .inr (4, [.int mc, .ref (zk 0), .int 0]))]) [1] (by decide) rfl
  have hFc := va_free (wc := [(al, .inr (4, [.int mc, .ref (zk 0), .int 0]))]) hD hS hA [1] rfl
  have hDv := hDc.self (sz := s.heap.size)
  have hpre := zpre (xs' := []) (av := [.ref al]) hPc hK (hDc.weaken (fun _ _ _ h => h)) hZ hS hFc (fun r hr => by cases hr)
  refine va_calli (va_runV (As := []) (rest := []) ⟨hx, hb, hml, hown, hts⟩ (k_size l dC dI cI cB cR cO zk al (zk 0) 0 (.int mc) s.heap.size ) (cwV 0 hts gX1_requireRoom_Jx4a65c_size_8abf5 rfl rfl rfl (by decide +kernel) ⟨Nat.le_of_ble_eq_true rfl, Nat.le_of_ble_eq_true rfl⟩) ⟨zblind, (zrecv_4 hK hPc (q0 := 0) rfl), hpre⟩ rfl rfl hl.1 rfl (lv_room (Nat.le_of_ble_eq_true rfl)) dX1_requireRoom_4 ⟨Nat.le_of_ble_eq_true rfl, Nat.le_of_ble_eq_true rfl⟩) hS (fun q _ h => hFc q h) hFc (fun r2 u t H1 locs ht hvm hw hB hz1 hk1 hS => ?_)
  obtain rfl : 0 = r2 := (show r2 = 0 from hw).symm
  obtain ⟨hP1, hK1, hD1, hz2⟩ := hB
  rw [ht] at hP1 hz2
  have hPD9 := va_join (wr := [(xo, .inr (6, [.ref al, x1, x2, x3, x4, x5, .ref b1, x7]))]) (w1 := [(al, .inr (4, [.int mc, .ref (zk 0), .int 0]))]) hP hD [1] [0] rfl rfl (by decide) (by decide) hk1 hFc hP1 hD1
  clear hPc hDc hFc hDv hpre hP hD hP1 hK1 hD1
  obtain ⟨hP, hD⟩ := hPD9
  replace hz : s.heap.size + 0 ≤ H1.size := by omega
  clear hz2
  replace hP : va_P (dC, dI) vwCl [(xo, .inr (6, [.ref al, x1, x2, x3, x4, x5, .ref b1, x7])), (al, .inr (4, [.int mc, .ref (zk 0), .int 0]))] H1 := hP
  replace hD : va_D A [(xo, .inr (6, [.ref al, x1, x2, x3, x4, x5, .ref b1, x7])), (al, .inr (4, [.int mc, .ref (zk 0), .int 0]))] := hD
  refine W.widen (k := 0) (n := 0) (by omega) (by omega) ?_
  refine lv_iload_n hx hb dX1_requireRoom_7 rfl (lv_at hl 1 rfl) ?_
  refine lv_iadd hx hb dX1_requireRoom_8 ?_
  refine lv_topi (fun v3 ev3 => ?_)
  obtain rfl : v3 = 1 := ev3.trans (by decide)
  refine lv_bipush (v := 12) hx hb dX1_requireRoom_9 (by decide) ?_
  refine lv_icmp_le (tgt := 25) hx hb dX1_requireRoom_11 (by decide) (fun c9 => ?_) (fun c9 => ?_)
  rotate_left
  · exact absurd (by decide) c9
  have hP9 := hP.sub (ws' := [(xo, .inr (6, [.ref al, x1, x2, x3, x4, x5, .ref b1, x7])), (al, .inr (4, [.int mc, .ref (zk 0), .int 0]))]) [0, 1] rfl
  have hD9 := hD.sub (ws' := [(xo, .inr (6, [.ref al, x1, x2, x3, x4, x5, .ref b1, x7])), (al, .inr (4, [.int mc, .ref (zk 0), .int 0]))]) [0, 1] (by decide) rfl
  exact W.vret hx hb hr (fun t ht hW => ⟨⟨(), rfl, trivial, ⟨by rw [ht]; exact hP9, va_K.moved hW.alike hK, hD9, by rw [ht]; exact hz⟩⟩, hS.F ht⟩) hS.2.2 dX1_requireRoom_25
