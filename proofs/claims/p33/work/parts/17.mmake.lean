theorem hi_X4_init_Jx4a65c : ∀ w ∈ u_ws RJx4a65c TJx4a65c 3, w ∈ wsX4_init := fun w h => List.mem_cons_of_mem _ (zhi_Jx4a65c w h)
theorem hi_X4_init_X4 : ∀ w ∈ u_ws RX4 TX4 5, w ∈ wsX4_init := fun w h => List.mem_cons_of_mem _ (zhi_X4 w h)
set_option maxHeartbeats 4000000 in
set_option maxRecDepth 100000 in
theorem k_min (l : Launch) (dC : Nat → ClassId) (dI : Nat → Nat → Nat) (cI cB cR cO : ClassId) (zk : Nat → Nat) (mo : Nat) (sz : Nat)  : Met l yX4_init wsX4_init ({ frames := 4, cells := 1, slots := 3, locals := 120 }) (va_Pc [.ref mo] (zPre (dC, dI) (zT cI cB cR cO) zk [] [(mo, .inr (9, [.int 0, .null, .int 0, .int 0, .int 0]))] sz)) (va_Qv (fun _ : Unit => True) (fun _ t => ∃ al, zEnd (dC, dI) (zT cI cB cR cO) (va_A [(mo, .inr (9, [.int 0, .null, .int 0, .int 0, .int 0]))] sz) [(mo, .inr (9, [.int 0, .ref al, .int 0, .int 0, .int 0])), (al, .inr (4, [.int 0, .ref (zk 0), .int 0]))] sz 1 t) (va_A [(mo, .inr (9, [.int 0, .null, .int 0, .int 0, .int 0]))] sz)) 1 3 (va_A [(mo, .inr (9, [.int 0, .null, .int 0, .int 0, .int 0]))] sz) := by
  refine Met.ofW (cc := cX4_init) (maxL := 1) (ret := none) (by decide) rfl ?_
  intro p e s mY args below meth c s₁ B hml hv
  obtain ⟨rfl, hsz, hP, hK, hD0, hZ⟩ := hv
  have hx := B.exec
  have hb := B.bytes
  have hr := B.returns
  have hts := atoms_spec (ws := wsX4_init) B.pre
  have hown : s.vm.findClass RX4 = some mY.cls := findClass_of_methodNamed B.named
  have hlocks := B.notSynchronized
  have hin : meth.name = "<init>" := (name_of_methodNamed B.named B.method).1
  subst hsz
  have hD := hD0.self (sz := s.heap.size)
  generalize hAe : va_A [(mo, .inr (9, [.int 0, .null, .int 0, .int 0, .int 0]))] s.heap.size = A at hD hZ ⊢
  have hA : ∀ q : Nat, s.heap.size ≤ q → A q := fun q h => by rw [← hAe]; exact Or.inr h
  have hS : va_S A s.heap s.heap [] := va_S.rf
  have hz : s.heap.size + 0 ≤ s.heap.size := Nat.le_refl _
  have hl := lv_entry ([.ref mo]) (n := 1) (Nat.le_of_ble_eq_true rfl)
  rw [lg_entry_eq]
  generalize (lg_sl ([.ref mo]) ++ List.replicate (1 - (lg_sl ([.ref mo])).length) Slot.unset).toArray = ls at hl ⊢
  have hl : lv_has ls 1 [(0, .ref mo)] := hl
  have hP : va_P (dC, dI) vwCl [(mo, .inr (9, [.int 0, .null, .int 0, .int 0, .int 0]))] s.heap := hP
  have hD : va_D A [(mo, .inr (9, [.int 0, .null, .int 0, .int 0, .int 0]))] := hD
  refine lv_aload_n hx hb dX4_init_0 rfl (lv_at hl 0 rfl) ?_
  refine W.objInit hx hb hown (hts (.methodLink RX4 1 objectInit) (List.mem_cons_of_mem _ zw_1130)) (hts (.instanceMethod objectInit) (List.mem_cons_of_mem _ zw_77)) (hts (.code objectInit ⟨#[0xb1]⟩ 1 none) (List.mem_cons_of_mem _ zw_78)) rfl (by rw [hml]; exact hl.1) rfl dX4_init_1 (Nat.le_of_ble_eq_true rfl) (Nat.le_of_ble_eq_true rfl) ?_
  refine W.eq (g2 := F0 mY 4 ls []) rfl ?_
  refine lv_aload_n hx hb dX4_init_4 rfl (lv_at hl 0 rfl) ?_
  refine zw_new (ci := 4) (fs := [.int 0, .null, .int 0]) (C := RJx4a65c) (T := TJx4a65c) (N := 3) hx hb hts hi_X4_init_Jx4a65c tyJx4a65c tyJx4a65c_ok hown (hts (.classLink RX4 7 RJx4a65c) (List.mem_cons_of_mem _ zw_1131)) (hts (.instantiable RJx4a65c 3) (List.mem_cons_of_mem _ zw_80)) (hts (.initialized RJx4a65c) (List.mem_cons_of_mem _ zw_44)) hK hP hD hS hA rfl (fun j hj => by rcases (show j = 0 ∨ j = 1 ∨ j = 2 by omega) with rfl | rfl | rfl <;> rfl) (Nat.le_of_ble_eq_true rfl) (Nat.le_of_ble_eq_true rfl) dX4_init_5 hz (fun q1 H2 hP hD hS hz => ?_)
  replace hP : va_P (dC, dI) vwCl [(mo, .inr (9, [.int 0, .null, .int 0, .int 0, .int 0])), (q1, .inr (4, [.int 0, .null, .int 0]))] H2 := hP
  replace hD : va_D A [(mo, .inr (9, [.int 0, .null, .int 0, .int 0, .int 0])), (q1, .inr (4, [.int 0, .null, .int 0]))] := hD
  refine W.widen (k := 1) (n := 3) (by omega) (by omega) ?_
  refine lv_dup hx hb dX4_init_8 rfl ?_
  have hPc := hP.sub (ws' := [(q1, .inr (4, [.int 0, .null, .int 0]))]) [1] rfl
  have hDc := hD.sub (ws' := [(q1, .inr (4, [.int 0, .null, .int 0]))]) [1] (by decide) rfl
  have hFc := va_free (wc := [(q1, .inr (4, [.int 0, .null, .int 0]))]) hD hS hA [1] rfl
  have hDv := hDc.self (sz := H2.size)
  have hpre := zpre (xs' := []) (av := [.ref q1]) hPc hK (hDc.weaken (fun _ _ _ h => h)) hZ hS hFc (fun r hr => by cases hr)
  refine va_callv (va_runI (As := []) (rest := [.ref q1, .ref mo]) ⟨hx, hb, hml, hown, hts⟩ (k_alin l dC dI cI cB cR cO zk q1 H2.size ) (cwI 0 hts gX4_init_Jx4a65c_init_da8c8 rfl rfl rfl (hts (.initialized RJx4a65c) (List.mem_cons_of_mem _ zw_44)) (hts (.methodLink RX4 9 yJx4a65c_init_da8c8) (List.mem_cons_of_mem _ zw_1132)) (hts (.instanceMethod yJx4a65c_init_da8c8) (List.mem_cons_of_mem _ zw_82)) rfl (by decide +kernel) ⟨Nat.le_of_ble_eq_true rfl, Nat.le_of_ble_eq_true rfl⟩) ⟨zblind, hpre⟩ rfl rfl hl.1 rfl (lv_room (Nat.le_of_ble_eq_true rfl)) dX4_init_9 ⟨Nat.le_of_ble_eq_true rfl, Nat.le_of_ble_eq_true rfl⟩) hS (fun q _ h => hFc q h) hFc (fun u t H3 locs ht hvm hw hB hz1 hk1 hS => ?_)
  obtain ⟨hP1, hK1, hD1, hz2⟩ := hB
  rw [ht] at hP1 hz2
  have hPD9 := va_join (wr := [(mo, .inr (9, [.int 0, .null, .int 0, .int 0, .int 0]))]) (w1 := [(q1, .inr (4, [.int 0, .ref (zk 0), .int 0]))]) hP hD [1] [0] rfl rfl (by decide) (by decide) hk1 hFc hP1 hD1
  clear hPc hDc hFc hDv hpre hP hD hP1 hK1 hD1
  obtain ⟨hP, hD⟩ := hPD9
  replace hz : s.heap.size + 1 ≤ H3.size := by omega
  clear hz2
  replace hP : va_P (dC, dI) vwCl [(mo, .inr (9, [.int 0, .null, .int 0, .int 0, .int 0])), (q1, .inr (4, [.int 0, .ref (zk 0), .int 0]))] H3 := hP
  replace hD : va_D A [(mo, .inr (9, [.int 0, .null, .int 0, .int 0, .int 0])), (q1, .inr (4, [.int 0, .ref (zk 0), .int 0]))] := hD
  refine W.widen (k := 1) (n := 3) (by omega) (by omega) ?_
  refine va_putF (D := (dC, dI)) (ci := 9) (v := .ref q1) (ty := .object "java/util/ArrayList") (C := RX4) (T := TX4) (N := 5) hx hb hts hi_X4_init_X4 tyX4 tyX4_ok nmX4 hown hK hP hD (zS0 hS) 0 rfl rfl 1 (by decide) (hts (.fieldLink RX4 10 "DeeprowsModel" "rows" "Ljava/util/ArrayList;") (List.mem_cons_of_mem _ zw_1134)) (fun _ h9 => h9) rfl hin rfl (by decide +kernel) rfl rfl (Nat.le_of_ble_eq_true rfl) dX4_init_12 (fun H5 locs hP hD hS1 => ?_)
  have hz : s.heap.size + 1 ≤ H5.size := Nat.le_trans hz hS1.1
  have hS := zSS hS hS1
  replace hP : va_P (dC, dI) vwCl [(mo, .inr (9, [.int 0, .ref q1, .int 0, .int 0, .int 0])), (q1, .inr (4, [.int 0, .ref (zk 0), .int 0]))] H5 := hP
  replace hD : va_D A [(mo, .inr (9, [.int 0, .ref q1, .int 0, .int 0, .int 0])), (q1, .inr (4, [.int 0, .ref (zk 0), .int 0]))] := hD
  have hP9 := hP.sub (ws' := [(mo, .inr (9, [.int 0, .ref q1, .int 0, .int 0, .int 0])), (q1, .inr (4, [.int 0, .ref (zk 0), .int 0]))]) [0, 1] rfl
  have hD9 := hD.sub (ws' := [(mo, .inr (9, [.int 0, .ref q1, .int 0, .int 0, .int 0])), (q1, .inr (4, [.int 0, .ref (zk 0), .int 0]))]) [0, 1] (by decide) rfl
  exact W.vret hx hb hr (fun t ht hW => ⟨⟨(), rfl, trivial, ⟨_, ⟨by rw [ht]; exact hP9, va_K.moved hW.alike hK, hD9, by rw [ht]; exact hz⟩⟩⟩, hS.F ht⟩) hS.2.2 dX4_init_15

set_option maxHeartbeats 4000000 in
set_option maxRecDepth 100000 in
theorem k_isIn4 (l : Launch) (dC : Nat → ClassId) (dI : Nat → Nat → Nat) (cI cB cR cO : ClassId) (zk : Nat → Nat)  (sz : Nat)  : Met l yX4_isIn wsX4_isIn ({ frames := 0, cells := 0, slots := 0, locals := 0 }) (va_Pc [.int 4, .int 0, .int 4] (zPre (dC, dI) (zT cI cB cR cO) zk [] [] sz)) (va_Qi (fun r (_ : Unit) => r = 1) (fun _ t => zEnd (dC, dI) (zT cI cB cR cO) (va_A [] sz) [] sz 0 t) (va_A [] sz)) 0 0 (va_A [] sz) := by
  refine Met.ofW (cc := cX4_isIn) (maxL := 3) (ret := (some .boolean)) (by decide) rfl ?_
  intro p e s mY args below meth c s₁ B hml hv
  obtain ⟨rfl, hsz, hP, hK, hD0, hZ⟩ := hv
  have hx := B.exec
  have hb := B.bytes
  have hr := B.returns
  have hts := atoms_spec (ws := wsX4_isIn) B.pre
  have hown : s.vm.findClass RX4 = some mY.cls := findClass_of_methodNamed B.named
  have hlocks := B.notSynchronized
  subst hsz
  have hD := hD0.self (sz := s.heap.size)
  generalize hAe : va_A [] s.heap.size = A at hD hZ ⊢
  have hA : ∀ q : Nat, s.heap.size ≤ q → A q := fun q h => by rw [← hAe]; exact Or.inr h
  have hS : va_S A s.heap s.heap [] := va_S.rf
  have hz : s.heap.size + 0 ≤ s.heap.size := Nat.le_refl _
  have hl := lv_entry ([.int 4, .int 0, .int 4]) (n := 3) (Nat.le_of_ble_eq_true rfl)
  rw [lg_entry_eq]
  generalize (lg_sl ([.int 4, .int 0, .int 4]) ++ List.replicate (3 - (lg_sl ([.int 4, .int 0, .int 4])).length) Slot.unset).toArray = ls at hl ⊢
  have hl : lv_has ls 3 [(0, .int 4), (1, .int 0), (2, .int 4)] := hl
  have hP : va_P (dC, dI) vwCl [] s.heap := hP
  have hD : va_D A [] := hD
  refine lv_iload_n hx hb dX4_isIn_0 rfl (lv_at hl 0 rfl) ?_
  refine lv_iload_n hx hb dX4_isIn_1 rfl (lv_at hl 1 rfl) ?_
  refine lv_icmp_lt (tgt := 14) hx hb dX4_isIn_2 (by decide) (fun c9 => ?_) (fun c9 => ?_)
  · exact absurd c9 (by decide)
  refine lv_iload_n hx hb dX4_isIn_5 rfl (lv_at hl 0 rfl) ?_
  refine lv_iload_n hx hb dX4_isIn_6 rfl (lv_at hl 2 rfl) ?_
  refine lv_icmp_gt (tgt := 14) hx hb dX4_isIn_7 (by decide) (fun c9 => ?_) (fun c9 => ?_)
  · exact absurd c9 (by decide)
  refine lv_iconst (v := 1) hx hb dX4_isIn_10 (by decide) ?_
  refine lv_goto (tgt := 15) hx hb dX4_isIn_11 (by decide) ?_
  have hP9 := hP.sub (ws' := []) [] rfl
  have hD9 := hD.sub (ws' := []) [] (by decide) rfl
  exact W.zret (v := 1) hx hb hr (by decide +kernel) (fun t ht hW => ⟨⟨_, (), rfl, rfl, ⟨by rw [ht]; exact hP9, va_K.moved hW.alike hK, hD9, by rw [ht]; exact hz⟩⟩, hS.F ht⟩) hS.2.2 dX4_isIn_15

set_option maxHeartbeats 4000000 in
set_option maxRecDepth 100000 in
theorem k_isIn0_0 (l : Launch) (dC : Nat → ClassId) (dI : Nat → Nat → Nat) (cI cB cR cO : ClassId) (zk : Nat → Nat)  (sz : Nat)  : Met l yX4_isIn wsX4_isIn ({ frames := 0, cells := 0, slots := 0, locals := 0 }) (va_Pc [.int 0, .int 0, .int 0] (zPre (dC, dI) (zT cI cB cR cO) zk [] [] sz)) (va_Qi (fun r (_ : Unit) => r = 1) (fun _ t => zEnd (dC, dI) (zT cI cB cR cO) (va_A [] sz) [] sz 0 t) (va_A [] sz)) 0 0 (va_A [] sz) := by
  refine Met.ofW (cc := cX4_isIn) (maxL := 3) (ret := (some .boolean)) (by decide) rfl ?_
  intro p e s mY args below meth c s₁ B hml hv
  obtain ⟨rfl, hsz, hP, hK, hD0, hZ⟩ := hv
  have hx := B.exec
  have hb := B.bytes
  have hr := B.returns
  have hts := atoms_spec (ws := wsX4_isIn) B.pre
  have hown : s.vm.findClass RX4 = some mY.cls := findClass_of_methodNamed B.named
  have hlocks := B.notSynchronized
  subst hsz
  have hD := hD0.self (sz := s.heap.size)
  generalize hAe : va_A [] s.heap.size = A at hD hZ ⊢
  have hA : ∀ q : Nat, s.heap.size ≤ q → A q := fun q h => by rw [← hAe]; exact Or.inr h
  have hS : va_S A s.heap s.heap [] := va_S.rf
  have hz : s.heap.size + 0 ≤ s.heap.size := Nat.le_refl _
  have hl := lv_entry ([.int 0, .int 0, .int 0]) (n := 3) (Nat.le_of_ble_eq_true rfl)
  rw [lg_entry_eq]
  generalize (lg_sl ([.int 0, .int 0, .int 0]) ++ List.replicate (3 - (lg_sl ([.int 0, .int 0, .int 0])).length) Slot.unset).toArray = ls at hl ⊢
  have hl : lv_has ls 3 [(0, .int 0), (1, .int 0), (2, .int 0)] := hl
  have hP : va_P (dC, dI) vwCl [] s.heap := hP
  have hD : va_D A [] := hD
  refine lv_iload_n hx hb dX4_isIn_0 rfl (lv_at hl 0 rfl) ?_
  refine lv_iload_n hx hb dX4_isIn_1 rfl (lv_at hl 1 rfl) ?_
  refine lv_icmp_lt (tgt := 14) hx hb dX4_isIn_2 (by decide) (fun c9 => ?_) (fun c9 => ?_)
  · exact absurd c9 (by decide)
  refine lv_iload_n hx hb dX4_isIn_5 rfl (lv_at hl 0 rfl) ?_
  refine lv_iload_n hx hb dX4_isIn_6 rfl (lv_at hl 2 rfl) ?_
  refine lv_icmp_gt (tgt := 14) hx hb dX4_isIn_7 (by decide) (fun c9 => ?_) (fun c9 => ?_)
  · exact absurd c9 (by decide)
  refine lv_iconst (v := 1) hx hb dX4_isIn_10 (by decide) ?_
  refine lv_goto (tgt := 15) hx hb dX4_isIn_11 (by decide) ?_
  have hP9 := hP.sub (ws' := []) [] rfl
  have hD9 := hD.sub (ws' := []) [] (by decide) rfl
  exact W.zret (v := 1) hx hb hr (by decide +kernel) (fun t ht hW => ⟨⟨_, (), rfl, rfl, ⟨by rw [ht]; exact hP9, va_K.moved hW.alike hK, hD9, by rw [ht]; exact hz⟩⟩, hS.F ht⟩) hS.2.2 dX4_isIn_15

set_option maxHeartbeats 4000000 in
set_option maxRecDepth 100000 in
theorem k_isIn0_1 (l : Launch) (dC : Nat → ClassId) (dI : Nat → Nat → Nat) (cI cB cR cO : ClassId) (zk : Nat → Nat)  (sz : Nat)  : Met l yX4_isIn wsX4_isIn ({ frames := 0, cells := 0, slots := 0, locals := 0 }) (va_Pc [.int 0, .int 0, .int 1] (zPre (dC, dI) (zT cI cB cR cO) zk [] [] sz)) (va_Qi (fun r (_ : Unit) => r = 1) (fun _ t => zEnd (dC, dI) (zT cI cB cR cO) (va_A [] sz) [] sz 0 t) (va_A [] sz)) 0 0 (va_A [] sz) := by
  refine Met.ofW (cc := cX4_isIn) (maxL := 3) (ret := (some .boolean)) (by decide) rfl ?_
  intro p e s mY args below meth c s₁ B hml hv
  obtain ⟨rfl, hsz, hP, hK, hD0, hZ⟩ := hv
  have hx := B.exec
  have hb := B.bytes
  have hr := B.returns
  have hts := atoms_spec (ws := wsX4_isIn) B.pre
  have hown : s.vm.findClass RX4 = some mY.cls := findClass_of_methodNamed B.named
  have hlocks := B.notSynchronized
  subst hsz
  have hD := hD0.self (sz := s.heap.size)
  generalize hAe : va_A [] s.heap.size = A at hD hZ ⊢
  have hA : ∀ q : Nat, s.heap.size ≤ q → A q := fun q h => by rw [← hAe]; exact Or.inr h
  have hS : va_S A s.heap s.heap [] := va_S.rf
  have hz : s.heap.size + 0 ≤ s.heap.size := Nat.le_refl _
  have hl := lv_entry ([.int 0, .int 0, .int 1]) (n := 3) (Nat.le_of_ble_eq_true rfl)
  rw [lg_entry_eq]
  generalize (lg_sl ([.int 0, .int 0, .int 1]) ++ List.replicate (3 - (lg_sl ([.int 0, .int 0, .int 1])).length) Slot.unset).toArray = ls at hl ⊢
  have hl : lv_has ls 3 [(0, .int 0), (1, .int 0), (2, .int 1)] := hl
  have hP : va_P (dC, dI) vwCl [] s.heap := hP
  have hD : va_D A [] := hD
  refine lv_iload_n hx hb dX4_isIn_0 rfl (lv_at hl 0 rfl) ?_
  refine lv_iload_n hx hb dX4_isIn_1 rfl (lv_at hl 1 rfl) ?_
  refine lv_icmp_lt (tgt := 14) hx hb dX4_isIn_2 (by decide) (fun c9 => ?_) (fun c9 => ?_)
  · exact absurd c9 (by decide)
  refine lv_iload_n hx hb dX4_isIn_5 rfl (lv_at hl 0 rfl) ?_
  refine lv_iload_n hx hb dX4_isIn_6 rfl (lv_at hl 2 rfl) ?_
  refine lv_icmp_gt (tgt := 14) hx hb dX4_isIn_7 (by decide) (fun c9 => ?_) (fun c9 => ?_)
  · exact absurd c9 (by decide)
  refine lv_iconst (v := 1) hx hb dX4_isIn_10 (by decide) ?_
  refine lv_goto (tgt := 15) hx hb dX4_isIn_11 (by decide) ?_
  have hP9 := hP.sub (ws' := []) [] rfl
  have hD9 := hD.sub (ws' := []) [] (by decide) rfl
  exact W.zret (v := 1) hx hb hr (by decide +kernel) (fun t ht hW => ⟨⟨_, (), rfl, rfl, ⟨by rw [ht]; exact hP9, va_K.moved hW.alike hK, hD9, by rw [ht]; exact hz⟩⟩, hS.F ht⟩) hS.2.2 dX4_isIn_15

set_option maxHeartbeats 4000000 in
set_option maxRecDepth 100000 in
theorem k_isIn0_2 (l : Launch) (dC : Nat → ClassId) (dI : Nat → Nat → Nat) (cI cB cR cO : ClassId) (zk : Nat → Nat)  (sz : Nat)  : Met l yX4_isIn wsX4_isIn ({ frames := 0, cells := 0, slots := 0, locals := 0 }) (va_Pc [.int 0, .int 0, .int 2] (zPre (dC, dI) (zT cI cB cR cO) zk [] [] sz)) (va_Qi (fun r (_ : Unit) => r = 1) (fun _ t => zEnd (dC, dI) (zT cI cB cR cO) (va_A [] sz) [] sz 0 t) (va_A [] sz)) 0 0 (va_A [] sz) := by
  refine Met.ofW (cc := cX4_isIn) (maxL := 3) (ret := (some .boolean)) (by decide) rfl ?_
  intro p e s mY args below meth c s₁ B hml hv
  obtain ⟨rfl, hsz, hP, hK, hD0, hZ⟩ := hv
  have hx := B.exec
  have hb := B.bytes
  have hr := B.returns
  have hts := atoms_spec (ws := wsX4_isIn) B.pre
  have hown : s.vm.findClass RX4 = some mY.cls := findClass_of_methodNamed B.named
  have hlocks := B.notSynchronized
  subst hsz
  have hD := hD0.self (sz := s.heap.size)
  generalize hAe : va_A [] s.heap.size = A at hD hZ ⊢
  have hA : ∀ q : Nat, s.heap.size ≤ q → A q := fun q h => by rw [← hAe]; exact Or.inr h
  have hS : va_S A s.heap s.heap [] := va_S.rf
  have hz : s.heap.size + 0 ≤ s.heap.size := Nat.le_refl _
  have hl := lv_entry ([.int 0, .int 0, .int 2]) (n := 3) (Nat.le_of_ble_eq_true rfl)
  rw [lg_entry_eq]
  generalize (lg_sl ([.int 0, .int 0, .int 2]) ++ List.replicate (3 - (lg_sl ([.int 0, .int 0, .int 2])).length) Slot.unset).toArray = ls at hl ⊢
  have hl : lv_has ls 3 [(0, .int 0), (1, .int 0), (2, .int 2)] := hl
  have hP : va_P (dC, dI) vwCl [] s.heap := hP
  have hD : va_D A [] := hD
  refine lv_iload_n hx hb dX4_isIn_0 rfl (lv_at hl 0 rfl) ?_
  refine lv_iload_n hx hb dX4_isIn_1 rfl (lv_at hl 1 rfl) ?_
  refine lv_icmp_lt (tgt := 14) hx hb dX4_isIn_2 (by decide) (fun c9 => ?_) (fun c9 => ?_)
  · exact absurd c9 (by decide)
  refine lv_iload_n hx hb dX4_isIn_5 rfl (lv_at hl 0 rfl) ?_
  refine lv_iload_n hx hb dX4_isIn_6 rfl (lv_at hl 2 rfl) ?_
  refine lv_icmp_gt (tgt := 14) hx hb dX4_isIn_7 (by decide) (fun c9 => ?_) (fun c9 => ?_)
  · exact absurd c9 (by decide)
  refine lv_iconst (v := 1) hx hb dX4_isIn_10 (by decide) ?_
  refine lv_goto (tgt := 15) hx hb dX4_isIn_11 (by decide) ?_
  have hP9 := hP.sub (ws' := []) [] rfl
  have hD9 := hD.sub (ws' := []) [] (by decide) rfl
  exact W.zret (v := 1) hx hb hr (by decide +kernel) (fun t ht hW => ⟨⟨_, (), rfl, rfl, ⟨by rw [ht]; exact hP9, va_K.moved hW.alike hK, hD9, by rw [ht]; exact hz⟩⟩, hS.F ht⟩) hS.2.2 dX4_isIn_15

set_option maxHeartbeats 4000000 in
set_option maxRecDepth 100000 in
theorem k_isIn0_3 (l : Launch) (dC : Nat → ClassId) (dI : Nat → Nat → Nat) (cI cB cR cO : ClassId) (zk : Nat → Nat)  (sz : Nat)  : Met l yX4_isIn wsX4_isIn ({ frames := 0, cells := 0, slots := 0, locals := 0 }) (va_Pc [.int 0, .int 0, .int 3] (zPre (dC, dI) (zT cI cB cR cO) zk [] [] sz)) (va_Qi (fun r (_ : Unit) => r = 1) (fun _ t => zEnd (dC, dI) (zT cI cB cR cO) (va_A [] sz) [] sz 0 t) (va_A [] sz)) 0 0 (va_A [] sz) := by
  refine Met.ofW (cc := cX4_isIn) (maxL := 3) (ret := (some .boolean)) (by decide) rfl ?_
  intro p e s mY args below meth c s₁ B hml hv
  obtain ⟨rfl, hsz, hP, hK, hD0, hZ⟩ := hv
  have hx := B.exec
  have hb := B.bytes
  have hr := B.returns
  have hts := atoms_spec (ws := wsX4_isIn) B.pre
  have hown : s.vm.findClass RX4 = some mY.cls := findClass_of_methodNamed B.named
  have hlocks := B.notSynchronized
  subst hsz
  have hD := hD0.self (sz := s.heap.size)
  generalize hAe : va_A [] s.heap.size = A at hD hZ ⊢
  have hA : ∀ q : Nat, s.heap.size ≤ q → A q := fun q h => by rw [← hAe]; exact Or.inr h
  have hS : va_S A s.heap s.heap [] := va_S.rf
  have hz : s.heap.size + 0 ≤ s.heap.size := Nat.le_refl _
  have hl := lv_entry ([.int 0, .int 0, .int 3]) (n := 3) (Nat.le_of_ble_eq_true rfl)
  rw [lg_entry_eq]
  generalize (lg_sl ([.int 0, .int 0, .int 3]) ++ List.replicate (3 - (lg_sl ([.int 0, .int 0, .int 3])).length) Slot.unset).toArray = ls at hl ⊢
  have hl : lv_has ls 3 [(0, .int 0), (1, .int 0), (2, .int 3)] := hl
  have hP : va_P (dC, dI) vwCl [] s.heap := hP
  have hD : va_D A [] := hD
  refine lv_iload_n hx hb dX4_isIn_0 rfl (lv_at hl 0 rfl) ?_
  refine lv_iload_n hx hb dX4_isIn_1 rfl (lv_at hl 1 rfl) ?_
  refine lv_icmp_lt (tgt := 14) hx hb dX4_isIn_2 (by decide) (fun c9 => ?_) (fun c9 => ?_)
  · exact absurd c9 (by decide)
  refine lv_iload_n hx hb dX4_isIn_5 rfl (lv_at hl 0 rfl) ?_
  refine lv_iload_n hx hb dX4_isIn_6 rfl (lv_at hl 2 rfl) ?_
  refine lv_icmp_gt (tgt := 14) hx hb dX4_isIn_7 (by decide) (fun c9 => ?_) (fun c9 => ?_)
  · exact absurd c9 (by decide)
  refine lv_iconst (v := 1) hx hb dX4_isIn_10 (by decide) ?_
  refine lv_goto (tgt := 15) hx hb dX4_isIn_11 (by decide) ?_
  have hP9 := hP.sub (ws' := []) [] rfl
  have hD9 := hD.sub (ws' := []) [] (by decide) rfl
  exact W.zret (v := 1) hx hb hr (by decide +kernel) (fun t ht hW => ⟨⟨_, (), rfl, rfl, ⟨by rw [ht]; exact hP9, va_K.moved hW.alike hK, hD9, by rw [ht]; exact hz⟩⟩, hS.F ht⟩) hS.2.2 dX4_isIn_15

set_option maxHeartbeats 4000000 in
set_option maxRecDepth 100000 in
theorem k_isIn1_1 (l : Launch) (dC : Nat → ClassId) (dI : Nat → Nat → Nat) (cI cB cR cO : ClassId) (zk : Nat → Nat)  (sz : Nat)  : Met l yX4_isIn wsX4_isIn ({ frames := 0, cells := 0, slots := 0, locals := 0 }) (va_Pc [.int 1, .int 0, .int 1] (zPre (dC, dI) (zT cI cB cR cO) zk [] [] sz)) (va_Qi (fun r (_ : Unit) => r = 1) (fun _ t => zEnd (dC, dI) (zT cI cB cR cO) (va_A [] sz) [] sz 0 t) (va_A [] sz)) 0 0 (va_A [] sz) := by
  refine Met.ofW (cc := cX4_isIn) (maxL := 3) (ret := (some .boolean)) (by decide) rfl ?_
  intro p e s mY args below meth c s₁ B hml hv
  obtain ⟨rfl, hsz, hP, hK, hD0, hZ⟩ := hv
  have hx := B.exec
  have hb := B.bytes
  have hr := B.returns
  have hts := atoms_spec (ws := wsX4_isIn) B.pre
  have hown : s.vm.findClass RX4 = some mY.cls := findClass_of_methodNamed B.named
  have hlocks := B.notSynchronized
  subst hsz
  have hD := hD0.self (sz := s.heap.size)
  generalize hAe : va_A [] s.heap.size = A at hD hZ ⊢
  have hA : ∀ q : Nat, s.heap.size ≤ q → A q := fun q h => by rw [← hAe]; exact Or.inr h
  have hS : va_S A s.heap s.heap [] := va_S.rf
  have hz : s.heap.size + 0 ≤ s.heap.size := Nat.le_refl _
  have hl := lv_entry ([.int 1, .int 0, .int 1]) (n := 3) (Nat.le_of_ble_eq_true rfl)
  rw [lg_entry_eq]
  generalize (lg_sl ([.int 1, .int 0, .int 1]) ++ List.replicate (3 - (lg_sl ([.int 1, .int 0, .int 1])).length) Slot.unset).toArray = ls at hl ⊢
  have hl : lv_has ls 3 [(0, .int 1), (1, .int 0), (2, .int 1)] := hl
  have hP : va_P (dC, dI) vwCl [] s.heap := hP
  have hD : va_D A [] := hD
  refine lv_iload_n hx hb dX4_isIn_0 rfl (lv_at hl 0 rfl) ?_
  refine lv_iload_n hx hb dX4_isIn_1 rfl (lv_at hl 1 rfl) ?_
  refine lv_icmp_lt (tgt := 14) hx hb dX4_isIn_2 (by decide) (fun c9 => ?_) (fun c9 => ?_)
  · exact absurd c9 (by decide)
  refine lv_iload_n hx hb dX4_isIn_5 rfl (lv_at hl 0 rfl) ?_
  refine lv_iload_n hx hb dX4_isIn_6 rfl (lv_at hl 2 rfl) ?_
  refine lv_icmp_gt (tgt := 14) hx hb dX4_isIn_7 (by decide) (fun c9 => ?_) (fun c9 => ?_)
  · exact absurd c9 (by decide)
  refine lv_iconst (v := 1) hx hb dX4_isIn_10 (by decide) ?_
  refine lv_goto (tgt := 15) hx hb dX4_isIn_11 (by decide) ?_
  have hP9 := hP.sub (ws' := []) [] rfl
  have hD9 := hD.sub (ws' := []) [] (by decide) rfl
  exact W.zret (v := 1) hx hb hr (by decide +kernel) (fun t ht hW => ⟨⟨_, (), rfl, rfl, ⟨by rw [ht]; exact hP9, va_K.moved hW.alike hK, hD9, by rw [ht]; exact hz⟩⟩, hS.F ht⟩) hS.2.2 dX4_isIn_15

set_option maxHeartbeats 4000000 in
set_option maxRecDepth 100000 in
theorem k_isIn1_2 (l : Launch) (dC : Nat → ClassId) (dI : Nat → Nat → Nat) (cI cB cR cO : ClassId) (zk : Nat → Nat)  (sz : Nat)  : Met l yX4_isIn wsX4_isIn ({ frames := 0, cells := 0, slots := 0, locals := 0 }) (va_Pc [.int 1, .int 0, .int 2] (zPre (dC, dI) (zT cI cB cR cO) zk [] [] sz)) (va_Qi (fun r (_ : Unit) => r = 1) (fun _ t => zEnd (dC, dI) (zT cI cB cR cO) (va_A [] sz) [] sz 0 t) (va_A [] sz)) 0 0 (va_A [] sz) := by
  refine Met.ofW (cc := cX4_isIn) (maxL := 3) (ret := (some .boolean)) (by decide) rfl ?_
  intro p e s mY args below meth c s₁ B hml hv
  obtain ⟨rfl, hsz, hP, hK, hD0, hZ⟩ := hv
  have hx := B.exec
  have hb := B.bytes
  have hr := B.returns
  have hts := atoms_spec (ws := wsX4_isIn) B.pre
  have hown : s.vm.findClass RX4 = some mY.cls := findClass_of_methodNamed B.named
  have hlocks := B.notSynchronized
  subst hsz
  have hD := hD0.self (sz := s.heap.size)
  generalize hAe : va_A [] s.heap.size = A at hD hZ ⊢
  have hA : ∀ q : Nat, s.heap.size ≤ q → A q := fun q h => by rw [← hAe]; exact Or.inr h
  have hS : va_S A s.heap s.heap [] := va_S.rf
  have hz : s.heap.size + 0 ≤ s.heap.size := Nat.le_refl _
  have hl := lv_entry ([.int 1, .int 0, .int 2]) (n := 3) (Nat.le_of_ble_eq_true rfl)
  rw [lg_entry_eq]
  generalize (lg_sl ([.int 1, .int 0, .int 2]) ++ List.replicate (3 - (lg_sl ([.int 1, .int 0, .int 2])).length) Slot.unset).toArray = ls at hl ⊢
  have hl : lv_has ls 3 [(0, .int 1), (1, .int 0), (2, .int 2)] := hl
  have hP : va_P (dC, dI) vwCl [] s.heap := hP
  have hD : va_D A [] := hD
  refine lv_iload_n hx hb dX4_isIn_0 rfl (lv_at hl 0 rfl) ?_
  refine lv_iload_n hx hb dX4_isIn_1 rfl (lv_at hl 1 rfl) ?_
  refine lv_icmp_lt (tgt := 14) hx hb dX4_isIn_2 (by decide) (fun c9 => ?_) (fun c9 => ?_)
  · exact absurd c9 (by decide)
  refine lv_iload_n hx hb dX4_isIn_5 rfl (lv_at hl 0 rfl) ?_
  refine lv_iload_n hx hb dX4_isIn_6 rfl (lv_at hl 2 rfl) ?_
  refine lv_icmp_gt (tgt := 14) hx hb dX4_isIn_7 (by decide) (fun c9 => ?_) (fun c9 => ?_)
  · exact absurd c9 (by decide)
  refine lv_iconst (v := 1) hx hb dX4_isIn_10 (by decide) ?_
  refine lv_goto (tgt := 15) hx hb dX4_isIn_11 (by decide) ?_
  have hP9 := hP.sub (ws' := []) [] rfl
  have hD9 := hD.sub (ws' := []) [] (by decide) rfl
  exact W.zret (v := 1) hx hb hr (by decide +kernel) (fun t ht hW => ⟨⟨_, (), rfl, rfl, ⟨by rw [ht]; exact hP9, va_K.moved hW.alike hK, hD9, by rw [ht]; exact hz⟩⟩, hS.F ht⟩) hS.2.2 dX4_isIn_15

set_option maxHeartbeats 4000000 in
set_option maxRecDepth 100000 in
theorem k_isIn1_3 (l : Launch) (dC : Nat → ClassId) (dI : Nat → Nat → Nat) (cI cB cR cO : ClassId) (zk : Nat → Nat)  (sz : Nat)  : Met l yX4_isIn wsX4_isIn ({ frames := 0, cells := 0, slots := 0, locals := 0 }) (va_Pc [.int 1, .int 0, .int 3] (zPre (dC, dI) (zT cI cB cR cO) zk [] [] sz)) (va_Qi (fun r (_ : Unit) => r = 1) (fun _ t => zEnd (dC, dI) (zT cI cB cR cO) (va_A [] sz) [] sz 0 t) (va_A [] sz)) 0 0 (va_A [] sz) := by
  refine Met.ofW (cc := cX4_isIn) (maxL := 3) (ret := (some .boolean)) (by decide) rfl ?_
  intro p e s mY args below meth c s₁ B hml hv
  obtain ⟨rfl, hsz, hP, hK, hD0, hZ⟩ := hv
  have hx := B.exec
  have hb := B.bytes
  have hr := B.returns
  have hts := atoms_spec (ws := wsX4_isIn) B.pre
  have hown : s.vm.findClass RX4 = some mY.cls := findClass_of_methodNamed B.named
  have hlocks := B.notSynchronized
  subst hsz
  have hD := hD0.self (sz := s.heap.size)
  generalize hAe : va_A [] s.heap.size = A at hD hZ ⊢
  have hA : ∀ q : Nat, s.heap.size ≤ q → A q := fun q h => by rw [← hAe]; exact Or.inr h
  have hS : va_S A s.heap s.heap [] := va_S.rf
  have hz : s.heap.size + 0 ≤ s.heap.size := Nat.le_refl _
  have hl := lv_entry ([.int 1, .int 0, .int 3]) (n := 3) (Nat.le_of_ble_eq_true rfl)
  rw [lg_entry_eq]
  generalize (lg_sl ([.int 1, .int 0, .int 3]) ++ List.replicate (3 - (lg_sl ([.int 1, .int 0, .int 3])).length) Slot.unset).toArray = ls at hl ⊢
  have hl : lv_has ls 3 [(0, .int 1), (1, .int 0), (2, .int 3)] := hl
  have hP : va_P (dC, dI) vwCl [] s.heap := hP
  have hD : va_D A [] := hD
  refine lv_iload_n hx hb dX4_isIn_0 rfl (lv_at hl 0 rfl) ?_
  refine lv_iload_n hx hb dX4_isIn_1 rfl (lv_at hl 1 rfl) ?_
  refine lv_icmp_lt (tgt := 14) hx hb dX4_isIn_2 (by decide) (fun c9 => ?_) (fun c9 => ?_)
  · exact absurd c9 (by decide)
  refine lv_iload_n hx hb dX4_isIn_5 rfl (lv_at hl 0 rfl) ?_
  refine lv_iload_n hx hb dX4_isIn_6 rfl (lv_at hl 2 rfl) ?_
  refine lv_icmp_gt (tgt := 14) hx hb dX4_isIn_7 (by decide) (fun c9 => ?_) (fun c9 => ?_)
  · exact absurd c9 (by decide)
  refine lv_iconst (v := 1) hx hb dX4_isIn_10 (by decide) ?_
  refine lv_goto (tgt := 15) hx hb dX4_isIn_11 (by decide) ?_
  have hP9 := hP.sub (ws' := []) [] rfl
  have hD9 := hD.sub (ws' := []) [] (by decide) rfl
  exact W.zret (v := 1) hx hb hr (by decide +kernel) (fun t ht hW => ⟨⟨_, (), rfl, rfl, ⟨by rw [ht]; exact hP9, va_K.moved hW.alike hK, hD9, by rw [ht]; exact hz⟩⟩, hS.F ht⟩) hS.2.2 dX4_isIn_15

set_option maxHeartbeats 4000000 in
set_option maxRecDepth 100000 in
theorem k_isIn2_2 (l : Launch) (dC : Nat → ClassId) (dI : Nat → Nat → Nat) (cI cB cR cO : ClassId) (zk : Nat → Nat)  (sz : Nat)  : Met l yX4_isIn wsX4_isIn ({ frames := 0, cells := 0, slots := 0, locals := 0 }) (va_Pc [.int 2, .int 0, .int 2] (zPre (dC, dI) (zT cI cB cR cO) zk [] [] sz)) (va_Qi (fun r (_ : Unit) => r = 1) (fun _ t => zEnd (dC, dI) (zT cI cB cR cO) (va_A [] sz) [] sz 0 t) (va_A [] sz)) 0 0 (va_A [] sz) := by
  refine Met.ofW (cc := cX4_isIn) (maxL := 3) (ret := (some .boolean)) (by decide) rfl ?_
  intro p e s mY args below meth c s₁ B hml hv
  obtain ⟨rfl, hsz, hP, hK, hD0, hZ⟩ := hv
  have hx := B.exec
  have hb := B.bytes
  have hr := B.returns
  have hts := atoms_spec (ws := wsX4_isIn) B.pre
  have hown : s.vm.findClass RX4 = some mY.cls := findClass_of_methodNamed B.named
  have hlocks := B.notSynchronized
  subst hsz
  have hD := hD0.self (sz := s.heap.size)
  generalize hAe : va_A [] s.heap.size = A at hD hZ ⊢
  have hA : ∀ q : Nat, s.heap.size ≤ q → A q := fun q h => by rw [← hAe]; exact Or.inr h
  have hS : va_S A s.heap s.heap [] := va_S.rf
  have hz : s.heap.size + 0 ≤ s.heap.size := Nat.le_refl _
  have hl := lv_entry ([.int 2, .int 0, .int 2]) (n := 3) (Nat.le_of_ble_eq_true rfl)
  rw [lg_entry_eq]
  generalize (lg_sl ([.int 2, .int 0, .int 2]) ++ List.replicate (3 - (lg_sl ([.int 2, .int 0, .int 2])).length) Slot.unset).toArray = ls at hl ⊢
  have hl : lv_has ls 3 [(0, .int 2), (1, .int 0), (2, .int 2)] := hl
  have hP : va_P (dC, dI) vwCl [] s.heap := hP
  have hD : va_D A [] := hD
  refine lv_iload_n hx hb dX4_isIn_0 rfl (lv_at hl 0 rfl) ?_
  refine lv_iload_n hx hb dX4_isIn_1 rfl (lv_at hl 1 rfl) ?_
  refine lv_icmp_lt (tgt := 14) hx hb dX4_isIn_2 (by decide) (fun c9 => ?_) (fun c9 => ?_)
  · exact absurd c9 (by decide)
  refine lv_iload_n hx hb dX4_isIn_5 rfl (lv_at hl 0 rfl) ?_
  refine lv_iload_n hx hb dX4_isIn_6 rfl (lv_at hl 2 rfl) ?_
  refine lv_icmp_gt (tgt := 14) hx hb dX4_isIn_7 (by decide) (fun c9 => ?_) (fun c9 => ?_)
  · exact absurd c9 (by decide)
  refine lv_iconst (v := 1) hx hb dX4_isIn_10 (by decide) ?_
  refine lv_goto (tgt := 15) hx hb dX4_isIn_11 (by decide) ?_
  have hP9 := hP.sub (ws' := []) [] rfl
  have hD9 := hD.sub (ws' := []) [] (by decide) rfl
  exact W.zret (v := 1) hx hb hr (by decide +kernel) (fun t ht hW => ⟨⟨_, (), rfl, rfl, ⟨by rw [ht]; exact hP9, va_K.moved hW.alike hK, hD9, by rw [ht]; exact hz⟩⟩, hS.F ht⟩) hS.2.2 dX4_isIn_15

set_option maxHeartbeats 4000000 in
set_option maxRecDepth 100000 in
theorem k_isIn2_3 (l : Launch) (dC : Nat → ClassId) (dI : Nat → Nat → Nat) (cI cB cR cO : ClassId) (zk : Nat → Nat)  (sz : Nat)  : Met l yX4_isIn wsX4_isIn ({ frames := 0, cells := 0, slots := 0, locals := 0 }) (va_Pc [.int 2, .int 0, .int 3] (zPre (dC, dI) (zT cI cB cR cO) zk [] [] sz)) (va_Qi (fun r (_ : Unit) => r = 1) (fun _ t => zEnd (dC, dI) (zT cI cB cR cO) (va_A [] sz) [] sz 0 t) (va_A [] sz)) 0 0 (va_A [] sz) := by
  refine Met.ofW (cc := cX4_isIn) (maxL := 3) (ret := (some .boolean)) (by decide) rfl ?_
  intro p e s mY args below meth c s₁ B hml hv
  obtain ⟨rfl, hsz, hP, hK, hD0, hZ⟩ := hv
  have hx := B.exec
  have hb := B.bytes
  have hr := B.returns
  have hts := atoms_spec (ws := wsX4_isIn) B.pre
  have hown : s.vm.findClass RX4 = some mY.cls := findClass_of_methodNamed B.named
  have hlocks := B.notSynchronized
  subst hsz
  have hD := hD0.self (sz := s.heap.size)
  generalize hAe : va_A [] s.heap.size = A at hD hZ ⊢
  have hA : ∀ q : Nat, s.heap.size ≤ q → A q := fun q h => by rw [← hAe]; exact Or.inr h
  have hS : va_S A s.heap s.heap [] := va_S.rf
  have hz : s.heap.size + 0 ≤ s.heap.size := Nat.le_refl _
  have hl := lv_entry ([.int 2, .int 0, .int 3]) (n := 3) (Nat.le_of_ble_eq_true rfl)
  rw [lg_entry_eq]
  generalize (lg_sl ([.int 2, .int 0, .int 3]) ++ List.replicate (3 - (lg_sl ([.int 2, .int 0, .int 3])).length) Slot.unset).toArray = ls at hl ⊢
  have hl : lv_has ls 3 [(0, .int 2), (1, .int 0), (2, .int 3)] := hl
  have hP : va_P (dC, dI) vwCl [] s.heap := hP
  have hD : va_D A [] := hD
  refine lv_iload_n hx hb dX4_isIn_0 rfl (lv_at hl 0 rfl) ?_
  refine lv_iload_n hx hb dX4_isIn_1 rfl (lv_at hl 1 rfl) ?_
  refine lv_icmp_lt (tgt := 14) hx hb dX4_isIn_2 (by decide) (fun c9 => ?_) (fun c9 => ?_)
  · exact absurd c9 (by decide)
  refine lv_iload_n hx hb dX4_isIn_5 rfl (lv_at hl 0 rfl) ?_
  refine lv_iload_n hx hb dX4_isIn_6 rfl (lv_at hl 2 rfl) ?_
  refine lv_icmp_gt (tgt := 14) hx hb dX4_isIn_7 (by decide) (fun c9 => ?_) (fun c9 => ?_)
  · exact absurd c9 (by decide)
  refine lv_iconst (v := 1) hx hb dX4_isIn_10 (by decide) ?_
  refine lv_goto (tgt := 15) hx hb dX4_isIn_11 (by decide) ?_
  have hP9 := hP.sub (ws' := []) [] rfl
  have hD9 := hD.sub (ws' := []) [] (by decide) rfl
  exact W.zret (v := 1) hx hb hr (by decide +kernel) (fun t ht hW => ⟨⟨_, (), rfl, rfl, ⟨by rw [ht]; exact hP9, va_K.moved hW.alike hK, hD9, by rw [ht]; exact hz⟩⟩, hS.F ht⟩) hS.2.2 dX4_isIn_15

set_option maxHeartbeats 4000000 in
set_option maxRecDepth 100000 in
theorem k_isIn3_3 (l : Launch) (dC : Nat → ClassId) (dI : Nat → Nat → Nat) (cI cB cR cO : ClassId) (zk : Nat → Nat)  (sz : Nat)  : Met l yX4_isIn wsX4_isIn ({ frames := 0, cells := 0, slots := 0, locals := 0 }) (va_Pc [.int 3, .int 0, .int 3] (zPre (dC, dI) (zT cI cB cR cO) zk [] [] sz)) (va_Qi (fun r (_ : Unit) => r = 1) (fun _ t => zEnd (dC, dI) (zT cI cB cR cO) (va_A [] sz) [] sz 0 t) (va_A [] sz)) 0 0 (va_A [] sz) := by
  refine Met.ofW (cc := cX4_isIn) (maxL := 3) (ret := (some .boolean)) (by decide) rfl ?_
  intro p e s mY args below meth c s₁ B hml hv
  obtain ⟨rfl, hsz, hP, hK, hD0, hZ⟩ := hv
  have hx := B.exec
  have hb := B.bytes
  have hr := B.returns
  have hts := atoms_spec (ws := wsX4_isIn) B.pre
  have hown : s.vm.findClass RX4 = some mY.cls := findClass_of_methodNamed B.named
  have hlocks := B.notSynchronized
  subst hsz
  have hD := hD0.self (sz := s.heap.size)
  generalize hAe : va_A [] s.heap.size = A at hD hZ ⊢
  have hA : ∀ q : Nat, s.heap.size ≤ q → A q := fun q h => by rw [← hAe]; exact Or.inr h
  have hS : va_S A s.heap s.heap [] := va_S.rf
  have hz : s.heap.size + 0 ≤ s.heap.size := Nat.le_refl _
  have hl := lv_entry ([.int 3, .int 0, .int 3]) (n := 3) (Nat.le_of_ble_eq_true rfl)
  rw [lg_entry_eq]
  generalize (lg_sl ([.int 3, .int 0, .int 3]) ++ List.replicate (3 - (lg_sl ([.int 3, .int 0, .int 3])).length) Slot.unset).toArray = ls at hl ⊢
  have hl : lv_has ls 3 [(0, .int 3), (1, .int 0), (2, .int 3)] := hl
  have hP : va_P (dC, dI) vwCl [] s.heap := hP
  have hD : va_D A [] := hD
  refine lv_iload_n hx hb dX4_isIn_0 rfl (lv_at hl 0 rfl) ?_
  refine lv_iload_n hx hb dX4_isIn_1 rfl (lv_at hl 1 rfl) ?_
  refine lv_icmp_lt (tgt := 14) hx hb dX4_isIn_2 (by decide) (fun c9 => ?_) (fun c9 => ?_)
  · exact absurd c9 (by decide)
  refine lv_iload_n hx hb dX4_isIn_5 rfl (lv_at hl 0 rfl) ?_
  refine lv_iload_n hx hb dX4_isIn_6 rfl (lv_at hl 2 rfl) ?_
  refine lv_icmp_gt (tgt := 14) hx hb dX4_isIn_7 (by decide) (fun c9 => ?_) (fun c9 => ?_)
  · exact absurd c9 (by decide)
  refine lv_iconst (v := 1) hx hb dX4_isIn_10 (by decide) ?_
  refine lv_goto (tgt := 15) hx hb dX4_isIn_11 (by decide) ?_
  have hP9 := hP.sub (ws' := []) [] rfl
  have hD9 := hD.sub (ws' := []) [] (by decide) rfl
  exact W.zret (v := 1) hx hb hr (by decide +kernel) (fun t ht hW => ⟨⟨_, (), rfl, rfl, ⟨by rw [ht]; exact hP9, va_K.moved hW.alike hK, hD9, by rw [ht]; exact hz⟩⟩, hS.F ht⟩) hS.2.2 dX4_isIn_15

theorem hi_X4_refuse_X4 : ∀ w ∈ u_ws RX4 TX4 5, w ∈ wsX4_refuse := fun w h => List.mem_cons_of_mem _ (zhi_X4 w h)
set_option maxHeartbeats 4000000 in
set_option maxRecDepth 100000 in
theorem k_ref (l : Launch) (dC : Nat → ClassId) (dI : Nat → Nat → Nat) (cI cB cR cO : ClassId) (zk : Nat → Nat) (mo al : Nat) (md rf kn : Value) (wh : Int32) (sz : Nat)  : Met l yX4_refuse wsX4_refuse ({ frames := 0, cells := 0, slots := 0, locals := 0 }) (va_Pc [.ref mo, .int 0, .int wh] (zPre (dC, dI) (zT cI cB cR cO) zk [] [(mo, .inr (9, [.int 0, .ref al, md, rf, kn]))] sz)) (va_Qi (fun r (_ : Unit) => r = 0) (fun _ t => zEnd (dC, dI) (zT cI cB cR cO) (va_A [(mo, .inr (9, [.int 0, .ref al, md, rf, kn]))] sz) [(mo, .inr (9, [.int 0, .ref al, md, rf, kn]))] sz 0 t) (va_A [(mo, .inr (9, [.int 0, .ref al, md, rf, kn]))] sz)) 0 0 (va_A [(mo, .inr (9, [.int 0, .ref al, md, rf, kn]))] sz) := by
  refine Met.ofW (cc := cX4_refuse) (maxL := 3) (ret := (some .boolean)) (by decide) rfl ?_
  intro p e s mY args below meth c s₁ B hml hv
  obtain ⟨rfl, hsz, hP, hK, hD0, hZ⟩ := hv
  have hx := B.exec
  have hb := B.bytes
  have hr := B.returns
  have hts := atoms_spec (ws := wsX4_refuse) B.pre
  have hown : s.vm.findClass RX4 = some mY.cls := findClass_of_methodNamed B.named
  have hlocks := B.notSynchronized
  subst hsz
  have hD := hD0.self (sz := s.heap.size)
  generalize hAe : va_A [(mo, .inr (9, [.int 0, .ref al, md, rf, kn]))] s.heap.size = A at hD hZ ⊢
  have hA : ∀ q : Nat, s.heap.size ≤ q → A q := fun q h => by rw [← hAe]; exact Or.inr h
  have hS : va_S A s.heap s.heap [] := va_S.rf
  have hz : s.heap.size + 0 ≤ s.heap.size := Nat.le_refl _
  have hl := lv_entry ([.ref mo, .int 0, .int wh]) (n := 3) (Nat.le_of_ble_eq_true rfl)
  rw [lg_entry_eq]
  generalize (lg_sl ([.ref mo, .int 0, .int wh]) ++ List.replicate (3 - (lg_sl ([.ref mo, .int 0, .int wh])).length) Slot.unset).toArray = ls at hl ⊢
  have hl : lv_has ls 3 [(0, .ref mo), (1, .int 0), (2, .int wh)] := hl
  have hP : va_P (dC, dI) vwCl [(mo, .inr (9, [.int 0, .ref al, md, rf, kn]))] s.heap := hP
  have hD : va_D A [(mo, .inr (9, [.int 0, .ref al, md, rf, kn]))] := hD
  refine lv_iload_n hx hb dX4_refuse_0 rfl (lv_at hl 1 rfl) ?_
  refine lv_if_eq (tgt := 16) hx hb dX4_refuse_1 (by decide) (fun c9 => ?_) (fun c9 => ?_)
  rotate_left
  · exact absurd (by decide) c9
  refine lv_aload_n hx hb dX4_refuse_16 rfl (lv_at hl 0 rfl) ?_
  refine va_get (D := (dC, dI)) (ci := 9) (v := .int 0) (C := RX4) (T := TX4) (N := 5) hx hb hts hi_X4_refuse_X4 hown hK hP 0 rfl rfl 0 (by decide) (hts (.fieldLink RX4 16 "DeeprowsModel" "thrown" "I") (List.mem_cons_of_mem _ zw_1133)) (fun _ h9 => h9) rfl dX4_refuse_17 ?_
  refine lv_if_le (tgt := 27) hx hb dX4_refuse_20 (by decide) (fun c9 => ?_) (fun c9 => ?_)
  rotate_left
  · exact absurd (by decide) c9
  refine lv_iconst (v := 0) hx hb dX4_refuse_27 (by decide) ?_
  have hP9 := hP.sub (ws' := [(mo, .inr (9, [.int 0, .ref al, md, rf, kn]))]) [0] rfl
  have hD9 := hD.sub (ws' := [(mo, .inr (9, [.int 0, .ref al, md, rf, kn]))]) [0] (by decide) rfl
  exact W.zret (v := 0) hx hb hr (by decide +kernel) (fun t ht hW => ⟨⟨_, (), rfl, rfl, ⟨by rw [ht]; exact hP9, va_K.moved hW.alike hK, hD9, by rw [ht]; exact hz⟩⟩, hS.F ht⟩) hS.2.2 dX4_refuse_28

theorem hi_X4_start_X4 : ∀ w ∈ u_ws RX4 TX4 5, w ∈ wsX4_start := fun w h => List.mem_cons_of_mem _ (zhi_X4 w h)
set_option maxHeartbeats 4000000 in
set_option maxRecDepth 100000 in
theorem k_stt (l : Launch) (dC : Nat → ClassId) (dI : Nat → Nat → Nat) (cI cB cR cO : ClassId) (zk : Nat → Nat) (mo al : Nat) (th md rf kn : Value) (wh : Int32) (sz : Nat)  : Met l yX4_start wsX4_start ({ frames := 1, cells := 0, slots := 0, locals := 22 }) (va_Pc [.ref mo, .int 0, .int wh] (zPre (dC, dI) (zT cI cB cR cO) zk [] [(mo, .inr (9, [th, .ref al, md, rf, kn]))] sz)) (va_Qi (fun r (_ : Unit) => r = 0) (fun _ t => zEnd (dC, dI) (zT cI cB cR cO) (va_A [(mo, .inr (9, [th, .ref al, md, rf, kn]))] sz) [(mo, .inr (9, [.int 0, .ref al, md, rf, kn]))] sz 0 t) (va_A [(mo, .inr (9, [th, .ref al, md, rf, kn]))] sz)) 0 0 (va_A [(mo, .inr (9, [th, .ref al, md, rf, kn]))] sz) := by
  refine Met.ofW (cc := cX4_start) (maxL := 3) (ret := (some .boolean)) (by decide) rfl ?_
  intro p e s mY args below meth c s₁ B hml hv
  obtain ⟨rfl, hsz, hP, hK, hD0, hZ⟩ := hv
  have hx := B.exec
  have hb := B.bytes
  have hr := B.returns
  have hts := atoms_spec (ws := wsX4_start) B.pre
  have hown : s.vm.findClass RX4 = some mY.cls := findClass_of_methodNamed B.named
  have hlocks := B.notSynchronized
  subst hsz
  have hD := hD0.self (sz := s.heap.size)
  generalize hAe : va_A [(mo, .inr (9, [th, .ref al, md, rf, kn]))] s.heap.size = A at hD hZ ⊢
  have hA : ∀ q : Nat, s.heap.size ≤ q → A q := fun q h => by rw [← hAe]; exact Or.inr h
  have hS : va_S A s.heap s.heap [] := va_S.rf
  have hz : s.heap.size + 0 ≤ s.heap.size := Nat.le_refl _
  have hl := lv_entry ([.ref mo, .int 0, .int wh]) (n := 3) (Nat.le_of_ble_eq_true rfl)
  rw [lg_entry_eq]
  generalize (lg_sl ([.ref mo, .int 0, .int wh]) ++ List.replicate (3 - (lg_sl ([.ref mo, .int 0, .int wh])).length) Slot.unset).toArray = ls at hl ⊢
  have hl : lv_has ls 3 [(0, .ref mo), (1, .int 0), (2, .int wh)] := hl
  have hP : va_P (dC, dI) vwCl [(mo, .inr (9, [th, .ref al, md, rf, kn]))] s.heap := hP
  have hD : va_D A [(mo, .inr (9, [th, .ref al, md, rf, kn]))] := hD
  refine lv_aload_n hx hb dX4_start_0 rfl (lv_at hl 0 rfl) ?_
  refine lv_iconst (v := 0) hx hb dX4_start_1 (by decide) ?_
  refine va_put (D := (dC, dI)) (ci := 9) (v := .int 0) (ty := .int) (C := RX4) (T := TX4) (N := 5) hx hb hts hi_X4_start_X4 tyX4 tyX4_ok nmX4 hown hK hP hD (zS0 hS) 0 rfl rfl 0 (by decide) (hts (.fieldLink RX4 16 "DeeprowsModel" "thrown" "I") (List.mem_cons_of_mem _ zw_1133)) (fun _ h9 => h9) rfl (by decide +kernel) rfl rfl (Nat.le_of_ble_eq_true rfl) dX4_start_2 (fun H1 locs hP hD hS1 => ?_)
  have hz : s.heap.size + 0 ≤ H1.size := Nat.le_trans hz hS1.1
  have hS := zSS hS hS1
  replace hP : va_P (dC, dI) vwCl [(mo, .inr (9, [.int 0, .ref al, md, rf, kn]))] H1 := hP
  replace hD : va_D A [(mo, .inr (9, [.int 0, .ref al, md, rf, kn]))] := hD
  refine lv_aload_n hx hb dX4_start_5 rfl (lv_at hl 0 rfl) ?_
  refine lv_iload_n hx hb dX4_start_6 rfl (lv_at hl 1 rfl) ?_
  refine lv_iload_n hx hb dX4_start_7 rfl (lv_at hl 2 rfl) ?_
  have hPc := hP.sub (ws' := [(mo, .inr (9, [.int 0, .ref al, md, rf, kn]))]) [0] rfl
  have hDc := hD.sub (ws' := [(mo, .inr (9, [.int 0, .ref al, md, rf, kn]))]) [0] (by decide) rfl
  have hFc := va_free (wc := [(mo, .inr (9, [.int 0, .ref al, md, rf, kn]))]) hD hS hA [0] rfl
  have hDv := hDc.self (sz := H1.size)
  have hpre := zpre (xs' := []) (av := [.ref mo, .int 0, .int wh]) hPc hK (hDc.weaken (fun _ _ _ h => h)) hZ hS hFc (fun r hr => by cases hr)
  refine va_calli (va_runV (As := [.int 0, .int wh]) (rest := []) ⟨hx, hb, hml, hown, hts⟩ (k_ref l dC dI cI cB cR cO zk mo al md rf kn wh H1.size ) (cwV 2 hts gX4_start_X4_refuse rfl rfl rfl (by decide +kernel) ⟨Nat.le_of_ble_eq_true rfl, Nat.le_of_ble_eq_true rfl⟩) ⟨zblind, (zrecv_9 hK hPc (q0 := 0) rfl), hpre⟩ rfl rfl hl.1 rfl (lv_room (Nat.le_of_ble_eq_true rfl)) dX4_start_8 ⟨Nat.le_of_ble_eq_true rfl, Nat.le_of_ble_eq_true rfl⟩) hS (fun q _ h => hFc q h) hFc (fun r3 u t H2 locs ht hvm hw hB hz1 hk1 hS => ?_)
  obtain rfl : 0 = r3 := (show r3 = 0 from hw).symm
  obtain ⟨hP1, hK1, hD1, hz2⟩ := hB
  rw [ht] at hP1 hz2
  have hPD9 := va_join (wr := []) (w1 := [(mo, .inr (9, [.int 0, .ref al, md, rf, kn]))]) hP hD [0] [] rfl rfl (by decide) (by decide) hk1 hFc hP1 hD1
  clear hPc hDc hFc hDv hpre hP hD hP1 hK1 hD1
  obtain ⟨hP, hD⟩ := hPD9
  replace hz : s.heap.size + 0 ≤ H2.size := by omega
  clear hz2
  replace hP : va_P (dC, dI) vwCl [(mo, .inr (9, [.int 0, .ref al, md, rf, kn]))] H2 := hP
  replace hD : va_D A [(mo, .inr (9, [.int 0, .ref al, md, rf, kn]))] := hD
  refine W.widen (k := 0) (n := 0) (by omega) (by omega) ?_
  have hP9 := hP.sub (ws' := [(mo, .inr (9, [.int 0, .ref al, md, rf, kn]))]) [0] rfl
  have hD9 := hD.sub (ws' := [(mo, .inr (9, [.int 0, .ref al, md, rf, kn]))]) [0] (by decide) rfl
  exact W.zret (v := 0) hx hb hr (by decide +kernel) (fun t ht hW => ⟨⟨_, (), rfl, rfl, ⟨by rw [ht]; exact hP9, va_K.moved hW.alike hK, hD9, by rw [ht]; exact hz⟩⟩, hS.F ht⟩) hS.2.2 dX4_start_11

theorem hi_X4_isNoRow_X4 : ∀ w ∈ u_ws RX4 TX4 5, w ∈ wsX4_isNoRow := fun w h => List.mem_cons_of_mem _ (zhi_X4 w h)
set_option maxHeartbeats 4000000 in
set_option maxRecDepth 100000 in
theorem k_nR0_2 (l : Launch) (dC : Nat → ClassId) (dI : Nat → Nat → Nat) (cI cB cR cO : ClassId) (zk : Nat → Nat) (mo al : Nat) (th md rf kn : Value) (ed : Nat) (ee : Nat → Option Nat) (mc : Int32) (sz : Nat)  : Met l yX4_isNoRow wsX4_isNoRow ({ frames := 1, cells := 0, slots := 0, locals := 22 }) (va_Pc [.ref mo, .int 0] (zPre (dC, dI) (zT cI cB cR cO) zk [] [(mo, .inr (9, [th, .ref al, md, rf, kn])), (al, .inr (4, [.int mc, .ref ed, .int 2]))] sz)) (va_Qi (fun r (_ : Unit) => r = 0) (fun _ t => zEnd (dC, dI) (zT cI cB cR cO) (va_A [(mo, .inr (9, [th, .ref al, md, rf, kn])), (al, .inr (4, [.int mc, .ref ed, .int 2]))] sz) [(mo, .inr (9, [th, .ref al, md, rf, kn])), (al, .inr (4, [.int mc, .ref ed, .int 2]))] sz 0 t) (va_A [(mo, .inr (9, [th, .ref al, md, rf, kn])), (al, .inr (4, [.int mc, .ref ed, .int 2]))] sz)) 0 0 (va_A [(mo, .inr (9, [th, .ref al, md, rf, kn])), (al, .inr (4, [.int mc, .ref ed, .int 2]))] sz) := by
  refine Met.ofW (cc := cX4_isNoRow) (maxL := 2) (ret := (some .boolean)) (by decide) rfl ?_
  intro p e s mY args below meth c s₁ B hml hv
  obtain ⟨rfl, hsz, hP, hK, hD0, hZ⟩ := hv
  have hx := B.exec
  have hb := B.bytes
  have hr := B.returns
  have hts := atoms_spec (ws := wsX4_isNoRow) B.pre
  have hown : s.vm.findClass RX4 = some mY.cls := findClass_of_methodNamed B.named
  have hlocks := B.notSynchronized
  subst hsz
  have hD := hD0.self (sz := s.heap.size)
  generalize hAe : va_A [(mo, .inr (9, [th, .ref al, md, rf, kn])), (al, .inr (4, [.int mc, .ref ed, .int 2]))] s.heap.size = A at hD hZ ⊢
  have hA : ∀ q : Nat, s.heap.size ≤ q → A q := fun q h => by rw [← hAe]; exact Or.inr h
  have hS : va_S A s.heap s.heap [] := va_S.rf
  have hz : s.heap.size + 0 ≤ s.heap.size := Nat.le_refl _
  have hl := lv_entry ([.ref mo, .int 0]) (n := 2) (Nat.le_of_ble_eq_true rfl)
  rw [lg_entry_eq]
  generalize (lg_sl ([.ref mo, .int 0]) ++ List.replicate (2 - (lg_sl ([.ref mo, .int 0])).length) Slot.unset).toArray = ls at hl ⊢
  have hl : lv_has ls 2 [(0, .ref mo), (1, .int 0)] := hl
  have hP : va_P (dC, dI) vwCl [(mo, .inr (9, [th, .ref al, md, rf, kn])), (al, .inr (4, [.int mc, .ref ed, .int 2]))] s.heap := hP
  have hD : va_D A [(mo, .inr (9, [th, .ref al, md, rf, kn])), (al, .inr (4, [.int mc, .ref ed, .int 2]))] := hD
  refine lv_iload_n hx hb dX4_isNoRow_0 rfl (lv_at hl 1 rfl) ?_
  refine lv_iconst (v := 0) hx hb dX4_isNoRow_1 (by decide) ?_
  refine lv_aload_n hx hb dX4_isNoRow_2 rfl (lv_at hl 0 rfl) ?_
  refine va_get (D := (dC, dI)) (ci := 9) (v := .ref al) (C := RX4) (T := TX4) (N := 5) hx hb hts hi_X4_isNoRow_X4 hown hK hP 0 rfl rfl 1 (by decide) (hts (.fieldLink RX4 10 "DeeprowsModel" "rows" "Ljava/util/ArrayList;") (List.mem_cons_of_mem _ zw_1134)) (fun _ h9 => h9) rfl dX4_isNoRow_3 ?_
  have hPc := hP.sub (ws' := [(al, .inr (4, [.int mc, .ref ed, .int 2]))]) [1] rfl
  have hDc := hD.sub (ws' := [(al, .inr (4, [.int mc, .ref ed, .int 2]))]) [1] (by decide) rfl
  have hFc := va_free (wc := [(al, .inr (4, [.int mc, .ref ed, .int 2]))]) hD hS hA [1] rfl
  have hDv := hDc.self (sz := s.heap.size)
  have hpre := zpre (xs' := []) (av := [.ref al]) hPc hK (hDc.weaken (fun _ _ _ h => h)) hZ hS hFc (fun r hr => by cases hr)
  refine va_calli (va_runV (As := []) (rest := [.int 0, .int 0]) ⟨hx, hb, hml, hown, hts⟩ (k_size l dC dI cI cB cR cO zk al ed 2 (.int mc) s.heap.size ) (cwV 0 hts gX4_isNoRow_Jx4a65c_size_8abf5 rfl rfl rfl (by decide +kernel) ⟨Nat.le_of_ble_eq_true rfl, Nat.le_of_ble_eq_true rfl⟩) ⟨zblind, (zrecv_4 hK hPc (q0 := 0) rfl), hpre⟩ rfl rfl hl.1 rfl (lv_room (Nat.le_of_ble_eq_true rfl)) dX4_isNoRow_6 ⟨Nat.le_of_ble_eq_true rfl, Nat.le_of_ble_eq_true rfl⟩) hS (fun q _ h => hFc q h) hFc (fun r2 u t H1 locs ht hvm hw hB hz1 hk1 hS => ?_)
  obtain rfl : 2 = r2 := (show r2 = 2 from hw).symm
  obtain ⟨hP1, hK1, hD1, hz2⟩ := hB
  rw [ht] at hP1 hz2
  have hPD9 := va_join (wr := [(mo, .inr (9, [th, .ref al, md, rf, kn]))]) (w1 := [(al, .inr (4, [.int mc, .ref ed, .int 2]))]) hP hD [1] [0] rfl rfl (by decide) (by decide) hk1 hFc hP1 hD1
  clear hPc hDc hFc hDv hpre hP hD hP1 hK1 hD1
  obtain ⟨hP, hD⟩ := hPD9
  replace hz : s.heap.size + 0 ≤ H1.size := by omega
  clear hz2
  replace hP : va_P (dC, dI) vwCl [(mo, .inr (9, [th, .ref al, md, rf, kn])), (al, .inr (4, [.int mc, .ref ed, .int 2]))] H1 := hP
  replace hD : va_D A [(mo, .inr (9, [th, .ref al, md, rf, kn])), (al, .inr (4, [.int mc, .ref ed, .int 2]))] := hD
  refine W.widen (k := 0) (n := 0) (by omega) (by omega) ?_
  refine lv_iconst (v := 1) hx hb dX4_isNoRow_9 (by decide) ?_
  refine lv_isub hx hb dX4_isNoRow_10 ?_
  refine lv_topi (fun v3 ev3 => ?_)
  obtain rfl : v3 = 1 := ev3.trans (by decide)
  have hPc := hP.sub (ws' := []) [] rfl
  have hDc := hD.sub (ws' := []) [] (by decide) rfl
  have hFc := va_free (wc := []) hD hS hA [] rfl
  have hDv := hDc.self (sz := H1.size)
  have hpre := zpre (xs' := []) (av := [.int 0, .int 0, .int 1]) hPc hK (hDc.weaken (fun _ _ _ h => h)) hZ hS hFc (fun r hr => by cases hr)
  refine va_calli (va_runS (As := [.int 0, .int 0, .int 1]) (rest := []) ⟨hx, hb, hml, hown, hts⟩ (k_isIn0_1 l dC dI cI cB cR cO zk  H1.size ) (va_cwS 3 hts gX4_isNoRow_X4_isIn rfl rfl rfl (by decide +kernel) ⟨Nat.le_of_ble_eq_true rfl, Nat.le_of_ble_eq_true rfl⟩) ⟨zblind, hpre⟩ rfl rfl hl.1 rfl (lv_room (Nat.le_of_ble_eq_true rfl)) dX4_isNoRow_11 ⟨Nat.le_of_ble_eq_true rfl, Nat.le_of_ble_eq_true rfl⟩) hS (fun q _ h => hFc q h) hFc (fun r5 u t H4 locs ht hvm hw hB hz1 hk1 hS => ?_)
  obtain rfl : 1 = r5 := (show r5 = 1 from hw).symm
  obtain ⟨hP1, hK1, hD1, hz2⟩ := hB
  rw [ht] at hP1 hz2
  have hPD9 := va_join (wr := [(mo, .inr (9, [th, .ref al, md, rf, kn])), (al, .inr (4, [.int mc, .ref ed, .int 2]))]) (w1 := []) hP hD [] [0, 1] rfl rfl (by decide) (by decide) hk1 hFc hP1 hD1
  clear hPc hDc hFc hDv hpre hP hD hP1 hK1 hD1
  obtain ⟨hP, hD⟩ := hPD9
  replace hz : s.heap.size + 0 ≤ H4.size := by omega
  clear hz2
  replace hP : va_P (dC, dI) vwCl [(mo, .inr (9, [th, .ref al, md, rf, kn])), (al, .inr (4, [.int mc, .ref ed, .int 2]))] H4 := hP
  replace hD : va_D A [(mo, .inr (9, [th, .ref al, md, rf, kn])), (al, .inr (4, [.int mc, .ref ed, .int 2]))] := hD
  refine W.widen (k := 0) (n := 0) (by omega) (by omega) ?_
  refine lv_if_ne (tgt := 21) hx hb dX4_isNoRow_14 (by decide) (fun c9 => ?_) (fun c9 => ?_)
  rotate_left
  · exact absurd c9 (by decide)
  refine lv_iconst (v := 0) hx hb dX4_isNoRow_21 (by decide) ?_
  have hP9 := hP.sub (ws' := [(mo, .inr (9, [th, .ref al, md, rf, kn])), (al, .inr (4, [.int mc, .ref ed, .int 2]))]) [0, 1] rfl
  have hD9 := hD.sub (ws' := [(mo, .inr (9, [th, .ref al, md, rf, kn])), (al, .inr (4, [.int mc, .ref ed, .int 2]))]) [0, 1] (by decide) rfl
  exact W.zret (v := 0) hx hb hr (by decide +kernel) (fun t ht hW => ⟨⟨_, (), rfl, rfl, ⟨by rw [ht]; exact hP9, va_K.moved hW.alike hK, hD9, by rw [ht]; exact hz⟩⟩, hS.F ht⟩) hS.2.2 dX4_isNoRow_22

set_option maxHeartbeats 4000000 in
set_option maxRecDepth 100000 in
theorem k_nR1_2 (l : Launch) (dC : Nat → ClassId) (dI : Nat → Nat → Nat) (cI cB cR cO : ClassId) (zk : Nat → Nat) (mo al : Nat) (th md rf kn : Value) (ed : Nat) (ee : Nat → Option Nat) (mc : Int32) (sz : Nat)  : Met l yX4_isNoRow wsX4_isNoRow ({ frames := 1, cells := 0, slots := 0, locals := 22 }) (va_Pc [.ref mo, .int 1] (zPre (dC, dI) (zT cI cB cR cO) zk [] [(mo, .inr (9, [th, .ref al, md, rf, kn])), (al, .inr (4, [.int mc, .ref ed, .int 2]))] sz)) (va_Qi (fun r (_ : Unit) => r = 0) (fun _ t => zEnd (dC, dI) (zT cI cB cR cO) (va_A [(mo, .inr (9, [th, .ref al, md, rf, kn])), (al, .inr (4, [.int mc, .ref ed, .int 2]))] sz) [(mo, .inr (9, [th, .ref al, md, rf, kn])), (al, .inr (4, [.int mc, .ref ed, .int 2]))] sz 0 t) (va_A [(mo, .inr (9, [th, .ref al, md, rf, kn])), (al, .inr (4, [.int mc, .ref ed, .int 2]))] sz)) 0 0 (va_A [(mo, .inr (9, [th, .ref al, md, rf, kn])), (al, .inr (4, [.int mc, .ref ed, .int 2]))] sz) := by
  refine Met.ofW (cc := cX4_isNoRow) (maxL := 2) (ret := (some .boolean)) (by decide) rfl ?_
  intro p e s mY args below meth c s₁ B hml hv
  obtain ⟨rfl, hsz, hP, hK, hD0, hZ⟩ := hv
  have hx := B.exec
  have hb := B.bytes
  have hr := B.returns
  have hts := atoms_spec (ws := wsX4_isNoRow) B.pre
  have hown : s.vm.findClass RX4 = some mY.cls := findClass_of_methodNamed B.named
  have hlocks := B.notSynchronized
  subst hsz
  have hD := hD0.self (sz := s.heap.size)
  generalize hAe : va_A [(mo, .inr (9, [th, .ref al, md, rf, kn])), (al, .inr (4, [.int mc, .ref ed, .int 2]))] s.heap.size = A at hD hZ ⊢
  have hA : ∀ q : Nat, s.heap.size ≤ q → A q := fun q h => by rw [← hAe]; exact Or.inr h
  have hS : va_S A s.heap s.heap [] := va_S.rf
  have hz : s.heap.size + 0 ≤ s.heap.size := Nat.le_refl _
  have hl := lv_entry ([.ref mo, .int 1]) (n := 2) (Nat.le_of_ble_eq_true rfl)
  rw [lg_entry_eq]
  generalize (lg_sl ([.ref mo, .int 1]) ++ List.replicate (2 - (lg_sl ([.ref mo, .int 1])).length) Slot.unset).toArray = ls at hl ⊢
  have hl : lv_has ls 2 [(0, .ref mo), (1, .int 1)] := hl
  have hP : va_P (dC, dI) vwCl [(mo, .inr (9, [th, .ref al, md, rf, kn])), (al, .inr (4, [.int mc, .ref ed, .int 2]))] s.heap := hP
  have hD : va_D A [(mo, .inr (9, [th, .ref al, md, rf, kn])), (al, .inr (4, [.int mc, .ref ed, .int 2]))] := hD
  refine lv_iload_n hx hb dX4_isNoRow_0 rfl (lv_at hl 1 rfl) ?_
  refine lv_iconst (v := 0) hx hb dX4_isNoRow_1 (by decide) ?_
  refine lv_aload_n hx hb dX4_isNoRow_2 rfl (lv_at hl 0 rfl) ?_
  refine va_get (D := (dC, dI)) (ci := 9) (v := .ref al) (C := RX4) (T := TX4) (N := 5) hx hb hts hi_X4_isNoRow_X4 hown hK hP 0 rfl rfl 1 (by decide) (hts (.fieldLink RX4 10 "DeeprowsModel" "rows" "Ljava/util/ArrayList;") (List.mem_cons_of_mem _ zw_1134)) (fun _ h9 => h9) rfl dX4_isNoRow_3 ?_
  have hPc := hP.sub (ws' := [(al, .inr (4, [.int mc, .ref ed, .int 2]))]) [1] rfl
  have hDc := hD.sub (ws' := [(al, .inr (4, [.int mc, .ref ed, .int 2]))]) [1] (by decide) rfl
  have hFc := va_free (wc := [(al, .inr (4, [.int mc, .ref ed, .int 2]))]) hD hS hA [1] rfl
  have hDv := hDc.self (sz := s.heap.size)
  have hpre := zpre (xs' := []) (av := [.ref al]) hPc hK (hDc.weaken (fun _ _ _ h => h)) hZ hS hFc (fun r hr => by cases hr)
  refine va_calli (va_runV (As := []) (rest := [.int 0, .int 1]) ⟨hx, hb, hml, hown, hts⟩ (k_size l dC dI cI cB cR cO zk al ed 2 (.int mc) s.heap.size ) (cwV 0 hts gX4_isNoRow_Jx4a65c_size_8abf5 rfl rfl rfl (by decide +kernel) ⟨Nat.le_of_ble_eq_true rfl, Nat.le_of_ble_eq_true rfl⟩) ⟨zblind, (zrecv_4 hK hPc (q0 := 0) rfl), hpre⟩ rfl rfl hl.1 rfl (lv_room (Nat.le_of_ble_eq_true rfl)) dX4_isNoRow_6 ⟨Nat.le_of_ble_eq_true rfl, Nat.le_of_ble_eq_true rfl⟩) hS (fun q _ h => hFc q h) hFc (fun r2 u t H1 locs ht hvm hw hB hz1 hk1 hS => ?_)
  obtain rfl : 2 = r2 := (show r2 = 2 from hw).symm
  obtain ⟨hP1, hK1, hD1, hz2⟩ := hB
  rw [ht] at hP1 hz2
  have hPD9 := va_join (wr := [(mo, .inr (9, [th, .ref al, md, rf, kn]))]) (w1 := [(al, .inr (4, [.int mc, .ref ed, .int 2]))]) hP hD [1] [0] rfl rfl (by decide) (by decide) hk1 hFc hP1 hD1
  clear hPc hDc hFc hDv hpre hP hD hP1 hK1 hD1
  obtain ⟨hP, hD⟩ := hPD9
  replace hz : s.heap.size + 0 ≤ H1.size := by omega
  clear hz2
  replace hP : va_P (dC, dI) vwCl [(mo, .inr (9, [th, .ref al, md, rf, kn])), (al, .inr (4, [.int mc, .ref ed, .int 2]))] H1 := hP
  replace hD : va_D A [(mo, .inr (9, [th, .ref al, md, rf, kn])), (al, .inr (4, [.int mc, .ref ed, .int 2]))] := hD
  refine W.widen (k := 0) (n := 0) (by omega) (by omega) ?_
  refine lv_iconst (v := 1) hx hb dX4_isNoRow_9 (by decide) ?_
  refine lv_isub hx hb dX4_isNoRow_10 ?_
  refine lv_topi (fun v3 ev3 => ?_)
  obtain rfl : v3 = 1 := ev3.trans (by decide)
  have hPc := hP.sub (ws' := []) [] rfl
  have hDc := hD.sub (ws' := []) [] (by decide) rfl
  have hFc := va_free (wc := []) hD hS hA [] rfl
  have hDv := hDc.self (sz := H1.size)
  have hpre := zpre (xs' := []) (av := [.int 1, .int 0, .int 1]) hPc hK (hDc.weaken (fun _ _ _ h => h)) hZ hS hFc (fun r hr => by cases hr)
  refine va_calli (va_runS (As := [.int 1, .int 0, .int 1]) (rest := []) ⟨hx, hb, hml, hown, hts⟩ (k_isIn1_1 l dC dI cI cB cR cO zk  H1.size ) (va_cwS 3 hts gX4_isNoRow_X4_isIn rfl rfl rfl (by decide +kernel) ⟨Nat.le_of_ble_eq_true rfl, Nat.le_of_ble_eq_true rfl⟩) ⟨zblind, hpre⟩ rfl rfl hl.1 rfl (lv_room (Nat.le_of_ble_eq_true rfl)) dX4_isNoRow_11 ⟨Nat.le_of_ble_eq_true rfl, Nat.le_of_ble_eq_true rfl⟩) hS (fun q _ h => hFc q h) hFc (fun r5 u t H4 locs ht hvm hw hB hz1 hk1 hS => ?_)
  obtain rfl : 1 = r5 := (show r5 = 1 from hw).symm
  obtain ⟨hP1, hK1, hD1, hz2⟩ := hB
  rw [ht] at hP1 hz2
  have hPD9 := va_join (wr := [(mo, .inr (9, [th, .ref al, md, rf, kn])), (al, .inr (4, [.int mc, .ref ed, .int 2]))]) (w1 := []) hP hD [] [0, 1] rfl rfl (by decide) (by decide) hk1 hFc hP1 hD1
  clear hPc hDc hFc hDv hpre hP hD hP1 hK1 hD1
  obtain ⟨hP, hD⟩ := hPD9
  replace hz : s.heap.size + 0 ≤ H4.size := by omega
  clear hz2
  replace hP : va_P (dC, dI) vwCl [(mo, .inr (9, [th, .ref al, md, rf, kn])), (al, .inr (4, [.int mc, .ref ed, .int 2]))] H4 := hP
  replace hD : va_D A [(mo, .inr (9, [th, .ref al, md, rf, kn])), (al, .inr (4, [.int mc, .ref ed, .int 2]))] := hD
  refine W.widen (k := 0) (n := 0) (by omega) (by omega) ?_
  refine lv_if_ne (tgt := 21) hx hb dX4_isNoRow_14 (by decide) (fun c9 => ?_) (fun c9 => ?_)
  rotate_left
  · exact absurd c9 (by decide)
  refine lv_iconst (v := 0) hx hb dX4_isNoRow_21 (by decide) ?_
  have hP9 := hP.sub (ws' := [(mo, .inr (9, [th, .ref al, md, rf, kn])), (al, .inr (4, [.int mc, .ref ed, .int 2]))]) [0, 1] rfl
  have hD9 := hD.sub (ws' := [(mo, .inr (9, [th, .ref al, md, rf, kn])), (al, .inr (4, [.int mc, .ref ed, .int 2]))]) [0, 1] (by decide) rfl
  exact W.zret (v := 0) hx hb hr (by decide +kernel) (fun t ht hW => ⟨⟨_, (), rfl, rfl, ⟨by rw [ht]; exact hP9, va_K.moved hW.alike hK, hD9, by rw [ht]; exact hz⟩⟩, hS.F ht⟩) hS.2.2 dX4_isNoRow_22

set_option maxHeartbeats 4000000 in
set_option maxRecDepth 100000 in
theorem k_nR1_3 (l : Launch) (dC : Nat → ClassId) (dI : Nat → Nat → Nat) (cI cB cR cO : ClassId) (zk : Nat → Nat) (mo al : Nat) (th md rf kn : Value) (ed : Nat) (ee : Nat → Option Nat) (mc : Int32) (sz : Nat)  : Met l yX4_isNoRow wsX4_isNoRow ({ frames := 1, cells := 0, slots := 0, locals := 22 }) (va_Pc [.ref mo, .int 1] (zPre (dC, dI) (zT cI cB cR cO) zk [] [(mo, .inr (9, [th, .ref al, md, rf, kn])), (al, .inr (4, [.int mc, .ref ed, .int 3]))] sz)) (va_Qi (fun r (_ : Unit) => r = 0) (fun _ t => zEnd (dC, dI) (zT cI cB cR cO) (va_A [(mo, .inr (9, [th, .ref al, md, rf, kn])), (al, .inr (4, [.int mc, .ref ed, .int 3]))] sz) [(mo, .inr (9, [th, .ref al, md, rf, kn])), (al, .inr (4, [.int mc, .ref ed, .int 3]))] sz 0 t) (va_A [(mo, .inr (9, [th, .ref al, md, rf, kn])), (al, .inr (4, [.int mc, .ref ed, .int 3]))] sz)) 0 0 (va_A [(mo, .inr (9, [th, .ref al, md, rf, kn])), (al, .inr (4, [.int mc, .ref ed, .int 3]))] sz) := by
  refine Met.ofW (cc := cX4_isNoRow) (maxL := 2) (ret := (some .boolean)) (by decide) rfl ?_
  intro p e s mY args below meth c s₁ B hml hv
  obtain ⟨rfl, hsz, hP, hK, hD0, hZ⟩ := hv
  have hx := B.exec
  have hb := B.bytes
  have hr := B.returns
  have hts := atoms_spec (ws := wsX4_isNoRow) B.pre
  have hown : s.vm.findClass RX4 = some mY.cls := findClass_of_methodNamed B.named
  have hlocks := B.notSynchronized
  subst hsz
  have hD := hD0.self (sz := s.heap.size)
  generalize hAe : va_A [(mo, .inr (9, [th, .ref al, md, rf, kn])), (al, .inr (4, [.int mc, .ref ed, .int 3]))] s.heap.size = A at hD hZ ⊢
  have hA : ∀ q : Nat, s.heap.size ≤ q → A q := fun q h => by rw [← hAe]; exact Or.inr h
  have hS : va_S A s.heap s.heap [] := va_S.rf
  have hz : s.heap.size + 0 ≤ s.heap.size := Nat.le_refl _
  have hl := lv_entry ([.ref mo, .int 1]) (n := 2) (Nat.le_of_ble_eq_true rfl)
  rw [lg_entry_eq]
  generalize (lg_sl ([.ref mo, .int 1]) ++ List.replicate (2 - (lg_sl ([.ref mo, .int 1])).length) Slot.unset).toArray = ls at hl ⊢
  have hl : lv_has ls 2 [(0, .ref mo), (1, .int 1)] := hl
  have hP : va_P (dC, dI) vwCl [(mo, .inr (9, [th, .ref al, md, rf, kn])), (al, .inr (4, [.int mc, .ref ed, .int 3]))] s.heap := hP
  have hD : va_D A [(mo, .inr (9, [th, .ref al, md, rf, kn])), (al, .inr (4, [.int mc, .ref ed, .int 3]))] := hD
  refine lv_iload_n hx hb dX4_isNoRow_0 rfl (lv_at hl 1 rfl) ?_
  refine lv_iconst (v := 0) hx hb dX4_isNoRow_1 (by decide) ?_
  refine lv_aload_n hx hb dX4_isNoRow_2 rfl (lv_at hl 0 rfl) ?_
  refine va_get (D := (dC, dI)) (ci := 9) (v := .ref al) (C := RX4) (T := TX4) (N := 5) hx hb hts hi_X4_isNoRow_X4 hown hK hP 0 rfl rfl 1 (by decide) (hts (.fieldLink RX4 10 "DeeprowsModel" "rows" "Ljava/util/ArrayList;") (List.mem_cons_of_mem _ zw_1134)) (fun _ h9 => h9) rfl dX4_isNoRow_3 ?_
  have hPc := hP.sub (ws' := [(al, .inr (4, [.int mc, .ref ed, .int 3]))]) [1] rfl
  have hDc := hD.sub (ws' := [(al, .inr (4, [.int mc, .ref ed, .int 3]))]) [1] (by decide) rfl
  have hFc := va_free (wc := [(al, .inr (4, [.int mc, .ref ed, .int 3]))]) hD hS hA [1] rfl
  have hDv := hDc.self (sz := s.heap.size)
  have hpre := zpre (xs' := []) (av := [.ref al]) hPc hK (hDc.weaken (fun _ _ _ h => h)) hZ hS hFc (fun r hr => by cases hr)
  refine va_calli (va_runV (As := []) (rest := [.int 0, .int 1]) ⟨hx, hb, hml, hown, hts⟩ (k_size l dC dI cI cB cR cO zk al ed 3 (.int mc) s.heap.size ) (cwV 0 hts gX4_isNoRow_Jx4a65c_size_8abf5 rfl rfl rfl (by decide +kernel) ⟨Nat.le_of_ble_eq_true rfl, Nat.le_of_ble_eq_true rfl⟩) ⟨zblind, (zrecv_4 hK hPc (q0 := 0) rfl), hpre⟩ rfl rfl hl.1 rfl (lv_room (Nat.le_of_ble_eq_true rfl)) dX4_isNoRow_6 ⟨Nat.le_of_ble_eq_true rfl, Nat.le_of_ble_eq_true rfl⟩) hS (fun q _ h => hFc q h) hFc (fun r2 u t H1 locs ht hvm hw hB hz1 hk1 hS => ?_)
  obtain rfl : 3 = r2 := (show r2 = 3 from hw).symm
  obtain ⟨hP1, hK1, hD1, hz2⟩ := hB
  rw [ht] at hP1 hz2
  have hPD9 := va_join (wr := [(mo, .inr (9, [th, .ref al, md, rf, kn]))]) (w1 := [(al, .inr (4, [.int mc, .ref ed, .int 3]))]) hP hD [1] [0] rfl rfl (by decide) (by decide) hk1 hFc hP1 hD1
  clear hPc hDc hFc hDv hpre hP hD hP1 hK1 hD1
  obtain ⟨hP, hD⟩ := hPD9
  replace hz : s.heap.size + 0 ≤ H1.size := by omega
  clear hz2
  replace hP : va_P (dC, dI) vwCl [(mo, .inr (9, [th, .ref al, md, rf, kn])), (al, .inr (4, [.int mc, .ref ed, .int 3]))] H1 := hP
  replace hD : va_D A [(mo, .inr (9, [th, .ref al, md, rf, kn])), (al, .inr (4, [.int mc, .ref ed, .int 3]))] := hD
  refine W.widen (k := 0) (n := 0) (by omega) (by omega) ?_
  refine lv_iconst (v := 1) hx hb dX4_isNoRow_9 (by decide) ?_
  refine lv_isub hx hb dX4_isNoRow_10 ?_
  refine lv_topi (fun v3 ev3 => ?_)
  obtain rfl : v3 = 2 := ev3.trans (by decide)
  have hPc := hP.sub (ws' := []) [] rfl
  have hDc := hD.sub (ws' := []) [] (by decide) rfl
  have hFc := va_free (wc := []) hD hS hA [] rfl
  have hDv := hDc.self (sz := H1.size)
  have hpre := zpre (xs' := []) (av := [.int 1, .int 0, .int 2]) hPc hK (hDc.weaken (fun _ _ _ h => h)) hZ hS hFc (fun r hr => by cases hr)
  refine va_calli (va_runS (As := [.int 1, .int 0, .int 2]) (rest := []) ⟨hx, hb, hml, hown, hts⟩ (k_isIn1_2 l dC dI cI cB cR cO zk  H1.size ) (va_cwS 3 hts gX4_isNoRow_X4_isIn rfl rfl rfl (by decide +kernel) ⟨Nat.le_of_ble_eq_true rfl, Nat.le_of_ble_eq_true rfl⟩) ⟨zblind, hpre⟩ rfl rfl hl.1 rfl (lv_room (Nat.le_of_ble_eq_true rfl)) dX4_isNoRow_11 ⟨Nat.le_of_ble_eq_true rfl, Nat.le_of_ble_eq_true rfl⟩) hS (fun q _ h => hFc q h) hFc (fun r5 u t H4 locs ht hvm hw hB hz1 hk1 hS => ?_)
  obtain rfl : 1 = r5 := (show r5 = 1 from hw).symm
  obtain ⟨hP1, hK1, hD1, hz2⟩ := hB
  rw [ht] at hP1 hz2
  have hPD9 := va_join (wr := [(mo, .inr (9, [th, .ref al, md, rf, kn])), (al, .inr (4, [.int mc, .ref ed, .int 3]))]) (w1 := []) hP hD [] [0, 1] rfl rfl (by decide) (by decide) hk1 hFc hP1 hD1
  clear hPc hDc hFc hDv hpre hP hD hP1 hK1 hD1
  obtain ⟨hP, hD⟩ := hPD9
  replace hz : s.heap.size + 0 ≤ H4.size := by omega
  clear hz2
  replace hP : va_P (dC, dI) vwCl [(mo, .inr (9, [th, .ref al, md, rf, kn])), (al, .inr (4, [.int mc, .ref ed, .int 3]))] H4 := hP
  replace hD : va_D A [(mo, .inr (9, [th, .ref al, md, rf, kn])), (al, .inr (4, [.int mc, .ref ed, .int 3]))] := hD
  refine W.widen (k := 0) (n := 0) (by omega) (by omega) ?_
  refine lv_if_ne (tgt := 21) hx hb dX4_isNoRow_14 (by decide) (fun c9 => ?_) (fun c9 => ?_)
  rotate_left
  · exact absurd c9 (by decide)
  refine lv_iconst (v := 0) hx hb dX4_isNoRow_21 (by decide) ?_
  have hP9 := hP.sub (ws' := [(mo, .inr (9, [th, .ref al, md, rf, kn])), (al, .inr (4, [.int mc, .ref ed, .int 3]))]) [0, 1] rfl
  have hD9 := hD.sub (ws' := [(mo, .inr (9, [th, .ref al, md, rf, kn])), (al, .inr (4, [.int mc, .ref ed, .int 3]))]) [0, 1] (by decide) rfl
  exact W.zret (v := 0) hx hb hr (by decide +kernel) (fun t ht hW => ⟨⟨_, (), rfl, rfl, ⟨by rw [ht]; exact hP9, va_K.moved hW.alike hK, hD9, by rw [ht]; exact hz⟩⟩, hS.F ht⟩) hS.2.2 dX4_isNoRow_22

set_option maxHeartbeats 4000000 in
set_option maxRecDepth 100000 in
theorem k_nR2_3 (l : Launch) (dC : Nat → ClassId) (dI : Nat → Nat → Nat) (cI cB cR cO : ClassId) (zk : Nat → Nat) (mo al : Nat) (th md rf kn : Value) (ed : Nat) (ee : Nat → Option Nat) (mc : Int32) (sz : Nat)  : Met l yX4_isNoRow wsX4_isNoRow ({ frames := 1, cells := 0, slots := 0, locals := 22 }) (va_Pc [.ref mo, .int 2] (zPre (dC, dI) (zT cI cB cR cO) zk [] [(mo, .inr (9, [th, .ref al, md, rf, kn])), (al, .inr (4, [.int mc, .ref ed, .int 3]))] sz)) (va_Qi (fun r (_ : Unit) => r = 0) (fun _ t => zEnd (dC, dI) (zT cI cB cR cO) (va_A [(mo, .inr (9, [th, .ref al, md, rf, kn])), (al, .inr (4, [.int mc, .ref ed, .int 3]))] sz) [(mo, .inr (9, [th, .ref al, md, rf, kn])), (al, .inr (4, [.int mc, .ref ed, .int 3]))] sz 0 t) (va_A [(mo, .inr (9, [th, .ref al, md, rf, kn])), (al, .inr (4, [.int mc, .ref ed, .int 3]))] sz)) 0 0 (va_A [(mo, .inr (9, [th, .ref al, md, rf, kn])), (al, .inr (4, [.int mc, .ref ed, .int 3]))] sz) := by
  refine Met.ofW (cc := cX4_isNoRow) (maxL := 2) (ret := (some .boolean)) (by decide) rfl ?_
  intro p e s mY args below meth c s₁ B hml hv
  obtain ⟨rfl, hsz, hP, hK, hD0, hZ⟩ := hv
  have hx := B.exec
  have hb := B.bytes
  have hr := B.returns
  have hts := atoms_spec (ws := wsX4_isNoRow) B.pre
  have hown : s.vm.findClass RX4 = some mY.cls := findClass_of_methodNamed B.named
  have hlocks := B.notSynchronized
  subst hsz
  have hD := hD0.self (sz := s.heap.size)
  generalize hAe : va_A [(mo, .inr (9, [th, .ref al, md, rf, kn])), (al, .inr (4, [.int mc, .ref ed, .int 3]))] s.heap.size = A at hD hZ ⊢
  have hA : ∀ q : Nat, s.heap.size ≤ q → A q := fun q h => by rw [← hAe]; exact Or.inr h
  have hS : va_S A s.heap s.heap [] := va_S.rf
  have hz : s.heap.size + 0 ≤ s.heap.size := Nat.le_refl _
  have hl := lv_entry ([.ref mo, .int 2]) (n := 2) (Nat.le_of_ble_eq_true rfl)
  rw [lg_entry_eq]
  generalize (lg_sl ([.ref mo, .int 2]) ++ List.replicate (2 - (lg_sl ([.ref mo, .int 2])).length) Slot.unset).toArray = ls at hl ⊢
  have hl : lv_has ls 2 [(0, .ref mo), (1, .int 2)] := hl
  have hP : va_P (dC, dI) vwCl [(mo, .inr (9, [th, .ref al, md, rf, kn])), (al, .inr (4, [.int mc, .ref ed, .int 3]))] s.heap := hP
  have hD : va_D A [(mo, .inr (9, [th, .ref al, md, rf, kn])), (al, .inr (4, [.int mc, .ref ed, .int 3]))] := hD
  refine lv_iload_n hx hb dX4_isNoRow_0 rfl (lv_at hl 1 rfl) ?_
  refine lv_iconst (v := 0) hx hb dX4_isNoRow_1 (by decide) ?_
  refine lv_aload_n hx hb dX4_isNoRow_2 rfl (lv_at hl 0 rfl) ?_
  refine va_get (D := (dC, dI)) (ci := 9) (v := .ref al) (C := RX4) (T := TX4) (N := 5) hx hb hts hi_X4_isNoRow_X4 hown hK hP 0 rfl rfl 1 (by decide) (hts (.fieldLink RX4 10 "DeeprowsModel" "rows" "Ljava/util/ArrayList;") (List.mem_cons_of_mem _ zw_1134)) (fun _ h9 => h9) rfl dX4_isNoRow_3 ?_
  have hPc := hP.sub (ws' := [(al, .inr (4, [.int mc, .ref ed, .int 3]))]) [1] rfl
  have hDc := hD.sub (ws' := [(al, .inr (4, [.int mc, .ref ed, .int 3]))]) [1] (by decide) rfl
  have hFc := va_free (wc := [(al, .inr (4, [.int mc, .ref ed, .int 3]))]) hD hS hA [1] rfl
  have hDv := hDc.self (sz := s.heap.size)
  have hpre := zpre (xs' := []) (av := [.ref al]) hPc hK (hDc.weaken (fun _ _ _ h => h)) hZ hS hFc (fun r hr => by cases hr)
  refine va_calli (va_runV (As := []) (rest := [.int 0, .int 2]) ⟨hx, hb, hml, hown, hts⟩ (k_size l dC dI cI cB cR cO zk al ed 3 (.int mc) s.heap.size ) (cwV 0 hts gX4_isNoRow_Jx4a65c_size_8abf5 rfl rfl rfl (by decide +kernel) ⟨Nat.le_of_ble_eq_true rfl, Nat.le_of_ble_eq_true rfl⟩) ⟨zblind, (zrecv_4 hK hPc (q0 := 0) rfl), hpre⟩ rfl rfl hl.1 rfl (lv_room (Nat.le_of_ble_eq_true rfl)) dX4_isNoRow_6 ⟨Nat.le_of_ble_eq_true rfl, Nat.le_of_ble_eq_true rfl⟩) hS (fun q _ h => hFc q h) hFc (fun r2 u t H1 locs ht hvm hw hB hz1 hk1 hS => ?_)
  obtain rfl : 3 = r2 := (show r2 = 3 from hw).symm
  obtain ⟨hP1, hK1, hD1, hz2⟩ := hB
  rw [ht] at hP1 hz2
  have hPD9 := va_join (wr := [(mo, .inr (9, [th, .ref al, md, rf, kn]))]) (w1 := [(al, .inr (4, [.int mc, .ref ed, .int 3]))]) hP hD [1] [0] rfl rfl (by decide) (by decide) hk1 hFc hP1 hD1
  clear hPc hDc hFc hDv hpre hP hD hP1 hK1 hD1
  obtain ⟨hP, hD⟩ := hPD9
  replace hz : s.heap.size + 0 ≤ H1.size := by omega
  clear hz2
  replace hP : va_P (dC, dI) vwCl [(mo, .inr (9, [th, .ref al, md, rf, kn])), (al, .inr (4, [.int mc, .ref ed, .int 3]))] H1 := hP
  replace hD : va_D A [(mo, .inr (9, [th, .ref al, md, rf, kn])), (al, .inr (4, [.int mc, .ref ed, .int 3]))] := hD
  refine W.widen (k := 0) (n := 0) (by omega) (by omega) ?_
  refine lv_iconst (v := 1) hx hb dX4_isNoRow_9 (by decide) ?_
  refine lv_isub hx hb dX4_isNoRow_10 ?_
  refine lv_topi (fun v3 ev3 => ?_)
  obtain rfl : v3 = 2 := ev3.trans (by decide)
  have hPc := hP.sub (ws' := []) [] rfl
  have hDc := hD.sub (ws' := []) [] (by decide) rfl
  have hFc := va_free (wc := []) hD hS hA [] rfl
  have hDv := hDc.self (sz := H1.size)
  have hpre := zpre (xs' := []) (av := [.int 2, .int 0, .int 2]) hPc hK (hDc.weaken (fun _ _ _ h => h)) hZ hS hFc (fun r hr => by cases hr)
  refine va_calli (va_runS (As := [.int 2, .int 0, .int 2]) (rest := []) ⟨hx, hb, hml, hown, hts⟩ (k_isIn2_2 l dC dI cI cB cR cO zk  H1.size ) (va_cwS 3 hts gX4_isNoRow_X4_isIn rfl rfl rfl (by decide +kernel) ⟨Nat.le_of_ble_eq_true rfl, Nat.le_of_ble_eq_true rfl⟩) ⟨zblind, hpre⟩ rfl rfl hl.1 rfl (lv_room (Nat.le_of_ble_eq_true rfl)) dX4_isNoRow_11 ⟨Nat.le_of_ble_eq_true rfl, Nat.le_of_ble_eq_true rfl⟩) hS (fun q _ h => hFc q h) hFc (fun r5 u t H4 locs ht hvm hw hB hz1 hk1 hS => ?_)
  obtain rfl : 1 = r5 := (show r5 = 1 from hw).symm
  obtain ⟨hP1, hK1, hD1, hz2⟩ := hB
  rw [ht] at hP1 hz2
  have hPD9 := va_join (wr := [(mo, .inr (9, [th, .ref al, md, rf, kn])), (al, .inr (4, [.int mc, .ref ed, .int 3]))]) (w1 := []) hP hD [] [0, 1] rfl rfl (by decide) (by decide) hk1 hFc hP1 hD1
  clear hPc hDc hFc hDv hpre hP hD hP1 hK1 hD1
  obtain ⟨hP, hD⟩ := hPD9
  replace hz : s.heap.size + 0 ≤ H4.size := by omega
  clear hz2
  replace hP : va_P (dC, dI) vwCl [(mo, .inr (9, [th, .ref al, md, rf, kn])), (al, .inr (4, [.int mc, .ref ed, .int 3]))] H4 := hP
  replace hD : va_D A [(mo, .inr (9, [th, .ref al, md, rf, kn])), (al, .inr (4, [.int mc, .ref ed, .int 3]))] := hD
  refine W.widen (k := 0) (n := 0) (by omega) (by omega) ?_
  refine lv_if_ne (tgt := 21) hx hb dX4_isNoRow_14 (by decide) (fun c9 => ?_) (fun c9 => ?_)
  rotate_left
  · exact absurd c9 (by decide)
  refine lv_iconst (v := 0) hx hb dX4_isNoRow_21 (by decide) ?_
  have hP9 := hP.sub (ws' := [(mo, .inr (9, [th, .ref al, md, rf, kn])), (al, .inr (4, [.int mc, .ref ed, .int 3]))]) [0, 1] rfl
  have hD9 := hD.sub (ws' := [(mo, .inr (9, [th, .ref al, md, rf, kn])), (al, .inr (4, [.int mc, .ref ed, .int 3]))]) [0, 1] (by decide) rfl
  exact W.zret (v := 0) hx hb hr (by decide +kernel) (fun t ht hW => ⟨⟨_, (), rfl, rfl, ⟨by rw [ht]; exact hP9, va_K.moved hW.alike hK, hD9, by rw [ht]; exact hz⟩⟩, hS.F ht⟩) hS.2.2 dX4_isNoRow_22

set_option maxHeartbeats 4000000 in
set_option maxRecDepth 100000 in
theorem k_nR2_4 (l : Launch) (dC : Nat → ClassId) (dI : Nat → Nat → Nat) (cI cB cR cO : ClassId) (zk : Nat → Nat) (mo al : Nat) (th md rf kn : Value) (ed : Nat) (ee : Nat → Option Nat) (mc : Int32) (sz : Nat)  : Met l yX4_isNoRow wsX4_isNoRow ({ frames := 1, cells := 0, slots := 0, locals := 22 }) (va_Pc [.ref mo, .int 2] (zPre (dC, dI) (zT cI cB cR cO) zk [] [(mo, .inr (9, [th, .ref al, md, rf, kn])), (al, .inr (4, [.int mc, .ref ed, .int 4]))] sz)) (va_Qi (fun r (_ : Unit) => r = 0) (fun _ t => zEnd (dC, dI) (zT cI cB cR cO) (va_A [(mo, .inr (9, [th, .ref al, md, rf, kn])), (al, .inr (4, [.int mc, .ref ed, .int 4]))] sz) [(mo, .inr (9, [th, .ref al, md, rf, kn])), (al, .inr (4, [.int mc, .ref ed, .int 4]))] sz 0 t) (va_A [(mo, .inr (9, [th, .ref al, md, rf, kn])), (al, .inr (4, [.int mc, .ref ed, .int 4]))] sz)) 0 0 (va_A [(mo, .inr (9, [th, .ref al, md, rf, kn])), (al, .inr (4, [.int mc, .ref ed, .int 4]))] sz) := by
  refine Met.ofW (cc := cX4_isNoRow) (maxL := 2) (ret := (some .boolean)) (by decide) rfl ?_
  intro p e s mY args below meth c s₁ B hml hv
  obtain ⟨rfl, hsz, hP, hK, hD0, hZ⟩ := hv
  have hx := B.exec
  have hb := B.bytes
  have hr := B.returns
  have hts := atoms_spec (ws := wsX4_isNoRow) B.pre
  have hown : s.vm.findClass RX4 = some mY.cls := findClass_of_methodNamed B.named
  have hlocks := B.notSynchronized
  subst hsz
  have hD := hD0.self (sz := s.heap.size)
  generalize hAe : va_A [(mo, .inr (9, [th, .ref al, md, rf, kn])), (al, .inr (4, [.int mc, .ref ed, .int 4]))] s.heap.size = A at hD hZ ⊢
  have hA : ∀ q : Nat, s.heap.size ≤ q → A q := fun q h => by rw [← hAe]; exact Or.inr h
  have hS : va_S A s.heap s.heap [] := va_S.rf
  have hz : s.heap.size + 0 ≤ s.heap.size := Nat.le_refl _
  have hl := lv_entry ([.ref mo, .int 2]) (n := 2) (Nat.le_of_ble_eq_true rfl)
  rw [lg_entry_eq]
  generalize (lg_sl ([.ref mo, .int 2]) ++ List.replicate (2 - (lg_sl ([.ref mo, .int 2])).length) Slot.unset).toArray = ls at hl ⊢
  have hl : lv_has ls 2 [(0, .ref mo), (1, .int 2)] := hl
  have hP : va_P (dC, dI) vwCl [(mo, .inr (9, [th, .ref al, md, rf, kn])), (al, .inr (4, [.int mc, .ref ed, .int 4]))] s.heap := hP
  have hD : va_D A [(mo, .inr (9, [th, .ref al, md, rf, kn])), (al, .inr (4, [.int mc, .ref ed, .int 4]))] := hD
  refine lv_iload_n hx hb dX4_isNoRow_0 rfl (lv_at hl 1 rfl) ?_
  refine lv_iconst (v := 0) hx hb dX4_isNoRow_1 (by decide) ?_
  refine lv_aload_n hx hb dX4_isNoRow_2 rfl (lv_at hl 0 rfl) ?_
  refine va_get (D := (dC, dI)) (ci := 9) (v := .ref al) (C := RX4) (T := TX4) (N := 5) hx hb hts hi_X4_isNoRow_X4 hown hK hP 0 rfl rfl 1 (by decide) (hts (.fieldLink RX4 10 "DeeprowsModel" "rows" "Ljava/util/ArrayList;") (List.mem_cons_of_mem _ zw_1134)) (fun _ h9 => h9) rfl dX4_isNoRow_3 ?_
  have hPc := hP.sub (ws' := [(al, .inr (4, [.int mc, .ref ed, .int 4]))]) [1] rfl
  have hDc := hD.sub (ws' := [(al, .inr (4, [.int mc, .ref ed, .int 4]))]) [1] (by decide) rfl
  have hFc := va_free (wc := [(al, .inr (4, [.int mc, .ref ed, .int 4]))]) hD hS hA [1] rfl
  have hDv := hDc.self (sz := s.heap.size)
  have hpre := zpre (xs' := []) (av := [.ref al]) hPc hK (hDc.weaken (fun _ _ _ h => h)) hZ hS hFc (fun r hr => by cases hr)
  refine va_calli (va_runV (As := []) (rest := [.int 0, .int 2]) ⟨hx, hb, hml, hown, hts⟩ (k_size l dC dI cI cB cR cO zk al ed 4 (.int mc) s.heap.size ) (cwV 0 hts gX4_isNoRow_Jx4a65c_size_8abf5 rfl rfl rfl (by decide +kernel) ⟨Nat.le_of_ble_eq_true rfl, Nat.le_of_ble_eq_true rfl⟩) ⟨zblind, (zrecv_4 hK hPc (q0 := 0) rfl), hpre⟩ rfl rfl hl.1 rfl (lv_room (Nat.le_of_ble_eq_true rfl)) dX4_isNoRow_6 ⟨Nat.le_of_ble_eq_true rfl, Nat.le_of_ble_eq_true rfl⟩) hS (fun q _ h => hFc q h) hFc (fun r2 u t H1 locs ht hvm hw hB hz1 hk1 hS => ?_)
  obtain rfl : 4 = r2 := (show r2 = 4 from hw).symm
  obtain ⟨hP1, hK1, hD1, hz2⟩ := hB
  rw [ht] at hP1 hz2
  have hPD9 := va_join (wr := [(mo, .inr (9, [th, .ref al, md, rf, kn]))]) (w1 := [(al, .inr (4, [.int mc, .ref ed, .int 4]))]) hP hD [1] [0] rfl rfl (by decide) (by decide) hk1 hFc hP1 hD1
  clear hPc hDc hFc hDv hpre hP hD hP1 hK1 hD1
  obtain ⟨hP, hD⟩ := hPD9
  replace hz : s.heap.size + 0 ≤ H1.size := by omega
  clear hz2
  replace hP : va_P (dC, dI) vwCl [(mo, .inr (9, [th, .ref al, md, rf, kn])), (al, .inr (4, [.int mc, .ref ed, .int 4]))] H1 := hP
  replace hD : va_D A [(mo, .inr (9, [th, .ref al, md, rf, kn])), (al, .inr (4, [.int mc, .ref ed, .int 4]))] := hD
  refine W.widen (k := 0) (n := 0) (by omega) (by omega) ?_
  refine lv_iconst (v := 1) hx hb dX4_isNoRow_9 (by decide) ?_
  refine lv_isub hx hb dX4_isNoRow_10 ?_
  refine lv_topi (fun v3 ev3 => ?_)
  obtain rfl : v3 = 3 := ev3.trans (by decide)
  have hPc := hP.sub (ws' := []) [] rfl
  have hDc := hD.sub (ws' := []) [] (by decide) rfl
  have hFc := va_free (wc := []) hD hS hA [] rfl
  have hDv := hDc.self (sz := H1.size)
  have hpre := zpre (xs' := []) (av := [.int 2, .int 0, .int 3]) hPc hK (hDc.weaken (fun _ _ _ h => h)) hZ hS hFc (fun r hr => by cases hr)
  refine va_calli (va_runS (As := [.int 2, .int 0, .int 3]) (rest := []) ⟨hx, hb, hml, hown, hts⟩ (k_isIn2_3 l dC dI cI cB cR cO zk  H1.size ) (va_cwS 3 hts gX4_isNoRow_X4_isIn rfl rfl rfl (by decide +kernel) ⟨Nat.le_of_ble_eq_true rfl, Nat.le_of_ble_eq_true rfl⟩) ⟨zblind, hpre⟩ rfl rfl hl.1 rfl (lv_room (Nat.le_of_ble_eq_true rfl)) dX4_isNoRow_11 ⟨Nat.le_of_ble_eq_true rfl, Nat.le_of_ble_eq_true rfl⟩) hS (fun q _ h => hFc q h) hFc (fun r5 u t H4 locs ht hvm hw hB hz1 hk1 hS => ?_)
  obtain rfl : 1 = r5 := (show r5 = 1 from hw).symm
  obtain ⟨hP1, hK1, hD1, hz2⟩ := hB
  rw [ht] at hP1 hz2
  have hPD9 := va_join (wr := [(mo, .inr (9, [th, .ref al, md, rf, kn])), (al, .inr (4, [.int mc, .ref ed, .int 4]))]) (w1 := []) hP hD [] [0, 1] rfl rfl (by decide) (by decide) hk1 hFc hP1 hD1
  clear hPc hDc hFc hDv hpre hP hD hP1 hK1 hD1
  obtain ⟨hP, hD⟩ := hPD9
  replace hz : s.heap.size + 0 ≤ H4.size := by omega
  clear hz2
  replace hP : va_P (dC, dI) vwCl [(mo, .inr (9, [th, .ref al, md, rf, kn])), (al, .inr (4, [.int mc, .ref ed, .int 4]))] H4 := hP
  replace hD : va_D A [(mo, .inr (9, [th, .ref al, md, rf, kn])), (al, .inr (4, [.int mc, .ref ed, .int 4]))] := hD
  refine W.widen (k := 0) (n := 0) (by omega) (by omega) ?_
  refine lv_if_ne (tgt := 21) hx hb dX4_isNoRow_14 (by decide) (fun c9 => ?_) (fun c9 => ?_)
  rotate_left
  · exact absurd c9 (by decide)
  refine lv_iconst (v := 0) hx hb dX4_isNoRow_21 (by decide) ?_
  have hP9 := hP.sub (ws' := [(mo, .inr (9, [th, .ref al, md, rf, kn])), (al, .inr (4, [.int mc, .ref ed, .int 4]))]) [0, 1] rfl
  have hD9 := hD.sub (ws' := [(mo, .inr (9, [th, .ref al, md, rf, kn])), (al, .inr (4, [.int mc, .ref ed, .int 4]))]) [0, 1] (by decide) rfl
  exact W.zret (v := 0) hx hb hr (by decide +kernel) (fun t ht hW => ⟨⟨_, (), rfl, rfl, ⟨by rw [ht]; exact hP9, va_K.moved hW.alike hK, hD9, by rw [ht]; exact hz⟩⟩, hS.F ht⟩) hS.2.2 dX4_isNoRow_22

set_option maxHeartbeats 4000000 in
set_option maxRecDepth 100000 in
theorem k_nR3_4 (l : Launch) (dC : Nat → ClassId) (dI : Nat → Nat → Nat) (cI cB cR cO : ClassId) (zk : Nat → Nat) (mo al : Nat) (th md rf kn : Value) (ed : Nat) (ee : Nat → Option Nat) (mc : Int32) (sz : Nat)  : Met l yX4_isNoRow wsX4_isNoRow ({ frames := 1, cells := 0, slots := 0, locals := 22 }) (va_Pc [.ref mo, .int 3] (zPre (dC, dI) (zT cI cB cR cO) zk [] [(mo, .inr (9, [th, .ref al, md, rf, kn])), (al, .inr (4, [.int mc, .ref ed, .int 4]))] sz)) (va_Qi (fun r (_ : Unit) => r = 0) (fun _ t => zEnd (dC, dI) (zT cI cB cR cO) (va_A [(mo, .inr (9, [th, .ref al, md, rf, kn])), (al, .inr (4, [.int mc, .ref ed, .int 4]))] sz) [(mo, .inr (9, [th, .ref al, md, rf, kn])), (al, .inr (4, [.int mc, .ref ed, .int 4]))] sz 0 t) (va_A [(mo, .inr (9, [th, .ref al, md, rf, kn])), (al, .inr (4, [.int mc, .ref ed, .int 4]))] sz)) 0 0 (va_A [(mo, .inr (9, [th, .ref al, md, rf, kn])), (al, .inr (4, [.int mc, .ref ed, .int 4]))] sz) := by
  refine Met.ofW (cc := cX4_isNoRow) (maxL := 2) (ret := (some .boolean)) (by decide) rfl ?_
  intro p e s mY args below meth c s₁ B hml hv
  obtain ⟨rfl, hsz, hP, hK, hD0, hZ⟩ := hv
  have hx := B.exec
  have hb := B.bytes
  have hr := B.returns
  have hts := atoms_spec (ws := wsX4_isNoRow) B.pre
  have hown : s.vm.findClass RX4 = some mY.cls := findClass_of_methodNamed B.named
  have hlocks := B.notSynchronized
  subst hsz
  have hD := hD0.self (sz := s.heap.size)
  generalize hAe : va_A [(mo, .inr (9, [th, .ref al, md, rf, kn])), (al, .inr (4, [.int mc, .ref ed, .int 4]))] s.heap.size = A at hD hZ ⊢
  have hA : ∀ q : Nat, s.heap.size ≤ q → A q := fun q h => by rw [← hAe]; exact Or.inr h
  have hS : va_S A s.heap s.heap [] := va_S.rf
  have hz : s.heap.size + 0 ≤ s.heap.size := Nat.le_refl _
  have hl := lv_entry ([.ref mo, .int 3]) (n := 2) (Nat.le_of_ble_eq_true rfl)
  rw [lg_entry_eq]
  generalize (lg_sl ([.ref mo, .int 3]) ++ List.replicate (2 - (lg_sl ([.ref mo, .int 3])).length) Slot.unset).toArray = ls at hl ⊢
  have hl : lv_has ls 2 [(0, .ref mo), (1, .int 3)] := hl
  have hP : va_P (dC, dI) vwCl [(mo, .inr (9, [th, .ref al, md, rf, kn])), (al, .inr (4, [.int mc, .ref ed, .int 4]))] s.heap := hP
  have hD : va_D A [(mo, .inr (9, [th, .ref al, md, rf, kn])), (al, .inr (4, [.int mc, .ref ed, .int 4]))] := hD
  refine lv_iload_n hx hb dX4_isNoRow_0 rfl (lv_at hl 1 rfl) ?_
  refine lv_iconst (v := 0) hx hb dX4_isNoRow_1 (by decide) ?_
  refine lv_aload_n hx hb dX4_isNoRow_2 rfl (lv_at hl 0 rfl) ?_
  refine va_get (D := (dC, dI)) (ci := 9) (v := .ref al) (C := RX4) (T := TX4) (N := 5) hx hb hts hi_X4_isNoRow_X4 hown hK hP 0 rfl rfl 1 (by decide) (hts (.fieldLink RX4 10 "DeeprowsModel" "rows" "Ljava/util/ArrayList;") (List.mem_cons_of_mem _ zw_1134)) (fun _ h9 => h9) rfl dX4_isNoRow_3 ?_
  have hPc := hP.sub (ws' := [(al, .inr (4, [.int mc, .ref ed, .int 4]))]) [1] rfl
  have hDc := hD.sub (ws' := [(al, .inr (4, [.int mc, .ref ed, .int 4]))]) [1] (by decide) rfl
  have hFc := va_free (wc := [(al, .inr (4, [.int mc, .ref ed, .int 4]))]) hD hS hA [1] rfl
  have hDv := hDc.self (sz := s.heap.size)
  have hpre := zpre (xs' := []) (av := [.ref al]) hPc hK (hDc.weaken (fun _ _ _ h => h)) hZ hS hFc (fun r hr => by cases hr)
  refine va_calli (va_runV (As := []) (rest := [.int 0, .int 3]) ⟨hx, hb, hml, hown, hts⟩ (k_size l dC dI cI cB cR cO zk al ed 4 (.int mc) s.heap.size ) (cwV 0 hts gX4_isNoRow_Jx4a65c_size_8abf5 rfl rfl rfl (by decide +kernel) ⟨Nat.le_of_ble_eq_true rfl, Nat.le_of_ble_eq_true rfl⟩) ⟨zblind, (zrecv_4 hK hPc (q0 := 0) rfl), hpre⟩ rfl rfl hl.1 rfl (lv_room (Nat.le_of_ble_eq_true rfl)) dX4_isNoRow_6 ⟨Nat.le_of_ble_eq_true rfl, Nat.le_of_ble_eq_true rfl⟩) hS (fun q _ h => hFc q h) hFc (fun r2 u t H1 locs ht hvm hw hB hz1 hk1 hS => ?_)
  obtain rfl : 4 = r2 := (show r2 = 4 from hw).symm
  obtain ⟨hP1, hK1, hD1, hz2⟩ := hB
  rw [ht] at hP1 hz2
  have hPD9 := va_join (wr := [(mo, .inr (9, [th, .ref al, md, rf, kn]))]) (w1 := [(al, .inr (4, [.int mc, .ref ed, .int 4]))]) hP hD [1] [0] rfl rfl (by decide) (by decide) hk1 hFc hP1 hD1
  clear hPc hDc hFc hDv hpre hP hD hP1 hK1 hD1
  obtain ⟨hP, hD⟩ := hPD9
  replace hz : s.heap.size + 0 ≤ H1.size := by omega
  clear hz2
  replace hP : va_P (dC, dI) vwCl [(mo, .inr (9, [th, .ref al, md, rf, kn])), (al, .inr (4, [.int mc, .ref ed, .int 4]))] H1 := hP
  replace hD : va_D A [(mo, .inr (9, [th, .ref al, md, rf, kn])), (al, .inr (4, [.int mc, .ref ed, .int 4]))] := hD
  refine W.widen (k := 0) (n := 0) (by omega) (by omega) ?_
  refine lv_iconst (v := 1) hx hb dX4_isNoRow_9 (by decide) ?_
  refine lv_isub hx hb dX4_isNoRow_10 ?_
  refine lv_topi (fun v3 ev3 => ?_)
  obtain rfl : v3 = 3 := ev3.trans (by decide)
  have hPc := hP.sub (ws' := []) [] rfl
  have hDc := hD.sub (ws' := []) [] (by decide) rfl
  have hFc := va_free (wc := []) hD hS hA [] rfl
  have hDv := hDc.self (sz := H1.size)
  have hpre := zpre (xs' := []) (av := [.int 3, .int 0, .int 3]) hPc hK (hDc.weaken (fun _ _ _ h => h)) hZ hS hFc (fun r hr => by cases hr)
  refine va_calli (va_runS (As := [.int 3, .int 0, .int 3]) (rest := []) ⟨hx, hb, hml, hown, hts⟩ (k_isIn3_3 l dC dI cI cB cR cO zk  H1.size ) (va_cwS 3 hts gX4_isNoRow_X4_isIn rfl rfl rfl (by decide +kernel) ⟨Nat.le_of_ble_eq_true rfl, Nat.le_of_ble_eq_true rfl⟩) ⟨zblind, hpre⟩ rfl rfl hl.1 rfl (lv_room (Nat.le_of_ble_eq_true rfl)) dX4_isNoRow_11 ⟨Nat.le_of_ble_eq_true rfl, Nat.le_of_ble_eq_true rfl⟩) hS (fun q _ h => hFc q h) hFc (fun r5 u t H4 locs ht hvm hw hB hz1 hk1 hS => ?_)
  obtain rfl : 1 = r5 := (show r5 = 1 from hw).symm
  obtain ⟨hP1, hK1, hD1, hz2⟩ := hB
  rw [ht] at hP1 hz2
  have hPD9 := va_join (wr := [(mo, .inr (9, [th, .ref al, md, rf, kn])), (al, .inr (4, [.int mc, .ref ed, .int 4]))]) (w1 := []) hP hD [] [0, 1] rfl rfl (by decide) (by decide) hk1 hFc hP1 hD1
  clear hPc hDc hFc hDv hpre hP hD hP1 hK1 hD1
  obtain ⟨hP, hD⟩ := hPD9
  replace hz : s.heap.size + 0 ≤ H4.size := by omega
  clear hz2
  replace hP : va_P (dC, dI) vwCl [(mo, .inr (9, [th, .ref al, md, rf, kn])), (al, .inr (4, [.int mc, .ref ed, .int 4]))] H4 := hP
  replace hD : va_D A [(mo, .inr (9, [th, .ref al, md, rf, kn])), (al, .inr (4, [.int mc, .ref ed, .int 4]))] := hD
  refine W.widen (k := 0) (n := 0) (by omega) (by omega) ?_
  refine lv_if_ne (tgt := 21) hx hb dX4_isNoRow_14 (by decide) (fun c9 => ?_) (fun c9 => ?_)
  rotate_left
  · exact absurd c9 (by decide)
  refine lv_iconst (v := 0) hx hb dX4_isNoRow_21 (by decide) ?_
  have hP9 := hP.sub (ws' := [(mo, .inr (9, [th, .ref al, md, rf, kn])), (al, .inr (4, [.int mc, .ref ed, .int 4]))]) [0, 1] rfl
  have hD9 := hD.sub (ws' := [(mo, .inr (9, [th, .ref al, md, rf, kn])), (al, .inr (4, [.int mc, .ref ed, .int 4]))]) [0, 1] (by decide) rfl
  exact W.zret (v := 0) hx hb hr (by decide +kernel) (fun t ht hW => ⟨⟨_, (), rfl, rfl, ⟨by rw [ht]; exact hP9, va_K.moved hW.alike hK, hD9, by rw [ht]; exact hz⟩⟩, hS.F ht⟩) hS.2.2 dX4_isNoRow_22

theorem hi_X4_make_X4 : ∀ w ∈ u_ws RX4 TX4 5, w ∈ wsX4_make := fun w h => List.mem_cons_of_mem _ (zhi_X4 w h)
theorem hi_X4_make_X3 : ∀ w ∈ u_ws RX3 TX3 3, w ∈ wsX4_make := fun w h => List.mem_cons_of_mem _ (zhi_X3 w h)
set_option maxHeartbeats 4000000 in
set_option maxRecDepth 100000 in
theorem k_mkM0 (l : Launch) (dC : Nat → ClassId) (dI : Nat → Nat → Nat) (cI cB cR cO : ClassId) (zk : Nat → Nat) (mo al : Nat) (th md rf kn : Value) (ed : Nat) (ee : Nat → Option Nat) (mc : Int32) (sz : Nat)  : Met l yX4_make wsX4_make ({ frames := 5, cells := 4, slots := 21, locals := 127 }) (va_Pc [.ref mo, .int 4, .int 4] (zPre (dC, dI) (zT cI cB cR cO) zk [] [(mo, .inr (9, [th, .ref al, md, rf, kn])), (al, .inr (4, [.int mc, .ref (zk 0), .int 0]))] sz)) (va_Qi (fun r (_ : Unit) => r = 0) (fun _ t => ∃ ed2, ∃ (mc2 : Int32), ∃ a, ∃ wa, ∃ na, ∃ (fw : Nat → Int32), ∃ (fn : Nat → Int32), zEnd (dC, dI) (zT cI cB cR cO) (va_A [(mo, .inr (9, [th, .ref al, md, rf, kn])), (al, .inr (4, [.int mc, .ref (zk 0), .int 0]))] sz) [(mo, .inr (9, [.int 0, .ref al, md, rf, kn])), (al, .inr (4, [.int mc2, .ref ed2, .int 1])), (ed2, .inl (cO, 10, .inr (.inr (.inr (.inr (va_up (fun _ => none) 0 (some a))))))), (a, .inr (8, [.int 4, .ref wa, .ref na])), (wa, .inl (cI, 4, .inl fw)), (na, .inl (cI, 4, .inl fn))] sz 4 t ∧ (∀ i, i < 4 → fw i = 0) ∧ (∀ i, i < 4 → fn i = -1)) (va_A [(mo, .inr (9, [th, .ref al, md, rf, kn])), (al, .inr (4, [.int mc, .ref (zk 0), .int 0]))] sz)) 4 21 (va_A [(mo, .inr (9, [th, .ref al, md, rf, kn])), (al, .inr (4, [.int mc, .ref (zk 0), .int 0]))] sz) := by
  refine Met.ofW (cc := cX4_make) (maxL := 3) (ret := (some .int)) (by decide) rfl ?_
  intro p e s mY args below meth c s₁ B hml hv
  obtain ⟨rfl, hsz, hP, hK, hD0, hZ⟩ := hv
  have hx := B.exec
  have hb := B.bytes
  have hr := B.returns
  have hts := atoms_spec (ws := wsX4_make) B.pre
  have hown : s.vm.findClass RX4 = some mY.cls := findClass_of_methodNamed B.named
  have hlocks := B.notSynchronized
  subst hsz
  have hD := hD0.self (sz := s.heap.size)
  generalize hAe : va_A [(mo, .inr (9, [th, .ref al, md, rf, kn])), (al, .inr (4, [.int mc, .ref (zk 0), .int 0]))] s.heap.size = A at hD hZ ⊢
  have hA : ∀ q : Nat, s.heap.size ≤ q → A q := fun q h => by rw [← hAe]; exact Or.inr h
  have hS : va_S A s.heap s.heap [] := va_S.rf
  have hz : s.heap.size + 0 ≤ s.heap.size := Nat.le_refl _
  have hl := lv_entry ([.ref mo, .int 4, .int 4]) (n := 3) (Nat.le_of_ble_eq_true rfl)
  rw [lg_entry_eq]
  generalize (lg_sl ([.ref mo, .int 4, .int 4]) ++ List.replicate (3 - (lg_sl ([.ref mo, .int 4, .int 4])).length) Slot.unset).toArray = ls at hl ⊢
  have hl : lv_has ls 3 [(0, .ref mo), (1, .int 4), (2, .int 4)] := hl
  have hP : va_P (dC, dI) vwCl [(mo, .inr (9, [th, .ref al, md, rf, kn])), (al, .inr (4, [.int mc, .ref (zk 0), .int 0]))] s.heap := hP
  have hD : va_D A [(mo, .inr (9, [th, .ref al, md, rf, kn])), (al, .inr (4, [.int mc, .ref (zk 0), .int 0]))] := hD
  refine lv_aload_n hx hb dX4_make_0 rfl (lv_at hl 0 rfl) ?_
  refine lv_iload_n hx hb dX4_make_1 rfl (lv_at hl 1 rfl) ?_
  refine lv_iconst (v := 0) hx hb dX4_make_2 (by decide) ?_
  refine lv_iconst (v := 4) hx hb dX4_make_3 (by decide) ?_
  have hPc := hP.sub (ws' := []) [] rfl
  have hDc := hD.sub (ws' := []) [] (by decide) rfl
  have hFc := va_free (wc := []) hD hS hA [] rfl
  have hDv := hDc.self (sz := s.heap.size)
  have hpre := zpre (xs' := []) (av := [.int 4, .int 0, .int 4]) hPc hK (hDc.weaken (fun _ _ _ h => h)) hZ hS hFc (fun r hr => by cases hr)
  refine va_calli (va_runS (As := [.int 4, .int 0, .int 4]) (rest := [.ref mo]) ⟨hx, hb, hml, hown, hts⟩ (k_isIn4 l dC dI cI cB cR cO zk  s.heap.size ) (va_cwS 3 hts gX4_make_X4_isIn rfl rfl rfl (by decide +kernel) ⟨Nat.le_of_ble_eq_true rfl, Nat.le_of_ble_eq_true rfl⟩) ⟨zblind, hpre⟩ rfl rfl hl.1 rfl (lv_room (Nat.le_of_ble_eq_true rfl)) dX4_make_4 ⟨Nat.le_of_ble_eq_true rfl, Nat.le_of_ble_eq_true rfl⟩) hS (fun q _ h => hFc q h) hFc (fun r2 u t H1 locs ht hvm hw hB hz1 hk1 hS => ?_)
  obtain rfl : 1 = r2 := (show r2 = 1 from hw).symm
  obtain ⟨hP1, hK1, hD1, hz2⟩ := hB
  rw [ht] at hP1 hz2
  have hPD9 := va_join (wr := [(mo, .inr (9, [th, .ref al, md, rf, kn])), (al, .inr (4, [.int mc, .ref (zk 0), .int 0]))]) (w1 := []) hP hD [] [0, 1] rfl rfl (by decide) (by decide) hk1 hFc hP1 hD1
  clear hPc hDc hFc hDv hpre hP hD hP1 hK1 hD1
  obtain ⟨hP, hD⟩ := hPD9
  replace hz : s.heap.size + 0 ≤ H1.size := by omega
  clear hz2
  replace hP : va_P (dC, dI) vwCl [(mo, .inr (9, [th, .ref al, md, rf, kn])), (al, .inr (4, [.int mc, .ref (zk 0), .int 0]))] H1 := hP
  replace hD : va_D A [(mo, .inr (9, [th, .ref al, md, rf, kn])), (al, .inr (4, [.int mc, .ref (zk 0), .int 0]))] := hD
  refine W.widen (k := 0) (n := 0) (by omega) (by omega) ?_
  refine lv_if_eq (tgt := 19) hx hb dX4_make_7 (by decide) (fun c9 => ?_) (fun c9 => ?_)
  · exact absurd c9 (by decide)
  refine lv_iload_n hx hb dX4_make_10 rfl (lv_at hl 2 rfl) ?_
  refine lv_iconst (v := 0) hx hb dX4_make_11 (by decide) ?_
  refine lv_iconst (v := 4) hx hb dX4_make_12 (by decide) ?_
  have hPc := hP.sub (ws' := []) [] rfl
  have hDc := hD.sub (ws' := []) [] (by decide) rfl
  have hFc := va_free (wc := []) hD hS hA [] rfl
  have hDv := hDc.self (sz := H1.size)
  have hpre := zpre (xs' := []) (av := [.int 4, .int 0, .int 4]) hPc hK (hDc.weaken (fun _ _ _ h => h)) hZ hS hFc (fun r hr => by cases hr)
  refine va_calli (va_runS (As := [.int 4, .int 0, .int 4]) (rest := [.ref mo]) ⟨hx, hb, hml, hown, hts⟩ (k_isIn4 l dC dI cI cB cR cO zk  H1.size ) (va_cwS 3 hts gX4_make_X4_isIn rfl rfl rfl (by decide +kernel) ⟨Nat.le_of_ble_eq_true rfl, Nat.le_of_ble_eq_true rfl⟩) ⟨zblind, hpre⟩ rfl rfl hl.1 rfl (lv_room (Nat.le_of_ble_eq_true rfl)) dX4_make_13 ⟨Nat.le_of_ble_eq_true rfl, Nat.le_of_ble_eq_true rfl⟩) hS (fun q _ h => hFc q h) hFc (fun r4 u t H3 locs ht hvm hw hB hz1 hk1 hS => ?_)
  obtain rfl : 1 = r4 := (show r4 = 1 from hw).symm
  obtain ⟨hP1, hK1, hD1, hz2⟩ := hB
  rw [ht] at hP1 hz2
  have hPD9 := va_join (wr := [(mo, .inr (9, [th, .ref al, md, rf, kn])), (al, .inr (4, [.int mc, .ref (zk 0), .int 0]))]) (w1 := []) hP hD [] [0, 1] rfl rfl (by decide) (by decide) hk1 hFc hP1 hD1
  clear hPc hDc hFc hDv hpre hP hD hP1 hK1 hD1
  obtain ⟨hP, hD⟩ := hPD9
  replace hz : s.heap.size + 0 ≤ H3.size := by omega
  clear hz2
  replace hP : va_P (dC, dI) vwCl [(mo, .inr (9, [th, .ref al, md, rf, kn])), (al, .inr (4, [.int mc, .ref (zk 0), .int 0]))] H3 := hP
  replace hD : va_D A [(mo, .inr (9, [th, .ref al, md, rf, kn])), (al, .inr (4, [.int mc, .ref (zk 0), .int 0]))] := hD
  refine W.widen (k := 0) (n := 0) (by omega) (by omega) ?_
  refine lv_if_ne (tgt := 23) hx hb dX4_make_16 (by decide) (fun c9 => ?_) (fun c9 => ?_)
  rotate_left
  · exact absurd c9 (by decide)
  refine lv_iconst (v := 0) hx hb dX4_make_23 (by decide) ?_
  refine lv_iconst (v := 1) hx hb dX4_make_24 (by decide) ?_
  have hPc := hP.sub (ws' := [(mo, .inr (9, [th, .ref al, md, rf, kn]))]) [0] rfl
  have hDc := hD.sub (ws' := [(mo, .inr (9, [th, .ref al, md, rf, kn]))]) [0] (by decide) rfl
  have hFc := va_free (wc := [(mo, .inr (9, [th, .ref al, md, rf, kn]))]) hD hS hA [0] rfl
  have hDv := hDc.self (sz := H3.size)
  have hpre := zpre (xs' := []) (av := [.ref mo, .int 0, .int 1]) hPc hK (hDc.weaken (fun _ _ _ h => h)) hZ hS hFc (fun r hr => by cases hr)
  refine va_calli (va_runV (As := [.int 0, .int 1]) (rest := []) ⟨hx, hb, hml, hown, hts⟩ (k_stt l dC dI cI cB cR cO zk mo al th md rf kn 1 H3.size ) (cwV 2 hts gX4_make_X4_start rfl rfl rfl (by decide +kernel) ⟨Nat.le_of_ble_eq_true rfl, Nat.le_of_ble_eq_true rfl⟩) ⟨zblind, (zrecv_9 hK hPc (q0 := 0) rfl), hpre⟩ rfl rfl hl.1 rfl (lv_room (Nat.le_of_ble_eq_true rfl)) dX4_make_25 ⟨Nat.le_of_ble_eq_true rfl, Nat.le_of_ble_eq_true rfl⟩) hS (fun q _ h => hFc q h) hFc (fun r6 u t H5 locs ht hvm hw hB hz1 hk1 hS => ?_)
  obtain rfl : 0 = r6 := (show r6 = 0 from hw).symm
  obtain ⟨hP1, hK1, hD1, hz2⟩ := hB
  rw [ht] at hP1 hz2
  have hPD9 := va_join (wr := [(al, .inr (4, [.int mc, .ref (zk 0), .int 0]))]) (w1 := [(mo, .inr (9, [.int 0, .ref al, md, rf, kn]))]) hP hD [0] [1] rfl rfl (by decide) (by decide) hk1 hFc hP1 hD1
  clear hPc hDc hFc hDv hpre hP hD hP1 hK1 hD1
  obtain ⟨hP, hD⟩ := hPD9
  replace hz : s.heap.size + 0 ≤ H5.size := by omega
  clear hz2
  replace hP : va_P (dC, dI) vwCl [(al, .inr (4, [.int mc, .ref (zk 0), .int 0])), (mo, .inr (9, [.int 0, .ref al, md, rf, kn]))] H5 := hP
  replace hD : va_D A [(al, .inr (4, [.int mc, .ref (zk 0), .int 0])), (mo, .inr (9, [.int 0, .ref al, md, rf, kn]))] := hD
  refine W.widen (k := 0) (n := 0) (by omega) (by omega) ?_
  refine lv_if_ne (tgt := 56) hx hb dX4_make_28 (by decide) (fun c9 => ?_) (fun c9 => ?_)
  · exact absurd (by decide) c9
  refine lv_aload_n hx hb dX4_make_31 rfl (lv_at hl 0 rfl) ?_
  refine lv_aload_n hx hb dX4_make_32 rfl (lv_at hl 0 rfl) ?_
  refine va_get (D := (dC, dI)) (ci := 9) (v := .ref al) (C := RX4) (T := TX4) (N := 5) hx hb hts hi_X4_make_X4 hown hK hP 1 rfl rfl 1 (by decide) (hts (.fieldLink RX4 10 "DeeprowsModel" "rows" "Ljava/util/ArrayList;") (List.mem_cons_of_mem _ zw_1134)) (fun _ h9 => h9) rfl dX4_make_33 ?_
  have hPc := hP.sub (ws' := [(al, .inr (4, [.int mc, .ref (zk 0), .int 0]))]) [0] rfl
  have hDc := hD.sub (ws' := [(al, .inr (4, [.int mc, .ref (zk 0), .int 0]))]) [0] (by decide) rfl
  have hFc := va_free (wc := [(al, .inr (4, [.int mc, .ref (zk 0), .int 0]))]) hD hS hA [0] rfl
  have hDv := hDc.self (sz := H5.size)
  have hpre := zpre (xs' := []) (av := [.ref al]) hPc hK (hDc.weaken (fun _ _ _ h => h)) hZ hS hFc (fun r hr => by cases hr)
  refine va_calli (va_runV (As := []) (rest := [.ref mo]) ⟨hx, hb, hml, hown, hts⟩ (k_size l dC dI cI cB cR cO zk al (zk 0) 0 (.int mc) H5.size ) (cwV 0 hts gX4_make_Jx4a65c_size_8abf5 rfl rfl rfl (by decide +kernel) ⟨Nat.le_of_ble_eq_true rfl, Nat.le_of_ble_eq_true rfl⟩) ⟨zblind, (zrecv_4 hK hPc (q0 := 0) rfl), hpre⟩ rfl rfl hl.1 rfl (lv_room (Nat.le_of_ble_eq_true rfl)) dX4_make_36 ⟨Nat.le_of_ble_eq_true rfl, Nat.le_of_ble_eq_true rfl⟩) hS (fun q _ h => hFc q h) hFc (fun r8 u t H7 locs ht hvm hw hB hz1 hk1 hS => ?_)
  obtain rfl : 0 = r8 := (show r8 = 0 from hw).symm
  obtain ⟨hP1, hK1, hD1, hz2⟩ := hB
  rw [ht] at hP1 hz2
  have hPD9 := va_join (wr := [(mo, .inr (9, [.int 0, .ref al, md, rf, kn]))]) (w1 := [(al, .inr (4, [.int mc, .ref (zk 0), .int 0]))]) hP hD [0] [1] rfl rfl (by decide) (by decide) hk1 hFc hP1 hD1
  clear hPc hDc hFc hDv hpre hP hD hP1 hK1 hD1
  obtain ⟨hP, hD⟩ := hPD9
  replace hz : s.heap.size + 0 ≤ H7.size := by omega
  clear hz2
  replace hP : va_P (dC, dI) vwCl [(mo, .inr (9, [.int 0, .ref al, md, rf, kn])), (al, .inr (4, [.int mc, .ref (zk 0), .int 0]))] H7 := hP
  replace hD : va_D A [(mo, .inr (9, [.int 0, .ref al, md, rf, kn])), (al, .inr (4, [.int mc, .ref (zk 0), .int 0]))] := hD
  refine W.widen (k := 0) (n := 0) (by omega) (by omega) ?_
  refine lv_bipush (v := 12) hx hb dX4_make_39 (by decide) ?_
  refine lv_icmp_ne (tgt := 48) hx hb dX4_make_41 (by decide) (fun c9 => ?_) (fun c9 => ?_)
  rotate_left
  · exact absurd c9 (by decide)
  refine lv_iconst (v := 0) hx hb dX4_make_48 (by decide) ?_
  refine lv_iconst (v := 2) hx hb dX4_make_49 (by decide) ?_
  have hPc := hP.sub (ws' := [(mo, .inr (9, [.int 0, .ref al, md, rf, kn]))]) [0] rfl
  have hDc := hD.sub (ws' := [(mo, .inr (9, [.int 0, .ref al, md, rf, kn]))]) [0] (by decide) rfl
  have hFc := va_free (wc := [(mo, .inr (9, [.int 0, .ref al, md, rf, kn]))]) hD hS hA [0] rfl
  have hDv := hDc.self (sz := H7.size)
  have hpre := zpre (xs' := []) (av := [.ref mo, .int 0, .int 2]) hPc hK (hDc.weaken (fun _ _ _ h => h)) hZ hS hFc (fun r hr => by cases hr)
  refine va_calli (va_runV (As := [.int 0, .int 2]) (rest := []) ⟨hx, hb, hml, hown, hts⟩ (k_ref l dC dI cI cB cR cO zk mo al md rf kn 2 H7.size ) (cwV 2 hts gX4_make_X4_refuse rfl rfl rfl (by decide +kernel) ⟨Nat.le_of_ble_eq_true rfl, Nat.le_of_ble_eq_true rfl⟩) ⟨zblind, (zrecv_9 hK hPc (q0 := 0) rfl), hpre⟩ rfl rfl hl.1 rfl (lv_room (Nat.le_of_ble_eq_true rfl)) dX4_make_50 ⟨Nat.le_of_ble_eq_true rfl, Nat.le_of_ble_eq_true rfl⟩) hS (fun q _ h => hFc q h) hFc (fun r10 u t H9 locs ht hvm hw hB hz1 hk1 hS => ?_)
  obtain rfl : 0 = r10 := (show r10 = 0 from hw).symm
  obtain ⟨hP1, hK1, hD1, hz2⟩ := hB
  rw [ht] at hP1 hz2
  have hPD9 := va_join (wr := [(al, .inr (4, [.int mc, .ref (zk 0), .int 0]))]) (w1 := [(mo, .inr (9, [.int 0, .ref al, md, rf, kn]))]) hP hD [0] [1] rfl rfl (by decide) (by decide) hk1 hFc hP1 hD1
  clear hPc hDc hFc hDv hpre hP hD hP1 hK1 hD1
  obtain ⟨hP, hD⟩ := hPD9
  replace hz : s.heap.size + 0 ≤ H9.size := by omega
  clear hz2
  replace hP : va_P (dC, dI) vwCl [(al, .inr (4, [.int mc, .ref (zk 0), .int 0])), (mo, .inr (9, [.int 0, .ref al, md, rf, kn]))] H9 := hP
  replace hD : va_D A [(al, .inr (4, [.int mc, .ref (zk 0), .int 0])), (mo, .inr (9, [.int 0, .ref al, md, rf, kn]))] := hD
  refine W.widen (k := 0) (n := 0) (by omega) (by omega) ?_
  refine lv_if_eq (tgt := 58) hx hb dX4_make_53 (by decide) (fun c9 => ?_) (fun c9 => ?_)
  rotate_left
  · exact absurd (by decide) c9
  refine lv_aload_n hx hb dX4_make_58 rfl (lv_at hl 0 rfl) ?_
  refine va_get (D := (dC, dI)) (ci := 9) (v := .ref al) (C := RX4) (T := TX4) (N := 5) hx hb hts hi_X4_make_X4 hown hK hP 1 rfl rfl 1 (by decide) (hts (.fieldLink RX4 10 "DeeprowsModel" "rows" "Ljava/util/ArrayList;") (List.mem_cons_of_mem _ zw_1134)) (fun _ h9 => h9) rfl dX4_make_59 ?_
  refine zw_new (ci := 8) (fs := [.int 0, .null, .null]) (C := RX3) (T := TX3) (N := 3) hx hb hts hi_X4_make_X3 tyX3 tyX3_ok hown (hts (.classLink RX4 40 "DeeprowsModel$Row") (List.mem_cons_of_mem _ zw_1165)) (hts (.instantiable RX3 3) (List.mem_cons_of_mem _ zw_1166)) (hts (.initialized RX3) (List.mem_cons_of_mem _ zw_61)) hK hP hD hS hA rfl (fun j hj => by rcases (show j = 0 ∨ j = 1 ∨ j = 2 by omega) with rfl | rfl | rfl <;> rfl) (Nat.le_of_ble_eq_true rfl) (Nat.le_of_ble_eq_true rfl) dX4_make_62 hz (fun q11 H12 hP hD hS hz => ?_)
  replace hP : va_P (dC, dI) vwCl [(al, .inr (4, [.int mc, .ref (zk 0), .int 0])), (mo, .inr (9, [.int 0, .ref al, md, rf, kn])), (q11, .inr (8, [.int 0, .null, .null]))] H12 := hP
  replace hD : va_D A [(al, .inr (4, [.int mc, .ref (zk 0), .int 0])), (mo, .inr (9, [.int 0, .ref al, md, rf, kn])), (q11, .inr (8, [.int 0, .null, .null]))] := hD
  refine W.widen (k := 1) (n := 3) (by omega) (by omega) ?_
  refine lv_dup hx hb dX4_make_65 rfl ?_
  refine lv_iload_n hx hb dX4_make_66 rfl (lv_at hl 1 rfl) ?_
  refine lv_iload_n hx hb dX4_make_67 rfl (lv_at hl 2 rfl) ?_
  have hPc := hP.sub (ws' := [(q11, .inr (8, [.int 0, .null, .null]))]) [2] rfl
  have hDc := hD.sub (ws' := [(q11, .inr (8, [.int 0, .null, .null]))]) [2] (by decide) rfl
  have hFc := va_free (wc := [(q11, .inr (8, [.int 0, .null, .null]))]) hD hS hA [2] rfl
  have hDv := hDc.self (sz := H12.size)
  have hpre := zpre (xs' := []) (av := [.ref q11, .int 4, .int 4]) hPc hK (hDc.weaken (fun _ _ _ h => h)) hZ hS hFc (fun r hr => by cases hr)
  refine va_callv (va_runI (As := [.int 4, .int 4]) (rest := [.ref q11, .ref al]) ⟨hx, hb, hml, hown, hts⟩ (k_mrin l dC dI cI cB cR cO zk q11 H12.size ) (cwI 2 hts gX4_make_X3_init rfl rfl rfl (hts (.initialized RX3) (List.mem_cons_of_mem _ zw_61)) (hts (.methodLink RX4 76 yX3_init) (List.mem_cons_of_mem _ zw_1167)) (hts (.instanceMethod yX3_init) (List.mem_cons_of_mem _ zw_1168)) rfl (by decide +kernel) ⟨Nat.le_of_ble_eq_true rfl, Nat.le_of_ble_eq_true rfl⟩) ⟨zblind, hpre⟩ rfl rfl hl.1 rfl (lv_room (Nat.le_of_ble_eq_true rfl)) dX4_make_68 ⟨Nat.le_of_ble_eq_true rfl, Nat.le_of_ble_eq_true rfl⟩) hS (fun q _ h => hFc q h) hFc (fun u t H13 locs ht hvm hw hB hz1 hk1 hS => ?_)
  obtain ⟨wa15, na16, fw17, fn18, ⟨hP1, hK1, hD1, hz2⟩, hwfw17, hnfn18⟩ := hB
  rw [ht] at hP1 hz2
  have hPD9 := va_join (wr := [(al, .inr (4, [.int mc, .ref (zk 0), .int 0])), (mo, .inr (9, [.int 0, .ref al, md, rf, kn]))]) (w1 := [(q11, .inr (8, [.int 4, .ref wa15, .ref na16])), (wa15, .inl (cI, 4, .inl fw17)), (na16, .inl (cI, 4, .inl fn18))]) hP hD [2] [0, 1] rfl rfl (by decide) (by decide) hk1 hFc hP1 hD1
  clear hPc hDc hFc hDv hpre hP hD hP1 hK1 hD1
  obtain ⟨hP, hD⟩ := hPD9
  replace hz : s.heap.size + 3 ≤ H13.size := by omega
  clear hz2
  replace hP : va_P (dC, dI) vwCl [(al, .inr (4, [.int mc, .ref (zk 0), .int 0])), (mo, .inr (9, [.int 0, .ref al, md, rf, kn])), (q11, .inr (8, [.int 4, .ref wa15, .ref na16])), (wa15, .inl (cI, 4, .inl fw17)), (na16, .inl (cI, 4, .inl fn18))] H13 := hP
  replace hD : va_D A [(al, .inr (4, [.int mc, .ref (zk 0), .int 0])), (mo, .inr (9, [.int 0, .ref al, md, rf, kn])), (q11, .inr (8, [.int 4, .ref wa15, .ref na16])), (wa15, .inl (cI, 4, .inl fw17)), (na16, .inl (cI, 4, .inl fn18))] := hD
  refine W.widen (k := 3) (n := 11) (by omega) (by omega) ?_
  have hPc := hP.sub (ws' := [(al, .inr (4, [.int mc, .ref (zk 0), .int 0])), (q11, .inr (8, [.int 4, .ref wa15, .ref na16]))]) [0, 2] rfl
  have hDc := hD.sub (ws' := [(al, .inr (4, [.int mc, .ref (zk 0), .int 0])), (q11, .inr (8, [.int 4, .ref wa15, .ref na16]))]) [0, 2] (by decide) rfl
  have hFc := va_free (wc := [(al, .inr (4, [.int mc, .ref (zk 0), .int 0])), (q11, .inr (8, [.int 4, .ref wa15, .ref na16]))]) hD hS hA [0, 2] rfl
  have hDv := hDc.self (sz := H13.size)
  have hpre := zpre (xs' := []) (av := [.ref al, .ref q11]) hPc hK (hDc.weaken (fun _ _ _ h => h)) hZ hS hFc (fun r hr => by cases hr)
  refine va_calli (va_runV (As := [.ref q11]) (rest := []) ⟨hx, hb, hml, hown, hts⟩ (k_addAX3 l dC dI cI cB cR cO zk al q11 mc wa15 na16 H13.size ) (cwV 1 hts gX4_make_Jx4a65c_add_9ea2d rfl rfl rfl (by decide +kernel) ⟨Nat.le_of_ble_eq_true rfl, Nat.le_of_ble_eq_true rfl⟩) ⟨zblind, (zrecv_4 hK hPc (q0 := 0) rfl), hpre⟩ rfl rfl hl.1 rfl (lv_room (Nat.le_of_ble_eq_true rfl)) dX4_make_71 ⟨Nat.le_of_ble_eq_true rfl, Nat.le_of_ble_eq_true rfl⟩) hS (fun q _ h => hFc q h) hFc (fun r20 u t H19 locs ht hvm hw hB hz1 hk1 hS => ?_)
  obtain rfl : 1 = r20 := (show r20 = 1 from hw).symm
  obtain ⟨ed21, mc22, ⟨hP1, hK1, hD1, hz2⟩⟩ := hB
  rw [ht] at hP1 hz2
  have hPD9 := va_join (wr := [(mo, .inr (9, [.int 0, .ref al, md, rf, kn])), (wa15, .inl (cI, 4, .inl fw17)), (na16, .inl (cI, 4, .inl fn18))]) (w1 := [(al, .inr (4, [.int mc22, .ref ed21, .int 1])), (ed21, .inl (cO, 10, .inr (.inr (.inr (.inr (va_up (fun _ => none) 0 (some q11))))))), (q11, .inr (8, [.int 4, .ref wa15, .ref na16]))]) hP hD [0, 2] [1, 3, 4] rfl rfl (by decide) (by decide) hk1 hFc hP1 hD1
  clear hPc hDc hFc hDv hpre hP hD hP1 hK1 hD1
  obtain ⟨hP, hD⟩ := hPD9
  replace hz : s.heap.size + 4 ≤ H19.size := by omega
  clear hz2
  replace hP : va_P (dC, dI) vwCl [(mo, .inr (9, [.int 0, .ref al, md, rf, kn])), (wa15, .inl (cI, 4, .inl fw17)), (na16, .inl (cI, 4, .inl fn18)), (al, .inr (4, [.int mc22, .ref ed21, .int 1])), (ed21, .inl (cO, 10, .inr (.inr (.inr (.inr (va_up (fun _ => none) 0 (some q11))))))), (q11, .inr (8, [.int 4, .ref wa15, .ref na16]))] H19 := hP
  replace hD : va_D A [(mo, .inr (9, [.int 0, .ref al, md, rf, kn])), (wa15, .inl (cI, 4, .inl fw17)), (na16, .inl (cI, 4, .inl fn18)), (al, .inr (4, [.int mc22, .ref ed21, .int 1])), (ed21, .inl (cO, 10, .inr (.inr (.inr (.inr (va_up (fun _ => none) 0 (some q11))))))), (q11, .inr (8, [.int 4, .ref wa15, .ref na16]))] := hD
  refine W.widen (k := 4) (n := 21) (by omega) (by omega) ?_
  refine lv_pop hx hb dX4_make_74 rfl ?_
  refine lv_aload_n hx hb dX4_make_75 rfl (lv_at hl 0 rfl) ?_
  refine va_get (D := (dC, dI)) (ci := 9) (v := .ref al) (C := RX4) (T := TX4) (N := 5) hx hb hts hi_X4_make_X4 hown hK hP 0 rfl rfl 1 (by decide) (hts (.fieldLink RX4 10 "DeeprowsModel" "rows" "Ljava/util/ArrayList;") (List.mem_cons_of_mem _ zw_1134)) (fun _ h9 => h9) rfl dX4_make_76 ?_
  have hPc := hP.sub (ws' := [(al, .inr (4, [.int mc22, .ref ed21, .int 1]))]) [3] rfl
  have hDc := hD.sub (ws' := [(al, .inr (4, [.int mc22, .ref ed21, .int 1]))]) [3] (by decide) rfl
  have hFc := va_free (wc := [(al, .inr (4, [.int mc22, .ref ed21, .int 1]))]) hD hS hA [3] rfl
  have hDv := hDc.self (sz := H19.size)
  have hpre := zpre (xs' := []) (av := [.ref al]) hPc hK (hDc.weaken (fun _ _ _ h => h)) hZ hS hFc (fun r hr => by cases hr)
  refine va_calli (va_runV (As := []) (rest := []) ⟨hx, hb, hml, hown, hts⟩ (k_size l dC dI cI cB cR cO zk al ed21 1 (.int mc22) H19.size ) (cwV 0 hts gX4_make_Jx4a65c_size_8abf5 rfl rfl rfl (by decide +kernel) ⟨Nat.le_of_ble_eq_true rfl, Nat.le_of_ble_eq_true rfl⟩) ⟨zblind, (zrecv_4 hK hPc (q0 := 0) rfl), hpre⟩ rfl rfl hl.1 rfl (lv_room (Nat.le_of_ble_eq_true rfl)) dX4_make_79 ⟨Nat.le_of_ble_eq_true rfl, Nat.le_of_ble_eq_true rfl⟩) hS (fun q _ h => hFc q h) hFc (fun r24 u t H23 locs ht hvm hw hB hz1 hk1 hS => ?_)
  obtain rfl : 1 = r24 := (show r24 = 1 from hw).symm
  obtain ⟨hP1, hK1, hD1, hz2⟩ := hB
  rw [ht] at hP1 hz2
  have hPD9 := va_join (wr := [(mo, .inr (9, [.int 0, .ref al, md, rf, kn])), (wa15, .inl (cI, 4, .inl fw17)), (na16, .inl (cI, 4, .inl fn18)), (ed21, .inl (cO, 10, .inr (.inr (.inr (.inr (va_up (fun _ => none) 0 (some q11))))))), (q11, .inr (8, [.int 4, .ref wa15, .ref na16]))]) (w1 := [(al, .inr (4, [.int mc22, .ref ed21, .int 1]))]) hP hD [3] [0, 1, 2, 4, 5] rfl rfl (by decide) (by decide) hk1 hFc hP1 hD1
  clear hPc hDc hFc hDv hpre hP hD hP1 hK1 hD1
  obtain ⟨hP, hD⟩ := hPD9
  replace hz : s.heap.size + 4 ≤ H23.size := by omega
  clear hz2
  replace hP : va_P (dC, dI) vwCl [(mo, .inr (9, [.int 0, .ref al, md, rf, kn])), (wa15, .inl (cI, 4, .inl fw17)), (na16, .inl (cI, 4, .inl fn18)), (ed21, .inl (cO, 10, .inr (.inr (.inr (.inr (va_up (fun _ => none) 0 (some q11))))))), (q11, .inr (8, [.int 4, .ref wa15, .ref na16])), (al, .inr (4, [.int mc22, .ref ed21, .int 1]))] H23 := hP
  replace hD : va_D A [(mo, .inr (9, [.int 0, .ref al, md, rf, kn])), (wa15, .inl (cI, 4, .inl fw17)), (na16, .inl (cI, 4, .inl fn18)), (ed21, .inl (cO, 10, .inr (.inr (.inr (.inr (va_up (fun _ => none) 0 (some q11))))))), (q11, .inr (8, [.int 4, .ref wa15, .ref na16])), (al, .inr (4, [.int mc22, .ref ed21, .int 1]))] := hD
  refine W.widen (k := 4) (n := 21) (by omega) (by omega) ?_
  refine lv_iconst (v := 1) hx hb dX4_make_82 (by decide) ?_
  refine lv_isub hx hb dX4_make_83 ?_
  refine lv_topi (fun v25 ev25 => ?_)
  obtain rfl : v25 = 0 := ev25.trans (by decide)
  have hP9 := hP.sub (ws' := [(mo, .inr (9, [.int 0, .ref al, md, rf, kn])), (al, .inr (4, [.int mc22, .ref ed21, .int 1])), (ed21, .inl (cO, 10, .inr (.inr (.inr (.inr (va_up (fun _ => none) 0 (some q11))))))), (q11, .inr (8, [.int 4, .ref wa15, .ref na16])), (wa15, .inl (cI, 4, .inl fw17)), (na16, .inl (cI, 4, .inl fn18))]) [0, 5, 3, 4, 1, 2] rfl
  have hD9 := hD.sub (ws' := [(mo, .inr (9, [.int 0, .ref al, md, rf, kn])), (al, .inr (4, [.int mc22, .ref ed21, .int 1])), (ed21, .inl (cO, 10, .inr (.inr (.inr (.inr (va_up (fun _ => none) 0 (some q11))))))), (q11, .inr (8, [.int 4, .ref wa15, .ref na16])), (wa15, .inl (cI, 4, .inl fw17)), (na16, .inl (cI, 4, .inl fn18))]) [0, 5, 3, 4, 1, 2] (by decide) rfl
  exact W.iret (v := 0) hx hb hr (fun t ht hW => ⟨⟨_, (), rfl, rfl, ⟨_, _, _, _, _, _, _, ⟨by rw [ht]; exact hP9, va_K.moved hW.alike hK, hD9, by rw [ht]; exact hz⟩, hwfw17, hnfn18⟩⟩, hS.F ht⟩) hS.2.2 dX4_make_84

set_option maxHeartbeats 4000000 in
set_option maxRecDepth 100000 in
theorem k_mkM1 (l : Launch) (dC : Nat → ClassId) (dI : Nat → Nat → Nat) (cI cB cR cO : ClassId) (zk : Nat → Nat) (mo al : Nat) (th md rf kn : Value) (ed : Nat) (ee : Nat → Option Nat) (mc : Int32) (sz : Nat)  : Met l yX4_make wsX4_make ({ frames := 2, cells := 3, slots := 11, locals := 83 }) (va_Pc [.ref mo, .int 4, .int 4] (zPre (dC, dI) (zT cI cB cR cO) zk [] [(mo, .inr (9, [th, .ref al, md, rf, kn])), (al, .inr (4, [.int mc, .ref ed, .int 1])), (ed, .inl (cO, 10, .inr (.inr (.inr (.inr ee)))))] sz)) (va_Qi (fun r (_ : Unit) => r = 1) (fun _ t => ∃ (mc2 : Int32), ∃ a, ∃ wa, ∃ na, ∃ (fw : Nat → Int32), ∃ (fn : Nat → Int32), zEnd (dC, dI) (zT cI cB cR cO) (va_A [(mo, .inr (9, [th, .ref al, md, rf, kn])), (al, .inr (4, [.int mc, .ref ed, .int 1])), (ed, .inl (cO, 10, .inr (.inr (.inr (.inr ee)))))] sz) [(mo, .inr (9, [.int 0, .ref al, md, rf, kn])), (al, .inr (4, [.int mc2, .ref ed, .int 2])), (ed, .inl (cO, 10, .inr (.inr (.inr (.inr (va_up ee 1 (some a))))))), (a, .inr (8, [.int 4, .ref wa, .ref na])), (wa, .inl (cI, 4, .inl fw)), (na, .inl (cI, 4, .inl fn))] sz 3 t ∧ (∀ i, i < 4 → fw i = 0) ∧ (∀ i, i < 4 → fn i = -1)) (va_A [(mo, .inr (9, [th, .ref al, md, rf, kn])), (al, .inr (4, [.int mc, .ref ed, .int 1])), (ed, .inl (cO, 10, .inr (.inr (.inr (.inr ee)))))] sz)) 3 11 (va_A [(mo, .inr (9, [th, .ref al, md, rf, kn])), (al, .inr (4, [.int mc, .ref ed, .int 1])), (ed, .inl (cO, 10, .inr (.inr (.inr (.inr ee)))))] sz) := by
  refine Met.ofW (cc := cX4_make) (maxL := 3) (ret := (some .int)) (by decide) rfl ?_
  intro p e s mY args below meth c s₁ B hml hv
  obtain ⟨rfl, hsz, hP, hK, hD0, hZ⟩ := hv
  have hx := B.exec
  have hb := B.bytes
  have hr := B.returns
  have hts := atoms_spec (ws := wsX4_make) B.pre
  have hown : s.vm.findClass RX4 = some mY.cls := findClass_of_methodNamed B.named
  have hlocks := B.notSynchronized
  subst hsz
  have hD := hD0.self (sz := s.heap.size)
  generalize hAe : va_A [(mo, .inr (9, [th, .ref al, md, rf, kn])), (al, .inr (4, [.int mc, .ref ed, .int 1])), (ed, .inl (cO, 10, .inr (.inr (.inr (.inr ee)))))] s.heap.size = A at hD hZ ⊢
  have hA : ∀ q : Nat, s.heap.size ≤ q → A q := fun q h => by rw [← hAe]; exact Or.inr h
  have hS : va_S A s.heap s.heap [] := va_S.rf
  have hz : s.heap.size + 0 ≤ s.heap.size := Nat.le_refl _
  have hl := lv_entry ([.ref mo, .int 4, .int 4]) (n := 3) (Nat.le_of_ble_eq_true rfl)
  rw [lg_entry_eq]
  generalize (lg_sl ([.ref mo, .int 4, .int 4]) ++ List.replicate (3 - (lg_sl ([.ref mo, .int 4, .int 4])).length) Slot.unset).toArray = ls at hl ⊢
  have hl : lv_has ls 3 [(0, .ref mo), (1, .int 4), (2, .int 4)] := hl
  have hP : va_P (dC, dI) vwCl [(mo, .inr (9, [th, .ref al, md, rf, kn])), (al, .inr (4, [.int mc, .ref ed, .int 1])), (ed, .inl (cO, 10, .inr (.inr (.inr (.inr ee)))))] s.heap := hP
  have hD : va_D A [(mo, .inr (9, [th, .ref al, md, rf, kn])), (al, .inr (4, [.int mc, .ref ed, .int 1])), (ed, .inl (cO, 10, .inr (.inr (.inr (.inr ee)))))] := hD
  refine lv_aload_n hx hb dX4_make_0 rfl (lv_at hl 0 rfl) ?_
  refine lv_iload_n hx hb dX4_make_1 rfl (lv_at hl 1 rfl) ?_
  refine lv_iconst (v := 0) hx hb dX4_make_2 (by decide) ?_
  refine lv_iconst (v := 4) hx hb dX4_make_3 (by decide) ?_
  have hPc := hP.sub (ws' := []) [] rfl
  have hDc := hD.sub (ws' := []) [] (by decide) rfl
  have hFc := va_free (wc := []) hD hS hA [] rfl
  have hDv := hDc.self (sz := s.heap.size)
  have hpre := zpre (xs' := []) (av := [.int 4, .int 0, .int 4]) hPc hK (hDc.weaken (fun _ _ _ h => h)) hZ hS hFc (fun r hr => by cases hr)
  refine va_calli (va_runS (As := [.int 4, .int 0, .int 4]) (rest := [.ref mo]) ⟨hx, hb, hml, hown, hts⟩ (k_isIn4 l dC dI cI cB cR cO zk  s.heap.size ) (va_cwS 3 hts gX4_make_X4_isIn rfl rfl rfl (by decide +kernel) ⟨Nat.le_of_ble_eq_true rfl, Nat.le_of_ble_eq_true rfl⟩) ⟨zblind, hpre⟩ rfl rfl hl.1 rfl (lv_room (Nat.le_of_ble_eq_true rfl)) dX4_make_4 ⟨Nat.le_of_ble_eq_true rfl, Nat.le_of_ble_eq_true rfl⟩) hS (fun q _ h => hFc q h) hFc (fun r2 u t H1 locs ht hvm hw hB hz1 hk1 hS => ?_)
  obtain rfl : 1 = r2 := (show r2 = 1 from hw).symm
  obtain ⟨hP1, hK1, hD1, hz2⟩ := hB
  rw [ht] at hP1 hz2
  have hPD9 := va_join (wr := [(mo, .inr (9, [th, .ref al, md, rf, kn])), (al, .inr (4, [.int mc, .ref ed, .int 1])), (ed, .inl (cO, 10, .inr (.inr (.inr (.inr ee)))))]) (w1 := []) hP hD [] [0, 1, 2] rfl rfl (by decide) (by decide) hk1 hFc hP1 hD1
  clear hPc hDc hFc hDv hpre hP hD hP1 hK1 hD1
  obtain ⟨hP, hD⟩ := hPD9
  replace hz : s.heap.size + 0 ≤ H1.size := by omega
  clear hz2
  replace hP : va_P (dC, dI) vwCl [(mo, .inr (9, [th, .ref al, md, rf, kn])), (al, .inr (4, [.int mc, .ref ed, .int 1])), (ed, .inl (cO, 10, .inr (.inr (.inr (.inr ee)))))] H1 := hP
  replace hD : va_D A [(mo, .inr (9, [th, .ref al, md, rf, kn])), (al, .inr (4, [.int mc, .ref ed, .int 1])), (ed, .inl (cO, 10, .inr (.inr (.inr (.inr ee)))))] := hD
  refine W.widen (k := 0) (n := 0) (by omega) (by omega) ?_
  refine lv_if_eq (tgt := 19) hx hb dX4_make_7 (by decide) (fun c9 => ?_) (fun c9 => ?_)
  · exact absurd c9 (by decide)
  refine lv_iload_n hx hb dX4_make_10 rfl (lv_at hl 2 rfl) ?_
  refine lv_iconst (v := 0) hx hb dX4_make_11 (by decide) ?_
  refine lv_iconst (v := 4) hx hb dX4_make_12 (by decide) ?_
  have hPc := hP.sub (ws' := []) [] rfl
  have hDc := hD.sub (ws' := []) [] (by decide) rfl
  have hFc := va_free (wc := []) hD hS hA [] rfl
  have hDv := hDc.self (sz := H1.size)
  have hpre := zpre (xs' := []) (av := [.int 4, .int 0, .int 4]) hPc hK (hDc.weaken (fun _ _ _ h => h)) hZ hS hFc (fun r hr => by cases hr)
  refine va_calli (va_runS (As := [.int 4, .int 0, .int 4]) (rest := [.ref mo]) ⟨hx, hb, hml, hown, hts⟩ (k_isIn4 l dC dI cI cB cR cO zk  H1.size ) (va_cwS 3 hts gX4_make_X4_isIn rfl rfl rfl (by decide +kernel) ⟨Nat.le_of_ble_eq_true rfl, Nat.le_of_ble_eq_true rfl⟩) ⟨zblind, hpre⟩ rfl rfl hl.1 rfl (lv_room (Nat.le_of_ble_eq_true rfl)) dX4_make_13 ⟨Nat.le_of_ble_eq_true rfl, Nat.le_of_ble_eq_true rfl⟩) hS (fun q _ h => hFc q h) hFc (fun r4 u t H3 locs ht hvm hw hB hz1 hk1 hS => ?_)
  obtain rfl : 1 = r4 := (show r4 = 1 from hw).symm
  obtain ⟨hP1, hK1, hD1, hz2⟩ := hB
  rw [ht] at hP1 hz2
  have hPD9 := va_join (wr := [(mo, .inr (9, [th, .ref al, md, rf, kn])), (al, .inr (4, [.int mc, .ref ed, .int 1])), (ed, .inl (cO, 10, .inr (.inr (.inr (.inr ee)))))]) (w1 := []) hP hD [] [0, 1, 2] rfl rfl (by decide) (by decide) hk1 hFc hP1 hD1
  clear hPc hDc hFc hDv hpre hP hD hP1 hK1 hD1
  obtain ⟨hP, hD⟩ := hPD9
  replace hz : s.heap.size + 0 ≤ H3.size := by omega
  clear hz2
  replace hP : va_P (dC, dI) vwCl [(mo, .inr (9, [th, .ref al, md, rf, kn])), (al, .inr (4, [.int mc, .ref ed, .int 1])), (ed, .inl (cO, 10, .inr (.inr (.inr (.inr ee)))))] H3 := hP
  replace hD : va_D A [(mo, .inr (9, [th, .ref al, md, rf, kn])), (al, .inr (4, [.int mc, .ref ed, .int 1])), (ed, .inl (cO, 10, .inr (.inr (.inr (.inr ee)))))] := hD
  refine W.widen (k := 0) (n := 0) (by omega) (by omega) ?_
  refine lv_if_ne (tgt := 23) hx hb dX4_make_16 (by decide) (fun c9 => ?_) (fun c9 => ?_)
  rotate_left
  · exact absurd c9 (by decide)
  refine lv_iconst (v := 0) hx hb dX4_make_23 (by decide) ?_
  refine lv_iconst (v := 1) hx hb dX4_make_24 (by decide) ?_
  have hPc := hP.sub (ws' := [(mo, .inr (9, [th, .ref al, md, rf, kn]))]) [0] rfl
  have hDc := hD.sub (ws' := [(mo, .inr (9, [th, .ref al, md, rf, kn]))]) [0] (by decide) rfl
  have hFc := va_free (wc := [(mo, .inr (9, [th, .ref al, md, rf, kn]))]) hD hS hA [0] rfl
  have hDv := hDc.self (sz := H3.size)
  have hpre := zpre (xs' := []) (av := [.ref mo, .int 0, .int 1]) hPc hK (hDc.weaken (fun _ _ _ h => h)) hZ hS hFc (fun r hr => by cases hr)
  refine va_calli (va_runV (As := [.int 0, .int 1]) (rest := []) ⟨hx, hb, hml, hown, hts⟩ (k_stt l dC dI cI cB cR cO zk mo al th md rf kn 1 H3.size ) (cwV 2 hts gX4_make_X4_start rfl rfl rfl (by decide +kernel) ⟨Nat.le_of_ble_eq_true rfl, Nat.le_of_ble_eq_true rfl⟩) ⟨zblind, (zrecv_9 hK hPc (q0 := 0) rfl), hpre⟩ rfl rfl hl.1 rfl (lv_room (Nat.le_of_ble_eq_true rfl)) dX4_make_25 ⟨Nat.le_of_ble_eq_true rfl, Nat.le_of_ble_eq_true rfl⟩) hS (fun q _ h => hFc q h) hFc (fun r6 u t H5 locs ht hvm hw hB hz1 hk1 hS => ?_)
  obtain rfl : 0 = r6 := (show r6 = 0 from hw).symm
  obtain ⟨hP1, hK1, hD1, hz2⟩ := hB
  rw [ht] at hP1 hz2
  have hPD9 := va_join (wr := [(al, .inr (4, [.int mc, .ref ed, .int 1])), (ed, .inl (cO, 10, .inr (.inr (.inr (.inr ee)))))]) (w1 := [(mo, .inr (9, [.int 0, .ref al, md, rf, kn]))]) hP hD [0] [1, 2] rfl rfl (by decide) (by decide) hk1 hFc hP1 hD1
  clear hPc hDc hFc hDv hpre hP hD hP1 hK1 hD1
  obtain ⟨hP, hD⟩ := hPD9
  replace hz : s.heap.size + 0 ≤ H5.size := by omega
  clear hz2
  replace hP : va_P (dC, dI) vwCl [(al, .inr (4, [.int mc, .ref ed, .int 1])), (ed, .inl (cO, 10, .inr (.inr (.inr (.inr ee))))), (mo, .inr (9, [.int 0, .ref al, md, rf, kn]))] H5 := hP
  replace hD : va_D A [(al, .inr (4, [.int mc, .ref ed, .int 1])), (ed, .inl (cO, 10, .inr (.inr (.inr (.inr ee))))), (mo, .inr (9, [.int 0, .ref al, md, rf, kn]))] := hD
  refine W.widen (k := 0) (n := 0) (by omega) (by omega) ?_
  refine lv_if_ne (tgt := 56) hx hb dX4_make_28 (by decide) (fun c9 => ?_) (fun c9 => ?_)
  · exact absurd (by decide) c9
  refine lv_aload_n hx hb dX4_make_31 rfl (lv_at hl 0 rfl) ?_
  refine lv_aload_n hx hb dX4_make_32 rfl (lv_at hl 0 rfl) ?_
  refine va_get (D := (dC, dI)) (ci := 9) (v := .ref al) (C := RX4) (T := TX4) (N := 5) hx hb hts hi_X4_make_X4 hown hK hP 2 rfl rfl 1 (by decide) (hts (.fieldLink RX4 10 "DeeprowsModel" "rows" "Ljava/util/ArrayList;") (List.mem_cons_of_mem _ zw_1134)) (fun _ h9 => h9) rfl dX4_make_33 ?_
  have hPc := hP.sub (ws' := [(al, .inr (4, [.int mc, .ref ed, .int 1]))]) [0] rfl
  have hDc := hD.sub (ws' := [(al, .inr (4, [.int mc, .ref ed, .int 1]))]) [0] (by decide) rfl
  have hFc := va_free (wc := [(al, .inr (4, [.int mc, .ref ed, .int 1]))]) hD hS hA [0] rfl
  have hDv := hDc.self (sz := H5.size)
  have hpre := zpre (xs' := []) (av := [.ref al]) hPc hK (hDc.weaken (fun _ _ _ h => h)) hZ hS hFc (fun r hr => by cases hr)
  refine va_calli (va_runV (As := []) (rest := [.ref mo]) ⟨hx, hb, hml, hown, hts⟩ (k_size l dC dI cI cB cR cO zk al ed 1 (.int mc) H5.size ) (cwV 0 hts gX4_make_Jx4a65c_size_8abf5 rfl rfl rfl (by decide +kernel) ⟨Nat.le_of_ble_eq_true rfl, Nat.le_of_ble_eq_true rfl⟩) ⟨zblind, (zrecv_4 hK hPc (q0 := 0) rfl), hpre⟩ rfl rfl hl.1 rfl (lv_room (Nat.le_of_ble_eq_true rfl)) dX4_make_36 ⟨Nat.le_of_ble_eq_true rfl, Nat.le_of_ble_eq_true rfl⟩) hS (fun q _ h => hFc q h) hFc (fun r8 u t H7 locs ht hvm hw hB hz1 hk1 hS => ?_)
  obtain rfl : 1 = r8 := (show r8 = 1 from hw).symm
  obtain ⟨hP1, hK1, hD1, hz2⟩ := hB
  rw [ht] at hP1 hz2
  have hPD9 := va_join (wr := [(ed, .inl (cO, 10, .inr (.inr (.inr (.inr ee))))), (mo, .inr (9, [.int 0, .ref al, md, rf, kn]))]) (w1 := [(al, .inr (4, [.int mc, .ref ed, .int 1]))]) hP hD [0] [1, 2] rfl rfl (by decide) (by decide) hk1 hFc hP1 hD1
  clear hPc hDc hFc hDv hpre hP hD hP1 hK1 hD1
  obtain ⟨hP, hD⟩ := hPD9
  replace hz : s.heap.size + 0 ≤ H7.size := by omega
  clear hz2
  replace hP : va_P (dC, dI) vwCl [(ed, .inl (cO, 10, .inr (.inr (.inr (.inr ee))))), (mo, .inr (9, [.int 0, .ref al, md, rf, kn])), (al, .inr (4, [.int mc, .ref ed, .int 1]))] H7 := hP
  replace hD : va_D A [(ed, .inl (cO, 10, .inr (.inr (.inr (.inr ee))))), (mo, .inr (9, [.int 0, .ref al, md, rf, kn])), (al, .inr (4, [.int mc, .ref ed, .int 1]))] := hD
  refine W.widen (k := 0) (n := 0) (by omega) (by omega) ?_
  refine lv_bipush (v := 12) hx hb dX4_make_39 (by decide) ?_
  refine lv_icmp_ne (tgt := 48) hx hb dX4_make_41 (by decide) (fun c9 => ?_) (fun c9 => ?_)
  rotate_left
  · exact absurd c9 (by decide)
  refine lv_iconst (v := 0) hx hb dX4_make_48 (by decide) ?_
  refine lv_iconst (v := 2) hx hb dX4_make_49 (by decide) ?_
  have hPc := hP.sub (ws' := [(mo, .inr (9, [.int 0, .ref al, md, rf, kn]))]) [1] rfl
  have hDc := hD.sub (ws' := [(mo, .inr (9, [.int 0, .ref al, md, rf, kn]))]) [1] (by decide) rfl
  have hFc := va_free (wc := [(mo, .inr (9, [.int 0, .ref al, md, rf, kn]))]) hD hS hA [1] rfl
  have hDv := hDc.self (sz := H7.size)
  have hpre := zpre (xs' := []) (av := [.ref mo, .int 0, .int 2]) hPc hK (hDc.weaken (fun _ _ _ h => h)) hZ hS hFc (fun r hr => by cases hr)
  refine va_calli (va_runV (As := [.int 0, .int 2]) (rest := []) ⟨hx, hb, hml, hown, hts⟩ (k_ref l dC dI cI cB cR cO zk mo al md rf kn 2 H7.size ) (cwV 2 hts gX4_make_X4_refuse rfl rfl rfl (by decide +kernel) ⟨Nat.le_of_ble_eq_true rfl, Nat.le_of_ble_eq_true rfl⟩) ⟨zblind, (zrecv_9 hK hPc (q0 := 0) rfl), hpre⟩ rfl rfl hl.1 rfl (lv_room (Nat.le_of_ble_eq_true rfl)) dX4_make_50 ⟨Nat.le_of_ble_eq_true rfl, Nat.le_of_ble_eq_true rfl⟩) hS (fun q _ h => hFc q h) hFc (fun r10 u t H9 locs ht hvm hw hB hz1 hk1 hS => ?_)
  obtain rfl : 0 = r10 := (show r10 = 0 from hw).symm
  obtain ⟨hP1, hK1, hD1, hz2⟩ := hB
  rw [ht] at hP1 hz2
  have hPD9 := va_join (wr := [(ed, .inl (cO, 10, .inr (.inr (.inr (.inr ee))))), (al, .inr (4, [.int mc, .ref ed, .int 1]))]) (w1 := [(mo, .inr (9, [.int 0, .ref al, md, rf, kn]))]) hP hD [1] [0, 2] rfl rfl (by decide) (by decide) hk1 hFc hP1 hD1
  clear hPc hDc hFc hDv hpre hP hD hP1 hK1 hD1
  obtain ⟨hP, hD⟩ := hPD9
  replace hz : s.heap.size + 0 ≤ H9.size := by omega
  clear hz2
  replace hP : va_P (dC, dI) vwCl [(ed, .inl (cO, 10, .inr (.inr (.inr (.inr ee))))), (al, .inr (4, [.int mc, .ref ed, .int 1])), (mo, .inr (9, [.int 0, .ref al, md, rf, kn]))] H9 := hP
  replace hD : va_D A [(ed, .inl (cO, 10, .inr (.inr (.inr (.inr ee))))), (al, .inr (4, [.int mc, .ref ed, .int 1])), (mo, .inr (9, [.int 0, .ref al, md, rf, kn]))] := hD
  refine W.widen (k := 0) (n := 0) (by omega) (by omega) ?_
  refine lv_if_eq (tgt := 58) hx hb dX4_make_53 (by decide) (fun c9 => ?_) (fun c9 => ?_)
  rotate_left
  · exact absurd (by decide) c9
  refine lv_aload_n hx hb dX4_make_58 rfl (lv_at hl 0 rfl) ?_
  refine va_get (D := (dC, dI)) (ci := 9) (v := .ref al) (C := RX4) (T := TX4) (N := 5) hx hb hts hi_X4_make_X4 hown hK hP 2 rfl rfl 1 (by decide) (hts (.fieldLink RX4 10 "DeeprowsModel" "rows" "Ljava/util/ArrayList;") (List.mem_cons_of_mem _ zw_1134)) (fun _ h9 => h9) rfl dX4_make_59 ?_
  refine zw_new (ci := 8) (fs := [.int 0, .null, .null]) (C := RX3) (T := TX3) (N := 3) hx hb hts hi_X4_make_X3 tyX3 tyX3_ok hown (hts (.classLink RX4 40 "DeeprowsModel$Row") (List.mem_cons_of_mem _ zw_1165)) (hts (.instantiable RX3 3) (List.mem_cons_of_mem _ zw_1166)) (hts (.initialized RX3) (List.mem_cons_of_mem _ zw_61)) hK hP hD hS hA rfl (fun j hj => by rcases (show j = 0 ∨ j = 1 ∨ j = 2 by omega) with rfl | rfl | rfl <;> rfl) (Nat.le_of_ble_eq_true rfl) (Nat.le_of_ble_eq_true rfl) dX4_make_62 hz (fun q11 H12 hP hD hS hz => ?_)
  replace hP : va_P (dC, dI) vwCl [(ed, .inl (cO, 10, .inr (.inr (.inr (.inr ee))))), (al, .inr (4, [.int mc, .ref ed, .int 1])), (mo, .inr (9, [.int 0, .ref al, md, rf, kn])), (q11, .inr (8, [.int 0, .null, .null]))] H12 := hP
  replace hD : va_D A [(ed, .inl (cO, 10, .inr (.inr (.inr (.inr ee))))), (al, .inr (4, [.int mc, .ref ed, .int 1])), (mo, .inr (9, [.int 0, .ref al, md, rf, kn])), (q11, .inr (8, [.int 0, .null, .null]))] := hD
  refine W.widen (k := 1) (n := 3) (by omega) (by omega) ?_
  refine lv_dup hx hb dX4_make_65 rfl ?_
  refine lv_iload_n hx hb dX4_make_66 rfl (lv_at hl 1 rfl) ?_
  refine lv_iload_n hx hb dX4_make_67 rfl (lv_at hl 2 rfl) ?_
  have hPc := hP.sub (ws' := [(q11, .inr (8, [.int 0, .null, .null]))]) [3] rfl
  have hDc := hD.sub (ws' := [(q11, .inr (8, [.int 0, .null, .null]))]) [3] (by decide) rfl
  have hFc := va_free (wc := [(q11, .inr (8, [.int 0, .null, .null]))]) hD hS hA [3] rfl
  have hDv := hDc.self (sz := H12.size)
  have hpre := zpre (xs' := []) (av := [.ref q11, .int 4, .int 4]) hPc hK (hDc.weaken (fun _ _ _ h => h)) hZ hS hFc (fun r hr => by cases hr)
  refine va_callv (va_runI (As := [.int 4, .int 4]) (rest := [.ref q11, .ref al]) ⟨hx, hb, hml, hown, hts⟩ (k_mrin l dC dI cI cB cR cO zk q11 H12.size ) (cwI 2 hts gX4_make_X3_init rfl rfl rfl (hts (.initialized RX3) (List.mem_cons_of_mem _ zw_61)) (hts (.methodLink RX4 76 yX3_init) (List.mem_cons_of_mem _ zw_1167)) (hts (.instanceMethod yX3_init) (List.mem_cons_of_mem _ zw_1168)) rfl (by decide +kernel) ⟨Nat.le_of_ble_eq_true rfl, Nat.le_of_ble_eq_true rfl⟩) ⟨zblind, hpre⟩ rfl rfl hl.1 rfl (lv_room (Nat.le_of_ble_eq_true rfl)) dX4_make_68 ⟨Nat.le_of_ble_eq_true rfl, Nat.le_of_ble_eq_true rfl⟩) hS (fun q _ h => hFc q h) hFc (fun u t H13 locs ht hvm hw hB hz1 hk1 hS => ?_)
  obtain ⟨wa15, na16, fw17, fn18, ⟨hP1, hK1, hD1, hz2⟩, hwfw17, hnfn18⟩ := hB
  rw [ht] at hP1 hz2
  have hPD9 := va_join (wr := [(ed, .inl (cO, 10, .inr (.inr (.inr (.inr ee))))), (al, .inr (4, [.int mc, .ref ed, .int 1])), (mo, .inr (9, [.int 0, .ref al, md, rf, kn]))]) (w1 := [(q11, .inr (8, [.int 4, .ref wa15, .ref na16])), (wa15, .inl (cI, 4, .inl fw17)), (na16, .inl (cI, 4, .inl fn18))]) hP hD [3] [0, 1, 2] rfl rfl (by decide) (by decide) hk1 hFc hP1 hD1
  clear hPc hDc hFc hDv hpre hP hD hP1 hK1 hD1
  obtain ⟨hP, hD⟩ := hPD9
  replace hz : s.heap.size + 3 ≤ H13.size := by omega
  clear hz2
  replace hP : va_P (dC, dI) vwCl [(ed, .inl (cO, 10, .inr (.inr (.inr (.inr ee))))), (al, .inr (4, [.int mc, .ref ed, .int 1])), (mo, .inr (9, [.int 0, .ref al, md, rf, kn])), (q11, .inr (8, [.int 4, .ref wa15, .ref na16])), (wa15, .inl (cI, 4, .inl fw17)), (na16, .inl (cI, 4, .inl fn18))] H13 := hP
  replace hD : va_D A [(ed, .inl (cO, 10, .inr (.inr (.inr (.inr ee))))), (al, .inr (4, [.int mc, .ref ed, .int 1])), (mo, .inr (9, [.int 0, .ref al, md, rf, kn])), (q11, .inr (8, [.int 4, .ref wa15, .ref na16])), (wa15, .inl (cI, 4, .inl fw17)), (na16, .inl (cI, 4, .inl fn18))] := hD
  refine W.widen (k := 3) (n := 11) (by omega) (by omega) ?_
  have hPc := hP.sub (ws' := [(al, .inr (4, [.int mc, .ref ed, .int 1])), (ed, .inl (cO, 10, .inr (.inr (.inr (.inr ee))))), (q11, .inr (8, [.int 4, .ref wa15, .ref na16]))]) [1, 0, 3] rfl
  have hDc := hD.sub (ws' := [(al, .inr (4, [.int mc, .ref ed, .int 1])), (ed, .inl (cO, 10, .inr (.inr (.inr (.inr ee))))), (q11, .inr (8, [.int 4, .ref wa15, .ref na16]))]) [1, 0, 3] (by decide) rfl
  have hFc := va_free (wc := [(al, .inr (4, [.int mc, .ref ed, .int 1])), (ed, .inl (cO, 10, .inr (.inr (.inr (.inr ee))))), (q11, .inr (8, [.int 4, .ref wa15, .ref na16]))]) hD hS hA [1, 0, 3] rfl
  have hDv := hDc.self (sz := H13.size)
  have hpre := zpre (xs' := []) (av := [.ref al, .ref q11]) hPc hK (hDc.weaken (fun _ _ _ h => h)) hZ hS hFc (fun r hr => by cases hr)
  refine va_calli (va_runV (As := [.ref q11]) (rest := []) ⟨hx, hb, hml, hown, hts⟩ (k_addBX3 l dC dI cI cB cR cO zk al q11 ed 1 ee mc wa15 na16 H13.size (by decide)) (cwV 1 hts gX4_make_Jx4a65c_add_9ea2d rfl rfl rfl (by decide +kernel) ⟨Nat.le_of_ble_eq_true rfl, Nat.le_of_ble_eq_true rfl⟩) ⟨zblind, (zrecv_4 hK hPc (q0 := 0) rfl), hpre⟩ rfl rfl hl.1 rfl (lv_room (Nat.le_of_ble_eq_true rfl)) dX4_make_71 ⟨Nat.le_of_ble_eq_true rfl, Nat.le_of_ble_eq_true rfl⟩) hS (fun q _ h => hFc q h) hFc (fun r20 u t H19 locs ht hvm hw hB hz1 hk1 hS => ?_)
  obtain rfl : 1 = r20 := (show r20 = 1 from hw).symm
  obtain ⟨mc21, ⟨hP1, hK1, hD1, hz2⟩⟩ := hB
  rw [ht] at hP1 hz2
  have hPD9 := va_join (wr := [(mo, .inr (9, [.int 0, .ref al, md, rf, kn])), (wa15, .inl (cI, 4, .inl fw17)), (na16, .inl (cI, 4, .inl fn18))]) (w1 := [(al, .inr (4, [.int mc21, .ref ed, .int 2])), (ed, .inl (cO, 10, .inr (.inr (.inr (.inr (va_up ee 1 (some q11))))))), (q11, .inr (8, [.int 4, .ref wa15, .ref na16]))]) hP hD [1, 0, 3] [2, 4, 5] rfl rfl (by decide) (by decide) hk1 hFc hP1 hD1
  clear hPc hDc hFc hDv hpre hP hD hP1 hK1 hD1
  obtain ⟨hP, hD⟩ := hPD9
  replace hz : s.heap.size + 3 ≤ H19.size := by omega
  clear hz2
  replace hP : va_P (dC, dI) vwCl [(mo, .inr (9, [.int 0, .ref al, md, rf, kn])), (wa15, .inl (cI, 4, .inl fw17)), (na16, .inl (cI, 4, .inl fn18)), (al, .inr (4, [.int mc21, .ref ed, .int 2])), (ed, .inl (cO, 10, .inr (.inr (.inr (.inr (va_up ee 1 (some q11))))))), (q11, .inr (8, [.int 4, .ref wa15, .ref na16]))] H19 := hP
  replace hD : va_D A [(mo, .inr (9, [.int 0, .ref al, md, rf, kn])), (wa15, .inl (cI, 4, .inl fw17)), (na16, .inl (cI, 4, .inl fn18)), (al, .inr (4, [.int mc21, .ref ed, .int 2])), (ed, .inl (cO, 10, .inr (.inr (.inr (.inr (va_up ee 1 (some q11))))))), (q11, .inr (8, [.int 4, .ref wa15, .ref na16]))] := hD
  refine W.widen (k := 3) (n := 11) (by omega) (by omega) ?_
  refine lv_pop hx hb dX4_make_74 rfl ?_
  refine lv_aload_n hx hb dX4_make_75 rfl (lv_at hl 0 rfl) ?_
  refine va_get (D := (dC, dI)) (ci := 9) (v := .ref al) (C := RX4) (T := TX4) (N := 5) hx hb hts hi_X4_make_X4 hown hK hP 0 rfl rfl 1 (by decide) (hts (.fieldLink RX4 10 "DeeprowsModel" "rows" "Ljava/util/ArrayList;") (List.mem_cons_of_mem _ zw_1134)) (fun _ h9 => h9) rfl dX4_make_76 ?_
  have hPc := hP.sub (ws' := [(al, .inr (4, [.int mc21, .ref ed, .int 2]))]) [3] rfl
  have hDc := hD.sub (ws' := [(al, .inr (4, [.int mc21, .ref ed, .int 2]))]) [3] (by decide) rfl
  have hFc := va_free (wc := [(al, .inr (4, [.int mc21, .ref ed, .int 2]))]) hD hS hA [3] rfl
  have hDv := hDc.self (sz := H19.size)
  have hpre := zpre (xs' := []) (av := [.ref al]) hPc hK (hDc.weaken (fun _ _ _ h => h)) hZ hS hFc (fun r hr => by cases hr)
  refine va_calli (va_runV (As := []) (rest := []) ⟨hx, hb, hml, hown, hts⟩ (k_size l dC dI cI cB cR cO zk al ed 2 (.int mc21) H19.size ) (cwV 0 hts gX4_make_Jx4a65c_size_8abf5 rfl rfl rfl (by decide +kernel) ⟨Nat.le_of_ble_eq_true rfl, Nat.le_of_ble_eq_true rfl⟩) ⟨zblind, (zrecv_4 hK hPc (q0 := 0) rfl), hpre⟩ rfl rfl hl.1 rfl (lv_room (Nat.le_of_ble_eq_true rfl)) dX4_make_79 ⟨Nat.le_of_ble_eq_true rfl, Nat.le_of_ble_eq_true rfl⟩) hS (fun q _ h => hFc q h) hFc (fun r23 u t H22 locs ht hvm hw hB hz1 hk1 hS => ?_)
  obtain rfl : 2 = r23 := (show r23 = 2 from hw).symm
  obtain ⟨hP1, hK1, hD1, hz2⟩ := hB
  rw [ht] at hP1 hz2
  have hPD9 := va_join (wr := [(mo, .inr (9, [.int 0, .ref al, md, rf, kn])), (wa15, .inl (cI, 4, .inl fw17)), (na16, .inl (cI, 4, .inl fn18)), (ed, .inl (cO, 10, .inr (.inr (.inr (.inr (va_up ee 1 (some q11))))))), (q11, .inr (8, [.int 4, .ref wa15, .ref na16]))]) (w1 := [(al, .inr (4, [.int mc21, .ref ed, .int 2]))]) hP hD [3] [0, 1, 2, 4, 5] rfl rfl (by decide) (by decide) hk1 hFc hP1 hD1
  clear hPc hDc hFc hDv hpre hP hD hP1 hK1 hD1
  obtain ⟨hP, hD⟩ := hPD9
  replace hz : s.heap.size + 3 ≤ H22.size := by omega
  clear hz2
  replace hP : va_P (dC, dI) vwCl [(mo, .inr (9, [.int 0, .ref al, md, rf, kn])), (wa15, .inl (cI, 4, .inl fw17)), (na16, .inl (cI, 4, .inl fn18)), (ed, .inl (cO, 10, .inr (.inr (.inr (.inr (va_up ee 1 (some q11))))))), (q11, .inr (8, [.int 4, .ref wa15, .ref na16])), (al, .inr (4, [.int mc21, .ref ed, .int 2]))] H22 := hP
  replace hD : va_D A [(mo, .inr (9, [.int 0, .ref al, md, rf, kn])), (wa15, .inl (cI, 4, .inl fw17)), (na16, .inl (cI, 4, .inl fn18)), (ed, .inl (cO, 10, .inr (.inr (.inr (.inr (va_up ee 1 (some q11))))))), (q11, .inr (8, [.int 4, .ref wa15, .ref na16])), (al, .inr (4, [.int mc21, .ref ed, .int 2]))] := hD
  refine W.widen (k := 3) (n := 11) (by omega) (by omega) ?_
  refine lv_iconst (v := 1) hx hb dX4_make_82 (by decide) ?_
  refine lv_isub hx hb dX4_make_83 ?_
  refine lv_topi (fun v24 ev24 => ?_)
  obtain rfl : v24 = 1 := ev24.trans (by decide)
  have hP9 := hP.sub (ws' := [(mo, .inr (9, [.int 0, .ref al, md, rf, kn])), (al, .inr (4, [.int mc21, .ref ed, .int 2])), (ed, .inl (cO, 10, .inr (.inr (.inr (.inr (va_up ee 1 (some q11))))))), (q11, .inr (8, [.int 4, .ref wa15, .ref na16])), (wa15, .inl (cI, 4, .inl fw17)), (na16, .inl (cI, 4, .inl fn18))]) [0, 5, 3, 4, 1, 2] rfl
  have hD9 := hD.sub (ws' := [(mo, .inr (9, [.int 0, .ref al, md, rf, kn])), (al, .inr (4, [.int mc21, .ref ed, .int 2])), (ed, .inl (cO, 10, .inr (.inr (.inr (.inr (va_up ee 1 (some q11))))))), (q11, .inr (8, [.int 4, .ref wa15, .ref na16])), (wa15, .inl (cI, 4, .inl fw17)), (na16, .inl (cI, 4, .inl fn18))]) [0, 5, 3, 4, 1, 2] (by decide) rfl
  exact W.iret (v := 1) hx hb hr (fun t ht hW => ⟨⟨_, (), rfl, rfl, ⟨_, _, _, _, _, _, ⟨by rw [ht]; exact hP9, va_K.moved hW.alike hK, hD9, by rw [ht]; exact hz⟩, hwfw17, hnfn18⟩⟩, hS.F ht⟩) hS.2.2 dX4_make_84

set_option maxHeartbeats 4000000 in
set_option maxRecDepth 100000 in
theorem k_mkM2 (l : Launch) (dC : Nat → ClassId) (dI : Nat → Nat → Nat) (cI cB cR cO : ClassId) (zk : Nat → Nat) (mo al : Nat) (th md rf kn : Value) (ed : Nat) (ee : Nat → Option Nat) (mc : Int32) (sz : Nat)  : Met l yX4_make wsX4_make ({ frames := 2, cells := 3, slots := 11, locals := 83 }) (va_Pc [.ref mo, .int 4, .int 4] (zPre (dC, dI) (zT cI cB cR cO) zk [] [(mo, .inr (9, [th, .ref al, md, rf, kn])), (al, .inr (4, [.int mc, .ref ed, .int 2])), (ed, .inl (cO, 10, .inr (.inr (.inr (.inr ee)))))] sz)) (va_Qi (fun r (_ : Unit) => r = 2) (fun _ t => ∃ (mc2 : Int32), ∃ a, ∃ wa, ∃ na, ∃ (fw : Nat → Int32), ∃ (fn : Nat → Int32), zEnd (dC, dI) (zT cI cB cR cO) (va_A [(mo, .inr (9, [th, .ref al, md, rf, kn])), (al, .inr (4, [.int mc, .ref ed, .int 2])), (ed, .inl (cO, 10, .inr (.inr (.inr (.inr ee)))))] sz) [(mo, .inr (9, [.int 0, .ref al, md, rf, kn])), (al, .inr (4, [.int mc2, .ref ed, .int 3])), (ed, .inl (cO, 10, .inr (.inr (.inr (.inr (va_up ee 2 (some a))))))), (a, .inr (8, [.int 4, .ref wa, .ref na])), (wa, .inl (cI, 4, .inl fw)), (na, .inl (cI, 4, .inl fn))] sz 3 t ∧ (∀ i, i < 4 → fw i = 0) ∧ (∀ i, i < 4 → fn i = -1)) (va_A [(mo, .inr (9, [th, .ref al, md, rf, kn])), (al, .inr (4, [.int mc, .ref ed, .int 2])), (ed, .inl (cO, 10, .inr (.inr (.inr (.inr ee)))))] sz)) 3 11 (va_A [(mo, .inr (9, [th, .ref al, md, rf, kn])), (al, .inr (4, [.int mc, .ref ed, .int 2])), (ed, .inl (cO, 10, .inr (.inr (.inr (.inr ee)))))] sz) := by
  refine Met.ofW (cc := cX4_make) (maxL := 3) (ret := (some .int)) (by decide) rfl ?_
  intro p e s mY args below meth c s₁ B hml hv
  obtain ⟨rfl, hsz, hP, hK, hD0, hZ⟩ := hv
  have hx := B.exec
  have hb := B.bytes
  have hr := B.returns
  have hts := atoms_spec (ws := wsX4_make) B.pre
  have hown : s.vm.findClass RX4 = some mY.cls := findClass_of_methodNamed B.named
  have hlocks := B.notSynchronized
  subst hsz
  have hD := hD0.self (sz := s.heap.size)
  generalize hAe : va_A [(mo, .inr (9, [th, .ref al, md, rf, kn])), (al, .inr (4, [.int mc, .ref ed, .int 2])), (ed, .inl (cO, 10, .inr (.inr (.inr (.inr ee)))))] s.heap.size = A at hD hZ ⊢
  have hA : ∀ q : Nat, s.heap.size ≤ q → A q := fun q h => by rw [← hAe]; exact Or.inr h
  have hS : va_S A s.heap s.heap [] := va_S.rf
  have hz : s.heap.size + 0 ≤ s.heap.size := Nat.le_refl _
  have hl := lv_entry ([.ref mo, .int 4, .int 4]) (n := 3) (Nat.le_of_ble_eq_true rfl)
  rw [lg_entry_eq]
  generalize (lg_sl ([.ref mo, .int 4, .int 4]) ++ List.replicate (3 - (lg_sl ([.ref mo, .int 4, .int 4])).length) Slot.unset).toArray = ls at hl ⊢
  have hl : lv_has ls 3 [(0, .ref mo), (1, .int 4), (2, .int 4)] := hl
  have hP : va_P (dC, dI) vwCl [(mo, .inr (9, [th, .ref al, md, rf, kn])), (al, .inr (4, [.int mc, .ref ed, .int 2])), (ed, .inl (cO, 10, .inr (.inr (.inr (.inr ee)))))] s.heap := hP
  have hD : va_D A [(mo, .inr (9, [th, .ref al, md, rf, kn])), (al, .inr (4, [.int mc, .ref ed, .int 2])), (ed, .inl (cO, 10, .inr (.inr (.inr (.inr ee)))))] := hD
  refine lv_aload_n hx hb dX4_make_0 rfl (lv_at hl 0 rfl) ?_
  refine lv_iload_n hx hb dX4_make_1 rfl (lv_at hl 1 rfl) ?_
  refine lv_iconst (v := 0) hx hb dX4_make_2 (by decide) ?_
  refine lv_iconst (v := 4) hx hb dX4_make_3 (by decide) ?_
  have hPc := hP.sub (ws' := []) [] rfl
  have hDc := hD.sub (ws' := []) [] (by decide) rfl
  have hFc := va_free (wc := []) hD hS hA [] rfl
  have hDv := hDc.self (sz := s.heap.size)
  have hpre := zpre (xs' := []) (av := [.int 4, .int 0, .int 4]) hPc hK (hDc.weaken (fun _ _ _ h => h)) hZ hS hFc (fun r hr => by cases hr)
  refine va_calli (va_runS (As := [.int 4, .int 0, .int 4]) (rest := [.ref mo]) ⟨hx, hb, hml, hown, hts⟩ (k_isIn4 l dC dI cI cB cR cO zk  s.heap.size ) (va_cwS 3 hts gX4_make_X4_isIn rfl rfl rfl (by decide +kernel) ⟨Nat.le_of_ble_eq_true rfl, Nat.le_of_ble_eq_true rfl⟩) ⟨zblind, hpre⟩ rfl rfl hl.1 rfl (lv_room (Nat.le_of_ble_eq_true rfl)) dX4_make_4 ⟨Nat.le_of_ble_eq_true rfl, Nat.le_of_ble_eq_true rfl⟩) hS (fun q _ h => hFc q h) hFc (fun r2 u t H1 locs ht hvm hw hB hz1 hk1 hS => ?_)
  obtain rfl : 1 = r2 := (show r2 = 1 from hw).symm
  obtain ⟨hP1, hK1, hD1, hz2⟩ := hB
  rw [ht] at hP1 hz2
  have hPD9 := va_join (wr := [(mo, .inr (9, [th, .ref al, md, rf, kn])), (al, .inr (4, [.int mc, .ref ed, .int 2])), (ed, .inl (cO, 10, .inr (.inr (.inr (.inr ee)))))]) (w1 := []) hP hD [] [0, 1, 2] rfl rfl (by decide) (by decide) hk1 hFc hP1 hD1
  clear hPc hDc hFc hDv hpre hP hD hP1 hK1 hD1
  obtain ⟨hP, hD⟩ := hPD9
  replace hz : s.heap.size + 0 ≤ H1.size := by omega
  clear hz2
  replace hP : va_P (dC, dI) vwCl [(mo, .inr (9, [th, .ref al, md, rf, kn])), (al, .inr (4, [.int mc, .ref ed, .int 2])), (ed, .inl (cO, 10, .inr (.inr (.inr (.inr ee)))))] H1 := hP
  replace hD : va_D A [(mo, .inr (9, [th, .ref al, md, rf, kn])), (al, .inr (4, [.int mc, .ref ed, .int 2])), (ed, .inl (cO, 10, .inr (.inr (.inr (.inr ee)))))] := hD
  refine W.widen (k := 0) (n := 0) (by omega) (by omega) ?_
  refine lv_if_eq (tgt := 19) hx hb dX4_make_7 (by decide) (fun c9 => ?_) (fun c9 => ?_)
  · exact absurd c9 (by decide)
  refine lv_iload_n hx hb dX4_make_10 rfl (lv_at hl 2 rfl) ?_
  refine lv_iconst (v := 0) hx hb dX4_make_11 (by decide) ?_
  refine lv_iconst (v := 4) hx hb dX4_make_12 (by decide) ?_
  have hPc := hP.sub (ws' := []) [] rfl
  have hDc := hD.sub (ws' := []) [] (by decide) rfl
  have hFc := va_free (wc := []) hD hS hA [] rfl
  have hDv := hDc.self (sz := H1.size)
  have hpre := zpre (xs' := []) (av := [.int 4, .int 0, .int 4]) hPc hK (hDc.weaken (fun _ _ _ h => h)) hZ hS hFc (fun r hr => by cases hr)
  refine va_calli (va_runS (As := [.int 4, .int 0, .int 4]) (rest := [.ref mo]) ⟨hx, hb, hml, hown, hts⟩ (k_isIn4 l dC dI cI cB cR cO zk  H1.size ) (va_cwS 3 hts gX4_make_X4_isIn rfl rfl rfl (by decide +kernel) ⟨Nat.le_of_ble_eq_true rfl, Nat.le_of_ble_eq_true rfl⟩) ⟨zblind, hpre⟩ rfl rfl hl.1 rfl (lv_room (Nat.le_of_ble_eq_true rfl)) dX4_make_13 ⟨Nat.le_of_ble_eq_true rfl, Nat.le_of_ble_eq_true rfl⟩) hS (fun q _ h => hFc q h) hFc (fun r4 u t H3 locs ht hvm hw hB hz1 hk1 hS => ?_)
  obtain rfl : 1 = r4 := (show r4 = 1 from hw).symm
  obtain ⟨hP1, hK1, hD1, hz2⟩ := hB
  rw [ht] at hP1 hz2
  have hPD9 := va_join (wr := [(mo, .inr (9, [th, .ref al, md, rf, kn])), (al, .inr (4, [.int mc, .ref ed, .int 2])), (ed, .inl (cO, 10, .inr (.inr (.inr (.inr ee)))))]) (w1 := []) hP hD [] [0, 1, 2] rfl rfl (by decide) (by decide) hk1 hFc hP1 hD1
  clear hPc hDc hFc hDv hpre hP hD hP1 hK1 hD1
  obtain ⟨hP, hD⟩ := hPD9
  replace hz : s.heap.size + 0 ≤ H3.size := by omega
  clear hz2
  replace hP : va_P (dC, dI) vwCl [(mo, .inr (9, [th, .ref al, md, rf, kn])), (al, .inr (4, [.int mc, .ref ed, .int 2])), (ed, .inl (cO, 10, .inr (.inr (.inr (.inr ee)))))] H3 := hP
  replace hD : va_D A [(mo, .inr (9, [th, .ref al, md, rf, kn])), (al, .inr (4, [.int mc, .ref ed, .int 2])), (ed, .inl (cO, 10, .inr (.inr (.inr (.inr ee)))))] := hD
  refine W.widen (k := 0) (n := 0) (by omega) (by omega) ?_
  refine lv_if_ne (tgt := 23) hx hb dX4_make_16 (by decide) (fun c9 => ?_) (fun c9 => ?_)
  rotate_left
  · exact absurd c9 (by decide)
  refine lv_iconst (v := 0) hx hb dX4_make_23 (by decide) ?_
  refine lv_iconst (v := 1) hx hb dX4_make_24 (by decide) ?_
  have hPc := hP.sub (ws' := [(mo, .inr (9, [th, .ref al, md, rf, kn]))]) [0] rfl
  have hDc := hD.sub (ws' := [(mo, .inr (9, [th, .ref al, md, rf, kn]))]) [0] (by decide) rfl
  have hFc := va_free (wc := [(mo, .inr (9, [th, .ref al, md, rf, kn]))]) hD hS hA [0] rfl
  have hDv := hDc.self (sz := H3.size)
  have hpre := zpre (xs' := []) (av := [.ref mo, .int 0, .int 1]) hPc hK (hDc.weaken (fun _ _ _ h => h)) hZ hS hFc (fun r hr => by cases hr)
  refine va_calli (va_runV (As := [.int 0, .int 1]) (rest := []) ⟨hx, hb, hml, hown, hts⟩ (k_stt l dC dI cI cB cR cO zk mo al th md rf kn 1 H3.size ) (cwV 2 hts gX4_make_X4_start rfl rfl rfl (by decide +kernel) ⟨Nat.le_of_ble_eq_true rfl, Nat.le_of_ble_eq_true rfl⟩) ⟨zblind, (zrecv_9 hK hPc (q0 := 0) rfl), hpre⟩ rfl rfl hl.1 rfl (lv_room (Nat.le_of_ble_eq_true rfl)) dX4_make_25 ⟨Nat.le_of_ble_eq_true rfl, Nat.le_of_ble_eq_true rfl⟩) hS (fun q _ h => hFc q h) hFc (fun r6 u t H5 locs ht hvm hw hB hz1 hk1 hS => ?_)
  obtain rfl : 0 = r6 := (show r6 = 0 from hw).symm
  obtain ⟨hP1, hK1, hD1, hz2⟩ := hB
  rw [ht] at hP1 hz2
  have hPD9 := va_join (wr := [(al, .inr (4, [.int mc, .ref ed, .int 2])), (ed, .inl (cO, 10, .inr (.inr (.inr (.inr ee)))))]) (w1 := [(mo, .inr (9, [.int 0, .ref al, md, rf, kn]))]) hP hD [0] [1, 2] rfl rfl (by decide) (by decide) hk1 hFc hP1 hD1
  clear hPc hDc hFc hDv hpre hP hD hP1 hK1 hD1
  obtain ⟨hP, hD⟩ := hPD9
  replace hz : s.heap.size + 0 ≤ H5.size := by omega
  clear hz2
  replace hP : va_P (dC, dI) vwCl [(al, .inr (4, [.int mc, .ref ed, .int 2])), (ed, .inl (cO, 10, .inr (.inr (.inr (.inr ee))))), (mo, .inr (9, [.int 0, .ref al, md, rf, kn]))] H5 := hP
  replace hD : va_D A [(al, .inr (4, [.int mc, .ref ed, .int 2])), (ed, .inl (cO, 10, .inr (.inr (.inr (.inr ee))))), (mo, .inr (9, [.int 0, .ref al, md, rf, kn]))] := hD
  refine W.widen (k := 0) (n := 0) (by omega) (by omega) ?_
  refine lv_if_ne (tgt := 56) hx hb dX4_make_28 (by decide) (fun c9 => ?_) (fun c9 => ?_)
  · exact absurd (by decide) c9
  refine lv_aload_n hx hb dX4_make_31 rfl (lv_at hl 0 rfl) ?_
  refine lv_aload_n hx hb dX4_make_32 rfl (lv_at hl 0 rfl) ?_
  refine va_get (D := (dC, dI)) (ci := 9) (v := .ref al) (C := RX4) (T := TX4) (N := 5) hx hb hts hi_X4_make_X4 hown hK hP 2 rfl rfl 1 (by decide) (hts (.fieldLink RX4 10 "DeeprowsModel" "rows" "Ljava/util/ArrayList;") (List.mem_cons_of_mem _ zw_1134)) (fun _ h9 => h9) rfl dX4_make_33 ?_
  have hPc := hP.sub (ws' := [(al, .inr (4, [.int mc, .ref ed, .int 2]))]) [0] rfl
  have hDc := hD.sub (ws' := [(al, .inr (4, [.int mc, .ref ed, .int 2]))]) [0] (by decide) rfl
  have hFc := va_free (wc := [(al, .inr (4, [.int mc, .ref ed, .int 2]))]) hD hS hA [0] rfl
  have hDv := hDc.self (sz := H5.size)
  have hpre := zpre (xs' := []) (av := [.ref al]) hPc hK (hDc.weaken (fun _ _ _ h => h)) hZ hS hFc (fun r hr => by cases hr)
  refine va_calli (va_runV (As := []) (rest := [.ref mo]) ⟨hx, hb, hml, hown, hts⟩ (k_size l dC dI cI cB cR cO zk al ed 2 (.int mc) H5.size ) (cwV 0 hts gX4_make_Jx4a65c_size_8abf5 rfl rfl rfl (by decide +kernel) ⟨Nat.le_of_ble_eq_true rfl, Nat.le_of_ble_eq_true rfl⟩) ⟨zblind, (zrecv_4 hK hPc (q0 := 0) rfl), hpre⟩ rfl rfl hl.1 rfl (lv_room (Nat.le_of_ble_eq_true rfl)) dX4_make_36 ⟨Nat.le_of_ble_eq_true rfl, Nat.le_of_ble_eq_true rfl⟩) hS (fun q _ h => hFc q h) hFc (fun r8 u t H7 locs ht hvm hw hB hz1 hk1 hS => ?_)
  obtain rfl : 2 = r8 := (show r8 = 2 from hw).symm
  obtain ⟨hP1, hK1, hD1, hz2⟩ := hB
  rw [ht] at hP1 hz2
  have hPD9 := va_join (wr := [(ed, .inl (cO, 10, .inr (.inr (.inr (.inr ee))))), (mo, .inr (9, [.int 0, .ref al, md, rf, kn]))]) (w1 := [(al, .inr (4, [.int mc, .ref ed, .int 2]))]) hP hD [0] [1, 2] rfl rfl (by decide) (by decide) hk1 hFc hP1 hD1
  clear hPc hDc hFc hDv hpre hP hD hP1 hK1 hD1
  obtain ⟨hP, hD⟩ := hPD9
  replace hz : s.heap.size + 0 ≤ H7.size := by omega
  clear hz2
  replace hP : va_P (dC, dI) vwCl [(ed, .inl (cO, 10, .inr (.inr (.inr (.inr ee))))), (mo, .inr (9, [.int 0, .ref al, md, rf, kn])), (al, .inr (4, [.int mc, .ref ed, .int 2]))] H7 := hP
  replace hD : va_D A [(ed, .inl (cO, 10, .inr (.inr (.inr (.inr ee))))), (mo, .inr (9, [.int 0, .ref al, md, rf, kn])), (al, .inr (4, [.int mc, .ref ed, .int 2]))] := hD
  refine W.widen (k := 0) (n := 0) (by omega) (by omega) ?_
  refine lv_bipush (v := 12) hx hb dX4_make_39 (by decide) ?_
  refine lv_icmp_ne (tgt := 48) hx hb dX4_make_41 (by decide) (fun c9 => ?_) (fun c9 => ?_)
  rotate_left
  · exact absurd c9 (by decide)
  refine lv_iconst (v := 0) hx hb dX4_make_48 (by decide) ?_
  refine lv_iconst (v := 2) hx hb dX4_make_49 (by decide) ?_
  have hPc := hP.sub (ws' := [(mo, .inr (9, [.int 0, .ref al, md, rf, kn]))]) [1] rfl
  have hDc := hD.sub (ws' := [(mo, .inr (9, [.int 0, .ref al, md, rf, kn]))]) [1] (by decide) rfl
  have hFc := va_free (wc := [(mo, .inr (9, [.int 0, .ref al, md, rf, kn]))]) hD hS hA [1] rfl
  have hDv := hDc.self (sz := H7.size)
  have hpre := zpre (xs' := []) (av := [.ref mo, .int 0, .int 2]) hPc hK (hDc.weaken (fun _ _ _ h => h)) hZ hS hFc (fun r hr => by cases hr)
  refine va_calli (va_runV (As := [.int 0, .int 2]) (rest := []) ⟨hx, hb, hml, hown, hts⟩ (k_ref l dC dI cI cB cR cO zk mo al md rf kn 2 H7.size ) (cwV 2 hts gX4_make_X4_refuse rfl rfl rfl (by decide +kernel) ⟨Nat.le_of_ble_eq_true rfl, Nat.le_of_ble_eq_true rfl⟩) ⟨zblind, (zrecv_9 hK hPc (q0 := 0) rfl), hpre⟩ rfl rfl hl.1 rfl (lv_room (Nat.le_of_ble_eq_true rfl)) dX4_make_50 ⟨Nat.le_of_ble_eq_true rfl, Nat.le_of_ble_eq_true rfl⟩) hS (fun q _ h => hFc q h) hFc (fun r10 u t H9 locs ht hvm hw hB hz1 hk1 hS => ?_)
  obtain rfl : 0 = r10 := (show r10 = 0 from hw).symm
  obtain ⟨hP1, hK1, hD1, hz2⟩ := hB
  rw [ht] at hP1 hz2
  have hPD9 := va_join (wr := [(ed, .inl (cO, 10, .inr (.inr (.inr (.inr ee))))), (al, .inr (4, [.int mc, .ref ed, .int 2]))]) (w1 := [(mo, .inr (9, [.int 0, .ref al, md, rf, kn]))]) hP hD [1] [0, 2] rfl rfl (by decide) (by decide) hk1 hFc hP1 hD1
  clear hPc hDc hFc hDv hpre hP hD hP1 hK1 hD1
  obtain ⟨hP, hD⟩ := hPD9
  replace hz : s.heap.size + 0 ≤ H9.size := by omega
  clear hz2
  replace hP : va_P (dC, dI) vwCl [(ed, .inl (cO, 10, .inr (.inr (.inr (.inr ee))))), (al, .inr (4, [.int mc, .ref ed, .int 2])), (mo, .inr (9, [.int 0, .ref al, md, rf, kn]))] H9 := hP
  replace hD : va_D A [(ed, .inl (cO, 10, .inr (.inr (.inr (.inr ee))))), (al, .inr (4, [.int mc, .ref ed, .int 2])), (mo, .inr (9, [.int 0, .ref al, md, rf, kn]))] := hD
  refine W.widen (k := 0) (n := 0) (by omega) (by omega) ?_
  refine lv_if_eq (tgt := 58) hx hb dX4_make_53 (by decide) (fun c9 => ?_) (fun c9 => ?_)
  rotate_left
  · exact absurd (by decide) c9
  refine lv_aload_n hx hb dX4_make_58 rfl (lv_at hl 0 rfl) ?_
  refine va_get (D := (dC, dI)) (ci := 9) (v := .ref al) (C := RX4) (T := TX4) (N := 5) hx hb hts hi_X4_make_X4 hown hK hP 2 rfl rfl 1 (by decide) (hts (.fieldLink RX4 10 "DeeprowsModel" "rows" "Ljava/util/ArrayList;") (List.mem_cons_of_mem _ zw_1134)) (fun _ h9 => h9) rfl dX4_make_59 ?_
  refine zw_new (ci := 8) (fs := [.int 0, .null, .null]) (C := RX3) (T := TX3) (N := 3) hx hb hts hi_X4_make_X3 tyX3 tyX3_ok hown (hts (.classLink RX4 40 "DeeprowsModel$Row") (List.mem_cons_of_mem _ zw_1165)) (hts (.instantiable RX3 3) (List.mem_cons_of_mem _ zw_1166)) (hts (.initialized RX3) (List.mem_cons_of_mem _ zw_61)) hK hP hD hS hA rfl (fun j hj => by rcases (show j = 0 ∨ j = 1 ∨ j = 2 by omega) with rfl | rfl | rfl <;> rfl) (Nat.le_of_ble_eq_true rfl) (Nat.le_of_ble_eq_true rfl) dX4_make_62 hz (fun q11 H12 hP hD hS hz => ?_)
  replace hP : va_P (dC, dI) vwCl [(ed, .inl (cO, 10, .inr (.inr (.inr (.inr ee))))), (al, .inr (4, [.int mc, .ref ed, .int 2])), (mo, .inr (9, [.int 0, .ref al, md, rf, kn])), (q11, .inr (8, [.int 0, .null, .null]))] H12 := hP
  replace hD : va_D A [(ed, .inl (cO, 10, .inr (.inr (.inr (.inr ee))))), (al, .inr (4, [.int mc, .ref ed, .int 2])), (mo, .inr (9, [.int 0, .ref al, md, rf, kn])), (q11, .inr (8, [.int 0, .null, .null]))] := hD
  refine W.widen (k := 1) (n := 3) (by omega) (by omega) ?_
  refine lv_dup hx hb dX4_make_65 rfl ?_
  refine lv_iload_n hx hb dX4_make_66 rfl (lv_at hl 1 rfl) ?_
  refine lv_iload_n hx hb dX4_make_67 rfl (lv_at hl 2 rfl) ?_
  have hPc := hP.sub (ws' := [(q11, .inr (8, [.int 0, .null, .null]))]) [3] rfl
  have hDc := hD.sub (ws' := [(q11, .inr (8, [.int 0, .null, .null]))]) [3] (by decide) rfl
  have hFc := va_free (wc := [(q11, .inr (8, [.int 0, .null, .null]))]) hD hS hA [3] rfl
  have hDv := hDc.self (sz := H12.size)
  have hpre := zpre (xs' := []) (av := [.ref q11, .int 4, .int 4]) hPc hK (hDc.weaken (fun _ _ _ h => h)) hZ hS hFc (fun r hr => by cases hr)
  refine va_callv (va_runI (As := [.int 4, .int 4]) (rest := [.ref q11, .ref al]) ⟨hx, hb, hml, hown, hts⟩ (k_mrin l dC dI cI cB cR cO zk q11 H12.size ) (cwI 2 hts gX4_make_X3_init rfl rfl rfl (hts (.initialized RX3) (List.mem_cons_of_mem _ zw_61)) (hts (.methodLink RX4 76 yX3_init) (List.mem_cons_of_mem _ zw_1167)) (hts (.instanceMethod yX3_init) (List.mem_cons_of_mem _ zw_1168)) rfl (by decide +kernel) ⟨Nat.le_of_ble_eq_true rfl, Nat.le_of_ble_eq_true rfl⟩) ⟨zblind, hpre⟩ rfl rfl hl.1 rfl (lv_room (Nat.le_of_ble_eq_true rfl)) dX4_make_68 ⟨Nat.le_of_ble_eq_true rfl, Nat.le_of_ble_eq_true rfl⟩) hS (fun q _ h => hFc q h) hFc (fun u t H13 locs ht hvm hw hB hz1 hk1 hS => ?_)
  obtain ⟨wa15, na16, fw17, fn18, ⟨hP1, hK1, hD1, hz2⟩, hwfw17, hnfn18⟩ := hB
  rw [ht] at hP1 hz2
  have hPD9 := va_join (wr := [(ed, .inl (cO, 10, .inr (.inr (.inr (.inr ee))))), (al, .inr (4, [.int mc, .ref ed, .int 2])), (mo, .inr (9, [.int 0, .ref al, md, rf, kn]))]) (w1 := [(q11, .inr (8, [.int 4, .ref wa15, .ref na16])), (wa15, .inl (cI, 4, .inl fw17)), (na16, .inl (cI, 4, .inl fn18))]) hP hD [3] [0, 1, 2] rfl rfl (by decide) (by decide) hk1 hFc hP1 hD1
  clear hPc hDc hFc hDv hpre hP hD hP1 hK1 hD1
  obtain ⟨hP, hD⟩ := hPD9
  replace hz : s.heap.size + 3 ≤ H13.size := by omega
  clear hz2
  replace hP : va_P (dC, dI) vwCl [(ed, .inl (cO, 10, .inr (.inr (.inr (.inr ee))))), (al, .inr (4, [.int mc, .ref ed, .int 2])), (mo, .inr (9, [.int 0, .ref al, md, rf, kn])), (q11, .inr (8, [.int 4, .ref wa15, .ref na16])), (wa15, .inl (cI, 4, .inl fw17)), (na16, .inl (cI, 4, .inl fn18))] H13 := hP
  replace hD : va_D A [(ed, .inl (cO, 10, .inr (.inr (.inr (.inr ee))))), (al, .inr (4, [.int mc, .ref ed, .int 2])), (mo, .inr (9, [.int 0, .ref al, md, rf, kn])), (q11, .inr (8, [.int 4, .ref wa15, .ref na16])), (wa15, .inl (cI, 4, .inl fw17)), (na16, .inl (cI, 4, .inl fn18))] := hD
  refine W.widen (k := 3) (n := 11) (by omega) (by omega) ?_
  have hPc := hP.sub (ws' := [(al, .inr (4, [.int mc, .ref ed, .int 2])), (ed, .inl (cO, 10, .inr (.inr (.inr (.inr ee))))), (q11, .inr (8, [.int 4, .ref wa15, .ref na16]))]) [1, 0, 3] rfl
  have hDc := hD.sub (ws' := [(al, .inr (4, [.int mc, .ref ed, .int 2])), (ed, .inl (cO, 10, .inr (.inr (.inr (.inr ee))))), (q11, .inr (8, [.int 4, .ref wa15, .ref na16]))]) [1, 0, 3] (by decide) rfl
  have hFc := va_free (wc := [(al, .inr (4, [.int mc, .ref ed, .int 2])), (ed, .inl (cO, 10, .inr (.inr (.inr (.inr ee))))), (q11, .inr (8, [.int 4, .ref wa15, .ref na16]))]) hD hS hA [1, 0, 3] rfl
  have hDv := hDc.self (sz := H13.size)
  have hpre := zpre (xs' := []) (av := [.ref al, .ref q11]) hPc hK (hDc.weaken (fun _ _ _ h => h)) hZ hS hFc (fun r hr => by cases hr)
  refine va_calli (va_runV (As := [.ref q11]) (rest := []) ⟨hx, hb, hml, hown, hts⟩ (k_addBX3 l dC dI cI cB cR cO zk al q11 ed 2 ee mc wa15 na16 H13.size (by decide)) (cwV 1 hts gX4_make_Jx4a65c_add_9ea2d rfl rfl rfl (by decide +kernel) ⟨Nat.le_of_ble_eq_true rfl, Nat.le_of_ble_eq_true rfl⟩) ⟨zblind, (zrecv_4 hK hPc (q0 := 0) rfl), hpre⟩ rfl rfl hl.1 rfl (lv_room (Nat.le_of_ble_eq_true rfl)) dX4_make_71 ⟨Nat.le_of_ble_eq_true rfl, Nat.le_of_ble_eq_true rfl⟩) hS (fun q _ h => hFc q h) hFc (fun r20 u t H19 locs ht hvm hw hB hz1 hk1 hS => ?_)
  obtain rfl : 1 = r20 := (show r20 = 1 from hw).symm
  obtain ⟨mc21, ⟨hP1, hK1, hD1, hz2⟩⟩ := hB
  rw [ht] at hP1 hz2
  have hPD9 := va_join (wr := [(mo, .inr (9, [.int 0, .ref al, md, rf, kn])), (wa15, .inl (cI, 4, .inl fw17)), (na16, .inl (cI, 4, .inl fn18))]) (w1 := [(al, .inr (4, [.int mc21, .ref ed, .int 3])), (ed, .inl (cO, 10, .inr (.inr (.inr (.inr (va_up ee 2 (some q11))))))), (q11, .inr (8, [.int 4, .ref wa15, .ref na16]))]) hP hD [1, 0, 3] [2, 4, 5] rfl rfl (by decide) (by decide) hk1 hFc hP1 hD1
  clear hPc hDc hFc hDv hpre hP hD hP1 hK1 hD1
  obtain ⟨hP, hD⟩ := hPD9
  replace hz : s.heap.size + 3 ≤ H19.size := by omega
  clear hz2
  replace hP : va_P (dC, dI) vwCl [(mo, .inr (9, [.int 0, .ref al, md, rf, kn])), (wa15, .inl (cI, 4, .inl fw17)), (na16, .inl (cI, 4, .inl fn18)), (al, .inr (4, [.int mc21, .ref ed, .int 3])), (ed, .inl (cO, 10, .inr (.inr (.inr (.inr (va_up ee 2 (some q11))))))), (q11, .inr (8, [.int 4, .ref wa15, .ref na16]))] H19 := hP
  replace hD : va_D A [(mo, .inr (9, [.int 0, .ref al, md, rf, kn])), (wa15, .inl (cI, 4, .inl fw17)), (na16, .inl (cI, 4, .inl fn18)), (al, .inr (4, [.int mc21, .ref ed, .int 3])), (ed, .inl (cO, 10, .inr (.inr (.inr (.inr (va_up ee 2 (some q11))))))), (q11, .inr (8, [.int 4, .ref wa15, .ref na16]))] := hD
  refine W.widen (k := 3) (n := 11) (by omega) (by omega) ?_
  refine lv_pop hx hb dX4_make_74 rfl ?_
  refine lv_aload_n hx hb dX4_make_75 rfl (lv_at hl 0 rfl) ?_
  refine va_get (D := (dC, dI)) (ci := 9) (v := .ref al) (C := RX4) (T := TX4) (N := 5) hx hb hts hi_X4_make_X4 hown hK hP 0 rfl rfl 1 (by decide) (hts (.fieldLink RX4 10 "DeeprowsModel" "rows" "Ljava/util/ArrayList;") (List.mem_cons_of_mem _ zw_1134)) (fun _ h9 => h9) rfl dX4_make_76 ?_
  have hPc := hP.sub (ws' := [(al, .inr (4, [.int mc21, .ref ed, .int 3]))]) [3] rfl
  have hDc := hD.sub (ws' := [(al, .inr (4, [.int mc21, .ref ed, .int 3]))]) [3] (by decide) rfl
  have hFc := va_free (wc := [(al, .inr (4, [.int mc21, .ref ed, .int 3]))]) hD hS hA [3] rfl
  have hDv := hDc.self (sz := H19.size)
  have hpre := zpre (xs' := []) (av := [.ref al]) hPc hK (hDc.weaken (fun _ _ _ h => h)) hZ hS hFc (fun r hr => by cases hr)
  refine va_calli (va_runV (As := []) (rest := []) ⟨hx, hb, hml, hown, hts⟩ (k_size l dC dI cI cB cR cO zk al ed 3 (.int mc21) H19.size ) (cwV 0 hts gX4_make_Jx4a65c_size_8abf5 rfl rfl rfl (by decide +kernel) ⟨Nat.le_of_ble_eq_true rfl, Nat.le_of_ble_eq_true rfl⟩) ⟨zblind, (zrecv_4 hK hPc (q0 := 0) rfl), hpre⟩ rfl rfl hl.1 rfl (lv_room (Nat.le_of_ble_eq_true rfl)) dX4_make_79 ⟨Nat.le_of_ble_eq_true rfl, Nat.le_of_ble_eq_true rfl⟩) hS (fun q _ h => hFc q h) hFc (fun r23 u t H22 locs ht hvm hw hB hz1 hk1 hS => ?_)
  obtain rfl : 3 = r23 := (show r23 = 3 from hw).symm
  obtain ⟨hP1, hK1, hD1, hz2⟩ := hB
  rw [ht] at hP1 hz2
  have hPD9 := va_join (wr := [(mo, .inr (9, [.int 0, .ref al, md, rf, kn])), (wa15, .inl (cI, 4, .inl fw17)), (na16, .inl (cI, 4, .inl fn18)), (ed, .inl (cO, 10, .inr (.inr (.inr (.inr (va_up ee 2 (some q11))))))), (q11, .inr (8, [.int 4, .ref wa15, .ref na16]))]) (w1 := [(al, .inr (4, [.int mc21, .ref ed, .int 3]))]) hP hD [3] [0, 1, 2, 4, 5] rfl rfl (by decide) (by decide) hk1 hFc hP1 hD1
  clear hPc hDc hFc hDv hpre hP hD hP1 hK1 hD1
  obtain ⟨hP, hD⟩ := hPD9
  replace hz : s.heap.size + 3 ≤ H22.size := by omega
  clear hz2
  replace hP : va_P (dC, dI) vwCl [(mo, .inr (9, [.int 0, .ref al, md, rf, kn])), (wa15, .inl (cI, 4, .inl fw17)), (na16, .inl (cI, 4, .inl fn18)), (ed, .inl (cO, 10, .inr (.inr (.inr (.inr (va_up ee 2 (some q11))))))), (q11, .inr (8, [.int 4, .ref wa15, .ref na16])), (al, .inr (4, [.int mc21, .ref ed, .int 3]))] H22 := hP
  replace hD : va_D A [(mo, .inr (9, [.int 0, .ref al, md, rf, kn])), (wa15, .inl (cI, 4, .inl fw17)), (na16, .inl (cI, 4, .inl fn18)), (ed, .inl (cO, 10, .inr (.inr (.inr (.inr (va_up ee 2 (some q11))))))), (q11, .inr (8, [.int 4, .ref wa15, .ref na16])), (al, .inr (4, [.int mc21, .ref ed, .int 3]))] := hD
  refine W.widen (k := 3) (n := 11) (by omega) (by omega) ?_
  refine lv_iconst (v := 1) hx hb dX4_make_82 (by decide) ?_
  refine lv_isub hx hb dX4_make_83 ?_
  refine lv_topi (fun v24 ev24 => ?_)
  obtain rfl : v24 = 2 := ev24.trans (by decide)
  have hP9 := hP.sub (ws' := [(mo, .inr (9, [.int 0, .ref al, md, rf, kn])), (al, .inr (4, [.int mc21, .ref ed, .int 3])), (ed, .inl (cO, 10, .inr (.inr (.inr (.inr (va_up ee 2 (some q11))))))), (q11, .inr (8, [.int 4, .ref wa15, .ref na16])), (wa15, .inl (cI, 4, .inl fw17)), (na16, .inl (cI, 4, .inl fn18))]) [0, 5, 3, 4, 1, 2] rfl
  have hD9 := hD.sub (ws' := [(mo, .inr (9, [.int 0, .ref al, md, rf, kn])), (al, .inr (4, [.int mc21, .ref ed, .int 3])), (ed, .inl (cO, 10, .inr (.inr (.inr (.inr (va_up ee 2 (some q11))))))), (q11, .inr (8, [.int 4, .ref wa15, .ref na16])), (wa15, .inl (cI, 4, .inl fw17)), (na16, .inl (cI, 4, .inl fn18))]) [0, 5, 3, 4, 1, 2] (by decide) rfl
  exact W.iret (v := 2) hx hb hr (fun t ht hW => ⟨⟨_, (), rfl, rfl, ⟨_, _, _, _, _, _, ⟨by rw [ht]; exact hP9, va_K.moved hW.alike hK, hD9, by rw [ht]; exact hz⟩, hwfw17, hnfn18⟩⟩, hS.F ht⟩) hS.2.2 dX4_make_84

set_option maxHeartbeats 4000000 in
set_option maxRecDepth 100000 in
theorem k_mkM3 (l : Launch) (dC : Nat → ClassId) (dI : Nat → Nat → Nat) (cI cB cR cO : ClassId) (zk : Nat → Nat) (mo al : Nat) (th md rf kn : Value) (ed : Nat) (ee : Nat → Option Nat) (mc : Int32) (sz : Nat)  : Met l yX4_make wsX4_make ({ frames := 2, cells := 3, slots := 11, locals := 83 }) (va_Pc [.ref mo, .int 4, .int 4] (zPre (dC, dI) (zT cI cB cR cO) zk [] [(mo, .inr (9, [th, .ref al, md, rf, kn])), (al, .inr (4, [.int mc, .ref ed, .int 3])), (ed, .inl (cO, 10, .inr (.inr (.inr (.inr ee)))))] sz)) (va_Qi (fun r (_ : Unit) => r = 3) (fun _ t => ∃ (mc2 : Int32), ∃ a, ∃ wa, ∃ na, ∃ (fw : Nat → Int32), ∃ (fn : Nat → Int32), zEnd (dC, dI) (zT cI cB cR cO) (va_A [(mo, .inr (9, [th, .ref al, md, rf, kn])), (al, .inr (4, [.int mc, .ref ed, .int 3])), (ed, .inl (cO, 10, .inr (.inr (.inr (.inr ee)))))] sz) [(mo, .inr (9, [.int 0, .ref al, md, rf, kn])), (al, .inr (4, [.int mc2, .ref ed, .int 4])), (ed, .inl (cO, 10, .inr (.inr (.inr (.inr (va_up ee 3 (some a))))))), (a, .inr (8, [.int 4, .ref wa, .ref na])), (wa, .inl (cI, 4, .inl fw)), (na, .inl (cI, 4, .inl fn))] sz 3 t ∧ (∀ i, i < 4 → fw i = 0) ∧ (∀ i, i < 4 → fn i = -1)) (va_A [(mo, .inr (9, [th, .ref al, md, rf, kn])), (al, .inr (4, [.int mc, .ref ed, .int 3])), (ed, .inl (cO, 10, .inr (.inr (.inr (.inr ee)))))] sz)) 3 11 (va_A [(mo, .inr (9, [th, .ref al, md, rf, kn])), (al, .inr (4, [.int mc, .ref ed, .int 3])), (ed, .inl (cO, 10, .inr (.inr (.inr (.inr ee)))))] sz) := by
  refine Met.ofW (cc := cX4_make) (maxL := 3) (ret := (some .int)) (by decide) rfl ?_
  intro p e s mY args below meth c s₁ B hml hv
  obtain ⟨rfl, hsz, hP, hK, hD0, hZ⟩ := hv
  have hx := B.exec
  have hb := B.bytes
  have hr := B.returns
  have hts := atoms_spec (ws := wsX4_make) B.pre
  have hown : s.vm.findClass RX4 = some mY.cls := findClass_of_methodNamed B.named
  have hlocks := B.notSynchronized
  subst hsz
  have hD := hD0.self (sz := s.heap.size)
  generalize hAe : va_A [(mo, .inr (9, [th, .ref al, md, rf, kn])), (al, .inr (4, [.int mc, .ref ed, .int 3])), (ed, .inl (cO, 10, .inr (.inr (.inr (.inr ee)))))] s.heap.size = A at hD hZ ⊢
  have hA : ∀ q : Nat, s.heap.size ≤ q → A q := fun q h => by rw [← hAe]; exact Or.inr h
  have hS : va_S A s.heap s.heap [] := va_S.rf
  have hz : s.heap.size + 0 ≤ s.heap.size := Nat.le_refl _
  have hl := lv_entry ([.ref mo, .int 4, .int 4]) (n := 3) (Nat.le_of_ble_eq_true rfl)
  rw [lg_entry_eq]
  generalize (lg_sl ([.ref mo, .int 4, .int 4]) ++ List.replicate (3 - (lg_sl ([.ref mo, .int 4, .int 4])).length) Slot.unset).toArray = ls at hl ⊢
  have hl : lv_has ls 3 [(0, .ref mo), (1, .int 4), (2, .int 4)] := hl
  have hP : va_P (dC, dI) vwCl [(mo, .inr (9, [th, .ref al, md, rf, kn])), (al, .inr (4, [.int mc, .ref ed, .int 3])), (ed, .inl (cO, 10, .inr (.inr (.inr (.inr ee)))))] s.heap := hP
  have hD : va_D A [(mo, .inr (9, [th, .ref al, md, rf, kn])), (al, .inr (4, [.int mc, .ref ed, .int 3])), (ed, .inl (cO, 10, .inr (.inr (.inr (.inr ee)))))] := hD
  refine lv_aload_n hx hb dX4_make_0 rfl (lv_at hl 0 rfl) ?_
  refine lv_iload_n hx hb dX4_make_1 rfl (lv_at hl 1 rfl) ?_
  refine lv_iconst (v := 0) hx hb dX4_make_2 (by decide) ?_
  refine lv_iconst (v := 4) hx hb dX4_make_3 (by decide) ?_
  have hPc := hP.sub (ws' := []) [] rfl
  have hDc := hD.sub (ws' := []) [] (by decide) rfl
  have hFc := va_free (wc := []) hD hS hA [] rfl
  have hDv := hDc.self (sz := s.heap.size)
  have hpre := zpre (xs' := []) (av := [.int 4, .int 0, .int 4]) hPc hK (hDc.weaken (fun _ _ _ h => h)) hZ hS hFc (fun r hr => by cases hr)
  refine va_calli (va_runS (As := [.int 4, .int 0, .int 4]) (rest := [.ref mo]) ⟨hx, hb, hml, hown, hts⟩ (k_isIn4 l dC dI cI cB cR cO zk  s.heap.size ) (va_cwS 3 hts gX4_make_X4_isIn rfl rfl rfl (by decide +kernel) ⟨Nat.le_of_ble_eq_true rfl, Nat.le_of_ble_eq_true rfl⟩) ⟨zblind, hpre⟩ rfl rfl hl.1 rfl (lv_room (Nat.le_of_ble_eq_true rfl)) dX4_make_4 ⟨Nat.le_of_ble_eq_true rfl, Nat.le_of_ble_eq_true rfl⟩) hS (fun q _ h => hFc q h) hFc (fun r2 u t H1 locs ht hvm hw hB hz1 hk1 hS => ?_)
  obtain rfl : 1 = r2 := (show r2 = 1 from hw).symm
  obtain ⟨hP1, hK1, hD1, hz2⟩ := hB
  rw [ht] at hP1 hz2
  have hPD9 := va_join (wr := [(mo, .inr (9, [th, .ref al, md, rf, kn])), (al, .inr (4, [.int mc, .ref ed, .int 3])), (ed, .inl (cO, 10, .inr (.inr (.inr (.inr ee)))))]) (w1 := []) hP hD [] [0, 1, 2] rfl rfl (by decide) (by decide) hk1 hFc hP1 hD1
  clear hPc hDc hFc hDv hpre hP hD hP1 hK1 hD1
  obtain ⟨hP, hD⟩ := hPD9
  replace hz : s.heap.size + 0 ≤ H1.size := by omega
  clear hz2
  replace hP : va_P (dC, dI) vwCl [(mo, .inr (9, [th, .ref al, md, rf, kn])), (al, .inr (4, [.int mc, .ref ed, .int 3])), (ed, .inl (cO, 10, .inr (.inr (.inr (.inr ee)))))] H1 := hP
  replace hD : va_D A [(mo, .inr (9, [th, .ref al, md, rf, kn])), (al, .inr (4, [.int mc, .ref ed, .int 3])), (ed, .inl (cO, 10, .inr (.inr (.inr (.inr ee)))))] := hD
  refine W.widen (k := 0) (n := 0) (by omega) (by omega) ?_
  refine lv_if_eq (tgt := 19) hx hb dX4_make_7 (by decide) (fun c9 => ?_) (fun c9 => ?_)
  · exact absurd c9 (by decide)
  refine lv_iload_n hx hb dX4_make_10 rfl (lv_at hl 2 rfl) ?_
  refine lv_iconst (v := 0) hx hb dX4_make_11 (by decide) ?_
  refine lv_iconst (v := 4) hx hb dX4_make_12 (by decide) ?_
  have hPc := hP.sub (ws' := []) [] rfl
  have hDc := hD.sub (ws' := []) [] (by decide) rfl
  have hFc := va_free (wc := []) hD hS hA [] rfl
  have hDv := hDc.self (sz := H1.size)
  have hpre := zpre (xs' := []) (av := [.int 4, .int 0, .int 4]) hPc hK (hDc.weaken (fun _ _ _ h => h)) hZ hS hFc (fun r hr => by cases hr)
  refine va_calli (va_runS (As := [.int 4, .int 0, .int 4]) (rest := [.ref mo]) ⟨hx, hb, hml, hown, hts⟩ (k_isIn4 l dC dI cI cB cR cO zk  H1.size ) (va_cwS 3 hts gX4_make_X4_isIn rfl rfl rfl (by decide +kernel) ⟨Nat.le_of_ble_eq_true rfl, Nat.le_of_ble_eq_true rfl⟩) ⟨zblind, hpre⟩ rfl rfl hl.1 rfl (lv_room (Nat.le_of_ble_eq_true rfl)) dX4_make_13 ⟨Nat.le_of_ble_eq_true rfl, Nat.le_of_ble_eq_true rfl⟩) hS (fun q _ h => hFc q h) hFc (fun r4 u t H3 locs ht hvm hw hB hz1 hk1 hS => ?_)
  obtain rfl : 1 = r4 := (show r4 = 1 from hw).symm
  obtain ⟨hP1, hK1, hD1, hz2⟩ := hB
  rw [ht] at hP1 hz2
  have hPD9 := va_join (wr := [(mo, .inr (9, [th, .ref al, md, rf, kn])), (al, .inr (4, [.int mc, .ref ed, .int 3])), (ed, .inl (cO, 10, .inr (.inr (.inr (.inr ee)))))]) (w1 := []) hP hD [] [0, 1, 2] rfl rfl (by decide) (by decide) hk1 hFc hP1 hD1
  clear hPc hDc hFc hDv hpre hP hD hP1 hK1 hD1
  obtain ⟨hP, hD⟩ := hPD9
  replace hz : s.heap.size + 0 ≤ H3.size := by omega
  clear hz2
  replace hP : va_P (dC, dI) vwCl [(mo, .inr (9, [th, .ref al, md, rf, kn])), (al, .inr (4, [.int mc, .ref ed, .int 3])), (ed, .inl (cO, 10, .inr (.inr (.inr (.inr ee)))))] H3 := hP
  replace hD : va_D A [(mo, .inr (9, [th, .ref al, md, rf, kn])), (al, .inr (4, [.int mc, .ref ed, .int 3])), (ed, .inl (cO, 10, .inr (.inr (.inr (.inr ee)))))] := hD
  refine W.widen (k := 0) (n := 0) (by omega) (by omega) ?_
  refine lv_if_ne (tgt := 23) hx hb dX4_make_16 (by decide) (fun c9 => ?_) (fun c9 => ?_)
  rotate_left
  · exact absurd c9 (by decide)
  refine lv_iconst (v := 0) hx hb dX4_make_23 (by decide) ?_
  refine lv_iconst (v := 1) hx hb dX4_make_24 (by decide) ?_
  have hPc := hP.sub (ws' := [(mo, .inr (9, [th, .ref al, md, rf, kn]))]) [0] rfl
  have hDc := hD.sub (ws' := [(mo, .inr (9, [th, .ref al, md, rf, kn]))]) [0] (by decide) rfl
  have hFc := va_free (wc := [(mo, .inr (9, [th, .ref al, md, rf, kn]))]) hD hS hA [0] rfl
  have hDv := hDc.self (sz := H3.size)
  have hpre := zpre (xs' := []) (av := [.ref mo, .int 0, .int 1]) hPc hK (hDc.weaken (fun _ _ _ h => h)) hZ hS hFc (fun r hr => by cases hr)
  refine va_calli (va_runV (As := [.int 0, .int 1]) (rest := []) ⟨hx, hb, hml, hown, hts⟩ (k_stt l dC dI cI cB cR cO zk mo al th md rf kn 1 H3.size ) (cwV 2 hts gX4_make_X4_start rfl rfl rfl (by decide +kernel) ⟨Nat.le_of_ble_eq_true rfl, Nat.le_of_ble_eq_true rfl⟩) ⟨zblind, (zrecv_9 hK hPc (q0 := 0) rfl), hpre⟩ rfl rfl hl.1 rfl (lv_room (Nat.le_of_ble_eq_true rfl)) dX4_make_25 ⟨Nat.le_of_ble_eq_true rfl, Nat.le_of_ble_eq_true rfl⟩) hS (fun q _ h => hFc q h) hFc (fun r6 u t H5 locs ht hvm hw hB hz1 hk1 hS => ?_)
  obtain rfl : 0 = r6 := (show r6 = 0 from hw).symm
  obtain ⟨hP1, hK1, hD1, hz2⟩ := hB
  rw [ht] at hP1 hz2
  have hPD9 := va_join (wr := [(al, .inr (4, [.int mc, .ref ed, .int 3])), (ed, .inl (cO, 10, .inr (.inr (.inr (.inr ee)))))]) (w1 := [(mo, .inr (9, [.int 0, .ref al, md, rf, kn]))]) hP hD [0] [1, 2] rfl rfl (by decide) (by decide) hk1 hFc hP1 hD1
  clear hPc hDc hFc hDv hpre hP hD hP1 hK1 hD1
  obtain ⟨hP, hD⟩ := hPD9
  replace hz : s.heap.size + 0 ≤ H5.size := by omega
  clear hz2
  replace hP : va_P (dC, dI) vwCl [(al, .inr (4, [.int mc, .ref ed, .int 3])), (ed, .inl (cO, 10, .inr (.inr (.inr (.inr ee))))), (mo, .inr (9, [.int 0, .ref al, md, rf, kn]))] H5 := hP
  replace hD : va_D A [(al, .inr (4, [.int mc, .ref ed, .int 3])), (ed, .inl (cO, 10, .inr (.inr (.inr (.inr ee))))), (mo, .inr (9, [.int 0, .ref al, md, rf, kn]))] := hD
  refine W.widen (k := 0) (n := 0) (by omega) (by omega) ?_
  refine lv_if_ne (tgt := 56) hx hb dX4_make_28 (by decide) (fun c9 => ?_) (fun c9 => ?_)
  · exact absurd (by decide) c9
  refine lv_aload_n hx hb dX4_make_31 rfl (lv_at hl 0 rfl) ?_
  refine lv_aload_n hx hb dX4_make_32 rfl (lv_at hl 0 rfl) ?_
  refine va_get (D := (dC, dI)) (ci := 9) (v := .ref al) (C := RX4) (T := TX4) (N := 5) hx hb hts hi_X4_make_X4 hown hK hP 2 rfl rfl 1 (by decide) (hts (.fieldLink RX4 10 "DeeprowsModel" "rows" "Ljava/util/ArrayList;") (List.mem_cons_of_mem _ zw_1134)) (fun _ h9 => h9) rfl dX4_make_33 ?_
  have hPc := hP.sub (ws' := [(al, .inr (4, [.int mc, .ref ed, .int 3]))]) [0] rfl
  have hDc := hD.sub (ws' := [(al, .inr (4, [.int mc, .ref ed, .int 3]))]) [0] (by decide) rfl
  have hFc := va_free (wc := [(al, .inr (4, [.int mc, .ref ed, .int 3]))]) hD hS hA [0] rfl
  have hDv := hDc.self (sz := H5.size)
  have hpre := zpre (xs' := []) (av := [.ref al]) hPc hK (hDc.weaken (fun _ _ _ h => h)) hZ hS hFc (fun r hr => by cases hr)
  refine va_calli (va_runV (As := []) (rest := [.ref mo]) ⟨hx, hb, hml, hown, hts⟩ (k_size l dC dI cI cB cR cO zk al ed 3 (.int mc) H5.size ) (cwV 0 hts gX4_make_Jx4a65c_size_8abf5 rfl rfl rfl (by decide +kernel) ⟨Nat.le_of_ble_eq_true rfl, Nat.le_of_ble_eq_true rfl⟩) ⟨zblind, (zrecv_4 hK hPc (q0 := 0) rfl), hpre⟩ rfl rfl hl.1 rfl (lv_room (Nat.le_of_ble_eq_true rfl)) dX4_make_36 ⟨Nat.le_of_ble_eq_true rfl, Nat.le_of_ble_eq_true rfl⟩) hS (fun q _ h => hFc q h) hFc (fun r8 u t H7 locs ht hvm hw hB hz1 hk1 hS => ?_)
  obtain rfl : 3 = r8 := (show r8 = 3 from hw).symm
  obtain ⟨hP1, hK1, hD1, hz2⟩ := hB
  rw [ht] at hP1 hz2
  have hPD9 := va_join (wr := [(ed, .inl (cO, 10, .inr (.inr (.inr (.inr ee))))), (mo, .inr (9, [.int 0, .ref al, md, rf, kn]))]) (w1 := [(al, .inr (4, [.int mc, .ref ed, .int 3]))]) hP hD [0] [1, 2] rfl rfl (by decide) (by decide) hk1 hFc hP1 hD1
  clear hPc hDc hFc hDv hpre hP hD hP1 hK1 hD1
  obtain ⟨hP, hD⟩ := hPD9
  replace hz : s.heap.size + 0 ≤ H7.size := by omega
  clear hz2
  replace hP : va_P (dC, dI) vwCl [(ed, .inl (cO, 10, .inr (.inr (.inr (.inr ee))))), (mo, .inr (9, [.int 0, .ref al, md, rf, kn])), (al, .inr (4, [.int mc, .ref ed, .int 3]))] H7 := hP
  replace hD : va_D A [(ed, .inl (cO, 10, .inr (.inr (.inr (.inr ee))))), (mo, .inr (9, [.int 0, .ref al, md, rf, kn])), (al, .inr (4, [.int mc, .ref ed, .int 3]))] := hD
  refine W.widen (k := 0) (n := 0) (by omega) (by omega) ?_
  refine lv_bipush (v := 12) hx hb dX4_make_39 (by decide) ?_
  refine lv_icmp_ne (tgt := 48) hx hb dX4_make_41 (by decide) (fun c9 => ?_) (fun c9 => ?_)
  rotate_left
  · exact absurd c9 (by decide)
  refine lv_iconst (v := 0) hx hb dX4_make_48 (by decide) ?_
  refine lv_iconst (v := 2) hx hb dX4_make_49 (by decide) ?_
  have hPc := hP.sub (ws' := [(mo, .inr (9, [.int 0, .ref al, md, rf, kn]))]) [1] rfl
  have hDc := hD.sub (ws' := [(mo, .inr (9, [.int 0, .ref al, md, rf, kn]))]) [1] (by decide) rfl
  have hFc := va_free (wc := [(mo, .inr (9, [.int 0, .ref al, md, rf, kn]))]) hD hS hA [1] rfl
  have hDv := hDc.self (sz := H7.size)
  have hpre := zpre (xs' := []) (av := [.ref mo, .int 0, .int 2]) hPc hK (hDc.weaken (fun _ _ _ h => h)) hZ hS hFc (fun r hr => by cases hr)
  refine va_calli (va_runV (As := [.int 0, .int 2]) (rest := []) ⟨hx, hb, hml, hown, hts⟩ (k_ref l dC dI cI cB cR cO zk mo al md rf kn 2 H7.size ) (cwV 2 hts gX4_make_X4_refuse rfl rfl rfl (by decide +kernel) ⟨Nat.le_of_ble_eq_true rfl, Nat.le_of_ble_eq_true rfl⟩) ⟨zblind, (zrecv_9 hK hPc (q0 := 0) rfl), hpre⟩ rfl rfl hl.1 rfl (lv_room (Nat.le_of_ble_eq_true rfl)) dX4_make_50 ⟨Nat.le_of_ble_eq_true rfl, Nat.le_of_ble_eq_true rfl⟩) hS (fun q _ h => hFc q h) hFc (fun r10 u t H9 locs ht hvm hw hB hz1 hk1 hS => ?_)
  obtain rfl : 0 = r10 := (show r10 = 0 from hw).symm
  obtain ⟨hP1, hK1, hD1, hz2⟩ := hB
  rw [ht] at hP1 hz2
  have hPD9 := va_join (wr := [(ed, .inl (cO, 10, .inr (.inr (.inr (.inr ee))))), (al, .inr (4, [.int mc, .ref ed, .int 3]))]) (w1 := [(mo, .inr (9, [.int 0, .ref al, md, rf, kn]))]) hP hD [1] [0, 2] rfl rfl (by decide) (by decide) hk1 hFc hP1 hD1
  clear hPc hDc hFc hDv hpre hP hD hP1 hK1 hD1
  obtain ⟨hP, hD⟩ := hPD9
  replace hz : s.heap.size + 0 ≤ H9.size := by omega
  clear hz2
  replace hP : va_P (dC, dI) vwCl [(ed, .inl (cO, 10, .inr (.inr (.inr (.inr ee))))), (al, .inr (4, [.int mc, .ref ed, .int 3])), (mo, .inr (9, [.int 0, .ref al, md, rf, kn]))] H9 := hP
  replace hD : va_D A [(ed, .inl (cO, 10, .inr (.inr (.inr (.inr ee))))), (al, .inr (4, [.int mc, .ref ed, .int 3])), (mo, .inr (9, [.int 0, .ref al, md, rf, kn]))] := hD
  refine W.widen (k := 0) (n := 0) (by omega) (by omega) ?_
  refine lv_if_eq (tgt := 58) hx hb dX4_make_53 (by decide) (fun c9 => ?_) (fun c9 => ?_)
  rotate_left
  · exact absurd (by decide) c9
  refine lv_aload_n hx hb dX4_make_58 rfl (lv_at hl 0 rfl) ?_
  refine va_get (D := (dC, dI)) (ci := 9) (v := .ref al) (C := RX4) (T := TX4) (N := 5) hx hb hts hi_X4_make_X4 hown hK hP 2 rfl rfl 1 (by decide) (hts (.fieldLink RX4 10 "DeeprowsModel" "rows" "Ljava/util/ArrayList;") (List.mem_cons_of_mem _ zw_1134)) (fun _ h9 => h9) rfl dX4_make_59 ?_
  refine zw_new (ci := 8) (fs := [.int 0, .null, .null]) (C := RX3) (T := TX3) (N := 3) hx hb hts hi_X4_make_X3 tyX3 tyX3_ok hown (hts (.classLink RX4 40 "DeeprowsModel$Row") (List.mem_cons_of_mem _ zw_1165)) (hts (.instantiable RX3 3) (List.mem_cons_of_mem _ zw_1166)) (hts (.initialized RX3) (List.mem_cons_of_mem _ zw_61)) hK hP hD hS hA rfl (fun j hj => by rcases (show j = 0 ∨ j = 1 ∨ j = 2 by omega) with rfl | rfl | rfl <;> rfl) (Nat.le_of_ble_eq_true rfl) (Nat.le_of_ble_eq_true rfl) dX4_make_62 hz (fun q11 H12 hP hD hS hz => ?_)
  replace hP : va_P (dC, dI) vwCl [(ed, .inl (cO, 10, .inr (.inr (.inr (.inr ee))))), (al, .inr (4, [.int mc, .ref ed, .int 3])), (mo, .inr (9, [.int 0, .ref al, md, rf, kn])), (q11, .inr (8, [.int 0, .null, .null]))] H12 := hP
  replace hD : va_D A [(ed, .inl (cO, 10, .inr (.inr (.inr (.inr ee))))), (al, .inr (4, [.int mc, .ref ed, .int 3])), (mo, .inr (9, [.int 0, .ref al, md, rf, kn])), (q11, .inr (8, [.int 0, .null, .null]))] := hD
  refine W.widen (k := 1) (n := 3) (by omega) (by omega) ?_
  refine lv_dup hx hb dX4_make_65 rfl ?_
  refine lv_iload_n hx hb dX4_make_66 rfl (lv_at hl 1 rfl) ?_
  refine lv_iload_n hx hb dX4_make_67 rfl (lv_at hl 2 rfl) ?_
  have hPc := hP.sub (ws' := [(q11, .inr (8, [.int 0, .null, .null]))]) [3] rfl
  have hDc := hD.sub (ws' := [(q11, .inr (8, [.int 0, .null, .null]))]) [3] (by decide) rfl
  have hFc := va_free (wc := [(q11, .inr (8, [.int 0, .null, .null]))]) hD hS hA [3] rfl
  have hDv := hDc.self (sz := H12.size)
  have hpre := zpre (xs' := []) (av := [.ref q11, .int 4, .int 4]) hPc hK (hDc.weaken (fun _ _ _ h => h)) hZ hS hFc (fun r hr => by cases hr)
  refine va_callv (va_runI (As := [.int 4, .int 4]) (rest := [.ref q11, .ref al]) ⟨hx, hb, hml, hown, hts⟩ (k_mrin l dC dI cI cB cR cO zk q11 H12.size ) (cwI 2 hts gX4_make_X3_init rfl rfl rfl (hts (.initialized RX3) (List.mem_cons_of_mem _ zw_61)) (hts (.methodLink RX4 76 yX3_init) (List.mem_cons_of_mem _ zw_1167)) (hts (.instanceMethod yX3_init) (List.mem_cons_of_mem _ zw_1168)) rfl (by decide +kernel) ⟨Nat.le_of_ble_eq_true rfl, Nat.le_of_ble_eq_true rfl⟩) ⟨zblind, hpre⟩ rfl rfl hl.1 rfl (lv_room (Nat.le_of_ble_eq_true rfl)) dX4_make_68 ⟨Nat.le_of_ble_eq_true rfl, Nat.le_of_ble_eq_true rfl⟩) hS (fun q _ h => hFc q h) hFc (fun u t H13 locs ht hvm hw hB hz1 hk1 hS => ?_)
  obtain ⟨wa15, na16, fw17, fn18, ⟨hP1, hK1, hD1, hz2⟩, hwfw17, hnfn18⟩ := hB
  rw [ht] at hP1 hz2
  have hPD9 := va_join (wr := [(ed, .inl (cO, 10, .inr (.inr (.inr (.inr ee))))), (al, .inr (4, [.int mc, .ref ed, .int 3])), (mo, .inr (9, [.int 0, .ref al, md, rf, kn]))]) (w1 := [(q11, .inr (8, [.int 4, .ref wa15, .ref na16])), (wa15, .inl (cI, 4, .inl fw17)), (na16, .inl (cI, 4, .inl fn18))]) hP hD [3] [0, 1, 2] rfl rfl (by decide) (by decide) hk1 hFc hP1 hD1
  clear hPc hDc hFc hDv hpre hP hD hP1 hK1 hD1
  obtain ⟨hP, hD⟩ := hPD9
  replace hz : s.heap.size + 3 ≤ H13.size := by omega
  clear hz2
  replace hP : va_P (dC, dI) vwCl [(ed, .inl (cO, 10, .inr (.inr (.inr (.inr ee))))), (al, .inr (4, [.int mc, .ref ed, .int 3])), (mo, .inr (9, [.int 0, .ref al, md, rf, kn])), (q11, .inr (8, [.int 4, .ref wa15, .ref na16])), (wa15, .inl (cI, 4, .inl fw17)), (na16, .inl (cI, 4, .inl fn18))] H13 := hP
  replace hD : va_D A [(ed, .inl (cO, 10, .inr (.inr (.inr (.inr ee))))), (al, .inr (4, [.int mc, .ref ed, .int 3])), (mo, .inr (9, [.int 0, .ref al, md, rf, kn])), (q11, .inr (8, [.int 4, .ref wa15, .ref na16])), (wa15, .inl (cI, 4, .inl fw17)), (na16, .inl (cI, 4, .inl fn18))] := hD
  refine W.widen (k := 3) (n := 11) (by omega) (by omega) ?_
  have hPc := hP.sub (ws' := [(al, .inr (4, [.int mc, .ref ed, .int 3])), (ed, .inl (cO, 10, .inr (.inr (.inr (.inr ee))))), (q11, .inr (8, [.int 4, .ref wa15, .ref na16]))]) [1, 0, 3] rfl
  have hDc := hD.sub (ws' := [(al, .inr (4, [.int mc, .ref ed, .int 3])), (ed, .inl (cO, 10, .inr (.inr (.inr (.inr ee))))), (q11, .inr (8, [.int 4, .ref wa15, .ref na16]))]) [1, 0, 3] (by decide) rfl
  have hFc := va_free (wc := [(al, .inr (4, [.int mc, .ref ed, .int 3])), (ed, .inl (cO, 10, .inr (.inr (.inr (.inr ee))))), (q11, .inr (8, [.int 4, .ref wa15, .ref na16]))]) hD hS hA [1, 0, 3] rfl
  have hDv := hDc.self (sz := H13.size)
  have hpre := zpre (xs' := []) (av := [.ref al, .ref q11]) hPc hK (hDc.weaken (fun _ _ _ h => h)) hZ hS hFc (fun r hr => by cases hr)
  refine va_calli (va_runV (As := [.ref q11]) (rest := []) ⟨hx, hb, hml, hown, hts⟩ (k_addBX3 l dC dI cI cB cR cO zk al q11 ed 3 ee mc wa15 na16 H13.size (by decide)) (cwV 1 hts gX4_make_Jx4a65c_add_9ea2d rfl rfl rfl (by decide +kernel) ⟨Nat.le_of_ble_eq_true rfl, Nat.le_of_ble_eq_true rfl⟩) ⟨zblind, (zrecv_4 hK hPc (q0 := 0) rfl), hpre⟩ rfl rfl hl.1 rfl (lv_room (Nat.le_of_ble_eq_true rfl)) dX4_make_71 ⟨Nat.le_of_ble_eq_true rfl, Nat.le_of_ble_eq_true rfl⟩) hS (fun q _ h => hFc q h) hFc (fun r20 u t H19 locs ht hvm hw hB hz1 hk1 hS => ?_)
  obtain rfl : 1 = r20 := (show r20 = 1 from hw).symm
  obtain ⟨mc21, ⟨hP1, hK1, hD1, hz2⟩⟩ := hB
  rw [ht] at hP1 hz2
  have hPD9 := va_join (wr := [(mo, .inr (9, [.int 0, .ref al, md, rf, kn])), (wa15, .inl (cI, 4, .inl fw17)), (na16, .inl (cI, 4, .inl fn18))]) (w1 := [(al, .inr (4, [.int mc21, .ref ed, .int 4])), (ed, .inl (cO, 10, .inr (.inr (.inr (.inr (va_up ee 3 (some q11))))))), (q11, .inr (8, [.int 4, .ref wa15, .ref na16]))]) hP hD [1, 0, 3] [2, 4, 5] rfl rfl (by decide) (by decide) hk1 hFc hP1 hD1
  clear hPc hDc hFc hDv hpre hP hD hP1 hK1 hD1
  obtain ⟨hP, hD⟩ := hPD9
  replace hz : s.heap.size + 3 ≤ H19.size := by omega
  clear hz2
  replace hP : va_P (dC, dI) vwCl [(mo, .inr (9, [.int 0, .ref al, md, rf, kn])), (wa15, .inl (cI, 4, .inl fw17)), (na16, .inl (cI, 4, .inl fn18)), (al, .inr (4, [.int mc21, .ref ed, .int 4])), (ed, .inl (cO, 10, .inr (.inr (.inr (.inr (va_up ee 3 (some q11))))))), (q11, .inr (8, [.int 4, .ref wa15, .ref na16]))] H19 := hP
  replace hD : va_D A [(mo, .inr (9, [.int 0, .ref al, md, rf, kn])), (wa15, .inl (cI, 4, .inl fw17)), (na16, .inl (cI, 4, .inl fn18)), (al, .inr (4, [.int mc21, .ref ed, .int 4])), (ed, .inl (cO, 10, .inr (.inr (.inr (.inr (va_up ee 3 (some q11))))))), (q11, .inr (8, [.int 4, .ref wa15, .ref na16]))] := hD
  refine W.widen (k := 3) (n := 11) (by omega) (by omega) ?_
  refine lv_pop hx hb dX4_make_74 rfl ?_
  refine lv_aload_n hx hb dX4_make_75 rfl (lv_at hl 0 rfl) ?_
  refine va_get (D := (dC, dI)) (ci := 9) (v := .ref al) (C := RX4) (T := TX4) (N := 5) hx hb hts hi_X4_make_X4 hown hK hP 0 rfl rfl 1 (by decide) (hts (.fieldLink RX4 10 "DeeprowsModel" "rows" "Ljava/util/ArrayList;") (List.mem_cons_of_mem _ zw_1134)) (fun _ h9 => h9) rfl dX4_make_76 ?_
  have hPc := hP.sub (ws' := [(al, .inr (4, [.int mc21, .ref ed, .int 4]))]) [3] rfl
  have hDc := hD.sub (ws' := [(al, .inr (4, [.int mc21, .ref ed, .int 4]))]) [3] (by decide) rfl
  have hFc := va_free (wc := [(al, .inr (4, [.int mc21, .ref ed, .int 4]))]) hD hS hA [3] rfl
  have hDv := hDc.self (sz := H19.size)
  have hpre := zpre (xs' := []) (av := [.ref al]) hPc hK (hDc.weaken (fun _ _ _ h => h)) hZ hS hFc (fun r hr => by cases hr)
  refine va_calli (va_runV (As := []) (rest := []) ⟨hx, hb, hml, hown, hts⟩ (k_size l dC dI cI cB cR cO zk al ed 4 (.int mc21) H19.size ) (cwV 0 hts gX4_make_Jx4a65c_size_8abf5 rfl rfl rfl (by decide +kernel) ⟨Nat.le_of_ble_eq_true rfl, Nat.le_of_ble_eq_true rfl⟩) ⟨zblind, (zrecv_4 hK hPc (q0 := 0) rfl), hpre⟩ rfl rfl hl.1 rfl (lv_room (Nat.le_of_ble_eq_true rfl)) dX4_make_79 ⟨Nat.le_of_ble_eq_true rfl, Nat.le_of_ble_eq_true rfl⟩) hS (fun q _ h => hFc q h) hFc (fun r23 u t H22 locs ht hvm hw hB hz1 hk1 hS => ?_)
  obtain rfl : 4 = r23 := (show r23 = 4 from hw).symm
  obtain ⟨hP1, hK1, hD1, hz2⟩ := hB
  rw [ht] at hP1 hz2
  have hPD9 := va_join (wr := [(mo, .inr (9, [.int 0, .ref al, md, rf, kn])), (wa15, .inl (cI, 4, .inl fw17)), (na16, .inl (cI, 4, .inl fn18)), (ed, .inl (cO, 10, .inr (.inr (.inr (.inr (va_up ee 3 (some q11))))))), (q11, .inr (8, [.int 4, .ref wa15, .ref na16]))]) (w1 := [(al, .inr (4, [.int mc21, .ref ed, .int 4]))]) hP hD [3] [0, 1, 2, 4, 5] rfl rfl (by decide) (by decide) hk1 hFc hP1 hD1
  clear hPc hDc hFc hDv hpre hP hD hP1 hK1 hD1
  obtain ⟨hP, hD⟩ := hPD9
  replace hz : s.heap.size + 3 ≤ H22.size := by omega
  clear hz2
  replace hP : va_P (dC, dI) vwCl [(mo, .inr (9, [.int 0, .ref al, md, rf, kn])), (wa15, .inl (cI, 4, .inl fw17)), (na16, .inl (cI, 4, .inl fn18)), (ed, .inl (cO, 10, .inr (.inr (.inr (.inr (va_up ee 3 (some q11))))))), (q11, .inr (8, [.int 4, .ref wa15, .ref na16])), (al, .inr (4, [.int mc21, .ref ed, .int 4]))] H22 := hP
  replace hD : va_D A [(mo, .inr (9, [.int 0, .ref al, md, rf, kn])), (wa15, .inl (cI, 4, .inl fw17)), (na16, .inl (cI, 4, .inl fn18)), (ed, .inl (cO, 10, .inr (.inr (.inr (.inr (va_up ee 3 (some q11))))))), (q11, .inr (8, [.int 4, .ref wa15, .ref na16])), (al, .inr (4, [.int mc21, .ref ed, .int 4]))] := hD
  refine W.widen (k := 3) (n := 11) (by omega) (by omega) ?_
  refine lv_iconst (v := 1) hx hb dX4_make_82 (by decide) ?_
  refine lv_isub hx hb dX4_make_83 ?_
  refine lv_topi (fun v24 ev24 => ?_)
  obtain rfl : v24 = 3 := ev24.trans (by decide)
  have hP9 := hP.sub (ws' := [(mo, .inr (9, [.int 0, .ref al, md, rf, kn])), (al, .inr (4, [.int mc21, .ref ed, .int 4])), (ed, .inl (cO, 10, .inr (.inr (.inr (.inr (va_up ee 3 (some q11))))))), (q11, .inr (8, [.int 4, .ref wa15, .ref na16])), (wa15, .inl (cI, 4, .inl fw17)), (na16, .inl (cI, 4, .inl fn18))]) [0, 5, 3, 4, 1, 2] rfl
  have hD9 := hD.sub (ws' := [(mo, .inr (9, [.int 0, .ref al, md, rf, kn])), (al, .inr (4, [.int mc21, .ref ed, .int 4])), (ed, .inl (cO, 10, .inr (.inr (.inr (.inr (va_up ee 3 (some q11))))))), (q11, .inr (8, [.int 4, .ref wa15, .ref na16])), (wa15, .inl (cI, 4, .inl fw17)), (na16, .inl (cI, 4, .inl fn18))]) [0, 5, 3, 4, 1, 2] (by decide) rfl
  exact W.iret (v := 3) hx hb hr (fun t ht hW => ⟨⟨_, (), rfl, rfl, ⟨_, _, _, _, _, _, ⟨by rw [ht]; exact hP9, va_K.moved hW.alike hK, hD9, by rw [ht]; exact hz⟩, hwfw17, hnfn18⟩⟩, hS.F ht⟩) hS.2.2 dX4_make_84
