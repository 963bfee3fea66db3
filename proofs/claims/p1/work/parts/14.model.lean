set_option maxHeartbeats 4000000 in
set_option maxRecDepth 100000 in
theorem k_isInz (l : Launch) (dC : Nat → ClassId) (dI : Nat → Nat → Nat) (cI cB cR cO : ClassId) (zk : Nat → Nat) (p0 : Int32) (sz : Nat)  : Met l yX4_isIn wsX4_isIn ({ frames := 0, cells := 0, slots := 0, locals := 0 }) (va_Pc [.int p0, .int 0, .int (-1)] (zPre (dC, dI) (zT cI cB cR cO) zk [] [] sz)) (va_Qi (fun r (_ : Unit) => r = 0) (fun _ t => zEnd (dC, dI) (zT cI cB cR cO) (va_A [] sz) [] sz 0 t) (va_A [] sz)) 0 0 (va_A [] sz) := by
  refine Met.ofW (cc := cX4_isIn) (maxL := 3) (ret := (some .boolean)) (by decide) rfl ?_
  intro p e s mY args below meth c s₁ B hml hv
  obtain ⟨rfl, hsz, hP, hK, hD0, hZ⟩ := hv
  have hx := B.exec
  have hb := B.bytes
  have hr := B.returns
  have hts := atoms_spec (ws := wsX4_isIn) B.pre
  have hown : s.vm.findClass RX4 = some mY.cls := findClass_of_methodNamed B.named
  have hlocks := B.notSynchronized
  subst hsz
  have hD := hD0.self (sz := s.heap.size)
  generalize hAe : va_A [] s.heap.size = A at hD hZ ⊢
  have hA : ∀ q : Nat, s.heap.size ≤ q → A q := fun q h => by rw [← hAe]; exact Or.inr h
  have hS : va_S A s.heap s.heap [] := va_S.rf
  have hz : s.heap.size + 0 ≤ s.heap.size := Nat.le_refl _
  have hl := lv_entry ([.int p0, .int 0, .int (-1)]) (n := 3) (Nat.le_of_ble_eq_true rfl)
  rw [lg_entry_eq]
  generalize (lg_sl ([.int p0, .int 0, .int (-1)]) ++ List.replicate (3 - (lg_sl ([.int p0, .int 0, .int (-1)])).length) Slot.unset).toArray = ls at hl ⊢
  have hl : lv_has ls 3 [(0, .int p0), (1, .int 0), (2, .int (-1))] := hl
  have hP : va_P (dC, dI) vwCl [] s.heap := hP
  have hD : va_D A [] := hD
  refine lv_iload_n hx hb dX4_isIn_0 rfl (lv_at hl 0 rfl) ?_
  refine lv_iload_n hx hb dX4_isIn_1 rfl (lv_at hl 1 rfl) ?_
  refine lv_icmp_lt (tgt := 14) hx hb dX4_isIn_2 (by decide) (fun c9 => ?_) (fun c8 => ?_)
  · refine lv_iconst (v := 0) hx hb dX4_isIn_14 (by decide) ?_
    have hP9 := hP.sub (ws' := []) [] rfl
    have hD9 := hD.sub (ws' := []) [] (by decide) rfl
    exact W.zret (v := 0) hx hb hr (by decide +kernel) (fun t ht hW => ⟨⟨_, (), rfl, rfl, ⟨by rw [ht]; exact hP9, va_K.moved hW.alike hK, hD9, by rw [ht]; exact hz⟩⟩, hS.F ht⟩) hS.2.2 dX4_isIn_15
  · refine lv_iload_n hx hb dX4_isIn_5 rfl (lv_at hl 0 rfl) ?_
    refine lv_iload_n hx hb dX4_isIn_6 rfl (lv_at hl 2 rfl) ?_
    refine lv_icmp_gt (tgt := 14) hx hb dX4_isIn_7 (by decide) (fun c9 => ?_) (fun c9 => ?_)
    rotate_left
    · exact absurd (zgtm1 c8) c9
    refine lv_iconst (v := 0) hx hb dX4_isIn_14 (by decide) ?_
    have hP9 := hP.sub (ws' := []) [] rfl
    have hD9 := hD.sub (ws' := []) [] (by decide) rfl
    exact W.zret (v := 0) hx hb hr (by decide +kernel) (fun t ht hW => ⟨⟨_, (), rfl, rfl, ⟨by rw [ht]; exact hP9, va_K.moved hW.alike hK, hD9, by rw [ht]; exact hz⟩⟩, hS.F ht⟩) hS.2.2 dX4_isIn_15

theorem hi_X4_refuse_X4 : ∀ w ∈ u_ws RX4 TX4 5, w ∈ wsX4_refuse := fun w h => List.mem_cons_of_mem _ (zhi_X4 w h)
set_option maxHeartbeats 4000000 in
set_option maxRecDepth 100000 in
theorem k_refz (l : Launch) (dC : Nat → ClassId) (dI : Nat → Nat → Nat) (cI cB cR cO : ClassId) (zk : Nat → Nat) (mo am : Nat) (md rf kn : Value) (sz : Nat)  : Met l yX4_refuse wsX4_refuse ({ frames := 0, cells := 0, slots := 0, locals := 0 }) (va_Pc [.ref mo, .int 1, .int 1] (zPre (dC, dI) (zT cI cB cR cO) zk [] [(mo, .inr (9, [.int 0, .ref am, md, rf, kn]))] sz)) (va_Qi (fun r (_ : Unit) => r = 1) (fun _ t => zEnd (dC, dI) (zT cI cB cR cO) (va_A [(mo, .inr (9, [.int 0, .ref am, md, rf, kn]))] sz) [(mo, .inr (9, [.int 1, .ref am, md, rf, kn]))] sz 0 t) (va_A [(mo, .inr (9, [.int 0, .ref am, md, rf, kn]))] sz)) 0 0 (va_A [(mo, .inr (9, [.int 0, .ref am, md, rf, kn]))] sz) := by
  refine Met.ofW (cc := cX4_refuse) (maxL := 3) (ret := (some .boolean)) (by decide) rfl ?_
  intro p e s mY args below meth c s₁ B hml hv
  obtain ⟨rfl, hsz, hP, hK, hD0, hZ⟩ := hv
  have hx := B.exec
  have hb := B.bytes
  have hr := B.returns
  have hts := atoms_spec (ws := wsX4_refuse) B.pre
  have hown : s.vm.findClass RX4 = some mY.cls := findClass_of_methodNamed B.named
  have hlocks := B.notSynchronized
  subst hsz
  have hD := hD0.self (sz := s.heap.size)
  generalize hAe : va_A [(mo, .inr (9, [.int 0, .ref am, md, rf, kn]))] s.heap.size = A at hD hZ ⊢
  have hA : ∀ q : Nat, s.heap.size ≤ q → A q := fun q h => by rw [← hAe]; exact Or.inr h
  have hS : va_S A s.heap s.heap [] := va_S.rf
  have hz : s.heap.size + 0 ≤ s.heap.size := Nat.le_refl _
  have hl := lv_entry ([.ref mo, .int 1, .int 1]) (n := 3) (Nat.le_of_ble_eq_true rfl)
  rw [lg_entry_eq]
  generalize (lg_sl ([.ref mo, .int 1, .int 1]) ++ List.replicate (3 - (lg_sl ([.ref mo, .int 1, .int 1])).length) Slot.unset).toArray = ls at hl ⊢
  have hl : lv_has ls 3 [(0, .ref mo), (1, .int 1), (2, .int 1)] := hl
  have hP : va_P (dC, dI) vwCl [(mo, .inr (9, [.int 0, .ref am, md, rf, kn]))] s.heap := hP
  have hD : va_D A [(mo, .inr (9, [.int 0, .ref am, md, rf, kn]))] := hD
  refine lv_iload_n hx hb dX4_refuse_0 rfl (lv_at hl 1 rfl) ?_
  refine lv_if_eq (tgt := 16) hx hb dX4_refuse_1 (by decide) (fun c9 => ?_) (fun c9 => ?_)
  · exact absurd c9 (by decide)
  refine lv_aload_n hx hb dX4_refuse_4 rfl (lv_at hl 0 rfl) ?_
  refine va_get (D := (dC, dI)) (ci := 9) (v := .int 0) (C := RX4) (T := TX4) (N := 5) hx hb hts hi_X4_refuse_X4 hown hK hP 0 rfl rfl 0 (by decide) (hts (.fieldLink RX4 16 "DeeprowsModel" "thrown" "I") (List.mem_cons_of_mem _ zw_1127)) (fun _ h9 => h9) rfl dX4_refuse_5 ?_
  refine lv_if_ne (tgt := 16) hx hb dX4_refuse_8 (by decide) (fun c9 => ?_) (fun c9 => ?_)
  · exact absurd (by decide) c9
  refine lv_aload_n hx hb dX4_refuse_11 rfl (lv_at hl 0 rfl) ?_
  refine lv_iload_n hx hb dX4_refuse_12 rfl (lv_at hl 2 rfl) ?_
  refine va_put (D := (dC, dI)) (ci := 9) (v := .int 1) (ty := .int) (C := RX4) (T := TX4) (N := 5) hx hb hts hi_X4_refuse_X4 tyX4 tyX4_ok nmX4 hown hK hP hD (zS0 hS) 0 rfl rfl 0 (by decide) (hts (.fieldLink RX4 16 "DeeprowsModel" "thrown" "I") (List.mem_cons_of_mem _ zw_1127)) (fun _ h9 => h9) rfl (by decide +kernel) rfl rfl (Nat.le_of_ble_eq_true rfl) dX4_refuse_13 (fun H1 locs hP hD hS1 => ?_)
  have hz : s.heap.size + 0 ≤ H1.size := Nat.le_trans hz hS1.1
  have hS := zSS hS hS1
  replace hP : va_P (dC, dI) vwCl [(mo, .inr (9, [.int 1, .ref am, md, rf, kn]))] H1 := hP
  replace hD : va_D A [(mo, .inr (9, [.int 1, .ref am, md, rf, kn]))] := hD
  refine lv_aload_n hx hb dX4_refuse_16 rfl (lv_at hl 0 rfl) ?_
  refine va_get (D := (dC, dI)) (ci := 9) (v := .int 1) (C := RX4) (T := TX4) (N := 5) hx hb hts hi_X4_refuse_X4 hown hK hP 0 rfl rfl 0 (by decide) (hts (.fieldLink RX4 16 "DeeprowsModel" "thrown" "I") (List.mem_cons_of_mem _ zw_1127)) (fun _ h9 => h9) rfl dX4_refuse_17 ?_
  refine lv_if_le (tgt := 27) hx hb dX4_refuse_20 (by decide) (fun c9 => ?_) (fun c9 => ?_)
  · exact absurd c9 (by decide)
  refine lv_iconst (v := 1) hx hb dX4_refuse_23 (by decide) ?_
  refine lv_goto (tgt := 28) hx hb dX4_refuse_24 (by decide) ?_
  have hP9 := hP.sub (ws' := [(mo, .inr (9, [.int 1, .ref am, md, rf, kn]))]) [0] rfl
  have hD9 := hD.sub (ws' := [(mo, .inr (9, [.int 1, .ref am, md, rf, kn]))]) [0] (by decide) rfl
  exact W.zret (v := 1) hx hb hr (by decide +kernel) (fun t ht hW => ⟨⟨_, (), rfl, rfl, ⟨by rw [ht]; exact hP9, va_K.moved hW.alike hK, hD9, by rw [ht]; exact hz⟩⟩, hS.F ht⟩) hS.2.2 dX4_refuse_28

theorem hi_X4_start_X4 : ∀ w ∈ u_ws RX4 TX4 5, w ∈ wsX4_start := fun w h => List.mem_cons_of_mem _ (zhi_X4 w h)
set_option maxHeartbeats 4000000 in
set_option maxRecDepth 100000 in
theorem k_sttz (l : Launch) (dC : Nat → ClassId) (dI : Nat → Nat → Nat) (cI cB cR cO : ClassId) (zk : Nat → Nat) (mo am : Nat) (th md rf kn : Value) (sz : Nat)  : Met l yX4_start wsX4_start ({ frames := 1, cells := 0, slots := 0, locals := 22 }) (va_Pc [.ref mo, .int 1, .int 1] (zPre (dC, dI) (zT cI cB cR cO) zk [] [(mo, .inr (9, [th, .ref am, md, rf, kn]))] sz)) (va_Qi (fun r (_ : Unit) => r = 1) (fun _ t => zEnd (dC, dI) (zT cI cB cR cO) (va_A [(mo, .inr (9, [th, .ref am, md, rf, kn]))] sz) [(mo, .inr (9, [.int 1, .ref am, md, rf, kn]))] sz 0 t) (va_A [(mo, .inr (9, [th, .ref am, md, rf, kn]))] sz)) 0 0 (va_A [(mo, .inr (9, [th, .ref am, md, rf, kn]))] sz) := by
  refine Met.ofW (cc := cX4_start) (maxL := 3) (ret := (some .boolean)) (by decide) rfl ?_
  intro p e s mY args below meth c s₁ B hml hv
  obtain ⟨rfl, hsz, hP, hK, hD0, hZ⟩ := hv
  have hx := B.exec
  have hb := B.bytes
  have hr := B.returns
  have hts := atoms_spec (ws := wsX4_start) B.pre
  have hown : s.vm.findClass RX4 = some mY.cls := findClass_of_methodNamed B.named
  have hlocks := B.notSynchronized
  subst hsz
  have hD := hD0.self (sz := s.heap.size)
  generalize hAe : va_A [(mo, .inr (9, [th, .ref am, md, rf, kn]))] s.heap.size = A at hD hZ ⊢
  have hA : ∀ q : Nat, s.heap.size ≤ q → A q := fun q h => by rw [← hAe]; exact Or.inr h
  have hS : va_S A s.heap s.heap [] := va_S.rf
  have hz : s.heap.size + 0 ≤ s.heap.size := Nat.le_refl _
  have hl := lv_entry ([.ref mo, .int 1, .int 1]) (n := 3) (Nat.le_of_ble_eq_true rfl)
  rw [lg_entry_eq]
  generalize (lg_sl ([.ref mo, .int 1, .int 1]) ++ List.replicate (3 - (lg_sl ([.ref mo, .int 1, .int 1])).length) Slot.unset).toArray = ls at hl ⊢
  have hl : lv_has ls 3 [(0, .ref mo), (1, .int 1), (2, .int 1)] := hl
  have hP : va_P (dC, dI) vwCl [(mo, .inr (9, [th, .ref am, md, rf, kn]))] s.heap := hP
  have hD : va_D A [(mo, .inr (9, [th, .ref am, md, rf, kn]))] := hD
  refine lv_aload_n hx hb dX4_start_0 rfl (lv_at hl 0 rfl) ?_
  refine lv_iconst (v := 0) hx hb dX4_start_1 (by decide) ?_
  refine va_put (D := (dC, dI)) (ci := 9) (v := .int 0) (ty := .int) (C := RX4) (T := TX4) (N := 5) hx hb hts hi_X4_start_X4 tyX4 tyX4_ok nmX4 hown hK hP hD (zS0 hS) 0 rfl rfl 0 (by decide) (hts (.fieldLink RX4 16 "DeeprowsModel" "thrown" "I") (List.mem_cons_of_mem _ zw_1127)) (fun _ h9 => h9) rfl (by decide +kernel) rfl rfl (Nat.le_of_ble_eq_true rfl) dX4_start_2 (fun H1 locs hP hD hS1 => ?_)
  have hz : s.heap.size + 0 ≤ H1.size := Nat.le_trans hz hS1.1
  have hS := zSS hS hS1
  replace hP : va_P (dC, dI) vwCl [(mo, .inr (9, [.int 0, .ref am, md, rf, kn]))] H1 := hP
  replace hD : va_D A [(mo, .inr (9, [.int 0, .ref am, md, rf, kn]))] := hD
  refine lv_aload_n hx hb dX4_start_5 rfl (lv_at hl 0 rfl) ?_
  refine lv_iload_n hx hb dX4_start_6 rfl (lv_at hl 1 rfl) ?_
  refine lv_iload_n hx hb dX4_start_7 rfl (lv_at hl 2 rfl) ?_
  have hPc := hP.sub (ws' := [(mo, .inr (9, [.int 0, .ref am, md, rf, kn]))]) [0] rfl
  have hDc := hD.sub (ws' := [(mo, .inr (9, [.int 0, .ref am, md, rf, kn]))]) [0] (by decide) rfl
  have hFc := va_free (wc := [(mo, .inr (9, [.int 0, .ref am, md, rf, kn]))]) hD hS hA [0] rfl
  have hDv := hDc.self (sz := H1.size)
  have hpre := zpre (xs' := []) (av := [.ref mo, .int 1, .int 1]) hPc hK (hDc.weaken (fun _ _ _ h => h)) hZ hS hFc (fun r hr => by cases hr)
  refine va_calli (va_runV (As := [.int 1, .int 1]) (rest := []) ⟨hx, hb, hml, hown, hts⟩ (k_refz l dC dI cI cB cR cO zk mo am md rf kn H1.size ) (cwV 2 hts gX4_start_X4_refuse rfl rfl rfl (by decide +kernel) ⟨Nat.le_of_ble_eq_true rfl, Nat.le_of_ble_eq_true rfl⟩) ⟨zblind, (zrecv_9 hK hPc (q0 := 0) rfl), hpre⟩ rfl rfl hl.1 rfl (lv_room (Nat.le_of_ble_eq_true rfl)) dX4_start_8 ⟨Nat.le_of_ble_eq_true rfl, Nat.le_of_ble_eq_true rfl⟩) hS (fun q _ h => hFc q h) hFc (fun r3 u t H2 locs ht hvm hw hB hz1 hk1 hS => ?_)
  obtain rfl : 1 = r3 := (show r3 = 1 from hw).symm
  obtain ⟨hP1, hK1, hD1, hz2⟩ := hB
  rw [ht] at hP1 hz2
  have hPD9 := va_join (wr := []) (w1 := [(mo, .inr (9, [.int 1, .ref am, md, rf, kn]))]) hP hD [0] [] rfl rfl (by decide) (by decide) hk1 hFc hP1 hD1
  clear hPc hDc hFc hDv hpre hP hD hP1 hK1 hD1
  obtain ⟨hP, hD⟩ := hPD9
  replace hz : s.heap.size + 0 ≤ H2.size := by omega
  clear hz2
  replace hP : va_P (dC, dI) vwCl [(mo, .inr (9, [.int 1, .ref am, md, rf, kn]))] H2 := hP
  replace hD : va_D A [(mo, .inr (9, [.int 1, .ref am, md, rf, kn]))] := hD
  refine W.widen (k := 0) (n := 0) (by omega) (by omega) ?_
  have hP9 := hP.sub (ws' := [(mo, .inr (9, [.int 1, .ref am, md, rf, kn]))]) [0] rfl
  have hD9 := hD.sub (ws' := [(mo, .inr (9, [.int 1, .ref am, md, rf, kn]))]) [0] (by decide) rfl
  exact W.zret (v := 1) hx hb hr (by decide +kernel) (fun t ht hW => ⟨⟨_, (), rfl, rfl, ⟨by rw [ht]; exact hP9, va_K.moved hW.alike hK, hD9, by rw [ht]; exact hz⟩⟩, hS.F ht⟩) hS.2.2 dX4_start_11

theorem hi_X4_isNoRow_X4 : ∀ w ∈ u_ws RX4 TX4 5, w ∈ wsX4_isNoRow := fun w h => List.mem_cons_of_mem _ (zhi_X4 w h)
set_option maxHeartbeats 4000000 in
set_option maxRecDepth 100000 in
theorem k_nRz (l : Launch) (dC : Nat → ClassId) (dI : Nat → Nat → Nat) (cI cB cR cO : ClassId) (zk : Nat → Nat) (mo am : Nat) (th md rf kn : Value) (mm : Int32) (p0 : Int32) (sz : Nat)  : Met l yX4_isNoRow wsX4_isNoRow ({ frames := 1, cells := 0, slots := 0, locals := 22 }) (va_Pc [.ref mo, .int p0] (zPre (dC, dI) (zT cI cB cR cO) zk [] [(mo, .inr (9, [th, .ref am, md, rf, kn])), (am, .inr (4, [.int mm, .ref (zk 0), .int 0]))] sz)) (va_Qi (fun r (_ : Unit) => r = 1) (fun _ t => zEnd (dC, dI) (zT cI cB cR cO) (va_A [(mo, .inr (9, [th, .ref am, md, rf, kn])), (am, .inr (4, [.int mm, .ref (zk 0), .int 0]))] sz) [(mo, .inr (9, [th, .ref am, md, rf, kn])), (am, .inr (4, [.int mm, .ref (zk 0), .int 0]))] sz 0 t) (va_A [(mo, .inr (9, [th, .ref am, md, rf, kn])), (am, .inr (4, [.int mm, .ref (zk 0), .int 0]))] sz)) 0 0 (va_A [(mo, .inr (9, [th, .ref am, md, rf, kn])), (am, .inr (4, [.int mm, .ref (zk 0), .int 0]))] sz) := by
  refine Met.ofW (cc := cX4_isNoRow) (maxL := 2) (ret := (some .boolean)) (by decide) rfl ?_
  intro p e s mY args below meth c s₁ B hml hv
  obtain ⟨rfl, hsz, hP, hK, hD0, hZ⟩ := hv
  have hx := B.exec
  have hb := B.bytes
  have hr := B.returns
  have hts := atoms_spec (ws := wsX4_isNoRow) B.pre
  have hown : s.vm.findClass RX4 = some mY.cls := findClass_of_methodNamed B.named
  have hlocks := B.notSynchronized
  subst hsz
  have hD := hD0.self (sz := s.heap.size)
  generalize hAe : va_A [(mo, .inr (9, [th, .ref am, md, rf, kn])), (am, .inr (4, [.int mm, .ref (zk 0), .int 0]))] s.heap.size = A at hD hZ ⊢
  have hA : ∀ q : Nat, s.heap.size ≤ q → A q := fun q h => by rw [← hAe]; exact Or.inr h
  have hS : va_S A s.heap s.heap [] := va_S.rf
  have hz : s.heap.size + 0 ≤ s.heap.size := Nat.le_refl _
  have hl := lv_entry ([.ref mo, .int p0]) (n := 2) (Nat.le_of_ble_eq_true rfl)
  rw [lg_entry_eq]
  generalize (lg_sl ([.ref mo, .int p0]) ++ List.replicate (2 - (lg_sl ([.ref mo, .int p0])).length) Slot.unset).toArray = ls at hl ⊢
  have hl : lv_has ls 2 [(0, .ref mo), (1, .int p0)] := hl
  have hP : va_P (dC, dI) vwCl [(mo, .inr (9, [th, .ref am, md, rf, kn])), (am, .inr (4, [.int mm, .ref (zk 0), .int 0]))] s.heap := hP
  have hD : va_D A [(mo, .inr (9, [th, .ref am, md, rf, kn])), (am, .inr (4, [.int mm, .ref (zk 0), .int 0]))] := hD
  refine lv_iload_n hx hb dX4_isNoRow_0 rfl (lv_at hl 1 rfl) ?_
  refine lv_iconst (v := 0) hx hb dX4_isNoRow_1 (by decide) ?_
  refine lv_aload_n hx hb dX4_isNoRow_2 rfl (lv_at hl 0 rfl) ?_
  refine va_get (D := (dC, dI)) (ci := 9) (v := .ref am) (C := RX4) (T := TX4) (N := 5) hx hb hts hi_X4_isNoRow_X4 hown hK hP 0 rfl rfl 1 (by decide) (hts (.fieldLink RX4 10 "DeeprowsModel" "rows" "Ljava/util/ArrayList;") (List.mem_cons_of_mem _ zw_1128)) (fun _ h9 => h9) rfl dX4_isNoRow_3 ?_
  have hPc := hP.sub (ws' := [(am, .inr (4, [.int mm, .ref (zk 0), .int 0]))]) [1] rfl
  have hDc := hD.sub (ws' := [(am, .inr (4, [.int mm, .ref (zk 0), .int 0]))]) [1] (by decide) rfl
  have hFc := va_free (wc := [(am, .inr (4, [.int mm, .ref (zk 0), .int 0]))]) hD hS hA [1] rfl
  have hDv := hDc.self (sz := s.heap.size)
  have hpre := zpre (xs' := []) (av := [.ref am]) hPc hK (hDc.weaken (fun _ _ _ h => h)) hZ hS hFc (fun r hr => by cases hr)
  refine va_calli (va_runV (As := []) (rest := [.int 0, .int p0]) ⟨hx, hb, hml, hown, hts⟩ (k_size l dC dI cI cB cR cO zk am (zk 0) 0 (.int mm) s.heap.size ) (cwV 0 hts gX4_isNoRow_Jx4a65c_size_8abf5 rfl rfl rfl (by decide +kernel) ⟨Nat.le_of_ble_eq_true rfl, Nat.le_of_ble_eq_true rfl⟩) ⟨zblind, (zrecv_4 hK hPc (q0 := 0) rfl), hpre⟩ rfl rfl hl.1 rfl (lv_room (Nat.le_of_ble_eq_true rfl)) dX4_isNoRow_6 ⟨Nat.le_of_ble_eq_true rfl, Nat.le_of_ble_eq_true rfl⟩) hS (fun q _ h => hFc q h) hFc (fun r2 u t H1 locs ht hvm hw hB hz1 hk1 hS => ?_)
  obtain rfl : 0 = r2 := (show r2 = 0 from hw).symm
  obtain ⟨hP1, hK1, hD1, hz2⟩ := hB
  rw [ht] at hP1 hz2
  have hPD9 := va_join (wr := [(mo, .inr (9, [th, .ref am, md, rf, kn]))]) (w1 := [(am, .inr (4, [.int mm, .ref (zk 0), .int 0]))]) hP hD [1] [0] rfl rfl (by decide) (by decide) hk1 hFc hP1 hD1
  clear hPc hDc hFc hDv hpre hP hD hP1 hK1 hD1
  obtain ⟨hP, hD⟩ := hPD9
  replace hz : s.heap.size + 0 ≤ H1.size := by omega
  clear hz2
  replace hP : va_P (dC, dI) vwCl [(mo, .inr (9, [th, .ref am, md, rf, kn])), (am, .inr (4, [.int mm, .ref (zk 0), .int 0]))] H1 := hP
  replace hD : va_D A [(mo, .inr (9, [th, .ref am, md, rf, kn])), (am, .inr (4, [.int mm, .ref (zk 0), .int 0]))] := hD
  refine W.widen (k := 0) (n := 0) (by omega) (by omega) ?_
  refine lv_iconst (v := 1) hx hb dX4_isNoRow_9 (by decide) ?_
  refine lv_isub hx hb dX4_isNoRow_10 ?_
  refine lv_topi (fun v3 ev3 => ?_)
  obtain rfl : v3 = (-1) := ev3.trans (by decide)
  have hPc := hP.sub (ws' := []) [] rfl
  have hDc := hD.sub (ws' := []) [] (by decide) rfl
  have hFc := va_free (wc := []) hD hS hA [] rfl
  have hDv := hDc.self (sz := H1.size)
  have hpre := zpre (xs' := []) (av := [.int p0, .int 0, .int (-1)]) hPc hK (hDc.weaken (fun _ _ _ h => h)) hZ hS hFc (fun r hr => by cases hr)
  refine va_calli (va_runS (As := [.int p0, .int 0, .int (-1)]) (rest := []) ⟨hx, hb, hml, hown, hts⟩ (k_isInz l dC dI cI cB cR cO zk p0 H1.size ) (va_cwS 3 hts gX4_isNoRow_X4_isIn rfl rfl rfl (by decide +kernel) ⟨Nat.le_of_ble_eq_true rfl, Nat.le_of_ble_eq_true rfl⟩) ⟨zblind, hpre⟩ rfl rfl hl.1 rfl (lv_room (Nat.le_of_ble_eq_true rfl)) dX4_isNoRow_11 ⟨Nat.le_of_ble_eq_true rfl, Nat.le_of_ble_eq_true rfl⟩) hS (fun q _ h => hFc q h) hFc (fun r5 u t H4 locs ht hvm hw hB hz1 hk1 hS => ?_)
  obtain rfl : 0 = r5 := (show r5 = 0 from hw).symm
  obtain ⟨hP1, hK1, hD1, hz2⟩ := hB
  rw [ht] at hP1 hz2
  have hPD9 := va_join (wr := [(mo, .inr (9, [th, .ref am, md, rf, kn])), (am, .inr (4, [.int mm, .ref (zk 0), .int 0]))]) (w1 := []) hP hD [] [0, 1] rfl rfl (by decide) (by decide) hk1 hFc hP1 hD1
  clear hPc hDc hFc hDv hpre hP hD hP1 hK1 hD1
  obtain ⟨hP, hD⟩ := hPD9
  replace hz : s.heap.size + 0 ≤ H4.size := by omega
  clear hz2
  replace hP : va_P (dC, dI) vwCl [(mo, .inr (9, [th, .ref am, md, rf, kn])), (am, .inr (4, [.int mm, .ref (zk 0), .int 0]))] H4 := hP
  replace hD : va_D A [(mo, .inr (9, [th, .ref am, md, rf, kn])), (am, .inr (4, [.int mm, .ref (zk 0), .int 0]))] := hD
  refine W.widen (k := 0) (n := 0) (by omega) (by omega) ?_
  refine lv_if_ne (tgt := 21) hx hb dX4_isNoRow_14 (by decide) (fun c9 => ?_) (fun c9 => ?_)
  · exact absurd (by decide) c9
  refine lv_iconst (v := 1) hx hb dX4_isNoRow_17 (by decide) ?_
  refine lv_goto (tgt := 22) hx hb dX4_isNoRow_18 (by decide) ?_
  have hP9 := hP.sub (ws' := [(mo, .inr (9, [th, .ref am, md, rf, kn])), (am, .inr (4, [.int mm, .ref (zk 0), .int 0]))]) [0, 1] rfl
  have hD9 := hD.sub (ws' := [(mo, .inr (9, [th, .ref am, md, rf, kn])), (am, .inr (4, [.int mm, .ref (zk 0), .int 0]))]) [0, 1] (by decide) rfl
  exact W.zret (v := 1) hx hb hr (by decide +kernel) (fun t ht hW => ⟨⟨_, (), rfl, rfl, ⟨by rw [ht]; exact hP9, va_K.moved hW.alike hK, hD9, by rw [ht]; exact hz⟩⟩, hS.F ht⟩) hS.2.2 dX4_isNoRow_22

set_option maxHeartbeats 4000000 in
set_option maxRecDepth 100000 in
theorem k_nPz (l : Launch) (dC : Nat → ClassId) (dI : Nat → Nat → Nat) (cI cB cR cO : ClassId) (zk : Nat → Nat) (mo am : Nat) (th md rf kn : Value) (mm : Int32) (p0 p1 : Int32) (sz : Nat)  : Met l yX4_isNoPlace wsX4_isNoPlace ({ frames := 2, cells := 0, slots := 0, locals := 43 }) (va_Pc [.ref mo, .int p0, .int p1] (zPre (dC, dI) (zT cI cB cR cO) zk [] [(mo, .inr (9, [th, .ref am, md, rf, kn])), (am, .inr (4, [.int mm, .ref (zk 0), .int 0]))] sz)) (va_Qi (fun r (_ : Unit) => r = 1) (fun _ t => zEnd (dC, dI) (zT cI cB cR cO) (va_A [(mo, .inr (9, [th, .ref am, md, rf, kn])), (am, .inr (4, [.int mm, .ref (zk 0), .int 0]))] sz) [(mo, .inr (9, [th, .ref am, md, rf, kn])), (am, .inr (4, [.int mm, .ref (zk 0), .int 0]))] sz 0 t) (va_A [(mo, .inr (9, [th, .ref am, md, rf, kn])), (am, .inr (4, [.int mm, .ref (zk 0), .int 0]))] sz)) 0 0 (va_A [(mo, .inr (9, [th, .ref am, md, rf, kn])), (am, .inr (4, [.int mm, .ref (zk 0), .int 0]))] sz) := by
  refine Met.ofW (cc := cX4_isNoPlace) (maxL := 3) (ret := (some .boolean)) (by decide) rfl ?_
  intro p e s mY args below meth c s₁ B hml hv
  obtain ⟨rfl, hsz, hP, hK, hD0, hZ⟩ := hv
  have hx := B.exec
  have hb := B.bytes
  have hr := B.returns
  have hts := atoms_spec (ws := wsX4_isNoPlace) B.pre
  have hown : s.vm.findClass RX4 = some mY.cls := findClass_of_methodNamed B.named
  have hlocks := B.notSynchronized
  subst hsz
  have hD := hD0.self (sz := s.heap.size)
  generalize hAe : va_A [(mo, .inr (9, [th, .ref am, md, rf, kn])), (am, .inr (4, [.int mm, .ref (zk 0), .int 0]))] s.heap.size = A at hD hZ ⊢
  have hA : ∀ q : Nat, s.heap.size ≤ q → A q := fun q h => by rw [← hAe]; exact Or.inr h
  have hS : va_S A s.heap s.heap [] := va_S.rf
  have hz : s.heap.size + 0 ≤ s.heap.size := Nat.le_refl _
  have hl := lv_entry ([.ref mo, .int p0, .int p1]) (n := 3) (Nat.le_of_ble_eq_true rfl)
  rw [lg_entry_eq]
  generalize (lg_sl ([.ref mo, .int p0, .int p1]) ++ List.replicate (3 - (lg_sl ([.ref mo, .int p0, .int p1])).length) Slot.unset).toArray = ls at hl ⊢
  have hl : lv_has ls 3 [(0, .ref mo), (1, .int p0), (2, .int p1)] := hl
  have hP : va_P (dC, dI) vwCl [(mo, .inr (9, [th, .ref am, md, rf, kn])), (am, .inr (4, [.int mm, .ref (zk 0), .int 0]))] s.heap := hP
  have hD : va_D A [(mo, .inr (9, [th, .ref am, md, rf, kn])), (am, .inr (4, [.int mm, .ref (zk 0), .int 0]))] := hD
  refine lv_aload_n hx hb dX4_isNoPlace_0 rfl (lv_at hl 0 rfl) ?_
  refine lv_iload_n hx hb dX4_isNoPlace_1 rfl (lv_at hl 1 rfl) ?_
  have hPc := hP.sub (ws' := [(mo, .inr (9, [th, .ref am, md, rf, kn])), (am, .inr (4, [.int mm, .ref (zk 0), .int 0]))]) [0, 1] rfl
  have hDc := hD.sub (ws' := [(mo, .inr (9, [th, .ref am, md, rf, kn])), (am, .inr (4, [.int mm, .ref (zk 0), .int 0]))]) [0, 1] (by decide) rfl
  have hFc := va_free (wc := [(mo, .inr (9, [th, .ref am, md, rf, kn])), (am, .inr (4, [.int mm, .ref (zk 0), .int 0]))]) hD hS hA [0, 1] rfl
  have hDv := hDc.self (sz := s.heap.size)
  have hpre := zpre (xs' := []) (av := [.ref mo, .int p0]) hPc hK (hDc.weaken (fun _ _ _ h => h)) hZ hS hFc (fun r hr => by cases hr)
  refine va_calli (va_runV (As := [.int p0]) (rest := []) ⟨hx, hb, hml, hown, hts⟩ (k_nRz l dC dI cI cB cR cO zk mo am th md rf kn mm p0 s.heap.size ) (cwV 1 hts gX4_isNoPlace_X4_isNoRow rfl rfl rfl (by decide +kernel) ⟨Nat.le_of_ble_eq_true rfl, Nat.le_of_ble_eq_true rfl⟩) ⟨zblind, (zrecv_9 hK hPc (q0 := 0) rfl), hpre⟩ rfl rfl hl.1 rfl (lv_room (Nat.le_of_ble_eq_true rfl)) dX4_isNoPlace_2 ⟨Nat.le_of_ble_eq_true rfl, Nat.le_of_ble_eq_true rfl⟩) hS (fun q _ h => hFc q h) hFc (fun r2 u t H1 locs ht hvm hw hB hz1 hk1 hS => ?_)
  obtain rfl : 1 = r2 := (show r2 = 1 from hw).symm
  obtain ⟨hP1, hK1, hD1, hz2⟩ := hB
  rw [ht] at hP1 hz2
  have hPD9 := va_join (wr := []) (w1 := [(mo, .inr (9, [th, .ref am, md, rf, kn])), (am, .inr (4, [.int mm, .ref (zk 0), .int 0]))]) hP hD [0, 1] [] rfl rfl (by decide) (by decide) hk1 hFc hP1 hD1
  clear hPc hDc hFc hDv hpre hP hD hP1 hK1 hD1
  obtain ⟨hP, hD⟩ := hPD9
  replace hz : s.heap.size + 0 ≤ H1.size := by omega
  clear hz2
  replace hP : va_P (dC, dI) vwCl [(mo, .inr (9, [th, .ref am, md, rf, kn])), (am, .inr (4, [.int mm, .ref (zk 0), .int 0]))] H1 := hP
  replace hD : va_D A [(mo, .inr (9, [th, .ref am, md, rf, kn])), (am, .inr (4, [.int mm, .ref (zk 0), .int 0]))] := hD
  refine W.widen (k := 0) (n := 0) (by omega) (by omega) ?_
  refine lv_if_ne (tgt := 32) hx hb dX4_isNoPlace_5 (by decide) (fun c9 => ?_) (fun c9 => ?_)
  rotate_left
  · exact absurd c9 (by decide)
  refine lv_iconst (v := 1) hx hb dX4_isNoPlace_32 (by decide) ?_
  refine lv_goto (tgt := 37) hx hb dX4_isNoPlace_33 (by decide) ?_
  have hP9 := hP.sub (ws' := [(mo, .inr (9, [th, .ref am, md, rf, kn])), (am, .inr (4, [.int mm, .ref (zk 0), .int 0]))]) [0, 1] rfl
  have hD9 := hD.sub (ws' := [(mo, .inr (9, [th, .ref am, md, rf, kn])), (am, .inr (4, [.int mm, .ref (zk 0), .int 0]))]) [0, 1] (by decide) rfl
  exact W.zret (v := 1) hx hb hr (by decide +kernel) (fun t ht hW => ⟨⟨_, (), rfl, rfl, ⟨by rw [ht]; exact hP9, va_K.moved hW.alike hK, hD9, by rw [ht]; exact hz⟩⟩, hS.F ht⟩) hS.2.2 dX4_isNoPlace_37

theorem hi_X4_thrown_X4 : ∀ w ∈ u_ws RX4 TX4 5, w ∈ wsX4_thrown := fun w h => List.mem_cons_of_mem _ (zhi_X4 w h)
set_option maxHeartbeats 4000000 in
set_option maxRecDepth 100000 in
theorem k_thz (l : Launch) (dC : Nat → ClassId) (dI : Nat → Nat → Nat) (cI cB cR cO : ClassId) (zk : Nat → Nat) (mo am : Nat) (md rf kn : Value) (sz : Nat)  : Met l yX4_thrown wsX4_thrown ({ frames := 0, cells := 0, slots := 0, locals := 0 }) (va_Pc [.ref mo] (zPre (dC, dI) (zT cI cB cR cO) zk [] [(mo, .inr (9, [.int 1, .ref am, md, rf, kn]))] sz)) (va_Qi (fun r (_ : Unit) => r = 1) (fun _ t => zEnd (dC, dI) (zT cI cB cR cO) (va_A [(mo, .inr (9, [.int 1, .ref am, md, rf, kn]))] sz) [(mo, .inr (9, [.int 1, .ref am, md, rf, kn]))] sz 0 t) (va_A [(mo, .inr (9, [.int 1, .ref am, md, rf, kn]))] sz)) 0 0 (va_A [(mo, .inr (9, [.int 1, .ref am, md, rf, kn]))] sz) := by
  refine Met.ofW (cc := cX4_thrown) (maxL := 1) (ret := (some .int)) (by decide) rfl ?_
  intro p e s mY args below meth c s₁ B hml hv
  obtain ⟨rfl, hsz, hP, hK, hD0, hZ⟩ := hv
  have hx := B.exec
  have hb := B.bytes
  have hr := B.returns
  have hts := atoms_spec (ws := wsX4_thrown) B.pre
  have hown : s.vm.findClass RX4 = some mY.cls := findClass_of_methodNamed B.named
  have hlocks := B.notSynchronized
  subst hsz
  have hD := hD0.self (sz := s.heap.size)
  generalize hAe : va_A [(mo, .inr (9, [.int 1, .ref am, md, rf, kn]))] s.heap.size = A at hD hZ ⊢
  have hA : ∀ q : Nat, s.heap.size ≤ q → A q := fun q h => by rw [← hAe]; exact Or.inr h
  have hS : va_S A s.heap s.heap [] := va_S.rf
  have hz : s.heap.size + 0 ≤ s.heap.size := Nat.le_refl _
  have hl := lv_entry ([.ref mo]) (n := 1) (Nat.le_of_ble_eq_true rfl)
  rw [lg_entry_eq]
  generalize (lg_sl ([.ref mo]) ++ List.replicate (1 - (lg_sl ([.ref mo])).length) Slot.unset).toArray = ls at hl ⊢
  have hl : lv_has ls 1 [(0, .ref mo)] := hl
  have hP : va_P (dC, dI) vwCl [(mo, .inr (9, [.int 1, .ref am, md, rf, kn]))] s.heap := hP
  have hD : va_D A [(mo, .inr (9, [.int 1, .ref am, md, rf, kn]))] := hD
  refine lv_aload_n hx hb dX4_thrown_0 rfl (lv_at hl 0 rfl) ?_
  refine va_get (D := (dC, dI)) (ci := 9) (v := .int 1) (C := RX4) (T := TX4) (N := 5) hx hb hts hi_X4_thrown_X4 hown hK hP 0 rfl rfl 0 (by decide) (hts (.fieldLink RX4 16 "DeeprowsModel" "thrown" "I") (List.mem_cons_of_mem _ zw_1127)) (fun _ h9 => h9) rfl dX4_thrown_1 ?_
  have hP9 := hP.sub (ws' := [(mo, .inr (9, [.int 1, .ref am, md, rf, kn]))]) [0] rfl
  have hD9 := hD.sub (ws' := [(mo, .inr (9, [.int 1, .ref am, md, rf, kn]))]) [0] (by decide) rfl
  exact W.iret (v := 1) hx hb hr (fun t ht hW => ⟨⟨_, (), rfl, rfl, ⟨by rw [ht]; exact hP9, va_K.moved hW.alike hK, hD9, by rw [ht]; exact hz⟩⟩, hS.F ht⟩) hS.2.2 dX4_thrown_4

set_option maxHeartbeats 4000000 in
set_option maxRecDepth 100000 in
theorem k_putM (l : Launch) (dC : Nat → ClassId) (dI : Nat → Nat → Nat) (cI cB cR cO : ClassId) (zk : Nat → Nat) (mo am : Nat) (th md rf kn : Value) (mm : Int32) (p0 p1 p2 : Int32) (sz : Nat)  : Met l yX4_put wsX4_put ({ frames := 3, cells := 0, slots := 0, locals := 65 }) (va_Pc [.ref mo, .int p0, .int p1, .int p2] (zPre (dC, dI) (zT cI cB cR cO) zk [] [(mo, .inr (9, [th, .ref am, md, rf, kn])), (am, .inr (4, [.int mm, .ref (zk 0), .int 0]))] sz)) (va_Qi (fun r (_ : Unit) => True) (fun _ t => zEnd (dC, dI) (zT cI cB cR cO) (va_A [(mo, .inr (9, [th, .ref am, md, rf, kn])), (am, .inr (4, [.int mm, .ref (zk 0), .int 0]))] sz) [(mo, .inr (9, [.int 1, .ref am, md, rf, kn])), (am, .inr (4, [.int mm, .ref (zk 0), .int 0]))] sz 0 t) (va_A [(mo, .inr (9, [th, .ref am, md, rf, kn])), (am, .inr (4, [.int mm, .ref (zk 0), .int 0]))] sz)) 0 0 (va_A [(mo, .inr (9, [th, .ref am, md, rf, kn])), (am, .inr (4, [.int mm, .ref (zk 0), .int 0]))] sz) := by
  refine Met.ofW (cc := cX4_put) (maxL := 4) (ret := (some .int)) (by decide) rfl ?_
  intro p e s mY args below meth c s₁ B hml hv
  obtain ⟨rfl, hsz, hP, hK, hD0, hZ⟩ := hv
  have hx := B.exec
  have hb := B.bytes
  have hr := B.returns
  have hts := atoms_spec (ws := wsX4_put) B.pre
  have hown : s.vm.findClass RX4 = some mY.cls := findClass_of_methodNamed B.named
  have hlocks := B.notSynchronized
  subst hsz
  have hD := hD0.self (sz := s.heap.size)
  generalize hAe : va_A [(mo, .inr (9, [th, .ref am, md, rf, kn])), (am, .inr (4, [.int mm, .ref (zk 0), .int 0]))] s.heap.size = A at hD hZ ⊢
  have hA : ∀ q : Nat, s.heap.size ≤ q → A q := fun q h => by rw [← hAe]; exact Or.inr h
  have hS : va_S A s.heap s.heap [] := va_S.rf
  have hz : s.heap.size + 0 ≤ s.heap.size := Nat.le_refl _
  have hl := lv_entry ([.ref mo, .int p0, .int p1, .int p2]) (n := 4) (Nat.le_of_ble_eq_true rfl)
  rw [lg_entry_eq]
  generalize (lg_sl ([.ref mo, .int p0, .int p1, .int p2]) ++ List.replicate (4 - (lg_sl ([.ref mo, .int p0, .int p1, .int p2])).length) Slot.unset).toArray = ls at hl ⊢
  have hl : lv_has ls 4 [(0, .ref mo), (1, .int p0), (2, .int p1), (3, .int p2)] := hl
  have hP : va_P (dC, dI) vwCl [(mo, .inr (9, [th, .ref am, md, rf, kn])), (am, .inr (4, [.int mm, .ref (zk 0), .int 0]))] s.heap := hP
  have hD : va_D A [(mo, .inr (9, [th, .ref am, md, rf, kn])), (am, .inr (4, [.int mm, .ref (zk 0), .int 0]))] := hD
  refine lv_aload_n hx hb dX4_put_0 rfl (lv_at hl 0 rfl) ?_
  refine lv_aload_n hx hb dX4_put_1 rfl (lv_at hl 0 rfl) ?_
  refine lv_iload_n hx hb dX4_put_2 rfl (lv_at hl 1 rfl) ?_
  refine lv_iload_n hx hb dX4_put_3 rfl (lv_at hl 2 rfl) ?_
  have hPc := hP.sub (ws' := [(mo, .inr (9, [th, .ref am, md, rf, kn])), (am, .inr (4, [.int mm, .ref (zk 0), .int 0]))]) [0, 1] rfl
  have hDc := hD.sub (ws' := [(mo, .inr (9, [th, .ref am, md, rf, kn])), (am, .inr (4, [.int mm, .ref (zk 0), .int 0]))]) [0, 1] (by decide) rfl
  have hFc := va_free (wc := [(mo, .inr (9, [th, .ref am, md, rf, kn])), (am, .inr (4, [.int mm, .ref (zk 0), .int 0]))]) hD hS hA [0, 1] rfl
  have hDv := hDc.self (sz := s.heap.size)
  have hpre := zpre (xs' := []) (av := [.ref mo, .int p0, .int p1]) hPc hK (hDc.weaken (fun _ _ _ h => h)) hZ hS hFc (fun r hr => by cases hr)
  refine va_calli (va_runV (As := [.int p0, .int p1]) (rest := [.ref mo]) ⟨hx, hb, hml, hown, hts⟩ (k_nPz l dC dI cI cB cR cO zk mo am th md rf kn mm p0 p1 s.heap.size ) (cwV 2 hts gX4_put_X4_isNoPlace rfl rfl rfl (by decide +kernel) ⟨Nat.le_of_ble_eq_true rfl, Nat.le_of_ble_eq_true rfl⟩) ⟨zblind, (zrecv_9 hK hPc (q0 := 0) rfl), hpre⟩ rfl rfl hl.1 rfl (lv_room (Nat.le_of_ble_eq_true rfl)) dX4_put_4 ⟨Nat.le_of_ble_eq_true rfl, Nat.le_of_ble_eq_true rfl⟩) hS (fun q _ h => hFc q h) hFc (fun r2 u t H1 locs ht hvm hw hB hz1 hk1 hS => ?_)
  obtain rfl : 1 = r2 := (show r2 = 1 from hw).symm
  obtain ⟨hP1, hK1, hD1, hz2⟩ := hB
  rw [ht] at hP1 hz2
  have hPD9 := va_join (wr := []) (w1 := [(mo, .inr (9, [th, .ref am, md, rf, kn])), (am, .inr (4, [.int mm, .ref (zk 0), .int 0]))]) hP hD [0, 1] [] rfl rfl (by decide) (by decide) hk1 hFc hP1 hD1
  clear hPc hDc hFc hDv hpre hP hD hP1 hK1 hD1
  obtain ⟨hP, hD⟩ := hPD9
  replace hz : s.heap.size + 0 ≤ H1.size := by omega
  clear hz2
  replace hP : va_P (dC, dI) vwCl [(mo, .inr (9, [th, .ref am, md, rf, kn])), (am, .inr (4, [.int mm, .ref (zk 0), .int 0]))] H1 := hP
  replace hD : va_D A [(mo, .inr (9, [th, .ref am, md, rf, kn])), (am, .inr (4, [.int mm, .ref (zk 0), .int 0]))] := hD
  refine W.widen (k := 0) (n := 0) (by omega) (by omega) ?_
  refine lv_iconst (v := 1) hx hb dX4_put_7 (by decide) ?_
  have hPc := hP.sub (ws' := [(mo, .inr (9, [th, .ref am, md, rf, kn]))]) [0] rfl
  have hDc := hD.sub (ws' := [(mo, .inr (9, [th, .ref am, md, rf, kn]))]) [0] (by decide) rfl
  have hFc := va_free (wc := [(mo, .inr (9, [th, .ref am, md, rf, kn]))]) hD hS hA [0] rfl
  have hDv := hDc.self (sz := H1.size)
  have hpre := zpre (xs' := []) (av := [.ref mo, .int 1, .int 1]) hPc hK (hDc.weaken (fun _ _ _ h => h)) hZ hS hFc (fun r hr => by cases hr)
  refine va_calli (va_runV (As := [.int 1, .int 1]) (rest := []) ⟨hx, hb, hml, hown, hts⟩ (k_sttz l dC dI cI cB cR cO zk mo am th md rf kn H1.size ) (cwV 2 hts gX4_put_X4_start rfl rfl rfl (by decide +kernel) ⟨Nat.le_of_ble_eq_true rfl, Nat.le_of_ble_eq_true rfl⟩) ⟨zblind, (zrecv_9 hK hPc (q0 := 0) rfl), hpre⟩ rfl rfl hl.1 rfl (lv_room (Nat.le_of_ble_eq_true rfl)) dX4_put_8 ⟨Nat.le_of_ble_eq_true rfl, Nat.le_of_ble_eq_true rfl⟩) hS (fun q _ h => hFc q h) hFc (fun r4 u t H3 locs ht hvm hw hB hz1 hk1 hS => ?_)
  obtain rfl : 1 = r4 := (show r4 = 1 from hw).symm
  obtain ⟨hP1, hK1, hD1, hz2⟩ := hB
  rw [ht] at hP1 hz2
  have hPD9 := va_join (wr := [(am, .inr (4, [.int mm, .ref (zk 0), .int 0]))]) (w1 := [(mo, .inr (9, [.int 1, .ref am, md, rf, kn]))]) hP hD [0] [1] rfl rfl (by decide) (by decide) hk1 hFc hP1 hD1
  clear hPc hDc hFc hDv hpre hP hD hP1 hK1 hD1
  obtain ⟨hP, hD⟩ := hPD9
  replace hz : s.heap.size + 0 ≤ H3.size := by omega
  clear hz2
  replace hP : va_P (dC, dI) vwCl [(am, .inr (4, [.int mm, .ref (zk 0), .int 0])), (mo, .inr (9, [.int 1, .ref am, md, rf, kn]))] H3 := hP
  replace hD : va_D A [(am, .inr (4, [.int mm, .ref (zk 0), .int 0])), (mo, .inr (9, [.int 1, .ref am, md, rf, kn]))] := hD
  refine W.widen (k := 0) (n := 0) (by omega) (by omega) ?_
  refine lv_if_ne (tgt := 26) hx hb dX4_put_11 (by decide) (fun c9 => ?_) (fun c9 => ?_)
  rotate_left
  · exact absurd c9 (by decide)
  refine lv_iconst (v := 0) hx hb dX4_put_26 (by decide) ?_
  have hP9 := hP.sub (ws' := [(mo, .inr (9, [.int 1, .ref am, md, rf, kn])), (am, .inr (4, [.int mm, .ref (zk 0), .int 0]))]) [1, 0] rfl
  have hD9 := hD.sub (ws' := [(mo, .inr (9, [.int 1, .ref am, md, rf, kn])), (am, .inr (4, [.int mm, .ref (zk 0), .int 0]))]) [1, 0] (by decide) rfl
  exact W.iret (v := 0) hx hb hr (fun t ht hW => ⟨⟨_, (), rfl, trivial, ⟨by rw [ht]; exact hP9, va_K.moved hW.alike hK, hD9, by rw [ht]; exact hz⟩⟩, hS.F ht⟩) hS.2.2 dX4_put_27

set_option maxHeartbeats 4000000 in
set_option maxRecDepth 100000 in
theorem k_sayM (l : Launch) (dC : Nat → ClassId) (dI : Nat → Nat → Nat) (cI cB cR cO : ClassId) (zk : Nat → Nat) (mo am : Nat) (th md rf kn : Value) (mm : Int32) (p0 p1 p2 : Int32) (sz : Nat)  : Met l yX4_say wsX4_say ({ frames := 3, cells := 0, slots := 0, locals := 65 }) (va_Pc [.ref mo, .int p0, .int p1, .int p2] (zPre (dC, dI) (zT cI cB cR cO) zk [] [(mo, .inr (9, [th, .ref am, md, rf, kn])), (am, .inr (4, [.int mm, .ref (zk 0), .int 0]))] sz)) (va_Qi (fun r (_ : Unit) => True) (fun _ t => zEnd (dC, dI) (zT cI cB cR cO) (va_A [(mo, .inr (9, [th, .ref am, md, rf, kn])), (am, .inr (4, [.int mm, .ref (zk 0), .int 0]))] sz) [(mo, .inr (9, [.int 1, .ref am, md, rf, kn])), (am, .inr (4, [.int mm, .ref (zk 0), .int 0]))] sz 0 t) (va_A [(mo, .inr (9, [th, .ref am, md, rf, kn])), (am, .inr (4, [.int mm, .ref (zk 0), .int 0]))] sz)) 0 0 (va_A [(mo, .inr (9, [th, .ref am, md, rf, kn])), (am, .inr (4, [.int mm, .ref (zk 0), .int 0]))] sz) := by
  refine Met.ofW (cc := cX4_say) (maxL := 4) (ret := (some .int)) (by decide) rfl ?_
  intro p e s mY args below meth c s₁ B hml hv
  obtain ⟨rfl, hsz, hP, hK, hD0, hZ⟩ := hv
  have hx := B.exec
  have hb := B.bytes
  have hr := B.returns
  have hts := atoms_spec (ws := wsX4_say) B.pre
  have hown : s.vm.findClass RX4 = some mY.cls := findClass_of_methodNamed B.named
  have hlocks := B.notSynchronized
  subst hsz
  have hD := hD0.self (sz := s.heap.size)
  generalize hAe : va_A [(mo, .inr (9, [th, .ref am, md, rf, kn])), (am, .inr (4, [.int mm, .ref (zk 0), .int 0]))] s.heap.size = A at hD hZ ⊢
  have hA : ∀ q : Nat, s.heap.size ≤ q → A q := fun q h => by rw [← hAe]; exact Or.inr h
  have hS : va_S A s.heap s.heap [] := va_S.rf
  have hz : s.heap.size + 0 ≤ s.heap.size := Nat.le_refl _
  have hl := lv_entry ([.ref mo, .int p0, .int p1, .int p2]) (n := 4) (Nat.le_of_ble_eq_true rfl)
  rw [lg_entry_eq]
  generalize (lg_sl ([.ref mo, .int p0, .int p1, .int p2]) ++ List.replicate (4 - (lg_sl ([.ref mo, .int p0, .int p1, .int p2])).length) Slot.unset).toArray = ls at hl ⊢
  have hl : lv_has ls 4 [(0, .ref mo), (1, .int p0), (2, .int p1), (3, .int p2)] := hl
  have hP : va_P (dC, dI) vwCl [(mo, .inr (9, [th, .ref am, md, rf, kn])), (am, .inr (4, [.int mm, .ref (zk 0), .int 0]))] s.heap := hP
  have hD : va_D A [(mo, .inr (9, [th, .ref am, md, rf, kn])), (am, .inr (4, [.int mm, .ref (zk 0), .int 0]))] := hD
  refine lv_aload_n hx hb dX4_say_0 rfl (lv_at hl 0 rfl) ?_
  refine lv_aload_n hx hb dX4_say_1 rfl (lv_at hl 0 rfl) ?_
  refine lv_iload_n hx hb dX4_say_2 rfl (lv_at hl 1 rfl) ?_
  refine lv_iload_n hx hb dX4_say_3 rfl (lv_at hl 2 rfl) ?_
  have hPc := hP.sub (ws' := [(mo, .inr (9, [th, .ref am, md, rf, kn])), (am, .inr (4, [.int mm, .ref (zk 0), .int 0]))]) [0, 1] rfl
  have hDc := hD.sub (ws' := [(mo, .inr (9, [th, .ref am, md, rf, kn])), (am, .inr (4, [.int mm, .ref (zk 0), .int 0]))]) [0, 1] (by decide) rfl
  have hFc := va_free (wc := [(mo, .inr (9, [th, .ref am, md, rf, kn])), (am, .inr (4, [.int mm, .ref (zk 0), .int 0]))]) hD hS hA [0, 1] rfl
  have hDv := hDc.self (sz := s.heap.size)
  have hpre := zpre (xs' := []) (av := [.ref mo, .int p0, .int p1]) hPc hK (hDc.weaken (fun _ _ _ h => h)) hZ hS hFc (fun r hr => by cases hr)
  refine va_calli (va_runV (As := [.int p0, .int p1]) (rest := [.ref mo]) ⟨hx, hb, hml, hown, hts⟩ (k_nPz l dC dI cI cB cR cO zk mo am th md rf kn mm p0 p1 s.heap.size ) (cwV 2 hts gX4_say_X4_isNoPlace rfl rfl rfl (by decide +kernel) ⟨Nat.le_of_ble_eq_true rfl, Nat.le_of_ble_eq_true rfl⟩) ⟨zblind, (zrecv_9 hK hPc (q0 := 0) rfl), hpre⟩ rfl rfl hl.1 rfl (lv_room (Nat.le_of_ble_eq_true rfl)) dX4_say_4 ⟨Nat.le_of_ble_eq_true rfl, Nat.le_of_ble_eq_true rfl⟩) hS (fun q _ h => hFc q h) hFc (fun r2 u t H1 locs ht hvm hw hB hz1 hk1 hS => ?_)
  obtain rfl : 1 = r2 := (show r2 = 1 from hw).symm
  obtain ⟨hP1, hK1, hD1, hz2⟩ := hB
  rw [ht] at hP1 hz2
  have hPD9 := va_join (wr := []) (w1 := [(mo, .inr (9, [th, .ref am, md, rf, kn])), (am, .inr (4, [.int mm, .ref (zk 0), .int 0]))]) hP hD [0, 1] [] rfl rfl (by decide) (by decide) hk1 hFc hP1 hD1
  clear hPc hDc hFc hDv hpre hP hD hP1 hK1 hD1
  obtain ⟨hP, hD⟩ := hPD9
  replace hz : s.heap.size + 0 ≤ H1.size := by omega
  clear hz2
  replace hP : va_P (dC, dI) vwCl [(mo, .inr (9, [th, .ref am, md, rf, kn])), (am, .inr (4, [.int mm, .ref (zk 0), .int 0]))] H1 := hP
  replace hD : va_D A [(mo, .inr (9, [th, .ref am, md, rf, kn])), (am, .inr (4, [.int mm, .ref (zk 0), .int 0]))] := hD
  refine W.widen (k := 0) (n := 0) (by omega) (by omega) ?_
  refine lv_iconst (v := 1) hx hb dX4_say_7 (by decide) ?_
  have hPc := hP.sub (ws' := [(mo, .inr (9, [th, .ref am, md, rf, kn]))]) [0] rfl
  have hDc := hD.sub (ws' := [(mo, .inr (9, [th, .ref am, md, rf, kn]))]) [0] (by decide) rfl
  have hFc := va_free (wc := [(mo, .inr (9, [th, .ref am, md, rf, kn]))]) hD hS hA [0] rfl
  have hDv := hDc.self (sz := H1.size)
  have hpre := zpre (xs' := []) (av := [.ref mo, .int 1, .int 1]) hPc hK (hDc.weaken (fun _ _ _ h => h)) hZ hS hFc (fun r hr => by cases hr)
  refine va_calli (va_runV (As := [.int 1, .int 1]) (rest := []) ⟨hx, hb, hml, hown, hts⟩ (k_sttz l dC dI cI cB cR cO zk mo am th md rf kn H1.size ) (cwV 2 hts gX4_say_X4_start rfl rfl rfl (by decide +kernel) ⟨Nat.le_of_ble_eq_true rfl, Nat.le_of_ble_eq_true rfl⟩) ⟨zblind, (zrecv_9 hK hPc (q0 := 0) rfl), hpre⟩ rfl rfl hl.1 rfl (lv_room (Nat.le_of_ble_eq_true rfl)) dX4_say_8 ⟨Nat.le_of_ble_eq_true rfl, Nat.le_of_ble_eq_true rfl⟩) hS (fun q _ h => hFc q h) hFc (fun r4 u t H3 locs ht hvm hw hB hz1 hk1 hS => ?_)
  obtain rfl : 1 = r4 := (show r4 = 1 from hw).symm
  obtain ⟨hP1, hK1, hD1, hz2⟩ := hB
  rw [ht] at hP1 hz2
  have hPD9 := va_join (wr := [(am, .inr (4, [.int mm, .ref (zk 0), .int 0]))]) (w1 := [(mo, .inr (9, [.int 1, .ref am, md, rf, kn]))]) hP hD [0] [1] rfl rfl (by decide) (by decide) hk1 hFc hP1 hD1
  clear hPc hDc hFc hDv hpre hP hD hP1 hK1 hD1
  obtain ⟨hP, hD⟩ := hPD9
  replace hz : s.heap.size + 0 ≤ H3.size := by omega
  clear hz2
  replace hP : va_P (dC, dI) vwCl [(am, .inr (4, [.int mm, .ref (zk 0), .int 0])), (mo, .inr (9, [.int 1, .ref am, md, rf, kn]))] H3 := hP
  replace hD : va_D A [(am, .inr (4, [.int mm, .ref (zk 0), .int 0])), (mo, .inr (9, [.int 1, .ref am, md, rf, kn]))] := hD
  refine W.widen (k := 0) (n := 0) (by omega) (by omega) ?_
  refine lv_if_ne (tgt := 55) hx hb dX4_say_11 (by decide) (fun c9 => ?_) (fun c9 => ?_)
  rotate_left
  · exact absurd c9 (by decide)
  refine lv_iconst (v := 0) hx hb dX4_say_55 (by decide) ?_
  have hP9 := hP.sub (ws' := [(mo, .inr (9, [.int 1, .ref am, md, rf, kn])), (am, .inr (4, [.int mm, .ref (zk 0), .int 0]))]) [1, 0] rfl
  have hD9 := hD.sub (ws' := [(mo, .inr (9, [.int 1, .ref am, md, rf, kn])), (am, .inr (4, [.int mm, .ref (zk 0), .int 0]))]) [1, 0] (by decide) rfl
  exact W.iret (v := 0) hx hb hr (fun t ht hW => ⟨⟨_, (), rfl, trivial, ⟨by rw [ht]; exact hP9, va_K.moved hW.alike hK, hD9, by rw [ht]; exact hz⟩⟩, hS.F ht⟩) hS.2.2 dX4_say_56

set_option maxHeartbeats 4000000 in
set_option maxRecDepth 100000 in
theorem k_noneM (l : Launch) (dC : Nat → ClassId) (dI : Nat → Nat → Nat) (cI cB cR cO : ClassId) (zk : Nat → Nat) (mo am : Nat) (th md rf kn : Value) (mm : Int32) (p0 p1 : Int32) (sz : Nat)  : Met l yX4_none wsX4_none ({ frames := 3, cells := 0, slots := 0, locals := 65 }) (va_Pc [.ref mo, .int p0, .int p1] (zPre (dC, dI) (zT cI cB cR cO) zk [] [(mo, .inr (9, [th, .ref am, md, rf, kn])), (am, .inr (4, [.int mm, .ref (zk 0), .int 0]))] sz)) (va_Qi (fun r (_ : Unit) => True) (fun _ t => zEnd (dC, dI) (zT cI cB cR cO) (va_A [(mo, .inr (9, [th, .ref am, md, rf, kn])), (am, .inr (4, [.int mm, .ref (zk 0), .int 0]))] sz) [(mo, .inr (9, [.int 1, .ref am, md, rf, kn])), (am, .inr (4, [.int mm, .ref (zk 0), .int 0]))] sz 0 t) (va_A [(mo, .inr (9, [th, .ref am, md, rf, kn])), (am, .inr (4, [.int mm, .ref (zk 0), .int 0]))] sz)) 0 0 (va_A [(mo, .inr (9, [th, .ref am, md, rf, kn])), (am, .inr (4, [.int mm, .ref (zk 0), .int 0]))] sz) := by
  refine Met.ofW (cc := cX4_none) (maxL := 3) (ret := (some .int)) (by decide) rfl ?_
  intro p e s mY args below meth c s₁ B hml hv
  obtain ⟨rfl, hsz, hP, hK, hD0, hZ⟩ := hv
  have hx := B.exec
  have hb := B.bytes
  have hr := B.returns
  have hts := atoms_spec (ws := wsX4_none) B.pre
  have hown : s.vm.findClass RX4 = some mY.cls := findClass_of_methodNamed B.named
  have hlocks := B.notSynchronized
  subst hsz
  have hD := hD0.self (sz := s.heap.size)
  generalize hAe : va_A [(mo, .inr (9, [th, .ref am, md, rf, kn])), (am, .inr (4, [.int mm, .ref (zk 0), .int 0]))] s.heap.size = A at hD hZ ⊢
  have hA : ∀ q : Nat, s.heap.size ≤ q → A q := fun q h => by rw [← hAe]; exact Or.inr h
  have hS : va_S A s.heap s.heap [] := va_S.rf
  have hz : s.heap.size + 0 ≤ s.heap.size := Nat.le_refl _
  have hl := lv_entry ([.ref mo, .int p0, .int p1]) (n := 3) (Nat.le_of_ble_eq_true rfl)
  rw [lg_entry_eq]
  generalize (lg_sl ([.ref mo, .int p0, .int p1]) ++ List.replicate (3 - (lg_sl ([.ref mo, .int p0, .int p1])).length) Slot.unset).toArray = ls at hl ⊢
  have hl : lv_has ls 3 [(0, .ref mo), (1, .int p0), (2, .int p1)] := hl
  have hP : va_P (dC, dI) vwCl [(mo, .inr (9, [th, .ref am, md, rf, kn])), (am, .inr (4, [.int mm, .ref (zk 0), .int 0]))] s.heap := hP
  have hD : va_D A [(mo, .inr (9, [th, .ref am, md, rf, kn])), (am, .inr (4, [.int mm, .ref (zk 0), .int 0]))] := hD
  refine lv_aload_n hx hb dX4_none_0 rfl (lv_at hl 0 rfl) ?_
  refine lv_aload_n hx hb dX4_none_1 rfl (lv_at hl 0 rfl) ?_
  refine lv_iload_n hx hb dX4_none_2 rfl (lv_at hl 1 rfl) ?_
  refine lv_iload_n hx hb dX4_none_3 rfl (lv_at hl 2 rfl) ?_
  have hPc := hP.sub (ws' := [(mo, .inr (9, [th, .ref am, md, rf, kn])), (am, .inr (4, [.int mm, .ref (zk 0), .int 0]))]) [0, 1] rfl
  have hDc := hD.sub (ws' := [(mo, .inr (9, [th, .ref am, md, rf, kn])), (am, .inr (4, [.int mm, .ref (zk 0), .int 0]))]) [0, 1] (by decide) rfl
  have hFc := va_free (wc := [(mo, .inr (9, [th, .ref am, md, rf, kn])), (am, .inr (4, [.int mm, .ref (zk 0), .int 0]))]) hD hS hA [0, 1] rfl
  have hDv := hDc.self (sz := s.heap.size)
  have hpre := zpre (xs' := []) (av := [.ref mo, .int p0, .int p1]) hPc hK (hDc.weaken (fun _ _ _ h => h)) hZ hS hFc (fun r hr => by cases hr)
  refine va_calli (va_runV (As := [.int p0, .int p1]) (rest := [.ref mo]) ⟨hx, hb, hml, hown, hts⟩ (k_nPz l dC dI cI cB cR cO zk mo am th md rf kn mm p0 p1 s.heap.size ) (cwV 2 hts gX4_none_X4_isNoPlace rfl rfl rfl (by decide +kernel) ⟨Nat.le_of_ble_eq_true rfl, Nat.le_of_ble_eq_true rfl⟩) ⟨zblind, (zrecv_9 hK hPc (q0 := 0) rfl), hpre⟩ rfl rfl hl.1 rfl (lv_room (Nat.le_of_ble_eq_true rfl)) dX4_none_4 ⟨Nat.le_of_ble_eq_true rfl, Nat.le_of_ble_eq_true rfl⟩) hS (fun q _ h => hFc q h) hFc (fun r2 u t H1 locs ht hvm hw hB hz1 hk1 hS => ?_)
  obtain rfl : 1 = r2 := (show r2 = 1 from hw).symm
  obtain ⟨hP1, hK1, hD1, hz2⟩ := hB
  rw [ht] at hP1 hz2
  have hPD9 := va_join (wr := []) (w1 := [(mo, .inr (9, [th, .ref am, md, rf, kn])), (am, .inr (4, [.int mm, .ref (zk 0), .int 0]))]) hP hD [0, 1] [] rfl rfl (by decide) (by decide) hk1 hFc hP1 hD1
  clear hPc hDc hFc hDv hpre hP hD hP1 hK1 hD1
  obtain ⟨hP, hD⟩ := hPD9
  replace hz : s.heap.size + 0 ≤ H1.size := by omega
  clear hz2
  replace hP : va_P (dC, dI) vwCl [(mo, .inr (9, [th, .ref am, md, rf, kn])), (am, .inr (4, [.int mm, .ref (zk 0), .int 0]))] H1 := hP
  replace hD : va_D A [(mo, .inr (9, [th, .ref am, md, rf, kn])), (am, .inr (4, [.int mm, .ref (zk 0), .int 0]))] := hD
  refine W.widen (k := 0) (n := 0) (by omega) (by omega) ?_
  refine lv_iconst (v := 1) hx hb dX4_none_7 (by decide) ?_
  have hPc := hP.sub (ws' := [(mo, .inr (9, [th, .ref am, md, rf, kn]))]) [0] rfl
  have hDc := hD.sub (ws' := [(mo, .inr (9, [th, .ref am, md, rf, kn]))]) [0] (by decide) rfl
  have hFc := va_free (wc := [(mo, .inr (9, [th, .ref am, md, rf, kn]))]) hD hS hA [0] rfl
  have hDv := hDc.self (sz := H1.size)
  have hpre := zpre (xs' := []) (av := [.ref mo, .int 1, .int 1]) hPc hK (hDc.weaken (fun _ _ _ h => h)) hZ hS hFc (fun r hr => by cases hr)
  refine va_calli (va_runV (As := [.int 1, .int 1]) (rest := []) ⟨hx, hb, hml, hown, hts⟩ (k_sttz l dC dI cI cB cR cO zk mo am th md rf kn H1.size ) (cwV 2 hts gX4_none_X4_start rfl rfl rfl (by decide +kernel) ⟨Nat.le_of_ble_eq_true rfl, Nat.le_of_ble_eq_true rfl⟩) ⟨zblind, (zrecv_9 hK hPc (q0 := 0) rfl), hpre⟩ rfl rfl hl.1 rfl (lv_room (Nat.le_of_ble_eq_true rfl)) dX4_none_8 ⟨Nat.le_of_ble_eq_true rfl, Nat.le_of_ble_eq_true rfl⟩) hS (fun q _ h => hFc q h) hFc (fun r4 u t H3 locs ht hvm hw hB hz1 hk1 hS => ?_)
  obtain rfl : 1 = r4 := (show r4 = 1 from hw).symm
  obtain ⟨hP1, hK1, hD1, hz2⟩ := hB
  rw [ht] at hP1 hz2
  have hPD9 := va_join (wr := [(am, .inr (4, [.int mm, .ref (zk 0), .int 0]))]) (w1 := [(mo, .inr (9, [.int 1, .ref am, md, rf, kn]))]) hP hD [0] [1] rfl rfl (by decide) (by decide) hk1 hFc hP1 hD1
  clear hPc hDc hFc hDv hpre hP hD hP1 hK1 hD1
  obtain ⟨hP, hD⟩ := hPD9
  replace hz : s.heap.size + 0 ≤ H3.size := by omega
  clear hz2
  replace hP : va_P (dC, dI) vwCl [(am, .inr (4, [.int mm, .ref (zk 0), .int 0])), (mo, .inr (9, [.int 1, .ref am, md, rf, kn]))] H3 := hP
  replace hD : va_D A [(am, .inr (4, [.int mm, .ref (zk 0), .int 0])), (mo, .inr (9, [.int 1, .ref am, md, rf, kn]))] := hD
  refine W.widen (k := 0) (n := 0) (by omega) (by omega) ?_
  refine lv_if_ne (tgt := 45) hx hb dX4_none_11 (by decide) (fun c9 => ?_) (fun c9 => ?_)
  rotate_left
  · exact absurd c9 (by decide)
  refine lv_iconst (v := 0) hx hb dX4_none_45 (by decide) ?_
  have hP9 := hP.sub (ws' := [(mo, .inr (9, [.int 1, .ref am, md, rf, kn])), (am, .inr (4, [.int mm, .ref (zk 0), .int 0]))]) [1, 0] rfl
  have hD9 := hD.sub (ws' := [(mo, .inr (9, [.int 1, .ref am, md, rf, kn])), (am, .inr (4, [.int mm, .ref (zk 0), .int 0]))]) [1, 0] (by decide) rfl
  exact W.iret (v := 0) hx hb hr (fun t ht hW => ⟨⟨_, (), rfl, trivial, ⟨by rw [ht]; exact hP9, va_K.moved hW.alike hK, hD9, by rw [ht]; exact hz⟩⟩, hS.F ht⟩) hS.2.2 dX4_none_46

set_option maxHeartbeats 4000000 in
set_option maxRecDepth 100000 in
theorem k_hangM (l : Launch) (dC : Nat → ClassId) (dI : Nat → Nat → Nat) (cI cB cR cO : ClassId) (zk : Nat → Nat) (mo am : Nat) (th md rf kn : Value) (mm : Int32) (p0 p1 p2 : Int32) (sz : Nat)  : Met l yX4_hang wsX4_hang ({ frames := 3, cells := 0, slots := 0, locals := 65 }) (va_Pc [.ref mo, .int p0, .int p1, .int p2] (zPre (dC, dI) (zT cI cB cR cO) zk [] [(mo, .inr (9, [th, .ref am, md, rf, kn])), (am, .inr (4, [.int mm, .ref (zk 0), .int 0]))] sz)) (va_Qi (fun r (_ : Unit) => True) (fun _ t => zEnd (dC, dI) (zT cI cB cR cO) (va_A [(mo, .inr (9, [th, .ref am, md, rf, kn])), (am, .inr (4, [.int mm, .ref (zk 0), .int 0]))] sz) [(mo, .inr (9, [.int 1, .ref am, md, rf, kn])), (am, .inr (4, [.int mm, .ref (zk 0), .int 0]))] sz 0 t) (va_A [(mo, .inr (9, [th, .ref am, md, rf, kn])), (am, .inr (4, [.int mm, .ref (zk 0), .int 0]))] sz)) 0 0 (va_A [(mo, .inr (9, [th, .ref am, md, rf, kn])), (am, .inr (4, [.int mm, .ref (zk 0), .int 0]))] sz) := by
  refine Met.ofW (cc := cX4_hang) (maxL := 5) (ret := (some .int)) (by decide) rfl ?_
  intro p e s mY args below meth c s₁ B hml hv
  obtain ⟨rfl, hsz, hP, hK, hD0, hZ⟩ := hv
  have hx := B.exec
  have hb := B.bytes
  have hr := B.returns
  have hts := atoms_spec (ws := wsX4_hang) B.pre
  have hown : s.vm.findClass RX4 = some mY.cls := findClass_of_methodNamed B.named
  have hlocks := B.notSynchronized
  subst hsz
  have hD := hD0.self (sz := s.heap.size)
  generalize hAe : va_A [(mo, .inr (9, [th, .ref am, md, rf, kn])), (am, .inr (4, [.int mm, .ref (zk 0), .int 0]))] s.heap.size = A at hD hZ ⊢
  have hA : ∀ q : Nat, s.heap.size ≤ q → A q := fun q h => by rw [← hAe]; exact Or.inr h
  have hS : va_S A s.heap s.heap [] := va_S.rf
  have hz : s.heap.size + 0 ≤ s.heap.size := Nat.le_refl _
  have hl := lv_entry ([.ref mo, .int p0, .int p1, .int p2]) (n := 5) (Nat.le_of_ble_eq_true rfl)
  rw [lg_entry_eq]
  generalize (lg_sl ([.ref mo, .int p0, .int p1, .int p2]) ++ List.replicate (5 - (lg_sl ([.ref mo, .int p0, .int p1, .int p2])).length) Slot.unset).toArray = ls at hl ⊢
  have hl : lv_has ls 5 [(0, .ref mo), (1, .int p0), (2, .int p1), (3, .int p2)] := hl
  have hP : va_P (dC, dI) vwCl [(mo, .inr (9, [th, .ref am, md, rf, kn])), (am, .inr (4, [.int mm, .ref (zk 0), .int 0]))] s.heap := hP
  have hD : va_D A [(mo, .inr (9, [th, .ref am, md, rf, kn])), (am, .inr (4, [.int mm, .ref (zk 0), .int 0]))] := hD
  refine lv_aload_n hx hb dX4_hang_0 rfl (lv_at hl 0 rfl) ?_
  refine lv_aload_n hx hb dX4_hang_1 rfl (lv_at hl 0 rfl) ?_
  refine lv_iload_n hx hb dX4_hang_2 rfl (lv_at hl 1 rfl) ?_
  refine lv_iload_n hx hb dX4_hang_3 rfl (lv_at hl 2 rfl) ?_
  have hPc := hP.sub (ws' := [(mo, .inr (9, [th, .ref am, md, rf, kn])), (am, .inr (4, [.int mm, .ref (zk 0), .int 0]))]) [0, 1] rfl
  have hDc := hD.sub (ws' := [(mo, .inr (9, [th, .ref am, md, rf, kn])), (am, .inr (4, [.int mm, .ref (zk 0), .int 0]))]) [0, 1] (by decide) rfl
  have hFc := va_free (wc := [(mo, .inr (9, [th, .ref am, md, rf, kn])), (am, .inr (4, [.int mm, .ref (zk 0), .int 0]))]) hD hS hA [0, 1] rfl
  have hDv := hDc.self (sz := s.heap.size)
  have hpre := zpre (xs' := []) (av := [.ref mo, .int p0, .int p1]) hPc hK (hDc.weaken (fun _ _ _ h => h)) hZ hS hFc (fun r hr => by cases hr)
  refine va_calli (va_runV (As := [.int p0, .int p1]) (rest := [.ref mo]) ⟨hx, hb, hml, hown, hts⟩ (k_nPz l dC dI cI cB cR cO zk mo am th md rf kn mm p0 p1 s.heap.size ) (cwV 2 hts gX4_hang_X4_isNoPlace rfl rfl rfl (by decide +kernel) ⟨Nat.le_of_ble_eq_true rfl, Nat.le_of_ble_eq_true rfl⟩) ⟨zblind, (zrecv_9 hK hPc (q0 := 0) rfl), hpre⟩ rfl rfl hl.1 rfl (lv_room (Nat.le_of_ble_eq_true rfl)) dX4_hang_4 ⟨Nat.le_of_ble_eq_true rfl, Nat.le_of_ble_eq_true rfl⟩) hS (fun q _ h => hFc q h) hFc (fun r2 u t H1 locs ht hvm hw hB hz1 hk1 hS => ?_)
  obtain rfl : 1 = r2 := (show r2 = 1 from hw).symm
  obtain ⟨hP1, hK1, hD1, hz2⟩ := hB
  rw [ht] at hP1 hz2
  have hPD9 := va_join (wr := []) (w1 := [(mo, .inr (9, [th, .ref am, md, rf, kn])), (am, .inr (4, [.int mm, .ref (zk 0), .int 0]))]) hP hD [0, 1] [] rfl rfl (by decide) (by decide) hk1 hFc hP1 hD1
  clear hPc hDc hFc hDv hpre hP hD hP1 hK1 hD1
  obtain ⟨hP, hD⟩ := hPD9
  replace hz : s.heap.size + 0 ≤ H1.size := by omega
  clear hz2
  replace hP : va_P (dC, dI) vwCl [(mo, .inr (9, [th, .ref am, md, rf, kn])), (am, .inr (4, [.int mm, .ref (zk 0), .int 0]))] H1 := hP
  replace hD : va_D A [(mo, .inr (9, [th, .ref am, md, rf, kn])), (am, .inr (4, [.int mm, .ref (zk 0), .int 0]))] := hD
  refine W.widen (k := 0) (n := 0) (by omega) (by omega) ?_
  refine lv_if_ne (tgt := 18) hx hb dX4_hang_7 (by decide) (fun c9 => ?_) (fun c9 => ?_)
  rotate_left
  · exact absurd c9 (by decide)
  refine lv_iconst (v := 1) hx hb dX4_hang_18 (by decide) ?_
  refine lv_goto (tgt := 23) hx hb dX4_hang_19 (by decide) ?_
  refine lv_iconst (v := 1) hx hb dX4_hang_23 (by decide) ?_
  have hPc := hP.sub (ws' := [(mo, .inr (9, [th, .ref am, md, rf, kn]))]) [0] rfl
  have hDc := hD.sub (ws' := [(mo, .inr (9, [th, .ref am, md, rf, kn]))]) [0] (by decide) rfl
  have hFc := va_free (wc := [(mo, .inr (9, [th, .ref am, md, rf, kn]))]) hD hS hA [0] rfl
  have hDv := hDc.self (sz := H1.size)
  have hpre := zpre (xs' := []) (av := [.ref mo, .int 1, .int 1]) hPc hK (hDc.weaken (fun _ _ _ h => h)) hZ hS hFc (fun r hr => by cases hr)
  refine va_calli (va_runV (As := [.int 1, .int 1]) (rest := []) ⟨hx, hb, hml, hown, hts⟩ (k_sttz l dC dI cI cB cR cO zk mo am th md rf kn H1.size ) (cwV 2 hts gX4_hang_X4_start rfl rfl rfl (by decide +kernel) ⟨Nat.le_of_ble_eq_true rfl, Nat.le_of_ble_eq_true rfl⟩) ⟨zblind, (zrecv_9 hK hPc (q0 := 0) rfl), hpre⟩ rfl rfl hl.1 rfl (lv_room (Nat.le_of_ble_eq_true rfl)) dX4_hang_24 ⟨Nat.le_of_ble_eq_true rfl, Nat.le_of_ble_eq_true rfl⟩) hS (fun q _ h => hFc q h) hFc (fun r4 u t H3 locs ht hvm hw hB hz1 hk1 hS => ?_)
  obtain rfl : 1 = r4 := (show r4 = 1 from hw).symm
  obtain ⟨hP1, hK1, hD1, hz2⟩ := hB
  rw [ht] at hP1 hz2
  have hPD9 := va_join (wr := [(am, .inr (4, [.int mm, .ref (zk 0), .int 0]))]) (w1 := [(mo, .inr (9, [.int 1, .ref am, md, rf, kn]))]) hP hD [0] [1] rfl rfl (by decide) (by decide) hk1 hFc hP1 hD1
  clear hPc hDc hFc hDv hpre hP hD hP1 hK1 hD1
  obtain ⟨hP, hD⟩ := hPD9
  replace hz : s.heap.size + 0 ≤ H3.size := by omega
  clear hz2
  replace hP : va_P (dC, dI) vwCl [(am, .inr (4, [.int mm, .ref (zk 0), .int 0])), (mo, .inr (9, [.int 1, .ref am, md, rf, kn]))] H3 := hP
  replace hD : va_D A [(am, .inr (4, [.int mm, .ref (zk 0), .int 0])), (mo, .inr (9, [.int 1, .ref am, md, rf, kn]))] := hD
  refine W.widen (k := 0) (n := 0) (by omega) (by omega) ?_
  refine lv_if_ne (tgt := 79) hx hb dX4_hang_27 (by decide) (fun c9 => ?_) (fun c9 => ?_)
  rotate_left
  · exact absurd c9 (by decide)
  refine lv_iconst (v := 0) hx hb dX4_hang_79 (by decide) ?_
  have hP9 := hP.sub (ws' := [(mo, .inr (9, [.int 1, .ref am, md, rf, kn])), (am, .inr (4, [.int mm, .ref (zk 0), .int 0]))]) [1, 0] rfl
  have hD9 := hD.sub (ws' := [(mo, .inr (9, [.int 1, .ref am, md, rf, kn])), (am, .inr (4, [.int mm, .ref (zk 0), .int 0]))]) [1, 0] (by decide) rfl
  exact W.iret (v := 0) hx hb hr (fun t ht hW => ⟨⟨_, (), rfl, trivial, ⟨by rw [ht]; exact hP9, va_K.moved hW.alike hK, hD9, by rw [ht]; exact hz⟩⟩, hS.F ht⟩) hS.2.2 dX4_hang_80

set_option maxHeartbeats 4000000 in
set_option maxRecDepth 100000 in
theorem k_swapM (l : Launch) (dC : Nat → ClassId) (dI : Nat → Nat → Nat) (cI cB cR cO : ClassId) (zk : Nat → Nat) (mo am : Nat) (th md rf kn : Value) (mm : Int32) (p0 p1 p2 : Int32) (sz : Nat)  : Met l yX4_swap wsX4_swap ({ frames := 3, cells := 0, slots := 0, locals := 65 }) (va_Pc [.ref mo, .int p0, .int p1, .int p2] (zPre (dC, dI) (zT cI cB cR cO) zk [] [(mo, .inr (9, [th, .ref am, md, rf, kn])), (am, .inr (4, [.int mm, .ref (zk 0), .int 0]))] sz)) (va_Qi (fun r (_ : Unit) => True) (fun _ t => zEnd (dC, dI) (zT cI cB cR cO) (va_A [(mo, .inr (9, [th, .ref am, md, rf, kn])), (am, .inr (4, [.int mm, .ref (zk 0), .int 0]))] sz) [(mo, .inr (9, [.int 1, .ref am, md, rf, kn])), (am, .inr (4, [.int mm, .ref (zk 0), .int 0]))] sz 0 t) (va_A [(mo, .inr (9, [th, .ref am, md, rf, kn])), (am, .inr (4, [.int mm, .ref (zk 0), .int 0]))] sz)) 0 0 (va_A [(mo, .inr (9, [th, .ref am, md, rf, kn])), (am, .inr (4, [.int mm, .ref (zk 0), .int 0]))] sz) := by
  refine Met.ofW (cc := cX4_swap) (maxL := 7) (ret := (some .int)) (by decide) rfl ?_
  intro p e s mY args below meth c s₁ B hml hv
  obtain ⟨rfl, hsz, hP, hK, hD0, hZ⟩ := hv
  have hx := B.exec
  have hb := B.bytes
  have hr := B.returns
  have hts := atoms_spec (ws := wsX4_swap) B.pre
  have hown : s.vm.findClass RX4 = some mY.cls := findClass_of_methodNamed B.named
  have hlocks := B.notSynchronized
  subst hsz
  have hD := hD0.self (sz := s.heap.size)
  generalize hAe : va_A [(mo, .inr (9, [th, .ref am, md, rf, kn])), (am, .inr (4, [.int mm, .ref (zk 0), .int 0]))] s.heap.size = A at hD hZ ⊢
  have hA : ∀ q : Nat, s.heap.size ≤ q → A q := fun q h => by rw [← hAe]; exact Or.inr h
  have hS : va_S A s.heap s.heap [] := va_S.rf
  have hz : s.heap.size + 0 ≤ s.heap.size := Nat.le_refl _
  have hl := lv_entry ([.ref mo, .int p0, .int p1, .int p2]) (n := 7) (Nat.le_of_ble_eq_true rfl)
  rw [lg_entry_eq]
  generalize (lg_sl ([.ref mo, .int p0, .int p1, .int p2]) ++ List.replicate (7 - (lg_sl ([.ref mo, .int p0, .int p1, .int p2])).length) Slot.unset).toArray = ls at hl ⊢
  have hl : lv_has ls 7 [(0, .ref mo), (1, .int p0), (2, .int p1), (3, .int p2)] := hl
  have hP : va_P (dC, dI) vwCl [(mo, .inr (9, [th, .ref am, md, rf, kn])), (am, .inr (4, [.int mm, .ref (zk 0), .int 0]))] s.heap := hP
  have hD : va_D A [(mo, .inr (9, [th, .ref am, md, rf, kn])), (am, .inr (4, [.int mm, .ref (zk 0), .int 0]))] := hD
  refine lv_aload_n hx hb dX4_swap_0 rfl (lv_at hl 0 rfl) ?_
  refine lv_aload_n hx hb dX4_swap_1 rfl (lv_at hl 0 rfl) ?_
  refine lv_iload_n hx hb dX4_swap_2 rfl (lv_at hl 1 rfl) ?_
  refine lv_iload_n hx hb dX4_swap_3 rfl (lv_at hl 2 rfl) ?_
  have hPc := hP.sub (ws' := [(mo, .inr (9, [th, .ref am, md, rf, kn])), (am, .inr (4, [.int mm, .ref (zk 0), .int 0]))]) [0, 1] rfl
  have hDc := hD.sub (ws' := [(mo, .inr (9, [th, .ref am, md, rf, kn])), (am, .inr (4, [.int mm, .ref (zk 0), .int 0]))]) [0, 1] (by decide) rfl
  have hFc := va_free (wc := [(mo, .inr (9, [th, .ref am, md, rf, kn])), (am, .inr (4, [.int mm, .ref (zk 0), .int 0]))]) hD hS hA [0, 1] rfl
  have hDv := hDc.self (sz := s.heap.size)
  have hpre := zpre (xs' := []) (av := [.ref mo, .int p0, .int p1]) hPc hK (hDc.weaken (fun _ _ _ h => h)) hZ hS hFc (fun r hr => by cases hr)
  refine va_calli (va_runV (As := [.int p0, .int p1]) (rest := [.ref mo]) ⟨hx, hb, hml, hown, hts⟩ (k_nPz l dC dI cI cB cR cO zk mo am th md rf kn mm p0 p1 s.heap.size ) (cwV 2 hts gX4_swap_X4_isNoPlace rfl rfl rfl (by decide +kernel) ⟨Nat.le_of_ble_eq_true rfl, Nat.le_of_ble_eq_true rfl⟩) ⟨zblind, (zrecv_9 hK hPc (q0 := 0) rfl), hpre⟩ rfl rfl hl.1 rfl (lv_room (Nat.le_of_ble_eq_true rfl)) dX4_swap_4 ⟨Nat.le_of_ble_eq_true rfl, Nat.le_of_ble_eq_true rfl⟩) hS (fun q _ h => hFc q h) hFc (fun r2 u t H1 locs ht hvm hw hB hz1 hk1 hS => ?_)
  obtain rfl : 1 = r2 := (show r2 = 1 from hw).symm
  obtain ⟨hP1, hK1, hD1, hz2⟩ := hB
  rw [ht] at hP1 hz2
  have hPD9 := va_join (wr := []) (w1 := [(mo, .inr (9, [th, .ref am, md, rf, kn])), (am, .inr (4, [.int mm, .ref (zk 0), .int 0]))]) hP hD [0, 1] [] rfl rfl (by decide) (by decide) hk1 hFc hP1 hD1
  clear hPc hDc hFc hDv hpre hP hD hP1 hK1 hD1
  obtain ⟨hP, hD⟩ := hPD9
  replace hz : s.heap.size + 0 ≤ H1.size := by omega
  clear hz2
  replace hP : va_P (dC, dI) vwCl [(mo, .inr (9, [th, .ref am, md, rf, kn])), (am, .inr (4, [.int mm, .ref (zk 0), .int 0]))] H1 := hP
  replace hD : va_D A [(mo, .inr (9, [th, .ref am, md, rf, kn])), (am, .inr (4, [.int mm, .ref (zk 0), .int 0]))] := hD
  refine W.widen (k := 0) (n := 0) (by omega) (by omega) ?_
  refine lv_if_ne (tgt := 19) hx hb dX4_swap_7 (by decide) (fun c9 => ?_) (fun c9 => ?_)
  rotate_left
  · exact absurd c9 (by decide)
  refine lv_iconst (v := 1) hx hb dX4_swap_19 (by decide) ?_
  refine lv_goto (tgt := 24) hx hb dX4_swap_20 (by decide) ?_
  refine lv_iconst (v := 1) hx hb dX4_swap_24 (by decide) ?_
  have hPc := hP.sub (ws' := [(mo, .inr (9, [th, .ref am, md, rf, kn]))]) [0] rfl
  have hDc := hD.sub (ws' := [(mo, .inr (9, [th, .ref am, md, rf, kn]))]) [0] (by decide) rfl
  have hFc := va_free (wc := [(mo, .inr (9, [th, .ref am, md, rf, kn]))]) hD hS hA [0] rfl
  have hDv := hDc.self (sz := H1.size)
  have hpre := zpre (xs' := []) (av := [.ref mo, .int 1, .int 1]) hPc hK (hDc.weaken (fun _ _ _ h => h)) hZ hS hFc (fun r hr => by cases hr)
  refine va_calli (va_runV (As := [.int 1, .int 1]) (rest := []) ⟨hx, hb, hml, hown, hts⟩ (k_sttz l dC dI cI cB cR cO zk mo am th md rf kn H1.size ) (cwV 2 hts gX4_swap_X4_start rfl rfl rfl (by decide +kernel) ⟨Nat.le_of_ble_eq_true rfl, Nat.le_of_ble_eq_true rfl⟩) ⟨zblind, (zrecv_9 hK hPc (q0 := 0) rfl), hpre⟩ rfl rfl hl.1 rfl (lv_room (Nat.le_of_ble_eq_true rfl)) dX4_swap_25 ⟨Nat.le_of_ble_eq_true rfl, Nat.le_of_ble_eq_true rfl⟩) hS (fun q _ h => hFc q h) hFc (fun r4 u t H3 locs ht hvm hw hB hz1 hk1 hS => ?_)
  obtain rfl : 1 = r4 := (show r4 = 1 from hw).symm
  obtain ⟨hP1, hK1, hD1, hz2⟩ := hB
  rw [ht] at hP1 hz2
  have hPD9 := va_join (wr := [(am, .inr (4, [.int mm, .ref (zk 0), .int 0]))]) (w1 := [(mo, .inr (9, [.int 1, .ref am, md, rf, kn]))]) hP hD [0] [1] rfl rfl (by decide) (by decide) hk1 hFc hP1 hD1
  clear hPc hDc hFc hDv hpre hP hD hP1 hK1 hD1
  obtain ⟨hP, hD⟩ := hPD9
  replace hz : s.heap.size + 0 ≤ H3.size := by omega
  clear hz2
  replace hP : va_P (dC, dI) vwCl [(am, .inr (4, [.int mm, .ref (zk 0), .int 0])), (mo, .inr (9, [.int 1, .ref am, md, rf, kn]))] H3 := hP
  replace hD : va_D A [(am, .inr (4, [.int mm, .ref (zk 0), .int 0])), (mo, .inr (9, [.int 1, .ref am, md, rf, kn]))] := hD
  refine W.widen (k := 0) (n := 0) (by omega) (by omega) ?_
  refine lv_if_eq (tgt := 33) hx hb dX4_swap_28 (by decide) (fun c9 => ?_) (fun c9 => ?_)
  · exact absurd c9 (by decide)
  refine lv_iconst (v := 0) hx hb dX4_swap_31 (by decide) ?_
  have hP9 := hP.sub (ws' := [(mo, .inr (9, [.int 1, .ref am, md, rf, kn])), (am, .inr (4, [.int mm, .ref (zk 0), .int 0]))]) [1, 0] rfl
  have hD9 := hD.sub (ws' := [(mo, .inr (9, [.int 1, .ref am, md, rf, kn])), (am, .inr (4, [.int mm, .ref (zk 0), .int 0]))]) [1, 0] (by decide) rfl
  exact W.iret (v := 0) hx hb hr (fun t ht hW => ⟨⟨_, (), rfl, trivial, ⟨by rw [ht]; exact hP9, va_K.moved hW.alike hK, hD9, by rw [ht]; exact hz⟩⟩, hS.F ht⟩) hS.2.2 dX4_swap_32

set_option maxHeartbeats 4000000 in
set_option maxRecDepth 100000 in
theorem k_fillM (l : Launch) (dC : Nat → ClassId) (dI : Nat → Nat → Nat) (cI cB cR cO : ClassId) (zk : Nat → Nat) (mo am : Nat) (th md rf kn : Value) (mm : Int32) (p0 p1 : Int32) (sz : Nat)  : Met l yX4_fill wsX4_fill ({ frames := 2, cells := 0, slots := 0, locals := 44 }) (va_Pc [.ref mo, .int p0, .int p1] (zPre (dC, dI) (zT cI cB cR cO) zk [] [(mo, .inr (9, [th, .ref am, md, rf, kn])), (am, .inr (4, [.int mm, .ref (zk 0), .int 0]))] sz)) (va_Qi (fun r (_ : Unit) => True) (fun _ t => zEnd (dC, dI) (zT cI cB cR cO) (va_A [(mo, .inr (9, [th, .ref am, md, rf, kn])), (am, .inr (4, [.int mm, .ref (zk 0), .int 0]))] sz) [(mo, .inr (9, [.int 1, .ref am, md, rf, kn])), (am, .inr (4, [.int mm, .ref (zk 0), .int 0]))] sz 0 t) (va_A [(mo, .inr (9, [th, .ref am, md, rf, kn])), (am, .inr (4, [.int mm, .ref (zk 0), .int 0]))] sz)) 0 0 (va_A [(mo, .inr (9, [th, .ref am, md, rf, kn])), (am, .inr (4, [.int mm, .ref (zk 0), .int 0]))] sz) := by
  refine Met.ofW (cc := cX4_fill) (maxL := 5) (ret := (some .int)) (by decide) rfl ?_
  intro p e s mY args below meth c s₁ B hml hv
  obtain ⟨rfl, hsz, hP, hK, hD0, hZ⟩ := hv
  have hx := B.exec
  have hb := B.bytes
  have hr := B.returns
  have hts := atoms_spec (ws := wsX4_fill) B.pre
  have hown : s.vm.findClass RX4 = some mY.cls := findClass_of_methodNamed B.named
  have hlocks := B.notSynchronized
  subst hsz
  have hD := hD0.self (sz := s.heap.size)
  generalize hAe : va_A [(mo, .inr (9, [th, .ref am, md, rf, kn])), (am, .inr (4, [.int mm, .ref (zk 0), .int 0]))] s.heap.size = A at hD hZ ⊢
  have hA : ∀ q : Nat, s.heap.size ≤ q → A q := fun q h => by rw [← hAe]; exact Or.inr h
  have hS : va_S A s.heap s.heap [] := va_S.rf
  have hz : s.heap.size + 0 ≤ s.heap.size := Nat.le_refl _
  have hl := lv_entry ([.ref mo, .int p0, .int p1]) (n := 5) (Nat.le_of_ble_eq_true rfl)
  rw [lg_entry_eq]
  generalize (lg_sl ([.ref mo, .int p0, .int p1]) ++ List.replicate (5 - (lg_sl ([.ref mo, .int p0, .int p1])).length) Slot.unset).toArray = ls at hl ⊢
  have hl : lv_has ls 5 [(0, .ref mo), (1, .int p0), (2, .int p1)] := hl
  have hP : va_P (dC, dI) vwCl [(mo, .inr (9, [th, .ref am, md, rf, kn])), (am, .inr (4, [.int mm, .ref (zk 0), .int 0]))] s.heap := hP
  have hD : va_D A [(mo, .inr (9, [th, .ref am, md, rf, kn])), (am, .inr (4, [.int mm, .ref (zk 0), .int 0]))] := hD
  refine lv_aload_n hx hb dX4_fill_0 rfl (lv_at hl 0 rfl) ?_
  refine lv_aload_n hx hb dX4_fill_1 rfl (lv_at hl 0 rfl) ?_
  refine lv_iload_n hx hb dX4_fill_2 rfl (lv_at hl 1 rfl) ?_
  have hPc := hP.sub (ws' := [(mo, .inr (9, [th, .ref am, md, rf, kn])), (am, .inr (4, [.int mm, .ref (zk 0), .int 0]))]) [0, 1] rfl
  have hDc := hD.sub (ws' := [(mo, .inr (9, [th, .ref am, md, rf, kn])), (am, .inr (4, [.int mm, .ref (zk 0), .int 0]))]) [0, 1] (by decide) rfl
  have hFc := va_free (wc := [(mo, .inr (9, [th, .ref am, md, rf, kn])), (am, .inr (4, [.int mm, .ref (zk 0), .int 0]))]) hD hS hA [0, 1] rfl
  have hDv := hDc.self (sz := s.heap.size)
  have hpre := zpre (xs' := []) (av := [.ref mo, .int p0]) hPc hK (hDc.weaken (fun _ _ _ h => h)) hZ hS hFc (fun r hr => by cases hr)
  refine va_calli (va_runV (As := [.int p0]) (rest := [.ref mo]) ⟨hx, hb, hml, hown, hts⟩ (k_nRz l dC dI cI cB cR cO zk mo am th md rf kn mm p0 s.heap.size ) (cwV 1 hts gX4_fill_X4_isNoRow rfl rfl rfl (by decide +kernel) ⟨Nat.le_of_ble_eq_true rfl, Nat.le_of_ble_eq_true rfl⟩) ⟨zblind, (zrecv_9 hK hPc (q0 := 0) rfl), hpre⟩ rfl rfl hl.1 rfl (lv_room (Nat.le_of_ble_eq_true rfl)) dX4_fill_3 ⟨Nat.le_of_ble_eq_true rfl, Nat.le_of_ble_eq_true rfl⟩) hS (fun q _ h => hFc q h) hFc (fun r2 u t H1 locs ht hvm hw hB hz1 hk1 hS => ?_)
  obtain rfl : 1 = r2 := (show r2 = 1 from hw).symm
  obtain ⟨hP1, hK1, hD1, hz2⟩ := hB
  rw [ht] at hP1 hz2
  have hPD9 := va_join (wr := []) (w1 := [(mo, .inr (9, [th, .ref am, md, rf, kn])), (am, .inr (4, [.int mm, .ref (zk 0), .int 0]))]) hP hD [0, 1] [] rfl rfl (by decide) (by decide) hk1 hFc hP1 hD1
  clear hPc hDc hFc hDv hpre hP hD hP1 hK1 hD1
  obtain ⟨hP, hD⟩ := hPD9
  replace hz : s.heap.size + 0 ≤ H1.size := by omega
  clear hz2
  replace hP : va_P (dC, dI) vwCl [(mo, .inr (9, [th, .ref am, md, rf, kn])), (am, .inr (4, [.int mm, .ref (zk 0), .int 0]))] H1 := hP
  replace hD : va_D A [(mo, .inr (9, [th, .ref am, md, rf, kn])), (am, .inr (4, [.int mm, .ref (zk 0), .int 0]))] := hD
  refine W.widen (k := 0) (n := 0) (by omega) (by omega) ?_
  refine lv_iconst (v := 1) hx hb dX4_fill_6 (by decide) ?_
  have hPc := hP.sub (ws' := [(mo, .inr (9, [th, .ref am, md, rf, kn]))]) [0] rfl
  have hDc := hD.sub (ws' := [(mo, .inr (9, [th, .ref am, md, rf, kn]))]) [0] (by decide) rfl
  have hFc := va_free (wc := [(mo, .inr (9, [th, .ref am, md, rf, kn]))]) hD hS hA [0] rfl
  have hDv := hDc.self (sz := H1.size)
  have hpre := zpre (xs' := []) (av := [.ref mo, .int 1, .int 1]) hPc hK (hDc.weaken (fun _ _ _ h => h)) hZ hS hFc (fun r hr => by cases hr)
  refine va_calli (va_runV (As := [.int 1, .int 1]) (rest := []) ⟨hx, hb, hml, hown, hts⟩ (k_sttz l dC dI cI cB cR cO zk mo am th md rf kn H1.size ) (cwV 2 hts gX4_fill_X4_start rfl rfl rfl (by decide +kernel) ⟨Nat.le_of_ble_eq_true rfl, Nat.le_of_ble_eq_true rfl⟩) ⟨zblind, (zrecv_9 hK hPc (q0 := 0) rfl), hpre⟩ rfl rfl hl.1 rfl (lv_room (Nat.le_of_ble_eq_true rfl)) dX4_fill_7 ⟨Nat.le_of_ble_eq_true rfl, Nat.le_of_ble_eq_true rfl⟩) hS (fun q _ h => hFc q h) hFc (fun r4 u t H3 locs ht hvm hw hB hz1 hk1 hS => ?_)
  obtain rfl : 1 = r4 := (show r4 = 1 from hw).symm
  obtain ⟨hP1, hK1, hD1, hz2⟩ := hB
  rw [ht] at hP1 hz2
  have hPD9 := va_join (wr := [(am, .inr (4, [.int mm, .ref (zk 0), .int 0]))]) (w1 := [(mo, .inr (9, [.int 1, .ref am, md, rf, kn]))]) hP hD [0] [1] rfl rfl (by decide) (by decide) hk1 hFc hP1 hD1
  clear hPc hDc hFc hDv hpre hP hD hP1 hK1 hD1
  obtain ⟨hP, hD⟩ := hPD9
  replace hz : s.heap.size + 0 ≤ H3.size := by omega
  clear hz2
  replace hP : va_P (dC, dI) vwCl [(am, .inr (4, [.int mm, .ref (zk 0), .int 0])), (mo, .inr (9, [.int 1, .ref am, md, rf, kn]))] H3 := hP
  replace hD : va_D A [(am, .inr (4, [.int mm, .ref (zk 0), .int 0])), (mo, .inr (9, [.int 1, .ref am, md, rf, kn]))] := hD
  refine W.widen (k := 0) (n := 0) (by omega) (by omega) ?_
  refine lv_if_ne (tgt := 25) hx hb dX4_fill_10 (by decide) (fun c9 => ?_) (fun c9 => ?_)
  rotate_left
  · exact absurd c9 (by decide)
  refine lv_iconst (v := 0) hx hb dX4_fill_25 (by decide) ?_
  have hP9 := hP.sub (ws' := [(mo, .inr (9, [.int 1, .ref am, md, rf, kn])), (am, .inr (4, [.int mm, .ref (zk 0), .int 0]))]) [1, 0] rfl
  have hD9 := hD.sub (ws' := [(mo, .inr (9, [.int 1, .ref am, md, rf, kn])), (am, .inr (4, [.int mm, .ref (zk 0), .int 0]))]) [1, 0] (by decide) rfl
  exact W.iret (v := 0) hx hb hr (fun t ht hW => ⟨⟨_, (), rfl, trivial, ⟨by rw [ht]; exact hP9, va_K.moved hW.alike hK, hD9, by rw [ht]; exact hz⟩⟩, hS.F ht⟩) hS.2.2 dX4_fill_26

set_option maxHeartbeats 4000000 in
set_option maxRecDepth 100000 in
theorem k_fillRowM (l : Launch) (dC : Nat → ClassId) (dI : Nat → Nat → Nat) (cI cB cR cO : ClassId) (zk : Nat → Nat) (mo am : Nat) (th md rf kn : Value) (mm : Int32) (p0 p1 : Int32) (sz : Nat)  : Met l yX4_fillRow wsX4_fillRow ({ frames := 2, cells := 0, slots := 0, locals := 44 }) (va_Pc [.ref mo, .int p0, .int p1] (zPre (dC, dI) (zT cI cB cR cO) zk [] [(mo, .inr (9, [th, .ref am, md, rf, kn])), (am, .inr (4, [.int mm, .ref (zk 0), .int 0]))] sz)) (va_Qi (fun r (_ : Unit) => True) (fun _ t => zEnd (dC, dI) (zT cI cB cR cO) (va_A [(mo, .inr (9, [th, .ref am, md, rf, kn])), (am, .inr (4, [.int mm, .ref (zk 0), .int 0]))] sz) [(mo, .inr (9, [.int 1, .ref am, md, rf, kn])), (am, .inr (4, [.int mm, .ref (zk 0), .int 0]))] sz 0 t) (va_A [(mo, .inr (9, [th, .ref am, md, rf, kn])), (am, .inr (4, [.int mm, .ref (zk 0), .int 0]))] sz)) 0 0 (va_A [(mo, .inr (9, [th, .ref am, md, rf, kn])), (am, .inr (4, [.int mm, .ref (zk 0), .int 0]))] sz) := by
  refine Met.ofW (cc := cX4_fillRow) (maxL := 5) (ret := (some .int)) (by decide) rfl ?_
  intro p e s mY args below meth c s₁ B hml hv
  obtain ⟨rfl, hsz, hP, hK, hD0, hZ⟩ := hv
  have hx := B.exec
  have hb := B.bytes
  have hr := B.returns
  have hts := atoms_spec (ws := wsX4_fillRow) B.pre
  have hown : s.vm.findClass RX4 = some mY.cls := findClass_of_methodNamed B.named
  have hlocks := B.notSynchronized
  subst hsz
  have hD := hD0.self (sz := s.heap.size)
  generalize hAe : va_A [(mo, .inr (9, [th, .ref am, md, rf, kn])), (am, .inr (4, [.int mm, .ref (zk 0), .int 0]))] s.heap.size = A at hD hZ ⊢
  have hA : ∀ q : Nat, s.heap.size ≤ q → A q := fun q h => by rw [← hAe]; exact Or.inr h
  have hS : va_S A s.heap s.heap [] := va_S.rf
  have hz : s.heap.size + 0 ≤ s.heap.size := Nat.le_refl _
  have hl := lv_entry ([.ref mo, .int p0, .int p1]) (n := 5) (Nat.le_of_ble_eq_true rfl)
  rw [lg_entry_eq]
  generalize (lg_sl ([.ref mo, .int p0, .int p1]) ++ List.replicate (5 - (lg_sl ([.ref mo, .int p0, .int p1])).length) Slot.unset).toArray = ls at hl ⊢
  have hl : lv_has ls 5 [(0, .ref mo), (1, .int p0), (2, .int p1)] := hl
  have hP : va_P (dC, dI) vwCl [(mo, .inr (9, [th, .ref am, md, rf, kn])), (am, .inr (4, [.int mm, .ref (zk 0), .int 0]))] s.heap := hP
  have hD : va_D A [(mo, .inr (9, [th, .ref am, md, rf, kn])), (am, .inr (4, [.int mm, .ref (zk 0), .int 0]))] := hD
  refine lv_aload_n hx hb dX4_fillRow_0 rfl (lv_at hl 0 rfl) ?_
  refine lv_aload_n hx hb dX4_fillRow_1 rfl (lv_at hl 0 rfl) ?_
  refine lv_iload_n hx hb dX4_fillRow_2 rfl (lv_at hl 1 rfl) ?_
  have hPc := hP.sub (ws' := [(mo, .inr (9, [th, .ref am, md, rf, kn])), (am, .inr (4, [.int mm, .ref (zk 0), .int 0]))]) [0, 1] rfl
  have hDc := hD.sub (ws' := [(mo, .inr (9, [th, .ref am, md, rf, kn])), (am, .inr (4, [.int mm, .ref (zk 0), .int 0]))]) [0, 1] (by decide) rfl
  have hFc := va_free (wc := [(mo, .inr (9, [th, .ref am, md, rf, kn])), (am, .inr (4, [.int mm, .ref (zk 0), .int 0]))]) hD hS hA [0, 1] rfl
  have hDv := hDc.self (sz := s.heap.size)
  have hpre := zpre (xs' := []) (av := [.ref mo, .int p0]) hPc hK (hDc.weaken (fun _ _ _ h => h)) hZ hS hFc (fun r hr => by cases hr)
  refine va_calli (va_runV (As := [.int p0]) (rest := [.ref mo]) ⟨hx, hb, hml, hown, hts⟩ (k_nRz l dC dI cI cB cR cO zk mo am th md rf kn mm p0 s.heap.size ) (cwV 1 hts gX4_fillRow_X4_isNoRow rfl rfl rfl (by decide +kernel) ⟨Nat.le_of_ble_eq_true rfl, Nat.le_of_ble_eq_true rfl⟩) ⟨zblind, (zrecv_9 hK hPc (q0 := 0) rfl), hpre⟩ rfl rfl hl.1 rfl (lv_room (Nat.le_of_ble_eq_true rfl)) dX4_fillRow_3 ⟨Nat.le_of_ble_eq_true rfl, Nat.le_of_ble_eq_true rfl⟩) hS (fun q _ h => hFc q h) hFc (fun r2 u t H1 locs ht hvm hw hB hz1 hk1 hS => ?_)
  obtain rfl : 1 = r2 := (show r2 = 1 from hw).symm
  obtain ⟨hP1, hK1, hD1, hz2⟩ := hB
  rw [ht] at hP1 hz2
  have hPD9 := va_join (wr := []) (w1 := [(mo, .inr (9, [th, .ref am, md, rf, kn])), (am, .inr (4, [.int mm, .ref (zk 0), .int 0]))]) hP hD [0, 1] [] rfl rfl (by decide) (by decide) hk1 hFc hP1 hD1
  clear hPc hDc hFc hDv hpre hP hD hP1 hK1 hD1
  obtain ⟨hP, hD⟩ := hPD9
  replace hz : s.heap.size + 0 ≤ H1.size := by omega
  clear hz2
  replace hP : va_P (dC, dI) vwCl [(mo, .inr (9, [th, .ref am, md, rf, kn])), (am, .inr (4, [.int mm, .ref (zk 0), .int 0]))] H1 := hP
  replace hD : va_D A [(mo, .inr (9, [th, .ref am, md, rf, kn])), (am, .inr (4, [.int mm, .ref (zk 0), .int 0]))] := hD
  refine W.widen (k := 0) (n := 0) (by omega) (by omega) ?_
  refine lv_if_ne (tgt := 17) hx hb dX4_fillRow_6 (by decide) (fun c9 => ?_) (fun c9 => ?_)
  rotate_left
  · exact absurd c9 (by decide)
  refine lv_iconst (v := 1) hx hb dX4_fillRow_17 (by decide) ?_
  refine lv_goto (tgt := 22) hx hb dX4_fillRow_18 (by decide) ?_
  refine lv_iconst (v := 1) hx hb dX4_fillRow_22 (by decide) ?_
  have hPc := hP.sub (ws' := [(mo, .inr (9, [th, .ref am, md, rf, kn]))]) [0] rfl
  have hDc := hD.sub (ws' := [(mo, .inr (9, [th, .ref am, md, rf, kn]))]) [0] (by decide) rfl
  have hFc := va_free (wc := [(mo, .inr (9, [th, .ref am, md, rf, kn]))]) hD hS hA [0] rfl
  have hDv := hDc.self (sz := H1.size)
  have hpre := zpre (xs' := []) (av := [.ref mo, .int 1, .int 1]) hPc hK (hDc.weaken (fun _ _ _ h => h)) hZ hS hFc (fun r hr => by cases hr)
  refine va_calli (va_runV (As := [.int 1, .int 1]) (rest := []) ⟨hx, hb, hml, hown, hts⟩ (k_sttz l dC dI cI cB cR cO zk mo am th md rf kn H1.size ) (cwV 2 hts gX4_fillRow_X4_start rfl rfl rfl (by decide +kernel) ⟨Nat.le_of_ble_eq_true rfl, Nat.le_of_ble_eq_true rfl⟩) ⟨zblind, (zrecv_9 hK hPc (q0 := 0) rfl), hpre⟩ rfl rfl hl.1 rfl (lv_room (Nat.le_of_ble_eq_true rfl)) dX4_fillRow_23 ⟨Nat.le_of_ble_eq_true rfl, Nat.le_of_ble_eq_true rfl⟩) hS (fun q _ h => hFc q h) hFc (fun r4 u t H3 locs ht hvm hw hB hz1 hk1 hS => ?_)
  obtain rfl : 1 = r4 := (show r4 = 1 from hw).symm
  obtain ⟨hP1, hK1, hD1, hz2⟩ := hB
  rw [ht] at hP1 hz2
  have hPD9 := va_join (wr := [(am, .inr (4, [.int mm, .ref (zk 0), .int 0]))]) (w1 := [(mo, .inr (9, [.int 1, .ref am, md, rf, kn]))]) hP hD [0] [1] rfl rfl (by decide) (by decide) hk1 hFc hP1 hD1
  clear hPc hDc hFc hDv hpre hP hD hP1 hK1 hD1
  obtain ⟨hP, hD⟩ := hPD9
  replace hz : s.heap.size + 0 ≤ H3.size := by omega
  clear hz2
  replace hP : va_P (dC, dI) vwCl [(am, .inr (4, [.int mm, .ref (zk 0), .int 0])), (mo, .inr (9, [.int 1, .ref am, md, rf, kn]))] H3 := hP
  replace hD : va_D A [(am, .inr (4, [.int mm, .ref (zk 0), .int 0])), (mo, .inr (9, [.int 1, .ref am, md, rf, kn]))] := hD
  refine W.widen (k := 0) (n := 0) (by omega) (by omega) ?_
  refine lv_if_ne (tgt := 78) hx hb dX4_fillRow_26 (by decide) (fun c9 => ?_) (fun c9 => ?_)
  rotate_left
  · exact absurd c9 (by decide)
  refine lv_iconst (v := 0) hx hb dX4_fillRow_78 (by decide) ?_
  have hP9 := hP.sub (ws' := [(mo, .inr (9, [.int 1, .ref am, md, rf, kn])), (am, .inr (4, [.int mm, .ref (zk 0), .int 0]))]) [1, 0] rfl
  have hD9 := hD.sub (ws' := [(mo, .inr (9, [.int 1, .ref am, md, rf, kn])), (am, .inr (4, [.int mm, .ref (zk 0), .int 0]))]) [1, 0] (by decide) rfl
  exact W.iret (v := 0) hx hb hr (fun t ht hW => ⟨⟨_, (), rfl, trivial, ⟨by rw [ht]; exact hP9, va_K.moved hW.alike hK, hD9, by rw [ht]; exact hz⟩⟩, hS.F ht⟩) hS.2.2 dX4_fillRow_79

set_option maxHeartbeats 4000000 in
set_option maxRecDepth 100000 in
theorem k_setAllM (l : Launch) (dC : Nat → ClassId) (dI : Nat → Nat → Nat) (cI cB cR cO : ClassId) (zk : Nat → Nat) (mo am : Nat) (th md rf kn : Value) (mm : Int32) (p0 p1 p2 p3 : Int32) (sz : Nat)  : Met l yX4_setAll wsX4_setAll ({ frames := 2, cells := 0, slots := 0, locals := 44 }) (va_Pc [.ref mo, .int p0, .int p1, .int p2, .int p3] (zPre (dC, dI) (zT cI cB cR cO) zk [] [(mo, .inr (9, [th, .ref am, md, rf, kn])), (am, .inr (4, [.int mm, .ref (zk 0), .int 0]))] sz)) (va_Qi (fun r (_ : Unit) => True) (fun _ t => zEnd (dC, dI) (zT cI cB cR cO) (va_A [(mo, .inr (9, [th, .ref am, md, rf, kn])), (am, .inr (4, [.int mm, .ref (zk 0), .int 0]))] sz) [(mo, .inr (9, [.int 1, .ref am, md, rf, kn])), (am, .inr (4, [.int mm, .ref (zk 0), .int 0]))] sz 0 t) (va_A [(mo, .inr (9, [th, .ref am, md, rf, kn])), (am, .inr (4, [.int mm, .ref (zk 0), .int 0]))] sz)) 0 0 (va_A [(mo, .inr (9, [th, .ref am, md, rf, kn])), (am, .inr (4, [.int mm, .ref (zk 0), .int 0]))] sz) := by
  refine Met.ofW (cc := cX4_setAll) (maxL := 7) (ret := (some .int)) (by decide) rfl ?_
  intro p e s mY args below meth c s₁ B hml hv
  obtain ⟨rfl, hsz, hP, hK, hD0, hZ⟩ := hv
  have hx := B.exec
  have hb := B.bytes
  have hr := B.returns
  have hts := atoms_spec (ws := wsX4_setAll) B.pre
  have hown : s.vm.findClass RX4 = some mY.cls := findClass_of_methodNamed B.named
  have hlocks := B.notSynchronized
  subst hsz
  have hD := hD0.self (sz := s.heap.size)
  generalize hAe : va_A [(mo, .inr (9, [th, .ref am, md, rf, kn])), (am, .inr (4, [.int mm, .ref (zk 0), .int 0]))] s.heap.size = A at hD hZ ⊢
  have hA : ∀ q : Nat, s.heap.size ≤ q → A q := fun q h => by rw [← hAe]; exact Or.inr h
  have hS : va_S A s.heap s.heap [] := va_S.rf
  have hz : s.heap.size + 0 ≤ s.heap.size := Nat.le_refl _
  have hl := lv_entry ([.ref mo, .int p0, .int p1, .int p2, .int p3]) (n := 7) (Nat.le_of_ble_eq_true rfl)
  rw [lg_entry_eq]
  generalize (lg_sl ([.ref mo, .int p0, .int p1, .int p2, .int p3]) ++ List.replicate (7 - (lg_sl ([.ref mo, .int p0, .int p1, .int p2, .int p3])).length) Slot.unset).toArray = ls at hl ⊢
  have hl : lv_has ls 7 [(0, .ref mo), (1, .int p0), (2, .int p1), (3, .int p2), (4, .int p3)] := hl
  have hP : va_P (dC, dI) vwCl [(mo, .inr (9, [th, .ref am, md, rf, kn])), (am, .inr (4, [.int mm, .ref (zk 0), .int 0]))] s.heap := hP
  have hD : va_D A [(mo, .inr (9, [th, .ref am, md, rf, kn])), (am, .inr (4, [.int mm, .ref (zk 0), .int 0]))] := hD
  refine lv_aload_n hx hb dX4_setAll_0 rfl (lv_at hl 0 rfl) ?_
  refine lv_aload_n hx hb dX4_setAll_1 rfl (lv_at hl 0 rfl) ?_
  refine lv_iload_n hx hb dX4_setAll_2 rfl (lv_at hl 1 rfl) ?_
  have hPc := hP.sub (ws' := [(mo, .inr (9, [th, .ref am, md, rf, kn])), (am, .inr (4, [.int mm, .ref (zk 0), .int 0]))]) [0, 1] rfl
  have hDc := hD.sub (ws' := [(mo, .inr (9, [th, .ref am, md, rf, kn])), (am, .inr (4, [.int mm, .ref (zk 0), .int 0]))]) [0, 1] (by decide) rfl
  have hFc := va_free (wc := [(mo, .inr (9, [th, .ref am, md, rf, kn])), (am, .inr (4, [.int mm, .ref (zk 0), .int 0]))]) hD hS hA [0, 1] rfl
  have hDv := hDc.self (sz := s.heap.size)
  have hpre := zpre (xs' := []) (av := [.ref mo, .int p0]) hPc hK (hDc.weaken (fun _ _ _ h => h)) hZ hS hFc (fun r hr => by cases hr)
  refine va_calli (va_runV (As := [.int p0]) (rest := [.ref mo]) ⟨hx, hb, hml, hown, hts⟩ (k_nRz l dC dI cI cB cR cO zk mo am th md rf kn mm p0 s.heap.size ) (cwV 1 hts gX4_setAll_X4_isNoRow rfl rfl rfl (by decide +kernel) ⟨Nat.le_of_ble_eq_true rfl, Nat.le_of_ble_eq_true rfl⟩) ⟨zblind, (zrecv_9 hK hPc (q0 := 0) rfl), hpre⟩ rfl rfl hl.1 rfl (lv_room (Nat.le_of_ble_eq_true rfl)) dX4_setAll_3 ⟨Nat.le_of_ble_eq_true rfl, Nat.le_of_ble_eq_true rfl⟩) hS (fun q _ h => hFc q h) hFc (fun r2 u t H1 locs ht hvm hw hB hz1 hk1 hS => ?_)
  obtain rfl : 1 = r2 := (show r2 = 1 from hw).symm
  obtain ⟨hP1, hK1, hD1, hz2⟩ := hB
  rw [ht] at hP1 hz2
  have hPD9 := va_join (wr := []) (w1 := [(mo, .inr (9, [th, .ref am, md, rf, kn])), (am, .inr (4, [.int mm, .ref (zk 0), .int 0]))]) hP hD [0, 1] [] rfl rfl (by decide) (by decide) hk1 hFc hP1 hD1
  clear hPc hDc hFc hDv hpre hP hD hP1 hK1 hD1
  obtain ⟨hP, hD⟩ := hPD9
  replace hz : s.heap.size + 0 ≤ H1.size := by omega
  clear hz2
  replace hP : va_P (dC, dI) vwCl [(mo, .inr (9, [th, .ref am, md, rf, kn])), (am, .inr (4, [.int mm, .ref (zk 0), .int 0]))] H1 := hP
  replace hD : va_D A [(mo, .inr (9, [th, .ref am, md, rf, kn])), (am, .inr (4, [.int mm, .ref (zk 0), .int 0]))] := hD
  refine W.widen (k := 0) (n := 0) (by omega) (by omega) ?_
  refine lv_iconst (v := 1) hx hb dX4_setAll_6 (by decide) ?_
  have hPc := hP.sub (ws' := [(mo, .inr (9, [th, .ref am, md, rf, kn]))]) [0] rfl
  have hDc := hD.sub (ws' := [(mo, .inr (9, [th, .ref am, md, rf, kn]))]) [0] (by decide) rfl
  have hFc := va_free (wc := [(mo, .inr (9, [th, .ref am, md, rf, kn]))]) hD hS hA [0] rfl
  have hDv := hDc.self (sz := H1.size)
  have hpre := zpre (xs' := []) (av := [.ref mo, .int 1, .int 1]) hPc hK (hDc.weaken (fun _ _ _ h => h)) hZ hS hFc (fun r hr => by cases hr)
  refine va_calli (va_runV (As := [.int 1, .int 1]) (rest := []) ⟨hx, hb, hml, hown, hts⟩ (k_sttz l dC dI cI cB cR cO zk mo am th md rf kn H1.size ) (cwV 2 hts gX4_setAll_X4_start rfl rfl rfl (by decide +kernel) ⟨Nat.le_of_ble_eq_true rfl, Nat.le_of_ble_eq_true rfl⟩) ⟨zblind, (zrecv_9 hK hPc (q0 := 0) rfl), hpre⟩ rfl rfl hl.1 rfl (lv_room (Nat.le_of_ble_eq_true rfl)) dX4_setAll_7 ⟨Nat.le_of_ble_eq_true rfl, Nat.le_of_ble_eq_true rfl⟩) hS (fun q _ h => hFc q h) hFc (fun r4 u t H3 locs ht hvm hw hB hz1 hk1 hS => ?_)
  obtain rfl : 1 = r4 := (show r4 = 1 from hw).symm
  obtain ⟨hP1, hK1, hD1, hz2⟩ := hB
  rw [ht] at hP1 hz2
  have hPD9 := va_join (wr := [(am, .inr (4, [.int mm, .ref (zk 0), .int 0]))]) (w1 := [(mo, .inr (9, [.int 1, .ref am, md, rf, kn]))]) hP hD [0] [1] rfl rfl (by decide) (by decide) hk1 hFc hP1 hD1
  clear hPc hDc hFc hDv hpre hP hD hP1 hK1 hD1
  obtain ⟨hP, hD⟩ := hPD9
  replace hz : s.heap.size + 0 ≤ H3.size := by omega
  clear hz2
  replace hP : va_P (dC, dI) vwCl [(am, .inr (4, [.int mm, .ref (zk 0), .int 0])), (mo, .inr (9, [.int 1, .ref am, md, rf, kn]))] H3 := hP
  replace hD : va_D A [(am, .inr (4, [.int mm, .ref (zk 0), .int 0])), (mo, .inr (9, [.int 1, .ref am, md, rf, kn]))] := hD
  refine W.widen (k := 0) (n := 0) (by omega) (by omega) ?_
  refine lv_if_eq (tgt := 15) hx hb dX4_setAll_10 (by decide) (fun c9 => ?_) (fun c9 => ?_)
  · exact absurd c9 (by decide)
  refine lv_iconst (v := 0) hx hb dX4_setAll_13 (by decide) ?_
  have hP9 := hP.sub (ws' := [(mo, .inr (9, [.int 1, .ref am, md, rf, kn])), (am, .inr (4, [.int mm, .ref (zk 0), .int 0]))]) [1, 0] rfl
  have hD9 := hD.sub (ws' := [(mo, .inr (9, [.int 1, .ref am, md, rf, kn])), (am, .inr (4, [.int mm, .ref (zk 0), .int 0]))]) [1, 0] (by decide) rfl
  exact W.iret (v := 0) hx hb hr (fun t ht hW => ⟨⟨_, (), rfl, trivial, ⟨by rw [ht]; exact hP9, va_K.moved hW.alike hK, hD9, by rw [ht]; exact hz⟩⟩, hS.F ht⟩) hS.2.2 dX4_setAll_14

set_option maxHeartbeats 4000000 in
set_option maxRecDepth 100000 in
theorem k_setRowsM (l : Launch) (dC : Nat → ClassId) (dI : Nat → Nat → Nat) (cI cB cR cO : ClassId) (zk : Nat → Nat) (mo am : Nat) (th md rf kn : Value) (mm : Int32) (p0 p1 : Int32) (sz : Nat)  : Met l yX4_setRows wsX4_setRows ({ frames := 2, cells := 0, slots := 0, locals := 44 }) (va_Pc [.ref mo, .int p0, .int p1] (zPre (dC, dI) (zT cI cB cR cO) zk [] [(mo, .inr (9, [th, .ref am, md, rf, kn])), (am, .inr (4, [.int mm, .ref (zk 0), .int 0]))] sz)) (va_Qi (fun r (_ : Unit) => True) (fun _ t => zEnd (dC, dI) (zT cI cB cR cO) (va_A [(mo, .inr (9, [th, .ref am, md, rf, kn])), (am, .inr (4, [.int mm, .ref (zk 0), .int 0]))] sz) [(mo, .inr (9, [.int 1, .ref am, md, rf, kn])), (am, .inr (4, [.int mm, .ref (zk 0), .int 0]))] sz 0 t) (va_A [(mo, .inr (9, [th, .ref am, md, rf, kn])), (am, .inr (4, [.int mm, .ref (zk 0), .int 0]))] sz)) 0 0 (va_A [(mo, .inr (9, [th, .ref am, md, rf, kn])), (am, .inr (4, [.int mm, .ref (zk 0), .int 0]))] sz) := by
  refine Met.ofW (cc := cX4_setRows) (maxL := 6) (ret := (some .int)) (by decide) rfl ?_
  intro p e s mY args below meth c s₁ B hml hv
  obtain ⟨rfl, hsz, hP, hK, hD0, hZ⟩ := hv
  have hx := B.exec
  have hb := B.bytes
  have hr := B.returns
  have hts := atoms_spec (ws := wsX4_setRows) B.pre
  have hown : s.vm.findClass RX4 = some mY.cls := findClass_of_methodNamed B.named
  have hlocks := B.notSynchronized
  subst hsz
  have hD := hD0.self (sz := s.heap.size)
  generalize hAe : va_A [(mo, .inr (9, [th, .ref am, md, rf, kn])), (am, .inr (4, [.int mm, .ref (zk 0), .int 0]))] s.heap.size = A at hD hZ ⊢
  have hA : ∀ q : Nat, s.heap.size ≤ q → A q := fun q h => by rw [← hAe]; exact Or.inr h
  have hS : va_S A s.heap s.heap [] := va_S.rf
  have hz : s.heap.size + 0 ≤ s.heap.size := Nat.le_refl _
  have hl := lv_entry ([.ref mo, .int p0, .int p1]) (n := 6) (Nat.le_of_ble_eq_true rfl)
  rw [lg_entry_eq]
  generalize (lg_sl ([.ref mo, .int p0, .int p1]) ++ List.replicate (6 - (lg_sl ([.ref mo, .int p0, .int p1])).length) Slot.unset).toArray = ls at hl ⊢
  have hl : lv_has ls 6 [(0, .ref mo), (1, .int p0), (2, .int p1)] := hl
  have hP : va_P (dC, dI) vwCl [(mo, .inr (9, [th, .ref am, md, rf, kn])), (am, .inr (4, [.int mm, .ref (zk 0), .int 0]))] s.heap := hP
  have hD : va_D A [(mo, .inr (9, [th, .ref am, md, rf, kn])), (am, .inr (4, [.int mm, .ref (zk 0), .int 0]))] := hD
  refine lv_aload_n hx hb dX4_setRows_0 rfl (lv_at hl 0 rfl) ?_
  refine lv_aload_n hx hb dX4_setRows_1 rfl (lv_at hl 0 rfl) ?_
  refine lv_iload_n hx hb dX4_setRows_2 rfl (lv_at hl 1 rfl) ?_
  have hPc := hP.sub (ws' := [(mo, .inr (9, [th, .ref am, md, rf, kn])), (am, .inr (4, [.int mm, .ref (zk 0), .int 0]))]) [0, 1] rfl
  have hDc := hD.sub (ws' := [(mo, .inr (9, [th, .ref am, md, rf, kn])), (am, .inr (4, [.int mm, .ref (zk 0), .int 0]))]) [0, 1] (by decide) rfl
  have hFc := va_free (wc := [(mo, .inr (9, [th, .ref am, md, rf, kn])), (am, .inr (4, [.int mm, .ref (zk 0), .int 0]))]) hD hS hA [0, 1] rfl
  have hDv := hDc.self (sz := s.heap.size)
  have hpre := zpre (xs' := []) (av := [.ref mo, .int p0]) hPc hK (hDc.weaken (fun _ _ _ h => h)) hZ hS hFc (fun r hr => by cases hr)
  refine va_calli (va_runV (As := [.int p0]) (rest := [.ref mo]) ⟨hx, hb, hml, hown, hts⟩ (k_nRz l dC dI cI cB cR cO zk mo am th md rf kn mm p0 s.heap.size ) (cwV 1 hts gX4_setRows_X4_isNoRow rfl rfl rfl (by decide +kernel) ⟨Nat.le_of_ble_eq_true rfl, Nat.le_of_ble_eq_true rfl⟩) ⟨zblind, (zrecv_9 hK hPc (q0 := 0) rfl), hpre⟩ rfl rfl hl.1 rfl (lv_room (Nat.le_of_ble_eq_true rfl)) dX4_setRows_3 ⟨Nat.le_of_ble_eq_true rfl, Nat.le_of_ble_eq_true rfl⟩) hS (fun q _ h => hFc q h) hFc (fun r2 u t H1 locs ht hvm hw hB hz1 hk1 hS => ?_)
  obtain rfl : 1 = r2 := (show r2 = 1 from hw).symm
  obtain ⟨hP1, hK1, hD1, hz2⟩ := hB
  rw [ht] at hP1 hz2
  have hPD9 := va_join (wr := []) (w1 := [(mo, .inr (9, [th, .ref am, md, rf, kn])), (am, .inr (4, [.int mm, .ref (zk 0), .int 0]))]) hP hD [0, 1] [] rfl rfl (by decide) (by decide) hk1 hFc hP1 hD1
  clear hPc hDc hFc hDv hpre hP hD hP1 hK1 hD1
  obtain ⟨hP, hD⟩ := hPD9
  replace hz : s.heap.size + 0 ≤ H1.size := by omega
  clear hz2
  replace hP : va_P (dC, dI) vwCl [(mo, .inr (9, [th, .ref am, md, rf, kn])), (am, .inr (4, [.int mm, .ref (zk 0), .int 0]))] H1 := hP
  replace hD : va_D A [(mo, .inr (9, [th, .ref am, md, rf, kn])), (am, .inr (4, [.int mm, .ref (zk 0), .int 0]))] := hD
  refine W.widen (k := 0) (n := 0) (by omega) (by omega) ?_
  refine lv_iconst (v := 1) hx hb dX4_setRows_6 (by decide) ?_
  have hPc := hP.sub (ws' := [(mo, .inr (9, [th, .ref am, md, rf, kn]))]) [0] rfl
  have hDc := hD.sub (ws' := [(mo, .inr (9, [th, .ref am, md, rf, kn]))]) [0] (by decide) rfl
  have hFc := va_free (wc := [(mo, .inr (9, [th, .ref am, md, rf, kn]))]) hD hS hA [0] rfl
  have hDv := hDc.self (sz := H1.size)
  have hpre := zpre (xs' := []) (av := [.ref mo, .int 1, .int 1]) hPc hK (hDc.weaken (fun _ _ _ h => h)) hZ hS hFc (fun r hr => by cases hr)
  refine va_calli (va_runV (As := [.int 1, .int 1]) (rest := []) ⟨hx, hb, hml, hown, hts⟩ (k_sttz l dC dI cI cB cR cO zk mo am th md rf kn H1.size ) (cwV 2 hts gX4_setRows_X4_start rfl rfl rfl (by decide +kernel) ⟨Nat.le_of_ble_eq_true rfl, Nat.le_of_ble_eq_true rfl⟩) ⟨zblind, (zrecv_9 hK hPc (q0 := 0) rfl), hpre⟩ rfl rfl hl.1 rfl (lv_room (Nat.le_of_ble_eq_true rfl)) dX4_setRows_7 ⟨Nat.le_of_ble_eq_true rfl, Nat.le_of_ble_eq_true rfl⟩) hS (fun q _ h => hFc q h) hFc (fun r4 u t H3 locs ht hvm hw hB hz1 hk1 hS => ?_)
  obtain rfl : 1 = r4 := (show r4 = 1 from hw).symm
  obtain ⟨hP1, hK1, hD1, hz2⟩ := hB
  rw [ht] at hP1 hz2
  have hPD9 := va_join (wr := [(am, .inr (4, [.int mm, .ref (zk 0), .int 0]))]) (w1 := [(mo, .inr (9, [.int 1, .ref am, md, rf, kn]))]) hP hD [0] [1] rfl rfl (by decide) (by decide) hk1 hFc hP1 hD1
  clear hPc hDc hFc hDv hpre hP hD hP1 hK1 hD1
  obtain ⟨hP, hD⟩ := hPD9
  replace hz : s.heap.size + 0 ≤ H3.size := by omega
  clear hz2
  replace hP : va_P (dC, dI) vwCl [(am, .inr (4, [.int mm, .ref (zk 0), .int 0])), (mo, .inr (9, [.int 1, .ref am, md, rf, kn]))] H3 := hP
  replace hD : va_D A [(am, .inr (4, [.int mm, .ref (zk 0), .int 0])), (mo, .inr (9, [.int 1, .ref am, md, rf, kn]))] := hD
  refine W.widen (k := 0) (n := 0) (by omega) (by omega) ?_
  refine lv_if_ne (tgt := 48) hx hb dX4_setRows_10 (by decide) (fun c9 => ?_) (fun c9 => ?_)
  rotate_left
  · exact absurd c9 (by decide)
  refine lv_iconst (v := 0) hx hb dX4_setRows_48 (by decide) ?_
  have hP9 := hP.sub (ws' := [(mo, .inr (9, [.int 1, .ref am, md, rf, kn])), (am, .inr (4, [.int mm, .ref (zk 0), .int 0]))]) [1, 0] rfl
  have hD9 := hD.sub (ws' := [(mo, .inr (9, [.int 1, .ref am, md, rf, kn])), (am, .inr (4, [.int mm, .ref (zk 0), .int 0]))]) [1, 0] (by decide) rfl
  exact W.iret (v := 0) hx hb hr (fun t ht hW => ⟨⟨_, (), rfl, trivial, ⟨by rw [ht]; exact hP9, va_K.moved hW.alike hK, hD9, by rw [ht]; exact hz⟩⟩, hS.F ht⟩) hS.2.2 dX4_setRows_49

set_option maxHeartbeats 4000000 in
set_option maxRecDepth 100000 in
theorem k_twinM (l : Launch) (dC : Nat → ClassId) (dI : Nat → Nat → Nat) (cI cB cR cO : ClassId) (zk : Nat → Nat) (mo am : Nat) (th md rf kn : Value) (mm : Int32) (p0 : Int32) (sz : Nat)  : Met l yX4_twin wsX4_twin ({ frames := 2, cells := 0, slots := 0, locals := 44 }) (va_Pc [.ref mo, .int p0] (zPre (dC, dI) (zT cI cB cR cO) zk [] [(mo, .inr (9, [th, .ref am, md, rf, kn])), (am, .inr (4, [.int mm, .ref (zk 0), .int 0]))] sz)) (va_Qi (fun r (_ : Unit) => True) (fun _ t => zEnd (dC, dI) (zT cI cB cR cO) (va_A [(mo, .inr (9, [th, .ref am, md, rf, kn])), (am, .inr (4, [.int mm, .ref (zk 0), .int 0]))] sz) [(mo, .inr (9, [.int 1, .ref am, md, rf, kn])), (am, .inr (4, [.int mm, .ref (zk 0), .int 0]))] sz 0 t) (va_A [(mo, .inr (9, [th, .ref am, md, rf, kn])), (am, .inr (4, [.int mm, .ref (zk 0), .int 0]))] sz)) 0 0 (va_A [(mo, .inr (9, [th, .ref am, md, rf, kn])), (am, .inr (4, [.int mm, .ref (zk 0), .int 0]))] sz) := by
  refine Met.ofW (cc := cX4_twin) (maxL := 2) (ret := (some .int)) (by decide) rfl ?_
  intro p e s mY args below meth c s₁ B hml hv
  obtain ⟨rfl, hsz, hP, hK, hD0, hZ⟩ := hv
  have hx := B.exec
  have hb := B.bytes
  have hr := B.returns
  have hts := atoms_spec (ws := wsX4_twin) B.pre
  have hown : s.vm.findClass RX4 = some mY.cls := findClass_of_methodNamed B.named
  have hlocks := B.notSynchronized
  subst hsz
  have hD := hD0.self (sz := s.heap.size)
  generalize hAe : va_A [(mo, .inr (9, [th, .ref am, md, rf, kn])), (am, .inr (4, [.int mm, .ref (zk 0), .int 0]))] s.heap.size = A at hD hZ ⊢
  have hA : ∀ q : Nat, s.heap.size ≤ q → A q := fun q h => by rw [← hAe]; exact Or.inr h
  have hS : va_S A s.heap s.heap [] := va_S.rf
  have hz : s.heap.size + 0 ≤ s.heap.size := Nat.le_refl _
  have hl := lv_entry ([.ref mo, .int p0]) (n := 2) (Nat.le_of_ble_eq_true rfl)
  rw [lg_entry_eq]
  generalize (lg_sl ([.ref mo, .int p0]) ++ List.replicate (2 - (lg_sl ([.ref mo, .int p0])).length) Slot.unset).toArray = ls at hl ⊢
  have hl : lv_has ls 2 [(0, .ref mo), (1, .int p0)] := hl
  have hP : va_P (dC, dI) vwCl [(mo, .inr (9, [th, .ref am, md, rf, kn])), (am, .inr (4, [.int mm, .ref (zk 0), .int 0]))] s.heap := hP
  have hD : va_D A [(mo, .inr (9, [th, .ref am, md, rf, kn])), (am, .inr (4, [.int mm, .ref (zk 0), .int 0]))] := hD
  refine lv_aload_n hx hb dX4_twin_0 rfl (lv_at hl 0 rfl) ?_
  refine lv_aload_n hx hb dX4_twin_1 rfl (lv_at hl 0 rfl) ?_
  refine lv_iload_n hx hb dX4_twin_2 rfl (lv_at hl 1 rfl) ?_
  have hPc := hP.sub (ws' := [(mo, .inr (9, [th, .ref am, md, rf, kn])), (am, .inr (4, [.int mm, .ref (zk 0), .int 0]))]) [0, 1] rfl
  have hDc := hD.sub (ws' := [(mo, .inr (9, [th, .ref am, md, rf, kn])), (am, .inr (4, [.int mm, .ref (zk 0), .int 0]))]) [0, 1] (by decide) rfl
  have hFc := va_free (wc := [(mo, .inr (9, [th, .ref am, md, rf, kn])), (am, .inr (4, [.int mm, .ref (zk 0), .int 0]))]) hD hS hA [0, 1] rfl
  have hDv := hDc.self (sz := s.heap.size)
  have hpre := zpre (xs' := []) (av := [.ref mo, .int p0]) hPc hK (hDc.weaken (fun _ _ _ h => h)) hZ hS hFc (fun r hr => by cases hr)
  refine va_calli (va_runV (As := [.int p0]) (rest := [.ref mo]) ⟨hx, hb, hml, hown, hts⟩ (k_nRz l dC dI cI cB cR cO zk mo am th md rf kn mm p0 s.heap.size ) (cwV 1 hts gX4_twin_X4_isNoRow rfl rfl rfl (by decide +kernel) ⟨Nat.le_of_ble_eq_true rfl, Nat.le_of_ble_eq_true rfl⟩) ⟨zblind, (zrecv_9 hK hPc (q0 := 0) rfl), hpre⟩ rfl rfl hl.1 rfl (lv_room (Nat.le_of_ble_eq_true rfl)) dX4_twin_3 ⟨Nat.le_of_ble_eq_true rfl, Nat.le_of_ble_eq_true rfl⟩) hS (fun q _ h => hFc q h) hFc (fun r2 u t H1 locs ht hvm hw hB hz1 hk1 hS => ?_)
  obtain rfl : 1 = r2 := (show r2 = 1 from hw).symm
  obtain ⟨hP1, hK1, hD1, hz2⟩ := hB
  rw [ht] at hP1 hz2
  have hPD9 := va_join (wr := []) (w1 := [(mo, .inr (9, [th, .ref am, md, rf, kn])), (am, .inr (4, [.int mm, .ref (zk 0), .int 0]))]) hP hD [0, 1] [] rfl rfl (by decide) (by decide) hk1 hFc hP1 hD1
  clear hPc hDc hFc hDv hpre hP hD hP1 hK1 hD1
  obtain ⟨hP, hD⟩ := hPD9
  replace hz : s.heap.size + 0 ≤ H1.size := by omega
  clear hz2
  replace hP : va_P (dC, dI) vwCl [(mo, .inr (9, [th, .ref am, md, rf, kn])), (am, .inr (4, [.int mm, .ref (zk 0), .int 0]))] H1 := hP
  replace hD : va_D A [(mo, .inr (9, [th, .ref am, md, rf, kn])), (am, .inr (4, [.int mm, .ref (zk 0), .int 0]))] := hD
  refine W.widen (k := 0) (n := 0) (by omega) (by omega) ?_
  refine lv_iconst (v := 1) hx hb dX4_twin_6 (by decide) ?_
  have hPc := hP.sub (ws' := [(mo, .inr (9, [th, .ref am, md, rf, kn]))]) [0] rfl
  have hDc := hD.sub (ws' := [(mo, .inr (9, [th, .ref am, md, rf, kn]))]) [0] (by decide) rfl
  have hFc := va_free (wc := [(mo, .inr (9, [th, .ref am, md, rf, kn]))]) hD hS hA [0] rfl
  have hDv := hDc.self (sz := H1.size)
  have hpre := zpre (xs' := []) (av := [.ref mo, .int 1, .int 1]) hPc hK (hDc.weaken (fun _ _ _ h => h)) hZ hS hFc (fun r hr => by cases hr)
  refine va_calli (va_runV (As := [.int 1, .int 1]) (rest := []) ⟨hx, hb, hml, hown, hts⟩ (k_sttz l dC dI cI cB cR cO zk mo am th md rf kn H1.size ) (cwV 2 hts gX4_twin_X4_start rfl rfl rfl (by decide +kernel) ⟨Nat.le_of_ble_eq_true rfl, Nat.le_of_ble_eq_true rfl⟩) ⟨zblind, (zrecv_9 hK hPc (q0 := 0) rfl), hpre⟩ rfl rfl hl.1 rfl (lv_room (Nat.le_of_ble_eq_true rfl)) dX4_twin_7 ⟨Nat.le_of_ble_eq_true rfl, Nat.le_of_ble_eq_true rfl⟩) hS (fun q _ h => hFc q h) hFc (fun r4 u t H3 locs ht hvm hw hB hz1 hk1 hS => ?_)
  obtain rfl : 1 = r4 := (show r4 = 1 from hw).symm
  obtain ⟨hP1, hK1, hD1, hz2⟩ := hB
  rw [ht] at hP1 hz2
  have hPD9 := va_join (wr := [(am, .inr (4, [.int mm, .ref (zk 0), .int 0]))]) (w1 := [(mo, .inr (9, [.int 1, .ref am, md, rf, kn]))]) hP hD [0] [1] rfl rfl (by decide) (by decide) hk1 hFc hP1 hD1
  clear hPc hDc hFc hDv hpre hP hD hP1 hK1 hD1
  obtain ⟨hP, hD⟩ := hPD9
  replace hz : s.heap.size + 0 ≤ H3.size := by omega
  clear hz2
  replace hP : va_P (dC, dI) vwCl [(am, .inr (4, [.int mm, .ref (zk 0), .int 0])), (mo, .inr (9, [.int 1, .ref am, md, rf, kn]))] H3 := hP
  replace hD : va_D A [(am, .inr (4, [.int mm, .ref (zk 0), .int 0])), (mo, .inr (9, [.int 1, .ref am, md, rf, kn]))] := hD
  refine W.widen (k := 0) (n := 0) (by omega) (by omega) ?_
  refine lv_if_ne (tgt := 38) hx hb dX4_twin_10 (by decide) (fun c9 => ?_) (fun c9 => ?_)
  rotate_left
  · exact absurd c9 (by decide)
  refine lv_iconst (v := 0) hx hb dX4_twin_38 (by decide) ?_
  have hP9 := hP.sub (ws' := [(mo, .inr (9, [.int 1, .ref am, md, rf, kn])), (am, .inr (4, [.int mm, .ref (zk 0), .int 0]))]) [1, 0] rfl
  have hD9 := hD.sub (ws' := [(mo, .inr (9, [.int 1, .ref am, md, rf, kn])), (am, .inr (4, [.int mm, .ref (zk 0), .int 0]))]) [1, 0] (by decide) rfl
  exact W.iret (v := 0) hx hb hr (fun t ht hW => ⟨⟨_, (), rfl, trivial, ⟨by rw [ht]; exact hP9, va_K.moved hW.alike hK, hD9, by rw [ht]; exact hz⟩⟩, hS.F ht⟩) hS.2.2 dX4_twin_39

set_option maxHeartbeats 4000000 in
set_option maxRecDepth 100000 in
theorem k_deepTwinM (l : Launch) (dC : Nat → ClassId) (dI : Nat → Nat → Nat) (cI cB cR cO : ClassId) (zk : Nat → Nat) (mo am : Nat) (th md rf kn : Value) (mm : Int32) (p0 : Int32) (sz : Nat)  : Met l yX4_deepTwin wsX4_deepTwin ({ frames := 2, cells := 0, slots := 0, locals := 44 }) (va_Pc [.ref mo, .int p0] (zPre (dC, dI) (zT cI cB cR cO) zk [] [(mo, .inr (9, [th, .ref am, md, rf, kn])), (am, .inr (4, [.int mm, .ref (zk 0), .int 0]))] sz)) (va_Qi (fun r (_ : Unit) => True) (fun _ t => zEnd (dC, dI) (zT cI cB cR cO) (va_A [(mo, .inr (9, [th, .ref am, md, rf, kn])), (am, .inr (4, [.int mm, .ref (zk 0), .int 0]))] sz) [(mo, .inr (9, [.int 1, .ref am, md, rf, kn])), (am, .inr (4, [.int mm, .ref (zk 0), .int 0]))] sz 0 t) (va_A [(mo, .inr (9, [th, .ref am, md, rf, kn])), (am, .inr (4, [.int mm, .ref (zk 0), .int 0]))] sz)) 0 0 (va_A [(mo, .inr (9, [th, .ref am, md, rf, kn])), (am, .inr (4, [.int mm, .ref (zk 0), .int 0]))] sz) := by
  refine Met.ofW (cc := cX4_deepTwin) (maxL := 2) (ret := (some .int)) (by decide) rfl ?_
  intro p e s mY args below meth c s₁ B hml hv
  obtain ⟨rfl, hsz, hP, hK, hD0, hZ⟩ := hv
  have hx := B.exec
  have hb := B.bytes
  have hr := B.returns
  have hts := atoms_spec (ws := wsX4_deepTwin) B.pre
  have hown : s.vm.findClass RX4 = some mY.cls := findClass_of_methodNamed B.named
  have hlocks := B.notSynchronized
  subst hsz
  have hD := hD0.self (sz := s.heap.size)
  generalize hAe : va_A [(mo, .inr (9, [th, .ref am, md, rf, kn])), (am, .inr (4, [.int mm, .ref (zk 0), .int 0]))] s.heap.size = A at hD hZ ⊢
  have hA : ∀ q : Nat, s.heap.size ≤ q → A q := fun q h => by rw [← hAe]; exact Or.inr h
  have hS : va_S A s.heap s.heap [] := va_S.rf
  have hz : s.heap.size + 0 ≤ s.heap.size := Nat.le_refl _
  have hl := lv_entry ([.ref mo, .int p0]) (n := 2) (Nat.le_of_ble_eq_true rfl)
  rw [lg_entry_eq]
  generalize (lg_sl ([.ref mo, .int p0]) ++ List.replicate (2 - (lg_sl ([.ref mo, .int p0])).length) Slot.unset).toArray = ls at hl ⊢
  have hl : lv_has ls 2 [(0, .ref mo), (1, .int p0)] := hl
  have hP : va_P (dC, dI) vwCl [(mo, .inr (9, [th, .ref am, md, rf, kn])), (am, .inr (4, [.int mm, .ref (zk 0), .int 0]))] s.heap := hP
  have hD : va_D A [(mo, .inr (9, [th, .ref am, md, rf, kn])), (am, .inr (4, [.int mm, .ref (zk 0), .int 0]))] := hD
  refine lv_aload_n hx hb dX4_deepTwin_0 rfl (lv_at hl 0 rfl) ?_
  refine lv_aload_n hx hb dX4_deepTwin_1 rfl (lv_at hl 0 rfl) ?_
  refine lv_iload_n hx hb dX4_deepTwin_2 rfl (lv_at hl 1 rfl) ?_
  have hPc := hP.sub (ws' := [(mo, .inr (9, [th, .ref am, md, rf, kn])), (am, .inr (4, [.int mm, .ref (zk 0), .int 0]))]) [0, 1] rfl
  have hDc := hD.sub (ws' := [(mo, .inr (9, [th, .ref am, md, rf, kn])), (am, .inr (4, [.int mm, .ref (zk 0), .int 0]))]) [0, 1] (by decide) rfl
  have hFc := va_free (wc := [(mo, .inr (9, [th, .ref am, md, rf, kn])), (am, .inr (4, [.int mm, .ref (zk 0), .int 0]))]) hD hS hA [0, 1] rfl
  have hDv := hDc.self (sz := s.heap.size)
  have hpre := zpre (xs' := []) (av := [.ref mo, .int p0]) hPc hK (hDc.weaken (fun _ _ _ h => h)) hZ hS hFc (fun r hr => by cases hr)
  refine va_calli (va_runV (As := [.int p0]) (rest := [.ref mo]) ⟨hx, hb, hml, hown, hts⟩ (k_nRz l dC dI cI cB cR cO zk mo am th md rf kn mm p0 s.heap.size ) (cwV 1 hts gX4_deepTwin_X4_isNoRow rfl rfl rfl (by decide +kernel) ⟨Nat.le_of_ble_eq_true rfl, Nat.le_of_ble_eq_true rfl⟩) ⟨zblind, (zrecv_9 hK hPc (q0 := 0) rfl), hpre⟩ rfl rfl hl.1 rfl (lv_room (Nat.le_of_ble_eq_true rfl)) dX4_deepTwin_3 ⟨Nat.le_of_ble_eq_true rfl, Nat.le_of_ble_eq_true rfl⟩) hS (fun q _ h => hFc q h) hFc (fun r2 u t H1 locs ht hvm hw hB hz1 hk1 hS => ?_)
  obtain rfl : 1 = r2 := (show r2 = 1 from hw).symm
  obtain ⟨hP1, hK1, hD1, hz2⟩ := hB
  rw [ht] at hP1 hz2
  have hPD9 := va_join (wr := []) (w1 := [(mo, .inr (9, [th, .ref am, md, rf, kn])), (am, .inr (4, [.int mm, .ref (zk 0), .int 0]))]) hP hD [0, 1] [] rfl rfl (by decide) (by decide) hk1 hFc hP1 hD1
  clear hPc hDc hFc hDv hpre hP hD hP1 hK1 hD1
  obtain ⟨hP, hD⟩ := hPD9
  replace hz : s.heap.size + 0 ≤ H1.size := by omega
  clear hz2
  replace hP : va_P (dC, dI) vwCl [(mo, .inr (9, [th, .ref am, md, rf, kn])), (am, .inr (4, [.int mm, .ref (zk 0), .int 0]))] H1 := hP
  replace hD : va_D A [(mo, .inr (9, [th, .ref am, md, rf, kn])), (am, .inr (4, [.int mm, .ref (zk 0), .int 0]))] := hD
  refine W.widen (k := 0) (n := 0) (by omega) (by omega) ?_
  refine lv_iconst (v := 1) hx hb dX4_deepTwin_6 (by decide) ?_
  have hPc := hP.sub (ws' := [(mo, .inr (9, [th, .ref am, md, rf, kn]))]) [0] rfl
  have hDc := hD.sub (ws' := [(mo, .inr (9, [th, .ref am, md, rf, kn]))]) [0] (by decide) rfl
  have hFc := va_free (wc := [(mo, .inr (9, [th, .ref am, md, rf, kn]))]) hD hS hA [0] rfl
  have hDv := hDc.self (sz := H1.size)
  have hpre := zpre (xs' := []) (av := [.ref mo, .int 1, .int 1]) hPc hK (hDc.weaken (fun _ _ _ h => h)) hZ hS hFc (fun r hr => by cases hr)
  refine va_calli (va_runV (As := [.int 1, .int 1]) (rest := []) ⟨hx, hb, hml, hown, hts⟩ (k_sttz l dC dI cI cB cR cO zk mo am th md rf kn H1.size ) (cwV 2 hts gX4_deepTwin_X4_start rfl rfl rfl (by decide +kernel) ⟨Nat.le_of_ble_eq_true rfl, Nat.le_of_ble_eq_true rfl⟩) ⟨zblind, (zrecv_9 hK hPc (q0 := 0) rfl), hpre⟩ rfl rfl hl.1 rfl (lv_room (Nat.le_of_ble_eq_true rfl)) dX4_deepTwin_7 ⟨Nat.le_of_ble_eq_true rfl, Nat.le_of_ble_eq_true rfl⟩) hS (fun q _ h => hFc q h) hFc (fun r4 u t H3 locs ht hvm hw hB hz1 hk1 hS => ?_)
  obtain rfl : 1 = r4 := (show r4 = 1 from hw).symm
  obtain ⟨hP1, hK1, hD1, hz2⟩ := hB
  rw [ht] at hP1 hz2
  have hPD9 := va_join (wr := [(am, .inr (4, [.int mm, .ref (zk 0), .int 0]))]) (w1 := [(mo, .inr (9, [.int 1, .ref am, md, rf, kn]))]) hP hD [0] [1] rfl rfl (by decide) (by decide) hk1 hFc hP1 hD1
  clear hPc hDc hFc hDv hpre hP hD hP1 hK1 hD1
  obtain ⟨hP, hD⟩ := hPD9
  replace hz : s.heap.size + 0 ≤ H3.size := by omega
  clear hz2
  replace hP : va_P (dC, dI) vwCl [(am, .inr (4, [.int mm, .ref (zk 0), .int 0])), (mo, .inr (9, [.int 1, .ref am, md, rf, kn]))] H3 := hP
  replace hD : va_D A [(am, .inr (4, [.int mm, .ref (zk 0), .int 0])), (mo, .inr (9, [.int 1, .ref am, md, rf, kn]))] := hD
  refine W.widen (k := 0) (n := 0) (by omega) (by omega) ?_
  refine lv_if_ne (tgt := 44) hx hb dX4_deepTwin_10 (by decide) (fun c9 => ?_) (fun c9 => ?_)
  rotate_left
  · exact absurd c9 (by decide)
  refine lv_iconst (v := 0) hx hb dX4_deepTwin_44 (by decide) ?_
  have hP9 := hP.sub (ws' := [(mo, .inr (9, [.int 1, .ref am, md, rf, kn])), (am, .inr (4, [.int mm, .ref (zk 0), .int 0]))]) [1, 0] rfl
  have hD9 := hD.sub (ws' := [(mo, .inr (9, [.int 1, .ref am, md, rf, kn])), (am, .inr (4, [.int mm, .ref (zk 0), .int 0]))]) [1, 0] (by decide) rfl
  exact W.iret (v := 0) hx hb hr (fun t ht hW => ⟨⟨_, (), rfl, trivial, ⟨by rw [ht]; exact hP9, va_K.moved hW.alike hK, hD9, by rw [ht]; exact hz⟩⟩, hS.F ht⟩) hS.2.2 dX4_deepTwin_45

set_option maxHeartbeats 4000000 in
set_option maxRecDepth 100000 in
theorem k_copyM (l : Launch) (dC : Nat → ClassId) (dI : Nat → Nat → Nat) (cI cB cR cO : ClassId) (zk : Nat → Nat) (mo am : Nat) (th md rf kn : Value) (mm : Int32) (p0 p1 : Int32) (sz : Nat)  : Met l yX4_copy wsX4_copy ({ frames := 2, cells := 0, slots := 0, locals := 44 }) (va_Pc [.ref mo, .int p0, .int p1] (zPre (dC, dI) (zT cI cB cR cO) zk [] [(mo, .inr (9, [th, .ref am, md, rf, kn])), (am, .inr (4, [.int mm, .ref (zk 0), .int 0]))] sz)) (va_Qi (fun r (_ : Unit) => True) (fun _ t => zEnd (dC, dI) (zT cI cB cR cO) (va_A [(mo, .inr (9, [th, .ref am, md, rf, kn])), (am, .inr (4, [.int mm, .ref (zk 0), .int 0]))] sz) [(mo, .inr (9, [.int 1, .ref am, md, rf, kn])), (am, .inr (4, [.int mm, .ref (zk 0), .int 0]))] sz 0 t) (va_A [(mo, .inr (9, [th, .ref am, md, rf, kn])), (am, .inr (4, [.int mm, .ref (zk 0), .int 0]))] sz)) 0 0 (va_A [(mo, .inr (9, [th, .ref am, md, rf, kn])), (am, .inr (4, [.int mm, .ref (zk 0), .int 0]))] sz) := by
  refine Met.ofW (cc := cX4_copy) (maxL := 3) (ret := (some .int)) (by decide) rfl ?_
  intro p e s mY args below meth c s₁ B hml hv
  obtain ⟨rfl, hsz, hP, hK, hD0, hZ⟩ := hv
  have hx := B.exec
  have hb := B.bytes
  have hr := B.returns
  have hts := atoms_spec (ws := wsX4_copy) B.pre
  have hown : s.vm.findClass RX4 = some mY.cls := findClass_of_methodNamed B.named
  have hlocks := B.notSynchronized
  subst hsz
  have hD := hD0.self (sz := s.heap.size)
  generalize hAe : va_A [(mo, .inr (9, [th, .ref am, md, rf, kn])), (am, .inr (4, [.int mm, .ref (zk 0), .int 0]))] s.heap.size = A at hD hZ ⊢
  have hA : ∀ q : Nat, s.heap.size ≤ q → A q := fun q h => by rw [← hAe]; exact Or.inr h
  have hS : va_S A s.heap s.heap [] := va_S.rf
  have hz : s.heap.size + 0 ≤ s.heap.size := Nat.le_refl _
  have hl := lv_entry ([.ref mo, .int p0, .int p1]) (n := 3) (Nat.le_of_ble_eq_true rfl)
  rw [lg_entry_eq]
  generalize (lg_sl ([.ref mo, .int p0, .int p1]) ++ List.replicate (3 - (lg_sl ([.ref mo, .int p0, .int p1])).length) Slot.unset).toArray = ls at hl ⊢
  have hl : lv_has ls 3 [(0, .ref mo), (1, .int p0), (2, .int p1)] := hl
  have hP : va_P (dC, dI) vwCl [(mo, .inr (9, [th, .ref am, md, rf, kn])), (am, .inr (4, [.int mm, .ref (zk 0), .int 0]))] s.heap := hP
  have hD : va_D A [(mo, .inr (9, [th, .ref am, md, rf, kn])), (am, .inr (4, [.int mm, .ref (zk 0), .int 0]))] := hD
  refine lv_aload_n hx hb dX4_copy_0 rfl (lv_at hl 0 rfl) ?_
  refine lv_aload_n hx hb dX4_copy_1 rfl (lv_at hl 0 rfl) ?_
  refine lv_iload_n hx hb dX4_copy_2 rfl (lv_at hl 1 rfl) ?_
  have hPc := hP.sub (ws' := [(mo, .inr (9, [th, .ref am, md, rf, kn])), (am, .inr (4, [.int mm, .ref (zk 0), .int 0]))]) [0, 1] rfl
  have hDc := hD.sub (ws' := [(mo, .inr (9, [th, .ref am, md, rf, kn])), (am, .inr (4, [.int mm, .ref (zk 0), .int 0]))]) [0, 1] (by decide) rfl
  have hFc := va_free (wc := [(mo, .inr (9, [th, .ref am, md, rf, kn])), (am, .inr (4, [.int mm, .ref (zk 0), .int 0]))]) hD hS hA [0, 1] rfl
  have hDv := hDc.self (sz := s.heap.size)
  have hpre := zpre (xs' := []) (av := [.ref mo, .int p0]) hPc hK (hDc.weaken (fun _ _ _ h => h)) hZ hS hFc (fun r hr => by cases hr)
  refine va_calli (va_runV (As := [.int p0]) (rest := [.ref mo]) ⟨hx, hb, hml, hown, hts⟩ (k_nRz l dC dI cI cB cR cO zk mo am th md rf kn mm p0 s.heap.size ) (cwV 1 hts gX4_copy_X4_isNoRow rfl rfl rfl (by decide +kernel) ⟨Nat.le_of_ble_eq_true rfl, Nat.le_of_ble_eq_true rfl⟩) ⟨zblind, (zrecv_9 hK hPc (q0 := 0) rfl), hpre⟩ rfl rfl hl.1 rfl (lv_room (Nat.le_of_ble_eq_true rfl)) dX4_copy_3 ⟨Nat.le_of_ble_eq_true rfl, Nat.le_of_ble_eq_true rfl⟩) hS (fun q _ h => hFc q h) hFc (fun r2 u t H1 locs ht hvm hw hB hz1 hk1 hS => ?_)
  obtain rfl : 1 = r2 := (show r2 = 1 from hw).symm
  obtain ⟨hP1, hK1, hD1, hz2⟩ := hB
  rw [ht] at hP1 hz2
  have hPD9 := va_join (wr := []) (w1 := [(mo, .inr (9, [th, .ref am, md, rf, kn])), (am, .inr (4, [.int mm, .ref (zk 0), .int 0]))]) hP hD [0, 1] [] rfl rfl (by decide) (by decide) hk1 hFc hP1 hD1
  clear hPc hDc hFc hDv hpre hP hD hP1 hK1 hD1
  obtain ⟨hP, hD⟩ := hPD9
  replace hz : s.heap.size + 0 ≤ H1.size := by omega
  clear hz2
  replace hP : va_P (dC, dI) vwCl [(mo, .inr (9, [th, .ref am, md, rf, kn])), (am, .inr (4, [.int mm, .ref (zk 0), .int 0]))] H1 := hP
  replace hD : va_D A [(mo, .inr (9, [th, .ref am, md, rf, kn])), (am, .inr (4, [.int mm, .ref (zk 0), .int 0]))] := hD
  refine W.widen (k := 0) (n := 0) (by omega) (by omega) ?_
  refine lv_iconst (v := 1) hx hb dX4_copy_6 (by decide) ?_
  have hPc := hP.sub (ws' := [(mo, .inr (9, [th, .ref am, md, rf, kn]))]) [0] rfl
  have hDc := hD.sub (ws' := [(mo, .inr (9, [th, .ref am, md, rf, kn]))]) [0] (by decide) rfl
  have hFc := va_free (wc := [(mo, .inr (9, [th, .ref am, md, rf, kn]))]) hD hS hA [0] rfl
  have hDv := hDc.self (sz := H1.size)
  have hpre := zpre (xs' := []) (av := [.ref mo, .int 1, .int 1]) hPc hK (hDc.weaken (fun _ _ _ h => h)) hZ hS hFc (fun r hr => by cases hr)
  refine va_calli (va_runV (As := [.int 1, .int 1]) (rest := []) ⟨hx, hb, hml, hown, hts⟩ (k_sttz l dC dI cI cB cR cO zk mo am th md rf kn H1.size ) (cwV 2 hts gX4_copy_X4_start rfl rfl rfl (by decide +kernel) ⟨Nat.le_of_ble_eq_true rfl, Nat.le_of_ble_eq_true rfl⟩) ⟨zblind, (zrecv_9 hK hPc (q0 := 0) rfl), hpre⟩ rfl rfl hl.1 rfl (lv_room (Nat.le_of_ble_eq_true rfl)) dX4_copy_7 ⟨Nat.le_of_ble_eq_true rfl, Nat.le_of_ble_eq_true rfl⟩) hS (fun q _ h => hFc q h) hFc (fun r4 u t H3 locs ht hvm hw hB hz1 hk1 hS => ?_)
  obtain rfl : 1 = r4 := (show r4 = 1 from hw).symm
  obtain ⟨hP1, hK1, hD1, hz2⟩ := hB
  rw [ht] at hP1 hz2
  have hPD9 := va_join (wr := [(am, .inr (4, [.int mm, .ref (zk 0), .int 0]))]) (w1 := [(mo, .inr (9, [.int 1, .ref am, md, rf, kn]))]) hP hD [0] [1] rfl rfl (by decide) (by decide) hk1 hFc hP1 hD1
  clear hPc hDc hFc hDv hpre hP hD hP1 hK1 hD1
  obtain ⟨hP, hD⟩ := hPD9
  replace hz : s.heap.size + 0 ≤ H3.size := by omega
  clear hz2
  replace hP : va_P (dC, dI) vwCl [(am, .inr (4, [.int mm, .ref (zk 0), .int 0])), (mo, .inr (9, [.int 1, .ref am, md, rf, kn]))] H3 := hP
  replace hD : va_D A [(am, .inr (4, [.int mm, .ref (zk 0), .int 0])), (mo, .inr (9, [.int 1, .ref am, md, rf, kn]))] := hD
  refine W.widen (k := 0) (n := 0) (by omega) (by omega) ?_
  refine lv_if_ne (tgt := 78) hx hb dX4_copy_10 (by decide) (fun c9 => ?_) (fun c9 => ?_)
  rotate_left
  · exact absurd c9 (by decide)
  refine lv_iconst (v := 0) hx hb dX4_copy_78 (by decide) ?_
  have hP9 := hP.sub (ws' := [(mo, .inr (9, [.int 1, .ref am, md, rf, kn])), (am, .inr (4, [.int mm, .ref (zk 0), .int 0]))]) [1, 0] rfl
  have hD9 := hD.sub (ws' := [(mo, .inr (9, [.int 1, .ref am, md, rf, kn])), (am, .inr (4, [.int mm, .ref (zk 0), .int 0]))]) [1, 0] (by decide) rfl
  exact W.iret (v := 0) hx hb hr (fun t ht hW => ⟨⟨_, (), rfl, trivial, ⟨by rw [ht]; exact hP9, va_K.moved hW.alike hK, hD9, by rw [ht]; exact hz⟩⟩, hS.F ht⟩) hS.2.2 dX4_copy_79

set_option maxHeartbeats 4000000 in
set_option maxRecDepth 100000 in
theorem k_kindM (l : Launch) (dC : Nat → ClassId) (dI : Nat → Nat → Nat) (cI cB cR cO : ClassId) (zk : Nat → Nat) (mo am : Nat) (th md rf kn : Value) (mm : Int32) (p0 : Int32) (sz : Nat)  : Met l yX4_kind wsX4_kind ({ frames := 2, cells := 0, slots := 0, locals := 44 }) (va_Pc [.ref mo, .int p0] (zPre (dC, dI) (zT cI cB cR cO) zk [] [(mo, .inr (9, [th, .ref am, md, rf, kn])), (am, .inr (4, [.int mm, .ref (zk 0), .int 0]))] sz)) (va_Qi (fun r (_ : Unit) => True) (fun _ t => zEnd (dC, dI) (zT cI cB cR cO) (va_A [(mo, .inr (9, [th, .ref am, md, rf, kn])), (am, .inr (4, [.int mm, .ref (zk 0), .int 0]))] sz) [(mo, .inr (9, [.int 1, .ref am, md, rf, kn])), (am, .inr (4, [.int mm, .ref (zk 0), .int 0]))] sz 0 t) (va_A [(mo, .inr (9, [th, .ref am, md, rf, kn])), (am, .inr (4, [.int mm, .ref (zk 0), .int 0]))] sz)) 0 0 (va_A [(mo, .inr (9, [th, .ref am, md, rf, kn])), (am, .inr (4, [.int mm, .ref (zk 0), .int 0]))] sz) := by
  refine Met.ofW (cc := cX4_kind) (maxL := 2) (ret := (some .int)) (by decide) rfl ?_
  intro p e s mY args below meth c s₁ B hml hv
  obtain ⟨rfl, hsz, hP, hK, hD0, hZ⟩ := hv
  have hx := B.exec
  have hb := B.bytes
  have hr := B.returns
  have hts := atoms_spec (ws := wsX4_kind) B.pre
  have hown : s.vm.findClass RX4 = some mY.cls := findClass_of_methodNamed B.named
  have hlocks := B.notSynchronized
  subst hsz
  have hD := hD0.self (sz := s.heap.size)
  generalize hAe : va_A [(mo, .inr (9, [th, .ref am, md, rf, kn])), (am, .inr (4, [.int mm, .ref (zk 0), .int 0]))] s.heap.size = A at hD hZ ⊢
  have hA : ∀ q : Nat, s.heap.size ≤ q → A q := fun q h => by rw [← hAe]; exact Or.inr h
  have hS : va_S A s.heap s.heap [] := va_S.rf
  have hz : s.heap.size + 0 ≤ s.heap.size := Nat.le_refl _
  have hl := lv_entry ([.ref mo, .int p0]) (n := 2) (Nat.le_of_ble_eq_true rfl)
  rw [lg_entry_eq]
  generalize (lg_sl ([.ref mo, .int p0]) ++ List.replicate (2 - (lg_sl ([.ref mo, .int p0])).length) Slot.unset).toArray = ls at hl ⊢
  have hl : lv_has ls 2 [(0, .ref mo), (1, .int p0)] := hl
  have hP : va_P (dC, dI) vwCl [(mo, .inr (9, [th, .ref am, md, rf, kn])), (am, .inr (4, [.int mm, .ref (zk 0), .int 0]))] s.heap := hP
  have hD : va_D A [(mo, .inr (9, [th, .ref am, md, rf, kn])), (am, .inr (4, [.int mm, .ref (zk 0), .int 0]))] := hD
  refine lv_aload_n hx hb dX4_kind_0 rfl (lv_at hl 0 rfl) ?_
  refine lv_aload_n hx hb dX4_kind_1 rfl (lv_at hl 0 rfl) ?_
  refine lv_iload_n hx hb dX4_kind_2 rfl (lv_at hl 1 rfl) ?_
  have hPc := hP.sub (ws' := [(mo, .inr (9, [th, .ref am, md, rf, kn])), (am, .inr (4, [.int mm, .ref (zk 0), .int 0]))]) [0, 1] rfl
  have hDc := hD.sub (ws' := [(mo, .inr (9, [th, .ref am, md, rf, kn])), (am, .inr (4, [.int mm, .ref (zk 0), .int 0]))]) [0, 1] (by decide) rfl
  have hFc := va_free (wc := [(mo, .inr (9, [th, .ref am, md, rf, kn])), (am, .inr (4, [.int mm, .ref (zk 0), .int 0]))]) hD hS hA [0, 1] rfl
  have hDv := hDc.self (sz := s.heap.size)
  have hpre := zpre (xs' := []) (av := [.ref mo, .int p0]) hPc hK (hDc.weaken (fun _ _ _ h => h)) hZ hS hFc (fun r hr => by cases hr)
  refine va_calli (va_runV (As := [.int p0]) (rest := [.ref mo]) ⟨hx, hb, hml, hown, hts⟩ (k_nRz l dC dI cI cB cR cO zk mo am th md rf kn mm p0 s.heap.size ) (cwV 1 hts gX4_kind_X4_isNoRow rfl rfl rfl (by decide +kernel) ⟨Nat.le_of_ble_eq_true rfl, Nat.le_of_ble_eq_true rfl⟩) ⟨zblind, (zrecv_9 hK hPc (q0 := 0) rfl), hpre⟩ rfl rfl hl.1 rfl (lv_room (Nat.le_of_ble_eq_true rfl)) dX4_kind_3 ⟨Nat.le_of_ble_eq_true rfl, Nat.le_of_ble_eq_true rfl⟩) hS (fun q _ h => hFc q h) hFc (fun r2 u t H1 locs ht hvm hw hB hz1 hk1 hS => ?_)
  obtain rfl : 1 = r2 := (show r2 = 1 from hw).symm
  obtain ⟨hP1, hK1, hD1, hz2⟩ := hB
  rw [ht] at hP1 hz2
  have hPD9 := va_join (wr := []) (w1 := [(mo, .inr (9, [th, .ref am, md, rf, kn])), (am, .inr (4, [.int mm, .ref (zk 0), .int 0]))]) hP hD [0, 1] [] rfl rfl (by decide) (by decide) hk1 hFc hP1 hD1
  clear hPc hDc hFc hDv hpre hP hD hP1 hK1 hD1
  obtain ⟨hP, hD⟩ := hPD9
  replace hz : s.heap.size + 0 ≤ H1.size := by omega
  clear hz2
  replace hP : va_P (dC, dI) vwCl [(mo, .inr (9, [th, .ref am, md, rf, kn])), (am, .inr (4, [.int mm, .ref (zk 0), .int 0]))] H1 := hP
  replace hD : va_D A [(mo, .inr (9, [th, .ref am, md, rf, kn])), (am, .inr (4, [.int mm, .ref (zk 0), .int 0]))] := hD
  refine W.widen (k := 0) (n := 0) (by omega) (by omega) ?_
  refine lv_iconst (v := 1) hx hb dX4_kind_6 (by decide) ?_
  have hPc := hP.sub (ws' := [(mo, .inr (9, [th, .ref am, md, rf, kn]))]) [0] rfl
  have hDc := hD.sub (ws' := [(mo, .inr (9, [th, .ref am, md, rf, kn]))]) [0] (by decide) rfl
  have hFc := va_free (wc := [(mo, .inr (9, [th, .ref am, md, rf, kn]))]) hD hS hA [0] rfl
  have hDv := hDc.self (sz := H1.size)
  have hpre := zpre (xs' := []) (av := [.ref mo, .int 1, .int 1]) hPc hK (hDc.weaken (fun _ _ _ h => h)) hZ hS hFc (fun r hr => by cases hr)
  refine va_calli (va_runV (As := [.int 1, .int 1]) (rest := []) ⟨hx, hb, hml, hown, hts⟩ (k_sttz l dC dI cI cB cR cO zk mo am th md rf kn H1.size ) (cwV 2 hts gX4_kind_X4_start rfl rfl rfl (by decide +kernel) ⟨Nat.le_of_ble_eq_true rfl, Nat.le_of_ble_eq_true rfl⟩) ⟨zblind, (zrecv_9 hK hPc (q0 := 0) rfl), hpre⟩ rfl rfl hl.1 rfl (lv_room (Nat.le_of_ble_eq_true rfl)) dX4_kind_7 ⟨Nat.le_of_ble_eq_true rfl, Nat.le_of_ble_eq_true rfl⟩) hS (fun q _ h => hFc q h) hFc (fun r4 u t H3 locs ht hvm hw hB hz1 hk1 hS => ?_)
  obtain rfl : 1 = r4 := (show r4 = 1 from hw).symm
  obtain ⟨hP1, hK1, hD1, hz2⟩ := hB
  rw [ht] at hP1 hz2
  have hPD9 := va_join (wr := [(am, .inr (4, [.int mm, .ref (zk 0), .int 0]))]) (w1 := [(mo, .inr (9, [.int 1, .ref am, md, rf, kn]))]) hP hD [0] [1] rfl rfl (by decide) (by decide) hk1 hFc hP1 hD1
  clear hPc hDc hFc hDv hpre hP hD hP1 hK1 hD1
  obtain ⟨hP, hD⟩ := hPD9
  replace hz : s.heap.size + 0 ≤ H3.size := by omega
  clear hz2
  replace hP : va_P (dC, dI) vwCl [(am, .inr (4, [.int mm, .ref (zk 0), .int 0])), (mo, .inr (9, [.int 1, .ref am, md, rf, kn]))] H3 := hP
  replace hD : va_D A [(am, .inr (4, [.int mm, .ref (zk 0), .int 0])), (mo, .inr (9, [.int 1, .ref am, md, rf, kn]))] := hD
  refine W.widen (k := 0) (n := 0) (by omega) (by omega) ?_
  refine lv_if_eq (tgt := 17) hx hb dX4_kind_10 (by decide) (fun c9 => ?_) (fun c9 => ?_)
  · exact absurd c9 (by decide)
  refine lv_iconst (v := 0) hx hb dX4_kind_13 (by decide) ?_
  refine lv_goto (tgt := 31) hx hb dX4_kind_14 (by decide) ?_
  have hP9 := hP.sub (ws' := [(mo, .inr (9, [.int 1, .ref am, md, rf, kn])), (am, .inr (4, [.int mm, .ref (zk 0), .int 0]))]) [1, 0] rfl
  have hD9 := hD.sub (ws' := [(mo, .inr (9, [.int 1, .ref am, md, rf, kn])), (am, .inr (4, [.int mm, .ref (zk 0), .int 0]))]) [1, 0] (by decide) rfl
  exact W.iret (v := 0) hx hb hr (fun t ht hW => ⟨⟨_, (), rfl, trivial, ⟨by rw [ht]; exact hP9, va_K.moved hW.alike hK, hD9, by rw [ht]; exact hz⟩⟩, hS.F ht⟩) hS.2.2 dX4_kind_31

set_option maxHeartbeats 4000000 in
set_option maxRecDepth 100000 in
theorem k_lengthM (l : Launch) (dC : Nat → ClassId) (dI : Nat → Nat → Nat) (cI cB cR cO : ClassId) (zk : Nat → Nat) (mo am : Nat) (th md rf kn : Value) (mm : Int32) (p0 : Int32) (sz : Nat)  : Met l yX4_length wsX4_length ({ frames := 2, cells := 0, slots := 0, locals := 44 }) (va_Pc [.ref mo, .int p0] (zPre (dC, dI) (zT cI cB cR cO) zk [] [(mo, .inr (9, [th, .ref am, md, rf, kn])), (am, .inr (4, [.int mm, .ref (zk 0), .int 0]))] sz)) (va_Qi (fun r (_ : Unit) => True) (fun _ t => zEnd (dC, dI) (zT cI cB cR cO) (va_A [(mo, .inr (9, [th, .ref am, md, rf, kn])), (am, .inr (4, [.int mm, .ref (zk 0), .int 0]))] sz) [(mo, .inr (9, [.int 1, .ref am, md, rf, kn])), (am, .inr (4, [.int mm, .ref (zk 0), .int 0]))] sz 0 t) (va_A [(mo, .inr (9, [th, .ref am, md, rf, kn])), (am, .inr (4, [.int mm, .ref (zk 0), .int 0]))] sz)) 0 0 (va_A [(mo, .inr (9, [th, .ref am, md, rf, kn])), (am, .inr (4, [.int mm, .ref (zk 0), .int 0]))] sz) := by
  refine Met.ofW (cc := cX4_length) (maxL := 2) (ret := (some .int)) (by decide) rfl ?_
  intro p e s mY args below meth c s₁ B hml hv
  obtain ⟨rfl, hsz, hP, hK, hD0, hZ⟩ := hv
  have hx := B.exec
  have hb := B.bytes
  have hr := B.returns
  have hts := atoms_spec (ws := wsX4_length) B.pre
  have hown : s.vm.findClass RX4 = some mY.cls := findClass_of_methodNamed B.named
  have hlocks := B.notSynchronized
  subst hsz
  have hD := hD0.self (sz := s.heap.size)
  generalize hAe : va_A [(mo, .inr (9, [th, .ref am, md, rf, kn])), (am, .inr (4, [.int mm, .ref (zk 0), .int 0]))] s.heap.size = A at hD hZ ⊢
  have hA : ∀ q : Nat, s.heap.size ≤ q → A q := fun q h => by rw [← hAe]; exact Or.inr h
  have hS : va_S A s.heap s.heap [] := va_S.rf
  have hz : s.heap.size + 0 ≤ s.heap.size := Nat.le_refl _
  have hl := lv_entry ([.ref mo, .int p0]) (n := 2) (Nat.le_of_ble_eq_true rfl)
  rw [lg_entry_eq]
  generalize (lg_sl ([.ref mo, .int p0]) ++ List.replicate (2 - (lg_sl ([.ref mo, .int p0])).length) Slot.unset).toArray = ls at hl ⊢
  have hl : lv_has ls 2 [(0, .ref mo), (1, .int p0)] := hl
  have hP : va_P (dC, dI) vwCl [(mo, .inr (9, [th, .ref am, md, rf, kn])), (am, .inr (4, [.int mm, .ref (zk 0), .int 0]))] s.heap := hP
  have hD : va_D A [(mo, .inr (9, [th, .ref am, md, rf, kn])), (am, .inr (4, [.int mm, .ref (zk 0), .int 0]))] := hD
  refine lv_aload_n hx hb dX4_length_0 rfl (lv_at hl 0 rfl) ?_
  refine lv_aload_n hx hb dX4_length_1 rfl (lv_at hl 0 rfl) ?_
  refine lv_iload_n hx hb dX4_length_2 rfl (lv_at hl 1 rfl) ?_
  have hPc := hP.sub (ws' := [(mo, .inr (9, [th, .ref am, md, rf, kn])), (am, .inr (4, [.int mm, .ref (zk 0), .int 0]))]) [0, 1] rfl
  have hDc := hD.sub (ws' := [(mo, .inr (9, [th, .ref am, md, rf, kn])), (am, .inr (4, [.int mm, .ref (zk 0), .int 0]))]) [0, 1] (by decide) rfl
  have hFc := va_free (wc := [(mo, .inr (9, [th, .ref am, md, rf, kn])), (am, .inr (4, [.int mm, .ref (zk 0), .int 0]))]) hD hS hA [0, 1] rfl
  have hDv := hDc.self (sz := s.heap.size)
  have hpre := zpre (xs' := []) (av := [.ref mo, .int p0]) hPc hK (hDc.weaken (fun _ _ _ h => h)) hZ hS hFc (fun r hr => by cases hr)
  refine va_calli (va_runV (As := [.int p0]) (rest := [.ref mo]) ⟨hx, hb, hml, hown, hts⟩ (k_nRz l dC dI cI cB cR cO zk mo am th md rf kn mm p0 s.heap.size ) (cwV 1 hts gX4_length_X4_isNoRow rfl rfl rfl (by decide +kernel) ⟨Nat.le_of_ble_eq_true rfl, Nat.le_of_ble_eq_true rfl⟩) ⟨zblind, (zrecv_9 hK hPc (q0 := 0) rfl), hpre⟩ rfl rfl hl.1 rfl (lv_room (Nat.le_of_ble_eq_true rfl)) dX4_length_3 ⟨Nat.le_of_ble_eq_true rfl, Nat.le_of_ble_eq_true rfl⟩) hS (fun q _ h => hFc q h) hFc (fun r2 u t H1 locs ht hvm hw hB hz1 hk1 hS => ?_)
  obtain rfl : 1 = r2 := (show r2 = 1 from hw).symm
  obtain ⟨hP1, hK1, hD1, hz2⟩ := hB
  rw [ht] at hP1 hz2
  have hPD9 := va_join (wr := []) (w1 := [(mo, .inr (9, [th, .ref am, md, rf, kn])), (am, .inr (4, [.int mm, .ref (zk 0), .int 0]))]) hP hD [0, 1] [] rfl rfl (by decide) (by decide) hk1 hFc hP1 hD1
  clear hPc hDc hFc hDv hpre hP hD hP1 hK1 hD1
  obtain ⟨hP, hD⟩ := hPD9
  replace hz : s.heap.size + 0 ≤ H1.size := by omega
  clear hz2
  replace hP : va_P (dC, dI) vwCl [(mo, .inr (9, [th, .ref am, md, rf, kn])), (am, .inr (4, [.int mm, .ref (zk 0), .int 0]))] H1 := hP
  replace hD : va_D A [(mo, .inr (9, [th, .ref am, md, rf, kn])), (am, .inr (4, [.int mm, .ref (zk 0), .int 0]))] := hD
  refine W.widen (k := 0) (n := 0) (by omega) (by omega) ?_
  refine lv_iconst (v := 1) hx hb dX4_length_6 (by decide) ?_
  have hPc := hP.sub (ws' := [(mo, .inr (9, [th, .ref am, md, rf, kn]))]) [0] rfl
  have hDc := hD.sub (ws' := [(mo, .inr (9, [th, .ref am, md, rf, kn]))]) [0] (by decide) rfl
  have hFc := va_free (wc := [(mo, .inr (9, [th, .ref am, md, rf, kn]))]) hD hS hA [0] rfl
  have hDv := hDc.self (sz := H1.size)
  have hpre := zpre (xs' := []) (av := [.ref mo, .int 1, .int 1]) hPc hK (hDc.weaken (fun _ _ _ h => h)) hZ hS hFc (fun r hr => by cases hr)
  refine va_calli (va_runV (As := [.int 1, .int 1]) (rest := []) ⟨hx, hb, hml, hown, hts⟩ (k_sttz l dC dI cI cB cR cO zk mo am th md rf kn H1.size ) (cwV 2 hts gX4_length_X4_start rfl rfl rfl (by decide +kernel) ⟨Nat.le_of_ble_eq_true rfl, Nat.le_of_ble_eq_true rfl⟩) ⟨zblind, (zrecv_9 hK hPc (q0 := 0) rfl), hpre⟩ rfl rfl hl.1 rfl (lv_room (Nat.le_of_ble_eq_true rfl)) dX4_length_7 ⟨Nat.le_of_ble_eq_true rfl, Nat.le_of_ble_eq_true rfl⟩) hS (fun q _ h => hFc q h) hFc (fun r4 u t H3 locs ht hvm hw hB hz1 hk1 hS => ?_)
  obtain rfl : 1 = r4 := (show r4 = 1 from hw).symm
  obtain ⟨hP1, hK1, hD1, hz2⟩ := hB
  rw [ht] at hP1 hz2
  have hPD9 := va_join (wr := [(am, .inr (4, [.int mm, .ref (zk 0), .int 0]))]) (w1 := [(mo, .inr (9, [.int 1, .ref am, md, rf, kn]))]) hP hD [0] [1] rfl rfl (by decide) (by decide) hk1 hFc hP1 hD1
  clear hPc hDc hFc hDv hpre hP hD hP1 hK1 hD1
  obtain ⟨hP, hD⟩ := hPD9
  replace hz : s.heap.size + 0 ≤ H3.size := by omega
  clear hz2
  replace hP : va_P (dC, dI) vwCl [(am, .inr (4, [.int mm, .ref (zk 0), .int 0])), (mo, .inr (9, [.int 1, .ref am, md, rf, kn]))] H3 := hP
  replace hD : va_D A [(am, .inr (4, [.int mm, .ref (zk 0), .int 0])), (mo, .inr (9, [.int 1, .ref am, md, rf, kn]))] := hD
  refine W.widen (k := 0) (n := 0) (by omega) (by omega) ?_
  refine lv_if_eq (tgt := 17) hx hb dX4_length_10 (by decide) (fun c9 => ?_) (fun c9 => ?_)
  · exact absurd c9 (by decide)
  refine lv_iconst (v := 0) hx hb dX4_length_13 (by decide) ?_
  refine lv_goto (tgt := 31) hx hb dX4_length_14 (by decide) ?_
  have hP9 := hP.sub (ws' := [(mo, .inr (9, [.int 1, .ref am, md, rf, kn])), (am, .inr (4, [.int mm, .ref (zk 0), .int 0]))]) [1, 0] rfl
  have hD9 := hD.sub (ws' := [(mo, .inr (9, [.int 1, .ref am, md, rf, kn])), (am, .inr (4, [.int mm, .ref (zk 0), .int 0]))]) [1, 0] (by decide) rfl
  exact W.iret (v := 0) hx hb hr (fun t ht hW => ⟨⟨_, (), rfl, trivial, ⟨by rw [ht]; exact hP9, va_K.moved hW.alike hK, hD9, by rw [ht]; exact hz⟩⟩, hS.F ht⟩) hS.2.2 dX4_length_31

set_option maxHeartbeats 4000000 in
set_option maxRecDepth 100000 in
theorem k_depthM (l : Launch) (dC : Nat → ClassId) (dI : Nat → Nat → Nat) (cI cB cR cO : ClassId) (zk : Nat → Nat) (mo am : Nat) (th md rf kn : Value) (mm : Int32) (p0 : Int32) (sz : Nat)  : Met l yX4_depth wsX4_depth ({ frames := 2, cells := 0, slots := 0, locals := 44 }) (va_Pc [.ref mo, .int p0] (zPre (dC, dI) (zT cI cB cR cO) zk [] [(mo, .inr (9, [th, .ref am, md, rf, kn])), (am, .inr (4, [.int mm, .ref (zk 0), .int 0]))] sz)) (va_Qi (fun r (_ : Unit) => True) (fun _ t => zEnd (dC, dI) (zT cI cB cR cO) (va_A [(mo, .inr (9, [th, .ref am, md, rf, kn])), (am, .inr (4, [.int mm, .ref (zk 0), .int 0]))] sz) [(mo, .inr (9, [.int 1, .ref am, md, rf, kn])), (am, .inr (4, [.int mm, .ref (zk 0), .int 0]))] sz 0 t) (va_A [(mo, .inr (9, [th, .ref am, md, rf, kn])), (am, .inr (4, [.int mm, .ref (zk 0), .int 0]))] sz)) 0 0 (va_A [(mo, .inr (9, [th, .ref am, md, rf, kn])), (am, .inr (4, [.int mm, .ref (zk 0), .int 0]))] sz) := by
  refine Met.ofW (cc := cX4_depth) (maxL := 2) (ret := (some .int)) (by decide) rfl ?_
  intro p e s mY args below meth c s₁ B hml hv
  obtain ⟨rfl, hsz, hP, hK, hD0, hZ⟩ := hv
  have hx := B.exec
  have hb := B.bytes
  have hr := B.returns
  have hts := atoms_spec (ws := wsX4_depth) B.pre
  have hown : s.vm.findClass RX4 = some mY.cls := findClass_of_methodNamed B.named
  have hlocks := B.notSynchronized
  subst hsz
  have hD := hD0.self (sz := s.heap.size)
  generalize hAe : va_A [(mo, .inr (9, [th, .ref am, md, rf, kn])), (am, .inr (4, [.int mm, .ref (zk 0), .int 0]))] s.heap.size = A at hD hZ ⊢
  have hA : ∀ q : Nat, s.heap.size ≤ q → A q := fun q h => by rw [← hAe]; exact Or.inr h
  have hS : va_S A s.heap s.heap [] := va_S.rf
  have hz : s.heap.size + 0 ≤ s.heap.size := Nat.le_refl _
  have hl := lv_entry ([.ref mo, .int p0]) (n := 2) (Nat.le_of_ble_eq_true rfl)
  rw [lg_entry_eq]
  generalize (lg_sl ([.ref mo, .int p0]) ++ List.replicate (2 - (lg_sl ([.ref mo, .int p0])).length) Slot.unset).toArray = ls at hl ⊢
  have hl : lv_has ls 2 [(0, .ref mo), (1, .int p0)] := hl
  have hP : va_P (dC, dI) vwCl [(mo, .inr (9, [th, .ref am, md, rf, kn])), (am, .inr (4, [.int mm, .ref (zk 0), .int 0]))] s.heap := hP
  have hD : va_D A [(mo, .inr (9, [th, .ref am, md, rf, kn])), (am, .inr (4, [.int mm, .ref (zk 0), .int 0]))] := hD
  refine lv_aload_n hx hb dX4_depth_0 rfl (lv_at hl 0 rfl) ?_
  refine lv_aload_n hx hb dX4_depth_1 rfl (lv_at hl 0 rfl) ?_
  refine lv_iload_n hx hb dX4_depth_2 rfl (lv_at hl 1 rfl) ?_
  have hPc := hP.sub (ws' := [(mo, .inr (9, [th, .ref am, md, rf, kn])), (am, .inr (4, [.int mm, .ref (zk 0), .int 0]))]) [0, 1] rfl
  have hDc := hD.sub (ws' := [(mo, .inr (9, [th, .ref am, md, rf, kn])), (am, .inr (4, [.int mm, .ref (zk 0), .int 0]))]) [0, 1] (by decide) rfl
  have hFc := va_free (wc := [(mo, .inr (9, [th, .ref am, md, rf, kn])), (am, .inr (4, [.int mm, .ref (zk 0), .int 0]))]) hD hS hA [0, 1] rfl
  have hDv := hDc.self (sz := s.heap.size)
  have hpre := zpre (xs' := []) (av := [.ref mo, .int p0]) hPc hK (hDc.weaken (fun _ _ _ h => h)) hZ hS hFc (fun r hr => by cases hr)
  refine va_calli (va_runV (As := [.int p0]) (rest := [.ref mo]) ⟨hx, hb, hml, hown, hts⟩ (k_nRz l dC dI cI cB cR cO zk mo am th md rf kn mm p0 s.heap.size ) (cwV 1 hts gX4_depth_X4_isNoRow rfl rfl rfl (by decide +kernel) ⟨Nat.le_of_ble_eq_true rfl, Nat.le_of_ble_eq_true rfl⟩) ⟨zblind, (zrecv_9 hK hPc (q0 := 0) rfl), hpre⟩ rfl rfl hl.1 rfl (lv_room (Nat.le_of_ble_eq_true rfl)) dX4_depth_3 ⟨Nat.le_of_ble_eq_true rfl, Nat.le_of_ble_eq_true rfl⟩) hS (fun q _ h => hFc q h) hFc (fun r2 u t H1 locs ht hvm hw hB hz1 hk1 hS => ?_)
  obtain rfl : 1 = r2 := (show r2 = 1 from hw).symm
  obtain ⟨hP1, hK1, hD1, hz2⟩ := hB
  rw [ht] at hP1 hz2
  have hPD9 := va_join (wr := []) (w1 := [(mo, .inr (9, [th, .ref am, md, rf, kn])), (am, .inr (4, [.int mm, .ref (zk 0), .int 0]))]) hP hD [0, 1] [] rfl rfl (by decide) (by decide) hk1 hFc hP1 hD1
  clear hPc hDc hFc hDv hpre hP hD hP1 hK1 hD1
  obtain ⟨hP, hD⟩ := hPD9
  replace hz : s.heap.size + 0 ≤ H1.size := by omega
  clear hz2
  replace hP : va_P (dC, dI) vwCl [(mo, .inr (9, [th, .ref am, md, rf, kn])), (am, .inr (4, [.int mm, .ref (zk 0), .int 0]))] H1 := hP
  replace hD : va_D A [(mo, .inr (9, [th, .ref am, md, rf, kn])), (am, .inr (4, [.int mm, .ref (zk 0), .int 0]))] := hD
  refine W.widen (k := 0) (n := 0) (by omega) (by omega) ?_
  refine lv_iconst (v := 1) hx hb dX4_depth_6 (by decide) ?_
  have hPc := hP.sub (ws' := [(mo, .inr (9, [th, .ref am, md, rf, kn]))]) [0] rfl
  have hDc := hD.sub (ws' := [(mo, .inr (9, [th, .ref am, md, rf, kn]))]) [0] (by decide) rfl
  have hFc := va_free (wc := [(mo, .inr (9, [th, .ref am, md, rf, kn]))]) hD hS hA [0] rfl
  have hDv := hDc.self (sz := H1.size)
  have hpre := zpre (xs' := []) (av := [.ref mo, .int 1, .int 1]) hPc hK (hDc.weaken (fun _ _ _ h => h)) hZ hS hFc (fun r hr => by cases hr)
  refine va_calli (va_runV (As := [.int 1, .int 1]) (rest := []) ⟨hx, hb, hml, hown, hts⟩ (k_sttz l dC dI cI cB cR cO zk mo am th md rf kn H1.size ) (cwV 2 hts gX4_depth_X4_start rfl rfl rfl (by decide +kernel) ⟨Nat.le_of_ble_eq_true rfl, Nat.le_of_ble_eq_true rfl⟩) ⟨zblind, (zrecv_9 hK hPc (q0 := 0) rfl), hpre⟩ rfl rfl hl.1 rfl (lv_room (Nat.le_of_ble_eq_true rfl)) dX4_depth_7 ⟨Nat.le_of_ble_eq_true rfl, Nat.le_of_ble_eq_true rfl⟩) hS (fun q _ h => hFc q h) hFc (fun r4 u t H3 locs ht hvm hw hB hz1 hk1 hS => ?_)
  obtain rfl : 1 = r4 := (show r4 = 1 from hw).symm
  obtain ⟨hP1, hK1, hD1, hz2⟩ := hB
  rw [ht] at hP1 hz2
  have hPD9 := va_join (wr := [(am, .inr (4, [.int mm, .ref (zk 0), .int 0]))]) (w1 := [(mo, .inr (9, [.int 1, .ref am, md, rf, kn]))]) hP hD [0] [1] rfl rfl (by decide) (by decide) hk1 hFc hP1 hD1
  clear hPc hDc hFc hDv hpre hP hD hP1 hK1 hD1
  obtain ⟨hP, hD⟩ := hPD9
  replace hz : s.heap.size + 0 ≤ H3.size := by omega
  clear hz2
  replace hP : va_P (dC, dI) vwCl [(am, .inr (4, [.int mm, .ref (zk 0), .int 0])), (mo, .inr (9, [.int 1, .ref am, md, rf, kn]))] H3 := hP
  replace hD : va_D A [(am, .inr (4, [.int mm, .ref (zk 0), .int 0])), (mo, .inr (9, [.int 1, .ref am, md, rf, kn]))] := hD
  refine W.widen (k := 0) (n := 0) (by omega) (by omega) ?_
  refine lv_if_eq (tgt := 17) hx hb dX4_depth_10 (by decide) (fun c9 => ?_) (fun c9 => ?_)
  · exact absurd c9 (by decide)
  refine lv_iconst (v := 0) hx hb dX4_depth_13 (by decide) ?_
  refine lv_goto (tgt := 22) hx hb dX4_depth_14 (by decide) ?_
  have hP9 := hP.sub (ws' := [(mo, .inr (9, [.int 1, .ref am, md, rf, kn])), (am, .inr (4, [.int mm, .ref (zk 0), .int 0]))]) [1, 0] rfl
  have hD9 := hD.sub (ws' := [(mo, .inr (9, [.int 1, .ref am, md, rf, kn])), (am, .inr (4, [.int mm, .ref (zk 0), .int 0]))]) [1, 0] (by decide) rfl
  exact W.iret (v := 0) hx hb hr (fun t ht hW => ⟨⟨_, (), rfl, trivial, ⟨by rw [ht]; exact hP9, va_K.moved hW.alike hK, hD9, by rw [ht]; exact hz⟩⟩, hS.F ht⟩) hS.2.2 dX4_depth_22

set_option maxHeartbeats 4000000 in
set_option maxRecDepth 100000 in
theorem k_whatM (l : Launch) (dC : Nat → ClassId) (dI : Nat → Nat → Nat) (cI cB cR cO : ClassId) (zk : Nat → Nat) (mo am : Nat) (th md rf kn : Value) (mm : Int32) (p0 p1 : Int32) (sz : Nat)  : Met l yX4_what wsX4_what ({ frames := 3, cells := 0, slots := 0, locals := 65 }) (va_Pc [.ref mo, .int p0, .int p1] (zPre (dC, dI) (zT cI cB cR cO) zk [] [(mo, .inr (9, [th, .ref am, md, rf, kn])), (am, .inr (4, [.int mm, .ref (zk 0), .int 0]))] sz)) (va_Qi (fun r (_ : Unit) => True) (fun _ t => zEnd (dC, dI) (zT cI cB cR cO) (va_A [(mo, .inr (9, [th, .ref am, md, rf, kn])), (am, .inr (4, [.int mm, .ref (zk 0), .int 0]))] sz) [(mo, .inr (9, [.int 1, .ref am, md, rf, kn])), (am, .inr (4, [.int mm, .ref (zk 0), .int 0]))] sz 0 t) (va_A [(mo, .inr (9, [th, .ref am, md, rf, kn])), (am, .inr (4, [.int mm, .ref (zk 0), .int 0]))] sz)) 0 0 (va_A [(mo, .inr (9, [th, .ref am, md, rf, kn])), (am, .inr (4, [.int mm, .ref (zk 0), .int 0]))] sz) := by
  refine Met.ofW (cc := cX4_what) (maxL := 3) (ret := (some .int)) (by decide) rfl ?_
  intro p e s mY args below meth c s₁ B hml hv
  obtain ⟨rfl, hsz, hP, hK, hD0, hZ⟩ := hv
  have hx := B.exec
  have hb := B.bytes
  have hr := B.returns
  have hts := atoms_spec (ws := wsX4_what) B.pre
  have hown : s.vm.findClass RX4 = some mY.cls := findClass_of_methodNamed B.named
  have hlocks := B.notSynchronized
  subst hsz
  have hD := hD0.self (sz := s.heap.size)
  generalize hAe : va_A [(mo, .inr (9, [th, .ref am, md, rf, kn])), (am, .inr (4, [.int mm, .ref (zk 0), .int 0]))] s.heap.size = A at hD hZ ⊢
  have hA : ∀ q : Nat, s.heap.size ≤ q → A q := fun q h => by rw [← hAe]; exact Or.inr h
  have hS : va_S A s.heap s.heap [] := va_S.rf
  have hz : s.heap.size + 0 ≤ s.heap.size := Nat.le_refl _
  have hl := lv_entry ([.ref mo, .int p0, .int p1]) (n := 3) (Nat.le_of_ble_eq_true rfl)
  rw [lg_entry_eq]
  generalize (lg_sl ([.ref mo, .int p0, .int p1]) ++ List.replicate (3 - (lg_sl ([.ref mo, .int p0, .int p1])).length) Slot.unset).toArray = ls at hl ⊢
  have hl : lv_has ls 3 [(0, .ref mo), (1, .int p0), (2, .int p1)] := hl
  have hP : va_P (dC, dI) vwCl [(mo, .inr (9, [th, .ref am, md, rf, kn])), (am, .inr (4, [.int mm, .ref (zk 0), .int 0]))] s.heap := hP
  have hD : va_D A [(mo, .inr (9, [th, .ref am, md, rf, kn])), (am, .inr (4, [.int mm, .ref (zk 0), .int 0]))] := hD
  refine lv_aload_n hx hb dX4_what_0 rfl (lv_at hl 0 rfl) ?_
  refine lv_aload_n hx hb dX4_what_1 rfl (lv_at hl 0 rfl) ?_
  refine lv_iload_n hx hb dX4_what_2 rfl (lv_at hl 1 rfl) ?_
  refine lv_iload_n hx hb dX4_what_3 rfl (lv_at hl 2 rfl) ?_
  have hPc := hP.sub (ws' := [(mo, .inr (9, [th, .ref am, md, rf, kn])), (am, .inr (4, [.int mm, .ref (zk 0), .int 0]))]) [0, 1] rfl
  have hDc := hD.sub (ws' := [(mo, .inr (9, [th, .ref am, md, rf, kn])), (am, .inr (4, [.int mm, .ref (zk 0), .int 0]))]) [0, 1] (by decide) rfl
  have hFc := va_free (wc := [(mo, .inr (9, [th, .ref am, md, rf, kn])), (am, .inr (4, [.int mm, .ref (zk 0), .int 0]))]) hD hS hA [0, 1] rfl
  have hDv := hDc.self (sz := s.heap.size)
  have hpre := zpre (xs' := []) (av := [.ref mo, .int p0, .int p1]) hPc hK (hDc.weaken (fun _ _ _ h => h)) hZ hS hFc (fun r hr => by cases hr)
  refine va_calli (va_runV (As := [.int p0, .int p1]) (rest := [.ref mo]) ⟨hx, hb, hml, hown, hts⟩ (k_nPz l dC dI cI cB cR cO zk mo am th md rf kn mm p0 p1 s.heap.size ) (cwV 2 hts gX4_what_X4_isNoPlace rfl rfl rfl (by decide +kernel) ⟨Nat.le_of_ble_eq_true rfl, Nat.le_of_ble_eq_true rfl⟩) ⟨zblind, (zrecv_9 hK hPc (q0 := 0) rfl), hpre⟩ rfl rfl hl.1 rfl (lv_room (Nat.le_of_ble_eq_true rfl)) dX4_what_4 ⟨Nat.le_of_ble_eq_true rfl, Nat.le_of_ble_eq_true rfl⟩) hS (fun q _ h => hFc q h) hFc (fun r2 u t H1 locs ht hvm hw hB hz1 hk1 hS => ?_)
  obtain rfl : 1 = r2 := (show r2 = 1 from hw).symm
  obtain ⟨hP1, hK1, hD1, hz2⟩ := hB
  rw [ht] at hP1 hz2
  have hPD9 := va_join (wr := []) (w1 := [(mo, .inr (9, [th, .ref am, md, rf, kn])), (am, .inr (4, [.int mm, .ref (zk 0), .int 0]))]) hP hD [0, 1] [] rfl rfl (by decide) (by decide) hk1 hFc hP1 hD1
  clear hPc hDc hFc hDv hpre hP hD hP1 hK1 hD1
  obtain ⟨hP, hD⟩ := hPD9
  replace hz : s.heap.size + 0 ≤ H1.size := by omega
  clear hz2
  replace hP : va_P (dC, dI) vwCl [(mo, .inr (9, [th, .ref am, md, rf, kn])), (am, .inr (4, [.int mm, .ref (zk 0), .int 0]))] H1 := hP
  replace hD : va_D A [(mo, .inr (9, [th, .ref am, md, rf, kn])), (am, .inr (4, [.int mm, .ref (zk 0), .int 0]))] := hD
  refine W.widen (k := 0) (n := 0) (by omega) (by omega) ?_
  refine lv_iconst (v := 1) hx hb dX4_what_7 (by decide) ?_
  have hPc := hP.sub (ws' := [(mo, .inr (9, [th, .ref am, md, rf, kn]))]) [0] rfl
  have hDc := hD.sub (ws' := [(mo, .inr (9, [th, .ref am, md, rf, kn]))]) [0] (by decide) rfl
  have hFc := va_free (wc := [(mo, .inr (9, [th, .ref am, md, rf, kn]))]) hD hS hA [0] rfl
  have hDv := hDc.self (sz := H1.size)
  have hpre := zpre (xs' := []) (av := [.ref mo, .int 1, .int 1]) hPc hK (hDc.weaken (fun _ _ _ h => h)) hZ hS hFc (fun r hr => by cases hr)
  refine va_calli (va_runV (As := [.int 1, .int 1]) (rest := []) ⟨hx, hb, hml, hown, hts⟩ (k_sttz l dC dI cI cB cR cO zk mo am th md rf kn H1.size ) (cwV 2 hts gX4_what_X4_start rfl rfl rfl (by decide +kernel) ⟨Nat.le_of_ble_eq_true rfl, Nat.le_of_ble_eq_true rfl⟩) ⟨zblind, (zrecv_9 hK hPc (q0 := 0) rfl), hpre⟩ rfl rfl hl.1 rfl (lv_room (Nat.le_of_ble_eq_true rfl)) dX4_what_8 ⟨Nat.le_of_ble_eq_true rfl, Nat.le_of_ble_eq_true rfl⟩) hS (fun q _ h => hFc q h) hFc (fun r4 u t H3 locs ht hvm hw hB hz1 hk1 hS => ?_)
  obtain rfl : 1 = r4 := (show r4 = 1 from hw).symm
  obtain ⟨hP1, hK1, hD1, hz2⟩ := hB
  rw [ht] at hP1 hz2
  have hPD9 := va_join (wr := [(am, .inr (4, [.int mm, .ref (zk 0), .int 0]))]) (w1 := [(mo, .inr (9, [.int 1, .ref am, md, rf, kn]))]) hP hD [0] [1] rfl rfl (by decide) (by decide) hk1 hFc hP1 hD1
  clear hPc hDc hFc hDv hpre hP hD hP1 hK1 hD1
  obtain ⟨hP, hD⟩ := hPD9
  replace hz : s.heap.size + 0 ≤ H3.size := by omega
  clear hz2
  replace hP : va_P (dC, dI) vwCl [(am, .inr (4, [.int mm, .ref (zk 0), .int 0])), (mo, .inr (9, [.int 1, .ref am, md, rf, kn]))] H3 := hP
  replace hD : va_D A [(am, .inr (4, [.int mm, .ref (zk 0), .int 0])), (mo, .inr (9, [.int 1, .ref am, md, rf, kn]))] := hD
  refine W.widen (k := 0) (n := 0) (by omega) (by omega) ?_
  refine lv_if_eq (tgt := 18) hx hb dX4_what_11 (by decide) (fun c9 => ?_) (fun c9 => ?_)
  · exact absurd c9 (by decide)
  refine lv_iconst (v := 0) hx hb dX4_what_14 (by decide) ?_
  refine lv_goto (tgt := 34) hx hb dX4_what_15 (by decide) ?_
  have hP9 := hP.sub (ws' := [(mo, .inr (9, [.int 1, .ref am, md, rf, kn])), (am, .inr (4, [.int mm, .ref (zk 0), .int 0]))]) [1, 0] rfl
  have hD9 := hD.sub (ws' := [(mo, .inr (9, [.int 1, .ref am, md, rf, kn])), (am, .inr (4, [.int mm, .ref (zk 0), .int 0]))]) [1, 0] (by decide) rfl
  exact W.iret (v := 0) hx hb hr (fun t ht hW => ⟨⟨_, (), rfl, trivial, ⟨by rw [ht]; exact hP9, va_K.moved hW.alike hK, hD9, by rw [ht]; exact hz⟩⟩, hS.F ht⟩) hS.2.2 dX4_what_34

set_option maxHeartbeats 4000000 in
set_option maxRecDepth 100000 in
theorem k_atM (l : Launch) (dC : Nat → ClassId) (dI : Nat → Nat → Nat) (cI cB cR cO : ClassId) (zk : Nat → Nat) (mo am : Nat) (th md rf kn : Value) (mm : Int32) (p0 p1 : Int32) (sz : Nat)  : Met l yX4_at wsX4_at ({ frames := 3, cells := 0, slots := 0, locals := 65 }) (va_Pc [.ref mo, .int p0, .int p1] (zPre (dC, dI) (zT cI cB cR cO) zk [] [(mo, .inr (9, [th, .ref am, md, rf, kn])), (am, .inr (4, [.int mm, .ref (zk 0), .int 0]))] sz)) (va_Qi (fun r (_ : Unit) => True) (fun _ t => zEnd (dC, dI) (zT cI cB cR cO) (va_A [(mo, .inr (9, [th, .ref am, md, rf, kn])), (am, .inr (4, [.int mm, .ref (zk 0), .int 0]))] sz) [(mo, .inr (9, [.int 1, .ref am, md, rf, kn])), (am, .inr (4, [.int mm, .ref (zk 0), .int 0]))] sz 0 t) (va_A [(mo, .inr (9, [th, .ref am, md, rf, kn])), (am, .inr (4, [.int mm, .ref (zk 0), .int 0]))] sz)) 0 0 (va_A [(mo, .inr (9, [th, .ref am, md, rf, kn])), (am, .inr (4, [.int mm, .ref (zk 0), .int 0]))] sz) := by
  refine Met.ofW (cc := cX4_at) (maxL := 3) (ret := (some .int)) (by decide) rfl ?_
  intro p e s mY args below meth c s₁ B hml hv
  obtain ⟨rfl, hsz, hP, hK, hD0, hZ⟩ := hv
  have hx := B.exec
  have hb := B.bytes
  have hr := B.returns
  have hts := atoms_spec (ws := wsX4_at) B.pre
  have hown : s.vm.findClass RX4 = some mY.cls := findClass_of_methodNamed B.named
  have hlocks := B.notSynchronized
  subst hsz
  have hD := hD0.self (sz := s.heap.size)
  generalize hAe : va_A [(mo, .inr (9, [th, .ref am, md, rf, kn])), (am, .inr (4, [.int mm, .ref (zk 0), .int 0]))] s.heap.size = A at hD hZ ⊢
  have hA : ∀ q : Nat, s.heap.size ≤ q → A q := fun q h => by rw [← hAe]; exact Or.inr h
  have hS : va_S A s.heap s.heap [] := va_S.rf
  have hz : s.heap.size + 0 ≤ s.heap.size := Nat.le_refl _
  have hl := lv_entry ([.ref mo, .int p0, .int p1]) (n := 3) (Nat.le_of_ble_eq_true rfl)
  rw [lg_entry_eq]
  generalize (lg_sl ([.ref mo, .int p0, .int p1]) ++ List.replicate (3 - (lg_sl ([.ref mo, .int p0, .int p1])).length) Slot.unset).toArray = ls at hl ⊢
  have hl : lv_has ls 3 [(0, .ref mo), (1, .int p0), (2, .int p1)] := hl
  have hP : va_P (dC, dI) vwCl [(mo, .inr (9, [th, .ref am, md, rf, kn])), (am, .inr (4, [.int mm, .ref (zk 0), .int 0]))] s.heap := hP
  have hD : va_D A [(mo, .inr (9, [th, .ref am, md, rf, kn])), (am, .inr (4, [.int mm, .ref (zk 0), .int 0]))] := hD
  refine lv_aload_n hx hb dX4_at_0 rfl (lv_at hl 0 rfl) ?_
  refine lv_aload_n hx hb dX4_at_1 rfl (lv_at hl 0 rfl) ?_
  refine lv_iload_n hx hb dX4_at_2 rfl (lv_at hl 1 rfl) ?_
  refine lv_iload_n hx hb dX4_at_3 rfl (lv_at hl 2 rfl) ?_
  have hPc := hP.sub (ws' := [(mo, .inr (9, [th, .ref am, md, rf, kn])), (am, .inr (4, [.int mm, .ref (zk 0), .int 0]))]) [0, 1] rfl
  have hDc := hD.sub (ws' := [(mo, .inr (9, [th, .ref am, md, rf, kn])), (am, .inr (4, [.int mm, .ref (zk 0), .int 0]))]) [0, 1] (by decide) rfl
  have hFc := va_free (wc := [(mo, .inr (9, [th, .ref am, md, rf, kn])), (am, .inr (4, [.int mm, .ref (zk 0), .int 0]))]) hD hS hA [0, 1] rfl
  have hDv := hDc.self (sz := s.heap.size)
  have hpre := zpre (xs' := []) (av := [.ref mo, .int p0, .int p1]) hPc hK (hDc.weaken (fun _ _ _ h => h)) hZ hS hFc (fun r hr => by cases hr)
  refine va_calli (va_runV (As := [.int p0, .int p1]) (rest := [.ref mo]) ⟨hx, hb, hml, hown, hts⟩ (k_nPz l dC dI cI cB cR cO zk mo am th md rf kn mm p0 p1 s.heap.size ) (cwV 2 hts gX4_at_X4_isNoPlace rfl rfl rfl (by decide +kernel) ⟨Nat.le_of_ble_eq_true rfl, Nat.le_of_ble_eq_true rfl⟩) ⟨zblind, (zrecv_9 hK hPc (q0 := 0) rfl), hpre⟩ rfl rfl hl.1 rfl (lv_room (Nat.le_of_ble_eq_true rfl)) dX4_at_4 ⟨Nat.le_of_ble_eq_true rfl, Nat.le_of_ble_eq_true rfl⟩) hS (fun q _ h => hFc q h) hFc (fun r2 u t H1 locs ht hvm hw hB hz1 hk1 hS => ?_)
  obtain rfl : 1 = r2 := (show r2 = 1 from hw).symm
  obtain ⟨hP1, hK1, hD1, hz2⟩ := hB
  rw [ht] at hP1 hz2
  have hPD9 := va_join (wr := []) (w1 := [(mo, .inr (9, [th, .ref am, md, rf, kn])), (am, .inr (4, [.int mm, .ref (zk 0), .int 0]))]) hP hD [0, 1] [] rfl rfl (by decide) (by decide) hk1 hFc hP1 hD1
  clear hPc hDc hFc hDv hpre hP hD hP1 hK1 hD1
  obtain ⟨hP, hD⟩ := hPD9
  replace hz : s.heap.size + 0 ≤ H1.size := by omega
  clear hz2
  replace hP : va_P (dC, dI) vwCl [(mo, .inr (9, [th, .ref am, md, rf, kn])), (am, .inr (4, [.int mm, .ref (zk 0), .int 0]))] H1 := hP
  replace hD : va_D A [(mo, .inr (9, [th, .ref am, md, rf, kn])), (am, .inr (4, [.int mm, .ref (zk 0), .int 0]))] := hD
  refine W.widen (k := 0) (n := 0) (by omega) (by omega) ?_
  refine lv_iconst (v := 1) hx hb dX4_at_7 (by decide) ?_
  have hPc := hP.sub (ws' := [(mo, .inr (9, [th, .ref am, md, rf, kn]))]) [0] rfl
  have hDc := hD.sub (ws' := [(mo, .inr (9, [th, .ref am, md, rf, kn]))]) [0] (by decide) rfl
  have hFc := va_free (wc := [(mo, .inr (9, [th, .ref am, md, rf, kn]))]) hD hS hA [0] rfl
  have hDv := hDc.self (sz := H1.size)
  have hpre := zpre (xs' := []) (av := [.ref mo, .int 1, .int 1]) hPc hK (hDc.weaken (fun _ _ _ h => h)) hZ hS hFc (fun r hr => by cases hr)
  refine va_calli (va_runV (As := [.int 1, .int 1]) (rest := []) ⟨hx, hb, hml, hown, hts⟩ (k_sttz l dC dI cI cB cR cO zk mo am th md rf kn H1.size ) (cwV 2 hts gX4_at_X4_start rfl rfl rfl (by decide +kernel) ⟨Nat.le_of_ble_eq_true rfl, Nat.le_of_ble_eq_true rfl⟩) ⟨zblind, (zrecv_9 hK hPc (q0 := 0) rfl), hpre⟩ rfl rfl hl.1 rfl (lv_room (Nat.le_of_ble_eq_true rfl)) dX4_at_8 ⟨Nat.le_of_ble_eq_true rfl, Nat.le_of_ble_eq_true rfl⟩) hS (fun q _ h => hFc q h) hFc (fun r4 u t H3 locs ht hvm hw hB hz1 hk1 hS => ?_)
  obtain rfl : 1 = r4 := (show r4 = 1 from hw).symm
  obtain ⟨hP1, hK1, hD1, hz2⟩ := hB
  rw [ht] at hP1 hz2
  have hPD9 := va_join (wr := [(am, .inr (4, [.int mm, .ref (zk 0), .int 0]))]) (w1 := [(mo, .inr (9, [.int 1, .ref am, md, rf, kn]))]) hP hD [0] [1] rfl rfl (by decide) (by decide) hk1 hFc hP1 hD1
  clear hPc hDc hFc hDv hpre hP hD hP1 hK1 hD1
  obtain ⟨hP, hD⟩ := hPD9
  replace hz : s.heap.size + 0 ≤ H3.size := by omega
  clear hz2
  replace hP : va_P (dC, dI) vwCl [(am, .inr (4, [.int mm, .ref (zk 0), .int 0])), (mo, .inr (9, [.int 1, .ref am, md, rf, kn]))] H3 := hP
  replace hD : va_D A [(am, .inr (4, [.int mm, .ref (zk 0), .int 0])), (mo, .inr (9, [.int 1, .ref am, md, rf, kn]))] := hD
  refine W.widen (k := 0) (n := 0) (by omega) (by omega) ?_
  refine lv_if_eq (tgt := 18) hx hb dX4_at_11 (by decide) (fun c9 => ?_) (fun c9 => ?_)
  · exact absurd c9 (by decide)
  refine lv_iconst (v := 0) hx hb dX4_at_14 (by decide) ?_
  refine lv_goto (tgt := 34) hx hb dX4_at_15 (by decide) ?_
  have hP9 := hP.sub (ws' := [(mo, .inr (9, [.int 1, .ref am, md, rf, kn])), (am, .inr (4, [.int mm, .ref (zk 0), .int 0]))]) [1, 0] rfl
  have hD9 := hD.sub (ws' := [(mo, .inr (9, [.int 1, .ref am, md, rf, kn])), (am, .inr (4, [.int mm, .ref (zk 0), .int 0]))]) [1, 0] (by decide) rfl
  exact W.iret (v := 0) hx hb hr (fun t ht hW => ⟨⟨_, (), rfl, trivial, ⟨by rw [ht]; exact hP9, va_K.moved hW.alike hK, hD9, by rw [ht]; exact hz⟩⟩, hS.F ht⟩) hS.2.2 dX4_at_34

set_option maxHeartbeats 4000000 in
set_option maxRecDepth 100000 in
theorem k_isDeepM (l : Launch) (dC : Nat → ClassId) (dI : Nat → Nat → Nat) (cI cB cR cO : ClassId) (zk : Nat → Nat) (mo am : Nat) (th md rf kn : Value) (mm : Int32) (p0 p1 : Int32) (sz : Nat)  : Met l yX4_isDeep wsX4_isDeep ({ frames := 2, cells := 0, slots := 0, locals := 44 }) (va_Pc [.ref mo, .int p0, .int p1] (zPre (dC, dI) (zT cI cB cR cO) zk [] [(mo, .inr (9, [th, .ref am, md, rf, kn])), (am, .inr (4, [.int mm, .ref (zk 0), .int 0]))] sz)) (va_Qi (fun r (_ : Unit) => True) (fun _ t => zEnd (dC, dI) (zT cI cB cR cO) (va_A [(mo, .inr (9, [th, .ref am, md, rf, kn])), (am, .inr (4, [.int mm, .ref (zk 0), .int 0]))] sz) [(mo, .inr (9, [.int 1, .ref am, md, rf, kn])), (am, .inr (4, [.int mm, .ref (zk 0), .int 0]))] sz 0 t) (va_A [(mo, .inr (9, [th, .ref am, md, rf, kn])), (am, .inr (4, [.int mm, .ref (zk 0), .int 0]))] sz)) 0 0 (va_A [(mo, .inr (9, [th, .ref am, md, rf, kn])), (am, .inr (4, [.int mm, .ref (zk 0), .int 0]))] sz) := by
  refine Met.ofW (cc := cX4_isDeep) (maxL := 3) (ret := (some .boolean)) (by decide) rfl ?_
  intro p e s mY args below meth c s₁ B hml hv
  obtain ⟨rfl, hsz, hP, hK, hD0, hZ⟩ := hv
  have hx := B.exec
  have hb := B.bytes
  have hr := B.returns
  have hts := atoms_spec (ws := wsX4_isDeep) B.pre
  have hown : s.vm.findClass RX4 = some mY.cls := findClass_of_methodNamed B.named
  have hlocks := B.notSynchronized
  subst hsz
  have hD := hD0.self (sz := s.heap.size)
  generalize hAe : va_A [(mo, .inr (9, [th, .ref am, md, rf, kn])), (am, .inr (4, [.int mm, .ref (zk 0), .int 0]))] s.heap.size = A at hD hZ ⊢
  have hA : ∀ q : Nat, s.heap.size ≤ q → A q := fun q h => by rw [← hAe]; exact Or.inr h
  have hS : va_S A s.heap s.heap [] := va_S.rf
  have hz : s.heap.size + 0 ≤ s.heap.size := Nat.le_refl _
  have hl := lv_entry ([.ref mo, .int p0, .int p1]) (n := 3) (Nat.le_of_ble_eq_true rfl)
  rw [lg_entry_eq]
  generalize (lg_sl ([.ref mo, .int p0, .int p1]) ++ List.replicate (3 - (lg_sl ([.ref mo, .int p0, .int p1])).length) Slot.unset).toArray = ls at hl ⊢
  have hl : lv_has ls 3 [(0, .ref mo), (1, .int p0), (2, .int p1)] := hl
  have hP : va_P (dC, dI) vwCl [(mo, .inr (9, [th, .ref am, md, rf, kn])), (am, .inr (4, [.int mm, .ref (zk 0), .int 0]))] s.heap := hP
  have hD : va_D A [(mo, .inr (9, [th, .ref am, md, rf, kn])), (am, .inr (4, [.int mm, .ref (zk 0), .int 0]))] := hD
  refine lv_aload_n hx hb dX4_isDeep_0 rfl (lv_at hl 0 rfl) ?_
  refine lv_aload_n hx hb dX4_isDeep_1 rfl (lv_at hl 0 rfl) ?_
  refine lv_iload_n hx hb dX4_isDeep_2 rfl (lv_at hl 1 rfl) ?_
  have hPc := hP.sub (ws' := [(mo, .inr (9, [th, .ref am, md, rf, kn])), (am, .inr (4, [.int mm, .ref (zk 0), .int 0]))]) [0, 1] rfl
  have hDc := hD.sub (ws' := [(mo, .inr (9, [th, .ref am, md, rf, kn])), (am, .inr (4, [.int mm, .ref (zk 0), .int 0]))]) [0, 1] (by decide) rfl
  have hFc := va_free (wc := [(mo, .inr (9, [th, .ref am, md, rf, kn])), (am, .inr (4, [.int mm, .ref (zk 0), .int 0]))]) hD hS hA [0, 1] rfl
  have hDv := hDc.self (sz := s.heap.size)
  have hpre := zpre (xs' := []) (av := [.ref mo, .int p0]) hPc hK (hDc.weaken (fun _ _ _ h => h)) hZ hS hFc (fun r hr => by cases hr)
  refine va_calli (va_runV (As := [.int p0]) (rest := [.ref mo]) ⟨hx, hb, hml, hown, hts⟩ (k_nRz l dC dI cI cB cR cO zk mo am th md rf kn mm p0 s.heap.size ) (cwV 1 hts gX4_isDeep_X4_isNoRow rfl rfl rfl (by decide +kernel) ⟨Nat.le_of_ble_eq_true rfl, Nat.le_of_ble_eq_true rfl⟩) ⟨zblind, (zrecv_9 hK hPc (q0 := 0) rfl), hpre⟩ rfl rfl hl.1 rfl (lv_room (Nat.le_of_ble_eq_true rfl)) dX4_isDeep_3 ⟨Nat.le_of_ble_eq_true rfl, Nat.le_of_ble_eq_true rfl⟩) hS (fun q _ h => hFc q h) hFc (fun r2 u t H1 locs ht hvm hw hB hz1 hk1 hS => ?_)
  obtain rfl : 1 = r2 := (show r2 = 1 from hw).symm
  obtain ⟨hP1, hK1, hD1, hz2⟩ := hB
  rw [ht] at hP1 hz2
  have hPD9 := va_join (wr := []) (w1 := [(mo, .inr (9, [th, .ref am, md, rf, kn])), (am, .inr (4, [.int mm, .ref (zk 0), .int 0]))]) hP hD [0, 1] [] rfl rfl (by decide) (by decide) hk1 hFc hP1 hD1
  clear hPc hDc hFc hDv hpre hP hD hP1 hK1 hD1
  obtain ⟨hP, hD⟩ := hPD9
  replace hz : s.heap.size + 0 ≤ H1.size := by omega
  clear hz2
  replace hP : va_P (dC, dI) vwCl [(mo, .inr (9, [th, .ref am, md, rf, kn])), (am, .inr (4, [.int mm, .ref (zk 0), .int 0]))] H1 := hP
  replace hD : va_D A [(mo, .inr (9, [th, .ref am, md, rf, kn])), (am, .inr (4, [.int mm, .ref (zk 0), .int 0]))] := hD
  refine W.widen (k := 0) (n := 0) (by omega) (by omega) ?_
  refine lv_if_ne (tgt := 17) hx hb dX4_isDeep_6 (by decide) (fun c9 => ?_) (fun c9 => ?_)
  rotate_left
  · exact absurd c9 (by decide)
  refine lv_iconst (v := 1) hx hb dX4_isDeep_17 (by decide) ?_
  refine lv_goto (tgt := 22) hx hb dX4_isDeep_18 (by decide) ?_
  refine lv_iconst (v := 1) hx hb dX4_isDeep_22 (by decide) ?_
  have hPc := hP.sub (ws' := [(mo, .inr (9, [th, .ref am, md, rf, kn]))]) [0] rfl
  have hDc := hD.sub (ws' := [(mo, .inr (9, [th, .ref am, md, rf, kn]))]) [0] (by decide) rfl
  have hFc := va_free (wc := [(mo, .inr (9, [th, .ref am, md, rf, kn]))]) hD hS hA [0] rfl
  have hDv := hDc.self (sz := H1.size)
  have hpre := zpre (xs' := []) (av := [.ref mo, .int 1, .int 1]) hPc hK (hDc.weaken (fun _ _ _ h => h)) hZ hS hFc (fun r hr => by cases hr)
  refine va_calli (va_runV (As := [.int 1, .int 1]) (rest := []) ⟨hx, hb, hml, hown, hts⟩ (k_sttz l dC dI cI cB cR cO zk mo am th md rf kn H1.size ) (cwV 2 hts gX4_isDeep_X4_start rfl rfl rfl (by decide +kernel) ⟨Nat.le_of_ble_eq_true rfl, Nat.le_of_ble_eq_true rfl⟩) ⟨zblind, (zrecv_9 hK hPc (q0 := 0) rfl), hpre⟩ rfl rfl hl.1 rfl (lv_room (Nat.le_of_ble_eq_true rfl)) dX4_isDeep_23 ⟨Nat.le_of_ble_eq_true rfl, Nat.le_of_ble_eq_true rfl⟩) hS (fun q _ h => hFc q h) hFc (fun r4 u t H3 locs ht hvm hw hB hz1 hk1 hS => ?_)
  obtain rfl : 1 = r4 := (show r4 = 1 from hw).symm
  obtain ⟨hP1, hK1, hD1, hz2⟩ := hB
  rw [ht] at hP1 hz2
  have hPD9 := va_join (wr := [(am, .inr (4, [.int mm, .ref (zk 0), .int 0]))]) (w1 := [(mo, .inr (9, [.int 1, .ref am, md, rf, kn]))]) hP hD [0] [1] rfl rfl (by decide) (by decide) hk1 hFc hP1 hD1
  clear hPc hDc hFc hDv hpre hP hD hP1 hK1 hD1
  obtain ⟨hP, hD⟩ := hPD9
  replace hz : s.heap.size + 0 ≤ H3.size := by omega
  clear hz2
  replace hP : va_P (dC, dI) vwCl [(am, .inr (4, [.int mm, .ref (zk 0), .int 0])), (mo, .inr (9, [.int 1, .ref am, md, rf, kn]))] H3 := hP
  replace hD : va_D A [(am, .inr (4, [.int mm, .ref (zk 0), .int 0])), (mo, .inr (9, [.int 1, .ref am, md, rf, kn]))] := hD
  refine W.widen (k := 0) (n := 0) (by omega) (by omega) ?_
  refine lv_if_ne (tgt := 42) hx hb dX4_isDeep_26 (by decide) (fun c9 => ?_) (fun c9 => ?_)
  rotate_left
  · exact absurd c9 (by decide)
  refine lv_iconst (v := 0) hx hb dX4_isDeep_42 (by decide) ?_
  have hP9 := hP.sub (ws' := [(mo, .inr (9, [.int 1, .ref am, md, rf, kn])), (am, .inr (4, [.int mm, .ref (zk 0), .int 0]))]) [1, 0] rfl
  have hD9 := hD.sub (ws' := [(mo, .inr (9, [.int 1, .ref am, md, rf, kn])), (am, .inr (4, [.int mm, .ref (zk 0), .int 0]))]) [1, 0] (by decide) rfl
  exact W.zret (v := 0) hx hb hr (by decide +kernel) (fun t ht hW => ⟨⟨_, (), rfl, trivial, ⟨by rw [ht]; exact hP9, va_K.moved hW.alike hK, hD9, by rw [ht]; exact hz⟩⟩, hS.F ht⟩) hS.2.2 dX4_isDeep_43

set_option maxHeartbeats 4000000 in
set_option maxRecDepth 100000 in
theorem k_isFlatM (l : Launch) (dC : Nat → ClassId) (dI : Nat → Nat → Nat) (cI cB cR cO : ClassId) (zk : Nat → Nat) (mo am : Nat) (th md rf kn : Value) (mm : Int32) (p0 p1 : Int32) (sz : Nat)  : Met l yX4_isFlat wsX4_isFlat ({ frames := 2, cells := 0, slots := 0, locals := 44 }) (va_Pc [.ref mo, .int p0, .int p1] (zPre (dC, dI) (zT cI cB cR cO) zk [] [(mo, .inr (9, [th, .ref am, md, rf, kn])), (am, .inr (4, [.int mm, .ref (zk 0), .int 0]))] sz)) (va_Qi (fun r (_ : Unit) => True) (fun _ t => zEnd (dC, dI) (zT cI cB cR cO) (va_A [(mo, .inr (9, [th, .ref am, md, rf, kn])), (am, .inr (4, [.int mm, .ref (zk 0), .int 0]))] sz) [(mo, .inr (9, [.int 1, .ref am, md, rf, kn])), (am, .inr (4, [.int mm, .ref (zk 0), .int 0]))] sz 0 t) (va_A [(mo, .inr (9, [th, .ref am, md, rf, kn])), (am, .inr (4, [.int mm, .ref (zk 0), .int 0]))] sz)) 0 0 (va_A [(mo, .inr (9, [th, .ref am, md, rf, kn])), (am, .inr (4, [.int mm, .ref (zk 0), .int 0]))] sz) := by
  refine Met.ofW (cc := cX4_isFlat) (maxL := 3) (ret := (some .boolean)) (by decide) rfl ?_
  intro p e s mY args below meth c s₁ B hml hv
  obtain ⟨rfl, hsz, hP, hK, hD0, hZ⟩ := hv
  have hx := B.exec
  have hb := B.bytes
  have hr := B.returns
  have hts := atoms_spec (ws := wsX4_isFlat) B.pre
  have hown : s.vm.findClass RX4 = some mY.cls := findClass_of_methodNamed B.named
  have hlocks := B.notSynchronized
  subst hsz
  have hD := hD0.self (sz := s.heap.size)
  generalize hAe : va_A [(mo, .inr (9, [th, .ref am, md, rf, kn])), (am, .inr (4, [.int mm, .ref (zk 0), .int 0]))] s.heap.size = A at hD hZ ⊢
  have hA : ∀ q : Nat, s.heap.size ≤ q → A q := fun q h => by rw [← hAe]; exact Or.inr h
  have hS : va_S A s.heap s.heap [] := va_S.rf
  have hz : s.heap.size + 0 ≤ s.heap.size := Nat.le_refl _
  have hl := lv_entry ([.ref mo, .int p0, .int p1]) (n := 3) (Nat.le_of_ble_eq_true rfl)
  rw [lg_entry_eq]
  generalize (lg_sl ([.ref mo, .int p0, .int p1]) ++ List.replicate (3 - (lg_sl ([.ref mo, .int p0, .int p1])).length) Slot.unset).toArray = ls at hl ⊢
  have hl : lv_has ls 3 [(0, .ref mo), (1, .int p0), (2, .int p1)] := hl
  have hP : va_P (dC, dI) vwCl [(mo, .inr (9, [th, .ref am, md, rf, kn])), (am, .inr (4, [.int mm, .ref (zk 0), .int 0]))] s.heap := hP
  have hD : va_D A [(mo, .inr (9, [th, .ref am, md, rf, kn])), (am, .inr (4, [.int mm, .ref (zk 0), .int 0]))] := hD
  refine lv_aload_n hx hb dX4_isFlat_0 rfl (lv_at hl 0 rfl) ?_
  refine lv_aload_n hx hb dX4_isFlat_1 rfl (lv_at hl 0 rfl) ?_
  refine lv_iload_n hx hb dX4_isFlat_2 rfl (lv_at hl 1 rfl) ?_
  have hPc := hP.sub (ws' := [(mo, .inr (9, [th, .ref am, md, rf, kn])), (am, .inr (4, [.int mm, .ref (zk 0), .int 0]))]) [0, 1] rfl
  have hDc := hD.sub (ws' := [(mo, .inr (9, [th, .ref am, md, rf, kn])), (am, .inr (4, [.int mm, .ref (zk 0), .int 0]))]) [0, 1] (by decide) rfl
  have hFc := va_free (wc := [(mo, .inr (9, [th, .ref am, md, rf, kn])), (am, .inr (4, [.int mm, .ref (zk 0), .int 0]))]) hD hS hA [0, 1] rfl
  have hDv := hDc.self (sz := s.heap.size)
  have hpre := zpre (xs' := []) (av := [.ref mo, .int p0]) hPc hK (hDc.weaken (fun _ _ _ h => h)) hZ hS hFc (fun r hr => by cases hr)
  refine va_calli (va_runV (As := [.int p0]) (rest := [.ref mo]) ⟨hx, hb, hml, hown, hts⟩ (k_nRz l dC dI cI cB cR cO zk mo am th md rf kn mm p0 s.heap.size ) (cwV 1 hts gX4_isFlat_X4_isNoRow rfl rfl rfl (by decide +kernel) ⟨Nat.le_of_ble_eq_true rfl, Nat.le_of_ble_eq_true rfl⟩) ⟨zblind, (zrecv_9 hK hPc (q0 := 0) rfl), hpre⟩ rfl rfl hl.1 rfl (lv_room (Nat.le_of_ble_eq_true rfl)) dX4_isFlat_3 ⟨Nat.le_of_ble_eq_true rfl, Nat.le_of_ble_eq_true rfl⟩) hS (fun q _ h => hFc q h) hFc (fun r2 u t H1 locs ht hvm hw hB hz1 hk1 hS => ?_)
  obtain rfl : 1 = r2 := (show r2 = 1 from hw).symm
  obtain ⟨hP1, hK1, hD1, hz2⟩ := hB
  rw [ht] at hP1 hz2
  have hPD9 := va_join (wr := []) (w1 := [(mo, .inr (9, [th, .ref am, md, rf, kn])), (am, .inr (4, [.int mm, .ref (zk 0), .int 0]))]) hP hD [0, 1] [] rfl rfl (by decide) (by decide) hk1 hFc hP1 hD1
  clear hPc hDc hFc hDv hpre hP hD hP1 hK1 hD1
  obtain ⟨hP, hD⟩ := hPD9
  replace hz : s.heap.size + 0 ≤ H1.size := by omega
  clear hz2
  replace hP : va_P (dC, dI) vwCl [(mo, .inr (9, [th, .ref am, md, rf, kn])), (am, .inr (4, [.int mm, .ref (zk 0), .int 0]))] H1 := hP
  replace hD : va_D A [(mo, .inr (9, [th, .ref am, md, rf, kn])), (am, .inr (4, [.int mm, .ref (zk 0), .int 0]))] := hD
  refine W.widen (k := 0) (n := 0) (by omega) (by omega) ?_
  refine lv_if_ne (tgt := 17) hx hb dX4_isFlat_6 (by decide) (fun c9 => ?_) (fun c9 => ?_)
  rotate_left
  · exact absurd c9 (by decide)
  refine lv_iconst (v := 1) hx hb dX4_isFlat_17 (by decide) ?_
  refine lv_goto (tgt := 22) hx hb dX4_isFlat_18 (by decide) ?_
  refine lv_iconst (v := 1) hx hb dX4_isFlat_22 (by decide) ?_
  have hPc := hP.sub (ws' := [(mo, .inr (9, [th, .ref am, md, rf, kn]))]) [0] rfl
  have hDc := hD.sub (ws' := [(mo, .inr (9, [th, .ref am, md, rf, kn]))]) [0] (by decide) rfl
  have hFc := va_free (wc := [(mo, .inr (9, [th, .ref am, md, rf, kn]))]) hD hS hA [0] rfl
  have hDv := hDc.self (sz := H1.size)
  have hpre := zpre (xs' := []) (av := [.ref mo, .int 1, .int 1]) hPc hK (hDc.weaken (fun _ _ _ h => h)) hZ hS hFc (fun r hr => by cases hr)
  refine va_calli (va_runV (As := [.int 1, .int 1]) (rest := []) ⟨hx, hb, hml, hown, hts⟩ (k_sttz l dC dI cI cB cR cO zk mo am th md rf kn H1.size ) (cwV 2 hts gX4_isFlat_X4_start rfl rfl rfl (by decide +kernel) ⟨Nat.le_of_ble_eq_true rfl, Nat.le_of_ble_eq_true rfl⟩) ⟨zblind, (zrecv_9 hK hPc (q0 := 0) rfl), hpre⟩ rfl rfl hl.1 rfl (lv_room (Nat.le_of_ble_eq_true rfl)) dX4_isFlat_23 ⟨Nat.le_of_ble_eq_true rfl, Nat.le_of_ble_eq_true rfl⟩) hS (fun q _ h => hFc q h) hFc (fun r4 u t H3 locs ht hvm hw hB hz1 hk1 hS => ?_)
  obtain rfl : 1 = r4 := (show r4 = 1 from hw).symm
  obtain ⟨hP1, hK1, hD1, hz2⟩ := hB
  rw [ht] at hP1 hz2
  have hPD9 := va_join (wr := [(am, .inr (4, [.int mm, .ref (zk 0), .int 0]))]) (w1 := [(mo, .inr (9, [.int 1, .ref am, md, rf, kn]))]) hP hD [0] [1] rfl rfl (by decide) (by decide) hk1 hFc hP1 hD1
  clear hPc hDc hFc hDv hpre hP hD hP1 hK1 hD1
  obtain ⟨hP, hD⟩ := hPD9
  replace hz : s.heap.size + 0 ≤ H3.size := by omega
  clear hz2
  replace hP : va_P (dC, dI) vwCl [(am, .inr (4, [.int mm, .ref (zk 0), .int 0])), (mo, .inr (9, [.int 1, .ref am, md, rf, kn]))] H3 := hP
  replace hD : va_D A [(am, .inr (4, [.int mm, .ref (zk 0), .int 0])), (mo, .inr (9, [.int 1, .ref am, md, rf, kn]))] := hD
  refine W.widen (k := 0) (n := 0) (by omega) (by omega) ?_
  refine lv_if_ne (tgt := 57) hx hb dX4_isFlat_26 (by decide) (fun c9 => ?_) (fun c9 => ?_)
  rotate_left
  · exact absurd c9 (by decide)
  refine lv_iconst (v := 0) hx hb dX4_isFlat_57 (by decide) ?_
  have hP9 := hP.sub (ws' := [(mo, .inr (9, [.int 1, .ref am, md, rf, kn])), (am, .inr (4, [.int mm, .ref (zk 0), .int 0]))]) [1, 0] rfl
  have hD9 := hD.sub (ws' := [(mo, .inr (9, [.int 1, .ref am, md, rf, kn])), (am, .inr (4, [.int mm, .ref (zk 0), .int 0]))]) [1, 0] (by decide) rfl
  exact W.zret (v := 0) hx hb hr (by decide +kernel) (fun t ht hW => ⟨⟨_, (), rfl, trivial, ⟨by rw [ht]; exact hP9, va_K.moved hW.alike hK, hD9, by rw [ht]; exact hz⟩⟩, hS.F ht⟩) hS.2.2 dX4_isFlat_58

set_option maxHeartbeats 4000000 in
set_option maxRecDepth 100000 in
theorem k_areDeepM (l : Launch) (dC : Nat → ClassId) (dI : Nat → Nat → Nat) (cI cB cR cO : ClassId) (zk : Nat → Nat) (mo am : Nat) (th md rf kn : Value) (mm : Int32) (p0 p1 p2 p3 : Int32) (sz : Nat)  : Met l yX4_areDeep wsX4_areDeep ({ frames := 3, cells := 0, slots := 0, locals := 65 }) (va_Pc [.ref mo, .int p0, .int p1, .int p2, .int p3] (zPre (dC, dI) (zT cI cB cR cO) zk [] [(mo, .inr (9, [th, .ref am, md, rf, kn])), (am, .inr (4, [.int mm, .ref (zk 0), .int 0]))] sz)) (va_Qi (fun r (_ : Unit) => True) (fun _ t => zEnd (dC, dI) (zT cI cB cR cO) (va_A [(mo, .inr (9, [th, .ref am, md, rf, kn])), (am, .inr (4, [.int mm, .ref (zk 0), .int 0]))] sz) [(mo, .inr (9, [.int 1, .ref am, md, rf, kn])), (am, .inr (4, [.int mm, .ref (zk 0), .int 0]))] sz 0 t) (va_A [(mo, .inr (9, [th, .ref am, md, rf, kn])), (am, .inr (4, [.int mm, .ref (zk 0), .int 0]))] sz)) 0 0 (va_A [(mo, .inr (9, [th, .ref am, md, rf, kn])), (am, .inr (4, [.int mm, .ref (zk 0), .int 0]))] sz) := by
  refine Met.ofW (cc := cX4_areDeep) (maxL := 5) (ret := (some .boolean)) (by decide) rfl ?_
  intro p e s mY args below meth c s₁ B hml hv
  obtain ⟨rfl, hsz, hP, hK, hD0, hZ⟩ := hv
  have hx := B.exec
  have hb := B.bytes
  have hr := B.returns
  have hts := atoms_spec (ws := wsX4_areDeep) B.pre
  have hown : s.vm.findClass RX4 = some mY.cls := findClass_of_methodNamed B.named
  have hlocks := B.notSynchronized
  subst hsz
  have hD := hD0.self (sz := s.heap.size)
  generalize hAe : va_A [(mo, .inr (9, [th, .ref am, md, rf, kn])), (am, .inr (4, [.int mm, .ref (zk 0), .int 0]))] s.heap.size = A at hD hZ ⊢
  have hA : ∀ q : Nat, s.heap.size ≤ q → A q := fun q h => by rw [← hAe]; exact Or.inr h
  have hS : va_S A s.heap s.heap [] := va_S.rf
  have hz : s.heap.size + 0 ≤ s.heap.size := Nat.le_refl _
  have hl := lv_entry ([.ref mo, .int p0, .int p1, .int p2, .int p3]) (n := 5) (Nat.le_of_ble_eq_true rfl)
  rw [lg_entry_eq]
  generalize (lg_sl ([.ref mo, .int p0, .int p1, .int p2, .int p3]) ++ List.replicate (5 - (lg_sl ([.ref mo, .int p0, .int p1, .int p2, .int p3])).length) Slot.unset).toArray = ls at hl ⊢
  have hl : lv_has ls 5 [(0, .ref mo), (1, .int p0), (2, .int p1), (3, .int p2), (4, .int p3)] := hl
  have hP : va_P (dC, dI) vwCl [(mo, .inr (9, [th, .ref am, md, rf, kn])), (am, .inr (4, [.int mm, .ref (zk 0), .int 0]))] s.heap := hP
  have hD : va_D A [(mo, .inr (9, [th, .ref am, md, rf, kn])), (am, .inr (4, [.int mm, .ref (zk 0), .int 0]))] := hD
  refine lv_aload_n hx hb dX4_areDeep_0 rfl (lv_at hl 0 rfl) ?_
  refine lv_aload_n hx hb dX4_areDeep_1 rfl (lv_at hl 0 rfl) ?_
  refine lv_iload_n hx hb dX4_areDeep_2 rfl (lv_at hl 1 rfl) ?_
  refine lv_iload_n hx hb dX4_areDeep_3 rfl (lv_at hl 2 rfl) ?_
  have hPc := hP.sub (ws' := [(mo, .inr (9, [th, .ref am, md, rf, kn])), (am, .inr (4, [.int mm, .ref (zk 0), .int 0]))]) [0, 1] rfl
  have hDc := hD.sub (ws' := [(mo, .inr (9, [th, .ref am, md, rf, kn])), (am, .inr (4, [.int mm, .ref (zk 0), .int 0]))]) [0, 1] (by decide) rfl
  have hFc := va_free (wc := [(mo, .inr (9, [th, .ref am, md, rf, kn])), (am, .inr (4, [.int mm, .ref (zk 0), .int 0]))]) hD hS hA [0, 1] rfl
  have hDv := hDc.self (sz := s.heap.size)
  have hpre := zpre (xs' := []) (av := [.ref mo, .int p0, .int p1]) hPc hK (hDc.weaken (fun _ _ _ h => h)) hZ hS hFc (fun r hr => by cases hr)
  refine va_calli (va_runV (As := [.int p0, .int p1]) (rest := [.ref mo]) ⟨hx, hb, hml, hown, hts⟩ (k_nPz l dC dI cI cB cR cO zk mo am th md rf kn mm p0 p1 s.heap.size ) (cwV 2 hts gX4_areDeep_X4_isNoPlace rfl rfl rfl (by decide +kernel) ⟨Nat.le_of_ble_eq_true rfl, Nat.le_of_ble_eq_true rfl⟩) ⟨zblind, (zrecv_9 hK hPc (q0 := 0) rfl), hpre⟩ rfl rfl hl.1 rfl (lv_room (Nat.le_of_ble_eq_true rfl)) dX4_areDeep_4 ⟨Nat.le_of_ble_eq_true rfl, Nat.le_of_ble_eq_true rfl⟩) hS (fun q _ h => hFc q h) hFc (fun r2 u t H1 locs ht hvm hw hB hz1 hk1 hS => ?_)
  obtain rfl : 1 = r2 := (show r2 = 1 from hw).symm
  obtain ⟨hP1, hK1, hD1, hz2⟩ := hB
  rw [ht] at hP1 hz2
  have hPD9 := va_join (wr := []) (w1 := [(mo, .inr (9, [th, .ref am, md, rf, kn])), (am, .inr (4, [.int mm, .ref (zk 0), .int 0]))]) hP hD [0, 1] [] rfl rfl (by decide) (by decide) hk1 hFc hP1 hD1
  clear hPc hDc hFc hDv hpre hP hD hP1 hK1 hD1
  obtain ⟨hP, hD⟩ := hPD9
  replace hz : s.heap.size + 0 ≤ H1.size := by omega
  clear hz2
  replace hP : va_P (dC, dI) vwCl [(mo, .inr (9, [th, .ref am, md, rf, kn])), (am, .inr (4, [.int mm, .ref (zk 0), .int 0]))] H1 := hP
  replace hD : va_D A [(mo, .inr (9, [th, .ref am, md, rf, kn])), (am, .inr (4, [.int mm, .ref (zk 0), .int 0]))] := hD
  refine W.widen (k := 0) (n := 0) (by omega) (by omega) ?_
  refine lv_if_ne (tgt := 20) hx hb dX4_areDeep_7 (by decide) (fun c9 => ?_) (fun c9 => ?_)
  rotate_left
  · exact absurd c9 (by decide)
  refine lv_iconst (v := 1) hx hb dX4_areDeep_20 (by decide) ?_
  refine lv_goto (tgt := 25) hx hb dX4_areDeep_21 (by decide) ?_
  refine lv_iconst (v := 1) hx hb dX4_areDeep_25 (by decide) ?_
  have hPc := hP.sub (ws' := [(mo, .inr (9, [th, .ref am, md, rf, kn]))]) [0] rfl
  have hDc := hD.sub (ws' := [(mo, .inr (9, [th, .ref am, md, rf, kn]))]) [0] (by decide) rfl
  have hFc := va_free (wc := [(mo, .inr (9, [th, .ref am, md, rf, kn]))]) hD hS hA [0] rfl
  have hDv := hDc.self (sz := H1.size)
  have hpre := zpre (xs' := []) (av := [.ref mo, .int 1, .int 1]) hPc hK (hDc.weaken (fun _ _ _ h => h)) hZ hS hFc (fun r hr => by cases hr)
  refine va_calli (va_runV (As := [.int 1, .int 1]) (rest := []) ⟨hx, hb, hml, hown, hts⟩ (k_sttz l dC dI cI cB cR cO zk mo am th md rf kn H1.size ) (cwV 2 hts gX4_areDeep_X4_start rfl rfl rfl (by decide +kernel) ⟨Nat.le_of_ble_eq_true rfl, Nat.le_of_ble_eq_true rfl⟩) ⟨zblind, (zrecv_9 hK hPc (q0 := 0) rfl), hpre⟩ rfl rfl hl.1 rfl (lv_room (Nat.le_of_ble_eq_true rfl)) dX4_areDeep_26 ⟨Nat.le_of_ble_eq_true rfl, Nat.le_of_ble_eq_true rfl⟩) hS (fun q _ h => hFc q h) hFc (fun r4 u t H3 locs ht hvm hw hB hz1 hk1 hS => ?_)
  obtain rfl : 1 = r4 := (show r4 = 1 from hw).symm
  obtain ⟨hP1, hK1, hD1, hz2⟩ := hB
  rw [ht] at hP1 hz2
  have hPD9 := va_join (wr := [(am, .inr (4, [.int mm, .ref (zk 0), .int 0]))]) (w1 := [(mo, .inr (9, [.int 1, .ref am, md, rf, kn]))]) hP hD [0] [1] rfl rfl (by decide) (by decide) hk1 hFc hP1 hD1
  clear hPc hDc hFc hDv hpre hP hD hP1 hK1 hD1
  obtain ⟨hP, hD⟩ := hPD9
  replace hz : s.heap.size + 0 ≤ H3.size := by omega
  clear hz2
  replace hP : va_P (dC, dI) vwCl [(am, .inr (4, [.int mm, .ref (zk 0), .int 0])), (mo, .inr (9, [.int 1, .ref am, md, rf, kn]))] H3 := hP
  replace hD : va_D A [(am, .inr (4, [.int mm, .ref (zk 0), .int 0])), (mo, .inr (9, [.int 1, .ref am, md, rf, kn]))] := hD
  refine W.widen (k := 0) (n := 0) (by omega) (by omega) ?_
  refine lv_if_ne (tgt := 81) hx hb dX4_areDeep_29 (by decide) (fun c9 => ?_) (fun c9 => ?_)
  rotate_left
  · exact absurd c9 (by decide)
  refine lv_iconst (v := 0) hx hb dX4_areDeep_81 (by decide) ?_
  have hP9 := hP.sub (ws' := [(mo, .inr (9, [.int 1, .ref am, md, rf, kn])), (am, .inr (4, [.int mm, .ref (zk 0), .int 0]))]) [1, 0] rfl
  have hD9 := hD.sub (ws' := [(mo, .inr (9, [.int 1, .ref am, md, rf, kn])), (am, .inr (4, [.int mm, .ref (zk 0), .int 0]))]) [1, 0] (by decide) rfl
  exact W.zret (v := 0) hx hb hr (by decide +kernel) (fun t ht hW => ⟨⟨_, (), rfl, trivial, ⟨by rw [ht]; exact hP9, va_K.moved hW.alike hK, hD9, by rw [ht]; exact hz⟩⟩, hS.F ht⟩) hS.2.2 dX4_areDeep_82

set_option maxHeartbeats 4000000 in
set_option maxRecDepth 100000 in
theorem k_hashM (l : Launch) (dC : Nat → ClassId) (dI : Nat → Nat → Nat) (cI cB cR cO : ClassId) (zk : Nat → Nat) (mo am : Nat) (th md rf kn : Value) (mm : Int32) (p0 : Int32) (sz : Nat)  : Met l yX4_hash wsX4_hash ({ frames := 2, cells := 0, slots := 0, locals := 44 }) (va_Pc [.ref mo, .int p0] (zPre (dC, dI) (zT cI cB cR cO) zk [] [(mo, .inr (9, [th, .ref am, md, rf, kn])), (am, .inr (4, [.int mm, .ref (zk 0), .int 0]))] sz)) (va_Qi (fun r (_ : Unit) => True) (fun _ t => zEnd (dC, dI) (zT cI cB cR cO) (va_A [(mo, .inr (9, [th, .ref am, md, rf, kn])), (am, .inr (4, [.int mm, .ref (zk 0), .int 0]))] sz) [(mo, .inr (9, [.int 1, .ref am, md, rf, kn])), (am, .inr (4, [.int mm, .ref (zk 0), .int 0]))] sz 0 t) (va_A [(mo, .inr (9, [th, .ref am, md, rf, kn])), (am, .inr (4, [.int mm, .ref (zk 0), .int 0]))] sz)) 0 0 (va_A [(mo, .inr (9, [th, .ref am, md, rf, kn])), (am, .inr (4, [.int mm, .ref (zk 0), .int 0]))] sz) := by
  refine Met.ofW (cc := cX4_hash) (maxL := 2) (ret := (some .int)) (by decide) rfl ?_
  intro p e s mY args below meth c s₁ B hml hv
  obtain ⟨rfl, hsz, hP, hK, hD0, hZ⟩ := hv
  have hx := B.exec
  have hb := B.bytes
  have hr := B.returns
  have hts := atoms_spec (ws := wsX4_hash) B.pre
  have hown : s.vm.findClass RX4 = some mY.cls := findClass_of_methodNamed B.named
  have hlocks := B.notSynchronized
  subst hsz
  have hD := hD0.self (sz := s.heap.size)
  generalize hAe : va_A [(mo, .inr (9, [th, .ref am, md, rf, kn])), (am, .inr (4, [.int mm, .ref (zk 0), .int 0]))] s.heap.size = A at hD hZ ⊢
  have hA : ∀ q : Nat, s.heap.size ≤ q → A q := fun q h => by rw [← hAe]; exact Or.inr h
  have hS : va_S A s.heap s.heap [] := va_S.rf
  have hz : s.heap.size + 0 ≤ s.heap.size := Nat.le_refl _
  have hl := lv_entry ([.ref mo, .int p0]) (n := 2) (Nat.le_of_ble_eq_true rfl)
  rw [lg_entry_eq]
  generalize (lg_sl ([.ref mo, .int p0]) ++ List.replicate (2 - (lg_sl ([.ref mo, .int p0])).length) Slot.unset).toArray = ls at hl ⊢
  have hl : lv_has ls 2 [(0, .ref mo), (1, .int p0)] := hl
  have hP : va_P (dC, dI) vwCl [(mo, .inr (9, [th, .ref am, md, rf, kn])), (am, .inr (4, [.int mm, .ref (zk 0), .int 0]))] s.heap := hP
  have hD : va_D A [(mo, .inr (9, [th, .ref am, md, rf, kn])), (am, .inr (4, [.int mm, .ref (zk 0), .int 0]))] := hD
  refine lv_aload_n hx hb dX4_hash_0 rfl (lv_at hl 0 rfl) ?_
  refine lv_aload_n hx hb dX4_hash_1 rfl (lv_at hl 0 rfl) ?_
  refine lv_iload_n hx hb dX4_hash_2 rfl (lv_at hl 1 rfl) ?_
  have hPc := hP.sub (ws' := [(mo, .inr (9, [th, .ref am, md, rf, kn])), (am, .inr (4, [.int mm, .ref (zk 0), .int 0]))]) [0, 1] rfl
  have hDc := hD.sub (ws' := [(mo, .inr (9, [th, .ref am, md, rf, kn])), (am, .inr (4, [.int mm, .ref (zk 0), .int 0]))]) [0, 1] (by decide) rfl
  have hFc := va_free (wc := [(mo, .inr (9, [th, .ref am, md, rf, kn])), (am, .inr (4, [.int mm, .ref (zk 0), .int 0]))]) hD hS hA [0, 1] rfl
  have hDv := hDc.self (sz := s.heap.size)
  have hpre := zpre (xs' := []) (av := [.ref mo, .int p0]) hPc hK (hDc.weaken (fun _ _ _ h => h)) hZ hS hFc (fun r hr => by cases hr)
  refine va_calli (va_runV (As := [.int p0]) (rest := [.ref mo]) ⟨hx, hb, hml, hown, hts⟩ (k_nRz l dC dI cI cB cR cO zk mo am th md rf kn mm p0 s.heap.size ) (cwV 1 hts gX4_hash_X4_isNoRow rfl rfl rfl (by decide +kernel) ⟨Nat.le_of_ble_eq_true rfl, Nat.le_of_ble_eq_true rfl⟩) ⟨zblind, (zrecv_9 hK hPc (q0 := 0) rfl), hpre⟩ rfl rfl hl.1 rfl (lv_room (Nat.le_of_ble_eq_true rfl)) dX4_hash_3 ⟨Nat.le_of_ble_eq_true rfl, Nat.le_of_ble_eq_true rfl⟩) hS (fun q _ h => hFc q h) hFc (fun r2 u t H1 locs ht hvm hw hB hz1 hk1 hS => ?_)
  obtain rfl : 1 = r2 := (show r2 = 1 from hw).symm
  obtain ⟨hP1, hK1, hD1, hz2⟩ := hB
  rw [ht] at hP1 hz2
  have hPD9 := va_join (wr := []) (w1 := [(mo, .inr (9, [th, .ref am, md, rf, kn])), (am, .inr (4, [.int mm, .ref (zk 0), .int 0]))]) hP hD [0, 1] [] rfl rfl (by decide) (by decide) hk1 hFc hP1 hD1
  clear hPc hDc hFc hDv hpre hP hD hP1 hK1 hD1
  obtain ⟨hP, hD⟩ := hPD9
  replace hz : s.heap.size + 0 ≤ H1.size := by omega
  clear hz2
  replace hP : va_P (dC, dI) vwCl [(mo, .inr (9, [th, .ref am, md, rf, kn])), (am, .inr (4, [.int mm, .ref (zk 0), .int 0]))] H1 := hP
  replace hD : va_D A [(mo, .inr (9, [th, .ref am, md, rf, kn])), (am, .inr (4, [.int mm, .ref (zk 0), .int 0]))] := hD
  refine W.widen (k := 0) (n := 0) (by omega) (by omega) ?_
  refine lv_iconst (v := 1) hx hb dX4_hash_6 (by decide) ?_
  have hPc := hP.sub (ws' := [(mo, .inr (9, [th, .ref am, md, rf, kn]))]) [0] rfl
  have hDc := hD.sub (ws' := [(mo, .inr (9, [th, .ref am, md, rf, kn]))]) [0] (by decide) rfl
  have hFc := va_free (wc := [(mo, .inr (9, [th, .ref am, md, rf, kn]))]) hD hS hA [0] rfl
  have hDv := hDc.self (sz := H1.size)
  have hpre := zpre (xs' := []) (av := [.ref mo, .int 1, .int 1]) hPc hK (hDc.weaken (fun _ _ _ h => h)) hZ hS hFc (fun r hr => by cases hr)
  refine va_calli (va_runV (As := [.int 1, .int 1]) (rest := []) ⟨hx, hb, hml, hown, hts⟩ (k_sttz l dC dI cI cB cR cO zk mo am th md rf kn H1.size ) (cwV 2 hts gX4_hash_X4_start rfl rfl rfl (by decide +kernel) ⟨Nat.le_of_ble_eq_true rfl, Nat.le_of_ble_eq_true rfl⟩) ⟨zblind, (zrecv_9 hK hPc (q0 := 0) rfl), hpre⟩ rfl rfl hl.1 rfl (lv_room (Nat.le_of_ble_eq_true rfl)) dX4_hash_7 ⟨Nat.le_of_ble_eq_true rfl, Nat.le_of_ble_eq_true rfl⟩) hS (fun q _ h => hFc q h) hFc (fun r4 u t H3 locs ht hvm hw hB hz1 hk1 hS => ?_)
  obtain rfl : 1 = r4 := (show r4 = 1 from hw).symm
  obtain ⟨hP1, hK1, hD1, hz2⟩ := hB
  rw [ht] at hP1 hz2
  have hPD9 := va_join (wr := [(am, .inr (4, [.int mm, .ref (zk 0), .int 0]))]) (w1 := [(mo, .inr (9, [.int 1, .ref am, md, rf, kn]))]) hP hD [0] [1] rfl rfl (by decide) (by decide) hk1 hFc hP1 hD1
  clear hPc hDc hFc hDv hpre hP hD hP1 hK1 hD1
  obtain ⟨hP, hD⟩ := hPD9
  replace hz : s.heap.size + 0 ≤ H3.size := by omega
  clear hz2
  replace hP : va_P (dC, dI) vwCl [(am, .inr (4, [.int mm, .ref (zk 0), .int 0])), (mo, .inr (9, [.int 1, .ref am, md, rf, kn]))] H3 := hP
  replace hD : va_D A [(am, .inr (4, [.int mm, .ref (zk 0), .int 0])), (mo, .inr (9, [.int 1, .ref am, md, rf, kn]))] := hD
  refine W.widen (k := 0) (n := 0) (by omega) (by omega) ?_
  refine lv_if_eq (tgt := 17) hx hb dX4_hash_10 (by decide) (fun c9 => ?_) (fun c9 => ?_)
  · exact absurd c9 (by decide)
  refine lv_iconst (v := 0) hx hb dX4_hash_13 (by decide) ?_
  refine lv_goto (tgt := 22) hx hb dX4_hash_14 (by decide) ?_
  have hP9 := hP.sub (ws' := [(mo, .inr (9, [.int 1, .ref am, md, rf, kn])), (am, .inr (4, [.int mm, .ref (zk 0), .int 0]))]) [1, 0] rfl
  have hD9 := hD.sub (ws' := [(mo, .inr (9, [.int 1, .ref am, md, rf, kn])), (am, .inr (4, [.int mm, .ref (zk 0), .int 0]))]) [1, 0] (by decide) rfl
  exact W.iret (v := 0) hx hb hr (fun t ht hW => ⟨⟨_, (), rfl, trivial, ⟨by rw [ht]; exact hP9, va_K.moved hW.alike hK, hD9, by rw [ht]; exact hz⟩⟩, hS.F ht⟩) hS.2.2 dX4_hash_22

set_option maxHeartbeats 4000000 in
set_option maxRecDepth 100000 in
theorem k_flatHashM (l : Launch) (dC : Nat → ClassId) (dI : Nat → Nat → Nat) (cI cB cR cO : ClassId) (zk : Nat → Nat) (mo am : Nat) (th md rf kn : Value) (mm : Int32) (p0 : Int32) (sz : Nat)  : Met l yX4_flatHash wsX4_flatHash ({ frames := 2, cells := 0, slots := 0, locals := 44 }) (va_Pc [.ref mo, .int p0] (zPre (dC, dI) (zT cI cB cR cO) zk [] [(mo, .inr (9, [th, .ref am, md, rf, kn])), (am, .inr (4, [.int mm, .ref (zk 0), .int 0]))] sz)) (va_Qi (fun r (_ : Unit) => True) (fun _ t => zEnd (dC, dI) (zT cI cB cR cO) (va_A [(mo, .inr (9, [th, .ref am, md, rf, kn])), (am, .inr (4, [.int mm, .ref (zk 0), .int 0]))] sz) [(mo, .inr (9, [.int 1, .ref am, md, rf, kn])), (am, .inr (4, [.int mm, .ref (zk 0), .int 0]))] sz 0 t) (va_A [(mo, .inr (9, [th, .ref am, md, rf, kn])), (am, .inr (4, [.int mm, .ref (zk 0), .int 0]))] sz)) 0 0 (va_A [(mo, .inr (9, [th, .ref am, md, rf, kn])), (am, .inr (4, [.int mm, .ref (zk 0), .int 0]))] sz) := by
  refine Met.ofW (cc := cX4_flatHash) (maxL := 2) (ret := (some .int)) (by decide) rfl ?_
  intro p e s mY args below meth c s₁ B hml hv
  obtain ⟨rfl, hsz, hP, hK, hD0, hZ⟩ := hv
  have hx := B.exec
  have hb := B.bytes
  have hr := B.returns
  have hts := atoms_spec (ws := wsX4_flatHash) B.pre
  have hown : s.vm.findClass RX4 = some mY.cls := findClass_of_methodNamed B.named
  have hlocks := B.notSynchronized
  subst hsz
  have hD := hD0.self (sz := s.heap.size)
  generalize hAe : va_A [(mo, .inr (9, [th, .ref am, md, rf, kn])), (am, .inr (4, [.int mm, .ref (zk 0), .int 0]))] s.heap.size = A at hD hZ ⊢
  have hA : ∀ q : Nat, s.heap.size ≤ q → A q := fun q h => by rw [← hAe]; exact Or.inr h
  have hS : va_S A s.heap s.heap [] := va_S.rf
  have hz : s.heap.size + 0 ≤ s.heap.size := Nat.le_refl _
  have hl := lv_entry ([.ref mo, .int p0]) (n := 2) (Nat.le_of_ble_eq_true rfl)
  rw [lg_entry_eq]
  generalize (lg_sl ([.ref mo, .int p0]) ++ List.replicate (2 - (lg_sl ([.ref mo, .int p0])).length) Slot.unset).toArray = ls at hl ⊢
  have hl : lv_has ls 2 [(0, .ref mo), (1, .int p0)] := hl
  have hP : va_P (dC, dI) vwCl [(mo, .inr (9, [th, .ref am, md, rf, kn])), (am, .inr (4, [.int mm, .ref (zk 0), .int 0]))] s.heap := hP
  have hD : va_D A [(mo, .inr (9, [th, .ref am, md, rf, kn])), (am, .inr (4, [.int mm, .ref (zk 0), .int 0]))] := hD
  refine lv_aload_n hx hb dX4_flatHash_0 rfl (lv_at hl 0 rfl) ?_
  refine lv_aload_n hx hb dX4_flatHash_1 rfl (lv_at hl 0 rfl) ?_
  refine lv_iload_n hx hb dX4_flatHash_2 rfl (lv_at hl 1 rfl) ?_
  have hPc := hP.sub (ws' := [(mo, .inr (9, [th, .ref am, md, rf, kn])), (am, .inr (4, [.int mm, .ref (zk 0), .int 0]))]) [0, 1] rfl
  have hDc := hD.sub (ws' := [(mo, .inr (9, [th, .ref am, md, rf, kn])), (am, .inr (4, [.int mm, .ref (zk 0), .int 0]))]) [0, 1] (by decide) rfl
  have hFc := va_free (wc := [(mo, .inr (9, [th, .ref am, md, rf, kn])), (am, .inr (4, [.int mm, .ref (zk 0), .int 0]))]) hD hS hA [0, 1] rfl
  have hDv := hDc.self (sz := s.heap.size)
  have hpre := zpre (xs' := []) (av := [.ref mo, .int p0]) hPc hK (hDc.weaken (fun _ _ _ h => h)) hZ hS hFc (fun r hr => by cases hr)
  refine va_calli (va_runV (As := [.int p0]) (rest := [.ref mo]) ⟨hx, hb, hml, hown, hts⟩ (k_nRz l dC dI cI cB cR cO zk mo am th md rf kn mm p0 s.heap.size ) (cwV 1 hts gX4_flatHash_X4_isNoRow rfl rfl rfl (by decide +kernel) ⟨Nat.le_of_ble_eq_true rfl, Nat.le_of_ble_eq_true rfl⟩) ⟨zblind, (zrecv_9 hK hPc (q0 := 0) rfl), hpre⟩ rfl rfl hl.1 rfl (lv_room (Nat.le_of_ble_eq_true rfl)) dX4_flatHash_3 ⟨Nat.le_of_ble_eq_true rfl, Nat.le_of_ble_eq_true rfl⟩) hS (fun q _ h => hFc q h) hFc (fun r2 u t H1 locs ht hvm hw hB hz1 hk1 hS => ?_)
  obtain rfl : 1 = r2 := (show r2 = 1 from hw).symm
  obtain ⟨hP1, hK1, hD1, hz2⟩ := hB
  rw [ht] at hP1 hz2
  have hPD9 := va_join (wr := []) (w1 := [(mo, .inr (9, [th, .ref am, md, rf, kn])), (am, .inr (4, [.int mm, .ref (zk 0), .int 0]))]) hP hD [0, 1] [] rfl rfl (by decide) (by decide) hk1 hFc hP1 hD1
  clear hPc hDc hFc hDv hpre hP hD hP1 hK1 hD1
  obtain ⟨hP, hD⟩ := hPD9
  replace hz : s.heap.size + 0 ≤ H1.size := by omega
  clear hz2
  replace hP : va_P (dC, dI) vwCl [(mo, .inr (9, [th, .ref am, md, rf, kn])), (am, .inr (4, [.int mm, .ref (zk 0), .int 0]))] H1 := hP
  replace hD : va_D A [(mo, .inr (9, [th, .ref am, md, rf, kn])), (am, .inr (4, [.int mm, .ref (zk 0), .int 0]))] := hD
  refine W.widen (k := 0) (n := 0) (by omega) (by omega) ?_
  refine lv_iconst (v := 1) hx hb dX4_flatHash_6 (by decide) ?_
  have hPc := hP.sub (ws' := [(mo, .inr (9, [th, .ref am, md, rf, kn]))]) [0] rfl
  have hDc := hD.sub (ws' := [(mo, .inr (9, [th, .ref am, md, rf, kn]))]) [0] (by decide) rfl
  have hFc := va_free (wc := [(mo, .inr (9, [th, .ref am, md, rf, kn]))]) hD hS hA [0] rfl
  have hDv := hDc.self (sz := H1.size)
  have hpre := zpre (xs' := []) (av := [.ref mo, .int 1, .int 1]) hPc hK (hDc.weaken (fun _ _ _ h => h)) hZ hS hFc (fun r hr => by cases hr)
  refine va_calli (va_runV (As := [.int 1, .int 1]) (rest := []) ⟨hx, hb, hml, hown, hts⟩ (k_sttz l dC dI cI cB cR cO zk mo am th md rf kn H1.size ) (cwV 2 hts gX4_flatHash_X4_start rfl rfl rfl (by decide +kernel) ⟨Nat.le_of_ble_eq_true rfl, Nat.le_of_ble_eq_true rfl⟩) ⟨zblind, (zrecv_9 hK hPc (q0 := 0) rfl), hpre⟩ rfl rfl hl.1 rfl (lv_room (Nat.le_of_ble_eq_true rfl)) dX4_flatHash_7 ⟨Nat.le_of_ble_eq_true rfl, Nat.le_of_ble_eq_true rfl⟩) hS (fun q _ h => hFc q h) hFc (fun r4 u t H3 locs ht hvm hw hB hz1 hk1 hS => ?_)
  obtain rfl : 1 = r4 := (show r4 = 1 from hw).symm
  obtain ⟨hP1, hK1, hD1, hz2⟩ := hB
  rw [ht] at hP1 hz2
  have hPD9 := va_join (wr := [(am, .inr (4, [.int mm, .ref (zk 0), .int 0]))]) (w1 := [(mo, .inr (9, [.int 1, .ref am, md, rf, kn]))]) hP hD [0] [1] rfl rfl (by decide) (by decide) hk1 hFc hP1 hD1
  clear hPc hDc hFc hDv hpre hP hD hP1 hK1 hD1
  obtain ⟨hP, hD⟩ := hPD9
  replace hz : s.heap.size + 0 ≤ H3.size := by omega
  clear hz2
  replace hP : va_P (dC, dI) vwCl [(am, .inr (4, [.int mm, .ref (zk 0), .int 0])), (mo, .inr (9, [.int 1, .ref am, md, rf, kn]))] H3 := hP
  replace hD : va_D A [(am, .inr (4, [.int mm, .ref (zk 0), .int 0])), (mo, .inr (9, [.int 1, .ref am, md, rf, kn]))] := hD
  refine W.widen (k := 0) (n := 0) (by omega) (by omega) ?_
  refine lv_if_ne (tgt := 35) hx hb dX4_flatHash_10 (by decide) (fun c9 => ?_) (fun c9 => ?_)
  rotate_left
  · exact absurd c9 (by decide)
  refine lv_iconst (v := 0) hx hb dX4_flatHash_35 (by decide) ?_
  refine lv_goto (tgt := 44) hx hb dX4_flatHash_36 (by decide) ?_
  have hP9 := hP.sub (ws' := [(mo, .inr (9, [.int 1, .ref am, md, rf, kn])), (am, .inr (4, [.int mm, .ref (zk 0), .int 0]))]) [1, 0] rfl
  have hD9 := hD.sub (ws' := [(mo, .inr (9, [.int 1, .ref am, md, rf, kn])), (am, .inr (4, [.int mm, .ref (zk 0), .int 0]))]) [1, 0] (by decide) rfl
  exact W.iret (v := 0) hx hb hr (fun t ht hW => ⟨⟨_, (), rfl, trivial, ⟨by rw [ht]; exact hP9, va_K.moved hW.alike hK, hD9, by rw [ht]; exact hz⟩⟩, hS.F ht⟩) hS.2.2 dX4_flatHash_44

set_option maxHeartbeats 4000000 in
set_option maxRecDepth 100000 in
theorem k_textM (l : Launch) (dC : Nat → ClassId) (dI : Nat → Nat → Nat) (cI cB cR cO : ClassId) (zk : Nat → Nat) (mo am : Nat) (th md rf kn : Value) (mm : Int32) (p0 : Int32) (sz : Nat)  : Met l yX4_text wsX4_text ({ frames := 2, cells := 0, slots := 0, locals := 44 }) (va_Pc [.ref mo, .int p0] (zPre (dC, dI) (zT cI cB cR cO) zk [] [(mo, .inr (9, [th, .ref am, md, rf, kn])), (am, .inr (4, [.int mm, .ref (zk 0), .int 0]))] sz)) (va_Qr (fun _ : Unit => True) (fun _ ra t => zEnd (dC, dI) (zT cI cB cR cO) (va_A [(mo, .inr (9, [th, .ref am, md, rf, kn])), (am, .inr (4, [.int mm, .ref (zk 0), .int 0]))] sz) [(mo, .inr (9, [.int 1, .ref am, md, rf, kn])), (am, .inr (4, [.int mm, .ref (zk 0), .int 0]))] sz 0 t) (va_A [(mo, .inr (9, [th, .ref am, md, rf, kn])), (am, .inr (4, [.int mm, .ref (zk 0), .int 0]))] sz)) 0 0 (va_A [(mo, .inr (9, [th, .ref am, md, rf, kn])), (am, .inr (4, [.int mm, .ref (zk 0), .int 0]))] sz) := by
  refine Met.ofW (cc := cX4_text) (maxL := 2) (ret := (some (.object "java/lang/String"))) (by decide) rfl ?_
  intro p e s mY args below meth c s₁ B hml hv
  obtain ⟨rfl, hsz, hP, hK, hD0, hZ⟩ := hv
  have hx := B.exec
  have hb := B.bytes
  have hr := B.returns
  have hts := atoms_spec (ws := wsX4_text) B.pre
  have hown : s.vm.findClass RX4 = some mY.cls := findClass_of_methodNamed B.named
  have hlocks := B.notSynchronized
  subst hsz
  have hD := hD0.self (sz := s.heap.size)
  generalize hAe : va_A [(mo, .inr (9, [th, .ref am, md, rf, kn])), (am, .inr (4, [.int mm, .ref (zk 0), .int 0]))] s.heap.size = A at hD hZ ⊢
  have hA : ∀ q : Nat, s.heap.size ≤ q → A q := fun q h => by rw [← hAe]; exact Or.inr h
  have hS : va_S A s.heap s.heap [] := va_S.rf
  have hz : s.heap.size + 0 ≤ s.heap.size := Nat.le_refl _
  have hl := lv_entry ([.ref mo, .int p0]) (n := 2) (Nat.le_of_ble_eq_true rfl)
  rw [lg_entry_eq]
  generalize (lg_sl ([.ref mo, .int p0]) ++ List.replicate (2 - (lg_sl ([.ref mo, .int p0])).length) Slot.unset).toArray = ls at hl ⊢
  have hl : lv_has ls 2 [(0, .ref mo), (1, .int p0)] := hl
  have hP : va_P (dC, dI) vwCl [(mo, .inr (9, [th, .ref am, md, rf, kn])), (am, .inr (4, [.int mm, .ref (zk 0), .int 0]))] s.heap := hP
  have hD : va_D A [(mo, .inr (9, [th, .ref am, md, rf, kn])), (am, .inr (4, [.int mm, .ref (zk 0), .int 0]))] := hD
  refine lv_aload_n hx hb dX4_text_0 rfl (lv_at hl 0 rfl) ?_
  refine lv_aload_n hx hb dX4_text_1 rfl (lv_at hl 0 rfl) ?_
  refine lv_iload_n hx hb dX4_text_2 rfl (lv_at hl 1 rfl) ?_
  have hPc := hP.sub (ws' := [(mo, .inr (9, [th, .ref am, md, rf, kn])), (am, .inr (4, [.int mm, .ref (zk 0), .int 0]))]) [0, 1] rfl
  have hDc := hD.sub (ws' := [(mo, .inr (9, [th, .ref am, md, rf, kn])), (am, .inr (4, [.int mm, .ref (zk 0), .int 0]))]) [0, 1] (by decide) rfl
  have hFc := va_free (wc := [(mo, .inr (9, [th, .ref am, md, rf, kn])), (am, .inr (4, [.int mm, .ref (zk 0), .int 0]))]) hD hS hA [0, 1] rfl
  have hDv := hDc.self (sz := s.heap.size)
  have hpre := zpre (xs' := []) (av := [.ref mo, .int p0]) hPc hK (hDc.weaken (fun _ _ _ h => h)) hZ hS hFc (fun r hr => by cases hr)
  refine va_calli (va_runV (As := [.int p0]) (rest := [.ref mo]) ⟨hx, hb, hml, hown, hts⟩ (k_nRz l dC dI cI cB cR cO zk mo am th md rf kn mm p0 s.heap.size ) (cwV 1 hts gX4_text_X4_isNoRow rfl rfl rfl (by decide +kernel) ⟨Nat.le_of_ble_eq_true rfl, Nat.le_of_ble_eq_true rfl⟩) ⟨zblind, (zrecv_9 hK hPc (q0 := 0) rfl), hpre⟩ rfl rfl hl.1 rfl (lv_room (Nat.le_of_ble_eq_true rfl)) dX4_text_3 ⟨Nat.le_of_ble_eq_true rfl, Nat.le_of_ble_eq_true rfl⟩) hS (fun q _ h => hFc q h) hFc (fun r2 u t H1 locs ht hvm hw hB hz1 hk1 hS => ?_)
  obtain rfl : 1 = r2 := (show r2 = 1 from hw).symm
  obtain ⟨hP1, hK1, hD1, hz2⟩ := hB
  rw [ht] at hP1 hz2
  have hPD9 := va_join (wr := []) (w1 := [(mo, .inr (9, [th, .ref am, md, rf, kn])), (am, .inr (4, [.int mm, .ref (zk 0), .int 0]))]) hP hD [0, 1] [] rfl rfl (by decide) (by decide) hk1 hFc hP1 hD1
  clear hPc hDc hFc hDv hpre hP hD hP1 hK1 hD1
  obtain ⟨hP, hD⟩ := hPD9
  replace hz : s.heap.size + 0 ≤ H1.size := by omega
  clear hz2
  replace hP : va_P (dC, dI) vwCl [(mo, .inr (9, [th, .ref am, md, rf, kn])), (am, .inr (4, [.int mm, .ref (zk 0), .int 0]))] H1 := hP
  replace hD : va_D A [(mo, .inr (9, [th, .ref am, md, rf, kn])), (am, .inr (4, [.int mm, .ref (zk 0), .int 0]))] := hD
  refine W.widen (k := 0) (n := 0) (by omega) (by omega) ?_
  refine lv_iconst (v := 1) hx hb dX4_text_6 (by decide) ?_
  have hPc := hP.sub (ws' := [(mo, .inr (9, [th, .ref am, md, rf, kn]))]) [0] rfl
  have hDc := hD.sub (ws' := [(mo, .inr (9, [th, .ref am, md, rf, kn]))]) [0] (by decide) rfl
  have hFc := va_free (wc := [(mo, .inr (9, [th, .ref am, md, rf, kn]))]) hD hS hA [0] rfl
  have hDv := hDc.self (sz := H1.size)
  have hpre := zpre (xs' := []) (av := [.ref mo, .int 1, .int 1]) hPc hK (hDc.weaken (fun _ _ _ h => h)) hZ hS hFc (fun r hr => by cases hr)
  refine va_calli (va_runV (As := [.int 1, .int 1]) (rest := []) ⟨hx, hb, hml, hown, hts⟩ (k_sttz l dC dI cI cB cR cO zk mo am th md rf kn H1.size ) (cwV 2 hts gX4_text_X4_start rfl rfl rfl (by decide +kernel) ⟨Nat.le_of_ble_eq_true rfl, Nat.le_of_ble_eq_true rfl⟩) ⟨zblind, (zrecv_9 hK hPc (q0 := 0) rfl), hpre⟩ rfl rfl hl.1 rfl (lv_room (Nat.le_of_ble_eq_true rfl)) dX4_text_7 ⟨Nat.le_of_ble_eq_true rfl, Nat.le_of_ble_eq_true rfl⟩) hS (fun q _ h => hFc q h) hFc (fun r4 u t H3 locs ht hvm hw hB hz1 hk1 hS => ?_)
  obtain rfl : 1 = r4 := (show r4 = 1 from hw).symm
  obtain ⟨hP1, hK1, hD1, hz2⟩ := hB
  rw [ht] at hP1 hz2
  have hPD9 := va_join (wr := [(am, .inr (4, [.int mm, .ref (zk 0), .int 0]))]) (w1 := [(mo, .inr (9, [.int 1, .ref am, md, rf, kn]))]) hP hD [0] [1] rfl rfl (by decide) (by decide) hk1 hFc hP1 hD1
  clear hPc hDc hFc hDv hpre hP hD hP1 hK1 hD1
  obtain ⟨hP, hD⟩ := hPD9
  replace hz : s.heap.size + 0 ≤ H3.size := by omega
  clear hz2
  replace hP : va_P (dC, dI) vwCl [(am, .inr (4, [.int mm, .ref (zk 0), .int 0])), (mo, .inr (9, [.int 1, .ref am, md, rf, kn]))] H3 := hP
  replace hD : va_D A [(am, .inr (4, [.int mm, .ref (zk 0), .int 0])), (mo, .inr (9, [.int 1, .ref am, md, rf, kn]))] := hD
  refine W.widen (k := 0) (n := 0) (by omega) (by omega) ?_
  refine lv_if_eq (tgt := 18) hx hb dX4_text_10 (by decide) (fun c9 => ?_) (fun c9 => ?_)
  · exact absurd c9 (by decide)
  refine va_ldcS (own := RX4) (tx := "") (q := zk 6) hx hb hown (zl5 hZ) dX4_text_13 ?_
  refine lv_goto (tgt := 23) hx hb dX4_text_15 (by decide) ?_
  have hP9 := hP.sub (ws' := [(mo, .inr (9, [.int 1, .ref am, md, rf, kn])), (am, .inr (4, [.int mm, .ref (zk 0), .int 0]))]) [1, 0] rfl
  have hD9 := hD.sub (ws' := [(mo, .inr (9, [.int 1, .ref am, md, rf, kn])), (am, .inr (4, [.int mm, .ref (zk 0), .int 0]))]) [1, 0] (by decide) rfl
  exact W.aret hx hb hr (by first | exact Or.inl ⟨_, rfl⟩ | exact Or.inr ⟨_, rfl⟩) (Or.inr ⟨_, rfl⟩) (fun t ht hW => ⟨⟨(), _, rfl, trivial, ⟨by rw [ht]; exact hP9, va_K.moved hW.alike hK, hD9, by rw [ht]; exact hz⟩⟩, hS.F ht⟩) hS.2.2 dX4_text_23

set_option maxHeartbeats 4000000 in
set_option maxRecDepth 100000 in
theorem k_differM (l : Launch) (dC : Nat → ClassId) (dI : Nat → Nat → Nat) (cI cB cR cO : ClassId) (zk : Nat → Nat) (mo am : Nat) (th md rf kn : Value) (mm : Int32) (p0 p1 : Int32) (sz : Nat)  : Met l yX4_differ wsX4_differ ({ frames := 2, cells := 0, slots := 0, locals := 44 }) (va_Pc [.ref mo, .int p0, .int p1] (zPre (dC, dI) (zT cI cB cR cO) zk [] [(mo, .inr (9, [th, .ref am, md, rf, kn])), (am, .inr (4, [.int mm, .ref (zk 0), .int 0]))] sz)) (va_Qi (fun r (_ : Unit) => True) (fun _ t => zEnd (dC, dI) (zT cI cB cR cO) (va_A [(mo, .inr (9, [th, .ref am, md, rf, kn])), (am, .inr (4, [.int mm, .ref (zk 0), .int 0]))] sz) [(mo, .inr (9, [.int 1, .ref am, md, rf, kn])), (am, .inr (4, [.int mm, .ref (zk 0), .int 0]))] sz 0 t) (va_A [(mo, .inr (9, [th, .ref am, md, rf, kn])), (am, .inr (4, [.int mm, .ref (zk 0), .int 0]))] sz)) 0 0 (va_A [(mo, .inr (9, [th, .ref am, md, rf, kn])), (am, .inr (4, [.int mm, .ref (zk 0), .int 0]))] sz) := by
  refine Met.ofW (cc := cX4_differ) (maxL := 3) (ret := (some .int)) (by decide) rfl ?_
  intro p e s mY args below meth c s₁ B hml hv
  obtain ⟨rfl, hsz, hP, hK, hD0, hZ⟩ := hv
  have hx := B.exec
  have hb := B.bytes
  have hr := B.returns
  have hts := atoms_spec (ws := wsX4_differ) B.pre
  have hown : s.vm.findClass RX4 = some mY.cls := findClass_of_methodNamed B.named
  have hlocks := B.notSynchronized
  subst hsz
  have hD := hD0.self (sz := s.heap.size)
  generalize hAe : va_A [(mo, .inr (9, [th, .ref am, md, rf, kn])), (am, .inr (4, [.int mm, .ref (zk 0), .int 0]))] s.heap.size = A at hD hZ ⊢
  have hA : ∀ q : Nat, s.heap.size ≤ q → A q := fun q h => by rw [← hAe]; exact Or.inr h
  have hS : va_S A s.heap s.heap [] := va_S.rf
  have hz : s.heap.size + 0 ≤ s.heap.size := Nat.le_refl _
  have hl := lv_entry ([.ref mo, .int p0, .int p1]) (n := 3) (Nat.le_of_ble_eq_true rfl)
  rw [lg_entry_eq]
  generalize (lg_sl ([.ref mo, .int p0, .int p1]) ++ List.replicate (3 - (lg_sl ([.ref mo, .int p0, .int p1])).length) Slot.unset).toArray = ls at hl ⊢
  have hl : lv_has ls 3 [(0, .ref mo), (1, .int p0), (2, .int p1)] := hl
  have hP : va_P (dC, dI) vwCl [(mo, .inr (9, [th, .ref am, md, rf, kn])), (am, .inr (4, [.int mm, .ref (zk 0), .int 0]))] s.heap := hP
  have hD : va_D A [(mo, .inr (9, [th, .ref am, md, rf, kn])), (am, .inr (4, [.int mm, .ref (zk 0), .int 0]))] := hD
  refine lv_aload_n hx hb dX4_differ_0 rfl (lv_at hl 0 rfl) ?_
  refine lv_aload_n hx hb dX4_differ_1 rfl (lv_at hl 0 rfl) ?_
  refine lv_iload_n hx hb dX4_differ_2 rfl (lv_at hl 1 rfl) ?_
  have hPc := hP.sub (ws' := [(mo, .inr (9, [th, .ref am, md, rf, kn])), (am, .inr (4, [.int mm, .ref (zk 0), .int 0]))]) [0, 1] rfl
  have hDc := hD.sub (ws' := [(mo, .inr (9, [th, .ref am, md, rf, kn])), (am, .inr (4, [.int mm, .ref (zk 0), .int 0]))]) [0, 1] (by decide) rfl
  have hFc := va_free (wc := [(mo, .inr (9, [th, .ref am, md, rf, kn])), (am, .inr (4, [.int mm, .ref (zk 0), .int 0]))]) hD hS hA [0, 1] rfl
  have hDv := hDc.self (sz := s.heap.size)
  have hpre := zpre (xs' := []) (av := [.ref mo, .int p0]) hPc hK (hDc.weaken (fun _ _ _ h => h)) hZ hS hFc (fun r hr => by cases hr)
  refine va_calli (va_runV (As := [.int p0]) (rest := [.ref mo]) ⟨hx, hb, hml, hown, hts⟩ (k_nRz l dC dI cI cB cR cO zk mo am th md rf kn mm p0 s.heap.size ) (cwV 1 hts gX4_differ_X4_isNoRow rfl rfl rfl (by decide +kernel) ⟨Nat.le_of_ble_eq_true rfl, Nat.le_of_ble_eq_true rfl⟩) ⟨zblind, (zrecv_9 hK hPc (q0 := 0) rfl), hpre⟩ rfl rfl hl.1 rfl (lv_room (Nat.le_of_ble_eq_true rfl)) dX4_differ_3 ⟨Nat.le_of_ble_eq_true rfl, Nat.le_of_ble_eq_true rfl⟩) hS (fun q _ h => hFc q h) hFc (fun r2 u t H1 locs ht hvm hw hB hz1 hk1 hS => ?_)
  obtain rfl : 1 = r2 := (show r2 = 1 from hw).symm
  obtain ⟨hP1, hK1, hD1, hz2⟩ := hB
  rw [ht] at hP1 hz2
  have hPD9 := va_join (wr := []) (w1 := [(mo, .inr (9, [th, .ref am, md, rf, kn])), (am, .inr (4, [.int mm, .ref (zk 0), .int 0]))]) hP hD [0, 1] [] rfl rfl (by decide) (by decide) hk1 hFc hP1 hD1
  clear hPc hDc hFc hDv hpre hP hD hP1 hK1 hD1
  obtain ⟨hP, hD⟩ := hPD9
  replace hz : s.heap.size + 0 ≤ H1.size := by omega
  clear hz2
  replace hP : va_P (dC, dI) vwCl [(mo, .inr (9, [th, .ref am, md, rf, kn])), (am, .inr (4, [.int mm, .ref (zk 0), .int 0]))] H1 := hP
  replace hD : va_D A [(mo, .inr (9, [th, .ref am, md, rf, kn])), (am, .inr (4, [.int mm, .ref (zk 0), .int 0]))] := hD
  refine W.widen (k := 0) (n := 0) (by omega) (by omega) ?_
  refine lv_if_ne (tgt := 17) hx hb dX4_differ_6 (by decide) (fun c9 => ?_) (fun c9 => ?_)
  rotate_left
  · exact absurd c9 (by decide)
  refine lv_iconst (v := 1) hx hb dX4_differ_17 (by decide) ?_
  refine lv_goto (tgt := 22) hx hb dX4_differ_18 (by decide) ?_
  refine lv_iconst (v := 1) hx hb dX4_differ_22 (by decide) ?_
  have hPc := hP.sub (ws' := [(mo, .inr (9, [th, .ref am, md, rf, kn]))]) [0] rfl
  have hDc := hD.sub (ws' := [(mo, .inr (9, [th, .ref am, md, rf, kn]))]) [0] (by decide) rfl
  have hFc := va_free (wc := [(mo, .inr (9, [th, .ref am, md, rf, kn]))]) hD hS hA [0] rfl
  have hDv := hDc.self (sz := H1.size)
  have hpre := zpre (xs' := []) (av := [.ref mo, .int 1, .int 1]) hPc hK (hDc.weaken (fun _ _ _ h => h)) hZ hS hFc (fun r hr => by cases hr)
  refine va_calli (va_runV (As := [.int 1, .int 1]) (rest := []) ⟨hx, hb, hml, hown, hts⟩ (k_sttz l dC dI cI cB cR cO zk mo am th md rf kn H1.size ) (cwV 2 hts gX4_differ_X4_start rfl rfl rfl (by decide +kernel) ⟨Nat.le_of_ble_eq_true rfl, Nat.le_of_ble_eq_true rfl⟩) ⟨zblind, (zrecv_9 hK hPc (q0 := 0) rfl), hpre⟩ rfl rfl hl.1 rfl (lv_room (Nat.le_of_ble_eq_true rfl)) dX4_differ_23 ⟨Nat.le_of_ble_eq_true rfl, Nat.le_of_ble_eq_true rfl⟩) hS (fun q _ h => hFc q h) hFc (fun r4 u t H3 locs ht hvm hw hB hz1 hk1 hS => ?_)
  obtain rfl : 1 = r4 := (show r4 = 1 from hw).symm
  obtain ⟨hP1, hK1, hD1, hz2⟩ := hB
  rw [ht] at hP1 hz2
  have hPD9 := va_join (wr := [(am, .inr (4, [.int mm, .ref (zk 0), .int 0]))]) (w1 := [(mo, .inr (9, [.int 1, .ref am, md, rf, kn]))]) hP hD [0] [1] rfl rfl (by decide) (by decide) hk1 hFc hP1 hD1
  clear hPc hDc hFc hDv hpre hP hD hP1 hK1 hD1
  obtain ⟨hP, hD⟩ := hPD9
  replace hz : s.heap.size + 0 ≤ H3.size := by omega
  clear hz2
  replace hP : va_P (dC, dI) vwCl [(am, .inr (4, [.int mm, .ref (zk 0), .int 0])), (mo, .inr (9, [.int 1, .ref am, md, rf, kn]))] H3 := hP
  replace hD : va_D A [(am, .inr (4, [.int mm, .ref (zk 0), .int 0])), (mo, .inr (9, [.int 1, .ref am, md, rf, kn]))] := hD
  refine W.widen (k := 0) (n := 0) (by omega) (by omega) ?_
  refine lv_if_ne (tgt := 43) hx hb dX4_differ_26 (by decide) (fun c9 => ?_) (fun c9 => ?_)
  rotate_left
  · exact absurd c9 (by decide)
  refine lv_iconst (v := 0) hx hb dX4_differ_43 (by decide) ?_
  refine lv_goto (tgt := 53) hx hb dX4_differ_44 (by decide) ?_
  have hP9 := hP.sub (ws' := [(mo, .inr (9, [.int 1, .ref am, md, rf, kn])), (am, .inr (4, [.int mm, .ref (zk 0), .int 0]))]) [1, 0] rfl
  have hD9 := hD.sub (ws' := [(mo, .inr (9, [.int 1, .ref am, md, rf, kn])), (am, .inr (4, [.int mm, .ref (zk 0), .int 0]))]) [1, 0] (by decide) rfl
  exact W.iret (v := 0) hx hb hr (fun t ht hW => ⟨⟨_, (), rfl, trivial, ⟨by rw [ht]; exact hP9, va_K.moved hW.alike hK, hD9, by rw [ht]; exact hz⟩⟩, hS.F ht⟩) hS.2.2 dX4_differ_53

set_option maxHeartbeats 4000000 in
set_option maxRecDepth 100000 in
theorem k_compareM (l : Launch) (dC : Nat → ClassId) (dI : Nat → Nat → Nat) (cI cB cR cO : ClassId) (zk : Nat → Nat) (mo am : Nat) (th md rf kn : Value) (mm : Int32) (p0 p1 : Int32) (sz : Nat)  : Met l yX4_compare wsX4_compare ({ frames := 2, cells := 0, slots := 0, locals := 44 }) (va_Pc [.ref mo, .int p0, .int p1] (zPre (dC, dI) (zT cI cB cR cO) zk [] [(mo, .inr (9, [th, .ref am, md, rf, kn])), (am, .inr (4, [.int mm, .ref (zk 0), .int 0]))] sz)) (va_Qi (fun r (_ : Unit) => True) (fun _ t => zEnd (dC, dI) (zT cI cB cR cO) (va_A [(mo, .inr (9, [th, .ref am, md, rf, kn])), (am, .inr (4, [.int mm, .ref (zk 0), .int 0]))] sz) [(mo, .inr (9, [.int 1, .ref am, md, rf, kn])), (am, .inr (4, [.int mm, .ref (zk 0), .int 0]))] sz 0 t) (va_A [(mo, .inr (9, [th, .ref am, md, rf, kn])), (am, .inr (4, [.int mm, .ref (zk 0), .int 0]))] sz)) 0 0 (va_A [(mo, .inr (9, [th, .ref am, md, rf, kn])), (am, .inr (4, [.int mm, .ref (zk 0), .int 0]))] sz) := by
  refine Met.ofW (cc := cX4_compare) (maxL := 6) (ret := (some .int)) (by decide) rfl ?_
  intro p e s mY args below meth c s₁ B hml hv
  obtain ⟨rfl, hsz, hP, hK, hD0, hZ⟩ := hv
  have hx := B.exec
  have hb := B.bytes
  have hr := B.returns
  have hts := atoms_spec (ws := wsX4_compare) B.pre
  have hown : s.vm.findClass RX4 = some mY.cls := findClass_of_methodNamed B.named
  have hlocks := B.notSynchronized
  subst hsz
  have hD := hD0.self (sz := s.heap.size)
  generalize hAe : va_A [(mo, .inr (9, [th, .ref am, md, rf, kn])), (am, .inr (4, [.int mm, .ref (zk 0), .int 0]))] s.heap.size = A at hD hZ ⊢
  have hA : ∀ q : Nat, s.heap.size ≤ q → A q := fun q h => by rw [← hAe]; exact Or.inr h
  have hS : va_S A s.heap s.heap [] := va_S.rf
  have hz : s.heap.size + 0 ≤ s.heap.size := Nat.le_refl _
  have hl := lv_entry ([.ref mo, .int p0, .int p1]) (n := 6) (Nat.le_of_ble_eq_true rfl)
  rw [lg_entry_eq]
  generalize (lg_sl ([.ref mo, .int p0, .int p1]) ++ List.replicate (6 - (lg_sl ([.ref mo, .int p0, .int p1])).length) Slot.unset).toArray = ls at hl ⊢
  have hl : lv_has ls 6 [(0, .ref mo), (1, .int p0), (2, .int p1)] := hl
  have hP : va_P (dC, dI) vwCl [(mo, .inr (9, [th, .ref am, md, rf, kn])), (am, .inr (4, [.int mm, .ref (zk 0), .int 0]))] s.heap := hP
  have hD : va_D A [(mo, .inr (9, [th, .ref am, md, rf, kn])), (am, .inr (4, [.int mm, .ref (zk 0), .int 0]))] := hD
  refine lv_aload_n hx hb dX4_compare_0 rfl (lv_at hl 0 rfl) ?_
  refine lv_aload_n hx hb dX4_compare_1 rfl (lv_at hl 0 rfl) ?_
  refine lv_iload_n hx hb dX4_compare_2 rfl (lv_at hl 1 rfl) ?_
  have hPc := hP.sub (ws' := [(mo, .inr (9, [th, .ref am, md, rf, kn])), (am, .inr (4, [.int mm, .ref (zk 0), .int 0]))]) [0, 1] rfl
  have hDc := hD.sub (ws' := [(mo, .inr (9, [th, .ref am, md, rf, kn])), (am, .inr (4, [.int mm, .ref (zk 0), .int 0]))]) [0, 1] (by decide) rfl
  have hFc := va_free (wc := [(mo, .inr (9, [th, .ref am, md, rf, kn])), (am, .inr (4, [.int mm, .ref (zk 0), .int 0]))]) hD hS hA [0, 1] rfl
  have hDv := hDc.self (sz := s.heap.size)
  have hpre := zpre (xs' := []) (av := [.ref mo, .int p0]) hPc hK (hDc.weaken (fun _ _ _ h => h)) hZ hS hFc (fun r hr => by cases hr)
  refine va_calli (va_runV (As := [.int p0]) (rest := [.ref mo]) ⟨hx, hb, hml, hown, hts⟩ (k_nRz l dC dI cI cB cR cO zk mo am th md rf kn mm p0 s.heap.size ) (cwV 1 hts gX4_compare_X4_isNoRow rfl rfl rfl (by decide +kernel) ⟨Nat.le_of_ble_eq_true rfl, Nat.le_of_ble_eq_true rfl⟩) ⟨zblind, (zrecv_9 hK hPc (q0 := 0) rfl), hpre⟩ rfl rfl hl.1 rfl (lv_room (Nat.le_of_ble_eq_true rfl)) dX4_compare_3 ⟨Nat.le_of_ble_eq_true rfl, Nat.le_of_ble_eq_true rfl⟩) hS (fun q _ h => hFc q h) hFc (fun r2 u t H1 locs ht hvm hw hB hz1 hk1 hS => ?_)
  obtain rfl : 1 = r2 := (show r2 = 1 from hw).symm
  obtain ⟨hP1, hK1, hD1, hz2⟩ := hB
  rw [ht] at hP1 hz2
  have hPD9 := va_join (wr := []) (w1 := [(mo, .inr (9, [th, .ref am, md, rf, kn])), (am, .inr (4, [.int mm, .ref (zk 0), .int 0]))]) hP hD [0, 1] [] rfl rfl (by decide) (by decide) hk1 hFc hP1 hD1
  clear hPc hDc hFc hDv hpre hP hD hP1 hK1 hD1
  obtain ⟨hP, hD⟩ := hPD9
  replace hz : s.heap.size + 0 ≤ H1.size := by omega
  clear hz2
  replace hP : va_P (dC, dI) vwCl [(mo, .inr (9, [th, .ref am, md, rf, kn])), (am, .inr (4, [.int mm, .ref (zk 0), .int 0]))] H1 := hP
  replace hD : va_D A [(mo, .inr (9, [th, .ref am, md, rf, kn])), (am, .inr (4, [.int mm, .ref (zk 0), .int 0]))] := hD
  refine W.widen (k := 0) (n := 0) (by omega) (by omega) ?_
  refine lv_if_ne (tgt := 17) hx hb dX4_compare_6 (by decide) (fun c9 => ?_) (fun c9 => ?_)
  rotate_left
  · exact absurd c9 (by decide)
  refine lv_iconst (v := 1) hx hb dX4_compare_17 (by decide) ?_
  refine lv_goto (tgt := 22) hx hb dX4_compare_18 (by decide) ?_
  refine lv_iconst (v := 1) hx hb dX4_compare_22 (by decide) ?_
  have hPc := hP.sub (ws' := [(mo, .inr (9, [th, .ref am, md, rf, kn]))]) [0] rfl
  have hDc := hD.sub (ws' := [(mo, .inr (9, [th, .ref am, md, rf, kn]))]) [0] (by decide) rfl
  have hFc := va_free (wc := [(mo, .inr (9, [th, .ref am, md, rf, kn]))]) hD hS hA [0] rfl
  have hDv := hDc.self (sz := H1.size)
  have hpre := zpre (xs' := []) (av := [.ref mo, .int 1, .int 1]) hPc hK (hDc.weaken (fun _ _ _ h => h)) hZ hS hFc (fun r hr => by cases hr)
  refine va_calli (va_runV (As := [.int 1, .int 1]) (rest := []) ⟨hx, hb, hml, hown, hts⟩ (k_sttz l dC dI cI cB cR cO zk mo am th md rf kn H1.size ) (cwV 2 hts gX4_compare_X4_start rfl rfl rfl (by decide +kernel) ⟨Nat.le_of_ble_eq_true rfl, Nat.le_of_ble_eq_true rfl⟩) ⟨zblind, (zrecv_9 hK hPc (q0 := 0) rfl), hpre⟩ rfl rfl hl.1 rfl (lv_room (Nat.le_of_ble_eq_true rfl)) dX4_compare_23 ⟨Nat.le_of_ble_eq_true rfl, Nat.le_of_ble_eq_true rfl⟩) hS (fun q _ h => hFc q h) hFc (fun r4 u t H3 locs ht hvm hw hB hz1 hk1 hS => ?_)
  obtain rfl : 1 = r4 := (show r4 = 1 from hw).symm
  obtain ⟨hP1, hK1, hD1, hz2⟩ := hB
  rw [ht] at hP1 hz2
  have hPD9 := va_join (wr := [(am, .inr (4, [.int mm, .ref (zk 0), .int 0]))]) (w1 := [(mo, .inr (9, [.int 1, .ref am, md, rf, kn]))]) hP hD [0] [1] rfl rfl (by decide) (by decide) hk1 hFc hP1 hD1
  clear hPc hDc hFc hDv hpre hP hD hP1 hK1 hD1
  obtain ⟨hP, hD⟩ := hPD9
  replace hz : s.heap.size + 0 ≤ H3.size := by omega
  clear hz2
  replace hP : va_P (dC, dI) vwCl [(am, .inr (4, [.int mm, .ref (zk 0), .int 0])), (mo, .inr (9, [.int 1, .ref am, md, rf, kn]))] H3 := hP
  replace hD : va_D A [(am, .inr (4, [.int mm, .ref (zk 0), .int 0])), (mo, .inr (9, [.int 1, .ref am, md, rf, kn]))] := hD
  refine W.widen (k := 0) (n := 0) (by omega) (by omega) ?_
  refine lv_if_ne (tgt := 69) hx hb dX4_compare_26 (by decide) (fun c9 => ?_) (fun c9 => ?_)
  rotate_left
  · exact absurd c9 (by decide)
  refine lv_iconst (v := 0) hx hb dX4_compare_69 (by decide) ?_
  have hP9 := hP.sub (ws' := [(mo, .inr (9, [.int 1, .ref am, md, rf, kn])), (am, .inr (4, [.int mm, .ref (zk 0), .int 0]))]) [1, 0] rfl
  have hD9 := hD.sub (ws' := [(mo, .inr (9, [.int 1, .ref am, md, rf, kn])), (am, .inr (4, [.int mm, .ref (zk 0), .int 0]))]) [1, 0] (by decide) rfl
  exact W.iret (v := 0) hx hb hr (fun t ht hW => ⟨⟨_, (), rfl, trivial, ⟨by rw [ht]; exact hP9, va_K.moved hW.alike hK, hD9, by rw [ht]; exact hz⟩⟩, hS.F ht⟩) hS.2.2 dX4_compare_70
