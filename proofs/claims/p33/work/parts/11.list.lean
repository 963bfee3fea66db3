theorem hi_Jx4a65c_size_8abf5_Jx4a65c : ∀ w ∈ u_ws RJx4a65c TJx4a65c 3, w ∈ wsJx4a65c_size_8abf5 := fun w h => List.mem_cons_of_mem _ (zhi_Jx4a65c w h)
set_option maxHeartbeats 4000000 in
set_option maxRecDepth 100000 in
theorem k_size (l : Launch) (dC : Nat → ClassId) (dI : Nat → Nat → Nat) (cI cB cR cO : ClassId) (zk : Nat → Nat) (al ed : Nat) (cc : Int32) (mc : Value) (sz : Nat)  : Met l yJx4a65c_size_8abf5 wsJx4a65c_size_8abf5 ({ frames := 0, cells := 0, slots := 0, locals := 0 }) (va_Pc [.ref al] (zPre (dC, dI) (zT cI cB cR cO) zk [] [(al, .inr (4, [mc, .ref ed, .int cc]))] sz)) (va_Qi (fun r (_ : Unit) => r = cc) (fun _ t => zEnd (dC, dI) (zT cI cB cR cO) (va_A [(al, .inr (4, [mc, .ref ed, .int cc]))] sz) [(al, .inr (4, [mc, .ref ed, .int cc]))] sz 0 t) (va_A [(al, .inr (4, [mc, .ref ed, .int cc]))] sz)) 0 0 (va_A [(al, .inr (4, [mc, .ref ed, .int cc]))] sz) := by
  refine Met.ofW (cc := cJx4a65c_size_8abf5) (maxL := 1) (ret := (some .int)) (by decide) rfl ?_
  intro p e s mY args below meth c s₁ B hml hv
  obtain ⟨rfl, hsz, hP, hK, hD0, hZ⟩ := hv
  have hx := B.exec
  have hb := B.bytes
  have hr := B.returns
  have hts := atoms_spec (ws := wsJx4a65c_size_8abf5) B.pre
  have hown : s.vm.findClass RJx4a65c = some mY.cls := findClass_of_methodNamed B.named
  have hlocks := B.notSynchronized
  subst hsz
  have hD := hD0.self (sz := s.heap.size)
  generalize hAe : va_A [(al, .inr (4, [mc, .ref ed, .int cc]))] s.heap.size = A at hD hZ ⊢
  have hA : ∀ q : Nat, s.heap.size ≤ q → A q := fun q h => by rw [← hAe]; exact Or.inr h
  have hS : va_S A s.heap s.heap [] := va_S.rf
  have hz : s.heap.size + 0 ≤ s.heap.size := Nat.le_refl _
  have hl := lv_entry ([.ref al]) (n := 1) (Nat.le_of_ble_eq_true rfl)
  rw [lg_entry_eq]
  generalize (lg_sl ([.ref al]) ++ List.replicate (1 - (lg_sl ([.ref al])).length) Slot.unset).toArray = ls at hl ⊢
  have hl : lv_has ls 1 [(0, .ref al)] := hl
  have hP : va_P (dC, dI) vwCl [(al, .inr (4, [mc, .ref ed, .int cc]))] s.heap := hP
  have hD : va_D A [(al, .inr (4, [mc, .ref ed, .int cc]))] := hD
  refine lv_aload_n hx hb dJx4a65c_size_8abf5_0 rfl (lv_at hl 0 rfl) ?_
  refine va_get (D := (dC, dI)) (ci := 4) (v := .int cc) (C := RJx4a65c) (T := TJx4a65c) (N := 3) hx hb hts hi_Jx4a65c_size_8abf5_Jx4a65c hown hK hP 0 rfl rfl 2 (by decide) (hts (.fieldLink RJx4a65c 48 "java/util/ArrayList" "size" "I") (List.mem_cons_of_mem _ zw_94)) (fun _ h9 => h9) rfl dJx4a65c_size_8abf5_1 ?_
  have hP9 := hP.sub (ws' := [(al, .inr (4, [mc, .ref ed, .int cc]))]) [0] rfl
  have hD9 := hD.sub (ws' := [(al, .inr (4, [mc, .ref ed, .int cc]))]) [0] (by decide) rfl
  exact W.iret (v := cc) hx hb hr (fun t ht hW => ⟨⟨_, (), rfl, rfl, ⟨by rw [ht]; exact hP9, va_K.moved hW.alike hK, hD9, by rw [ht]; exact hz⟩⟩, hS.F ht⟩) hS.2.2 dJx4a65c_size_8abf5_4

theorem hi_Jx4a65c_grow_92f84_Jx4a65c : ∀ w ∈ u_ws RJx4a65c TJx4a65c 3, w ∈ wsJx4a65c_grow_92f84 := fun w h => List.mem_cons_of_mem _ (zhi_Jx4a65c w h)
set_option maxHeartbeats 4000000 in
set_option maxRecDepth 100000 in
theorem k_grow1 (l : Launch) (dC : Nat → ClassId) (dI : Nat → Nat → Nat) (cI cB cR cO : ClassId) (zk : Nat → Nat) (al : Nat) (mc : Int32) (sz : Nat)  : Met l yJx4a65c_grow_92f84 wsJx4a65c_grow_92f84 ({ frames := 1, cells := 1, slots := 10, locals := 40 }) (va_Pc [.ref al, .int 1] (zPre (dC, dI) (zT cI cB cR cO) zk [] [(al, .inr (4, [.int mc, .ref (zk 0), .int 0]))] sz)) (va_Qr (fun _ : Unit => True) (fun _ ra t => zEnd (dC, dI) (zT cI cB cR cO) (va_A [(al, .inr (4, [.int mc, .ref (zk 0), .int 0]))] sz) [(al, .inr (4, [.int mc, .ref ra, .int 0])), (ra, .inl (cO, 10, .inr (.inr (.inr (.inr (fun _ => none))))))] sz 1 t) (va_A [(al, .inr (4, [.int mc, .ref (zk 0), .int 0]))] sz)) 1 10 (va_A [(al, .inr (4, [.int mc, .ref (zk 0), .int 0]))] sz) := by
  refine Met.ofW (cc := cJx4a65c_grow_92f84) (maxL := 4) (ret := (some (.array (.object "java/lang/Object")))) (by decide) rfl ?_
  intro p e s mY args below meth c s₁ B hml hv
  obtain ⟨rfl, hsz, hP, hK, hD0, hZ⟩ := hv
  have hx := B.exec
  have hb := B.bytes
  have hr := B.returns
  have hts := atoms_spec (ws := wsJx4a65c_grow_92f84) B.pre
  have hown : s.vm.findClass RJx4a65c = some mY.cls := findClass_of_methodNamed B.named
  have hlocks := B.notSynchronized
  subst hsz
  have hD := hD0.self (sz := s.heap.size)
  generalize hAe : va_A [(al, .inr (4, [.int mc, .ref (zk 0), .int 0]))] s.heap.size = A at hD hZ ⊢
  have hA : ∀ q : Nat, s.heap.size ≤ q → A q := fun q h => by rw [← hAe]; exact Or.inr h
  have hS : va_S A s.heap s.heap [] := va_S.rf
  have hz : s.heap.size + 0 ≤ s.heap.size := Nat.le_refl _
  have hl := lv_entry ([.ref al, .int 1]) (n := 4) (Nat.le_of_ble_eq_true rfl)
  rw [lg_entry_eq]
  generalize (lg_sl ([.ref al, .int 1]) ++ List.replicate (4 - (lg_sl ([.ref al, .int 1])).length) Slot.unset).toArray = ls at hl ⊢
  have hl : lv_has ls 4 [(0, .ref al), (1, .int 1)] := hl
  have hP : va_P (dC, dI) vwCl [(al, .inr (4, [.int mc, .ref (zk 0), .int 0]))] s.heap := hP
  have hD : va_D A [(al, .inr (4, [.int mc, .ref (zk 0), .int 0]))] := hD
  refine lv_aload_n hx hb dJx4a65c_grow_92f84_0 rfl (lv_at hl 0 rfl) ?_
  refine va_get (D := (dC, dI)) (ci := 4) (v := .ref (zk 0)) (C := RJx4a65c) (T := TJx4a65c) (N := 3) hx hb hts hi_Jx4a65c_grow_92f84_Jx4a65c hown hK hP 0 rfl rfl 1 (by decide) (hts (.fieldLink RJx4a65c 9 "java/util/ArrayList" "elementData" "[Ljava/lang/Object;") (List.mem_cons_of_mem _ zw_93)) (fun _ h9 => h9) rfl dJx4a65c_grow_92f84_1 ?_
  refine va_tlen (v := 0) hx hb hZ.1.2.2.2.1 hS rfl dJx4a65c_grow_92f84_4 ?_
  refine lv_istore_n (lv' := [(2, .int 0), (0, .ref al), (1, .int 1)]) hx hb dJx4a65c_grow_92f84_5 rfl hl (by decide) rfl (fun ls hl => ?_)
  refine lv_iload_n hx hb dJx4a65c_grow_92f84_6 rfl (lv_at hl 0 rfl) ?_
  refine lv_if_gt (tgt := 20) hx hb dJx4a65c_grow_92f84_7 (by decide) (fun c9 => ?_) (fun c9 => ?_)
  · exact absurd c9 (by decide)
  refine lv_aload_n hx hb dJx4a65c_grow_92f84_10 rfl (lv_at hl 1 rfl) ?_
  refine va_get (D := (dC, dI)) (ci := 4) (v := .ref (zk 0)) (C := RJx4a65c) (T := TJx4a65c) (N := 3) hx hb hts hi_Jx4a65c_grow_92f84_Jx4a65c hown hK hP 0 rfl rfl 1 (by decide) (hts (.fieldLink RJx4a65c 9 "java/util/ArrayList" "elementData" "[Ljava/lang/Object;") (List.mem_cons_of_mem _ zw_93)) (fun _ h9 => h9) rfl dJx4a65c_grow_92f84_11 ?_
  refine va_gets hx hb hZ.1.2.2.1 hS hown (hts (.fieldLink RJx4a65c 39 "java/util/ArrayList" "DEFAULTCAPACITY_EMPTY_ELEMENTDATA" "[Ljava/lang/Object;") (List.mem_cons_of_mem _ zw_91)) (fun _ h9 => h9) dJx4a65c_grow_92f84_14 ?_
  refine lv_acmp_eq (rx := (some (zk 0))) (ry := (some (zk 0))) (tgt := 45) hx hb dJx4a65c_grow_92f84_17 (by decide) (fun c9 => ?_) (fun c9 => ?_)
  rotate_left
  · exact absurd (rfl) c9
  refine lv_aload_n hx hb dJx4a65c_grow_92f84_45 rfl (lv_at hl 1 rfl) ?_
  refine lv_bipush (v := 10) hx hb dJx4a65c_grow_92f84_46 (by decide) ?_
  refine lv_iload_n hx hb dJx4a65c_grow_92f84_48 rfl (lv_at hl 2 rfl) ?_
  refine va_mmax (x := 10) (y := 1) hx hb (hml.trans hl.1.symm) hown (hts (.methodLink RJx4a65c 79 Lib.Math.max.name) (List.mem_cons_of_mem _ zw_864)) (hts (.static Lib.Math.max.name) (List.mem_cons_of_mem _ zw_271)) (hts (.initialized "java/lang/Math") (List.mem_cons_of_mem _ zw_58)) (hts (.code Lib.Math.max.name Lib.Math.max.code 2 (some .int)) (List.mem_cons_of_mem _ zw_272)) (Nat.le_of_ble_eq_true rfl) (Nat.le_of_ble_eq_true rfl) (Nat.le_of_ble_eq_true rfl) (Nat.le_of_ble_eq_true rfl) dJx4a65c_grow_92f84_49 ?_
  refine lv_topi (fun v1 ev1 => ?_)
  obtain rfl : v1 = 10 := ev1.trans (by decide)
  refine zw_newq (C := "java/lang/Object") (N' := 10) hx hb hown (hts (.classLink RJx4a65c 7 "java/lang/Object") (List.mem_cons_of_mem _ zw_865)) (za1 hZ) hK hP hD hS hA 3 rfl (by decide) (by decide) (by decide) (Nat.le_of_ble_eq_true rfl) (Nat.le_of_ble_eq_true rfl) dJx4a65c_grow_92f84_52 hz (fun q2 H3 hP hD hS hz => ?_)
  replace hP : va_P (dC, dI) vwCl [(al, .inr (4, [.int mc, .ref (zk 0), .int 0])), (q2, .inl (cO, 10, .inr (.inr (.inr (.inr (fun _ => none))))))] H3 := hP
  replace hD : va_D A [(al, .inr (4, [.int mc, .ref (zk 0), .int 0])), (q2, .inl (cO, 10, .inr (.inr (.inr (.inr (fun _ => none))))))] := hD
  refine W.widen (k := 1) (n := 10) (by omega) (by omega) ?_
  refine lv_dup_x1 hx hb dJx4a65c_grow_92f84_55 rfl rfl ?_
  refine va_put (D := (dC, dI)) (ci := 4) (v := .ref q2) (ty := .array (.object "java/lang/Object")) (C := RJx4a65c) (T := TJx4a65c) (N := 3) hx hb hts hi_Jx4a65c_grow_92f84_Jx4a65c tyJx4a65c tyJx4a65c_ok nmJx4a65c hown hK hP hD (zS0 hS) 0 rfl rfl 1 (by decide) (hts (.fieldLink RJx4a65c 9 "java/util/ArrayList" "elementData" "[Ljava/lang/Object;") (List.mem_cons_of_mem _ zw_93)) (fun _ h9 => h9) rfl (by decide +kernel) rfl rfl (Nat.le_of_ble_eq_true rfl) dJx4a65c_grow_92f84_56 (fun H4 locs hP hD hS1 => ?_)
  have hz : s.heap.size + 1 ≤ H4.size := Nat.le_trans hz hS1.1
  have hS := zSS hS hS1
  replace hP : va_P (dC, dI) vwCl [(al, .inr (4, [.int mc, .ref q2, .int 0])), (q2, .inl (cO, 10, .inr (.inr (.inr (.inr (fun _ => none))))))] H4 := hP
  replace hD : va_D A [(al, .inr (4, [.int mc, .ref q2, .int 0])), (q2, .inl (cO, 10, .inr (.inr (.inr (.inr (fun _ => none))))))] := hD
  have hP9 := hP.sub (ws' := [(al, .inr (4, [.int mc, .ref q2, .int 0])), (q2, .inl (cO, 10, .inr (.inr (.inr (.inr (fun _ => none))))))]) [0, 1] rfl
  have hD9 := hD.sub (ws' := [(al, .inr (4, [.int mc, .ref q2, .int 0])), (q2, .inl (cO, 10, .inr (.inr (.inr (.inr (fun _ => none))))))]) [0, 1] (by decide) rfl
  exact W.aret hx hb hr (by first | exact Or.inl ⟨_, rfl⟩ | exact Or.inr ⟨_, rfl⟩) (Or.inr ⟨_, rfl⟩) (fun t ht hW => ⟨⟨(), _, rfl, trivial, ⟨by rw [ht]; exact hP9, va_K.moved hW.alike hK, hD9, by rw [ht]; exact hz⟩⟩, hS.F ht⟩) hS.2.2 dJx4a65c_grow_92f84_59

theorem hi_Jx4a65c_grow_d5877_Jx4a65c : ∀ w ∈ u_ws RJx4a65c TJx4a65c 3, w ∈ wsJx4a65c_grow_d5877 := fun w h => List.mem_cons_of_mem _ (zhi_Jx4a65c w h)
set_option maxHeartbeats 4000000 in
set_option maxRecDepth 100000 in
theorem k_grow0 (l : Launch) (dC : Nat → ClassId) (dI : Nat → Nat → Nat) (cI cB cR cO : ClassId) (zk : Nat → Nat) (al : Nat) (mc : Int32) (sz : Nat)  : Met l yJx4a65c_grow_d5877 wsJx4a65c_grow_d5877 ({ frames := 2, cells := 1, slots := 10, locals := 63 }) (va_Pc [.ref al] (zPre (dC, dI) (zT cI cB cR cO) zk [] [(al, .inr (4, [.int mc, .ref (zk 0), .int 0]))] sz)) (va_Qr (fun _ : Unit => True) (fun _ ra t => zEnd (dC, dI) (zT cI cB cR cO) (va_A [(al, .inr (4, [.int mc, .ref (zk 0), .int 0]))] sz) [(al, .inr (4, [.int mc, .ref ra, .int 0])), (ra, .inl (cO, 10, .inr (.inr (.inr (.inr (fun _ => none))))))] sz 1 t) (va_A [(al, .inr (4, [.int mc, .ref (zk 0), .int 0]))] sz)) 1 10 (va_A [(al, .inr (4, [.int mc, .ref (zk 0), .int 0]))] sz) := by
  refine Met.ofW (cc := cJx4a65c_grow_d5877) (maxL := 1) (ret := (some (.array (.object "java/lang/Object")))) (by decide) rfl ?_
  intro p e s mY args below meth c s₁ B hml hv
  obtain ⟨rfl, hsz, hP, hK, hD0, hZ⟩ := hv
  have hx := B.exec
  have hb := B.bytes
  have hr := B.returns
  have hts := atoms_spec (ws := wsJx4a65c_grow_d5877) B.pre
  have hown : s.vm.findClass RJx4a65c = some mY.cls := findClass_of_methodNamed B.named
  have hlocks := B.notSynchronized
  subst hsz
  have hD := hD0.self (sz := s.heap.size)
  generalize hAe : va_A [(al, .inr (4, [.int mc, .ref (zk 0), .int 0]))] s.heap.size = A at hD hZ ⊢
  have hA : ∀ q : Nat, s.heap.size ≤ q → A q := fun q h => by rw [← hAe]; exact Or.inr h
  have hS : va_S A s.heap s.heap [] := va_S.rf
  have hz : s.heap.size + 0 ≤ s.heap.size := Nat.le_refl _
  have hl := lv_entry ([.ref al]) (n := 1) (Nat.le_of_ble_eq_true rfl)
  rw [lg_entry_eq]
  generalize (lg_sl ([.ref al]) ++ List.replicate (1 - (lg_sl ([.ref al])).length) Slot.unset).toArray = ls at hl ⊢
  have hl : lv_has ls 1 [(0, .ref al)] := hl
  have hP : va_P (dC, dI) vwCl [(al, .inr (4, [.int mc, .ref (zk 0), .int 0]))] s.heap := hP
  have hD : va_D A [(al, .inr (4, [.int mc, .ref (zk 0), .int 0]))] := hD
  refine lv_aload_n hx hb dJx4a65c_grow_d5877_0 rfl (lv_at hl 0 rfl) ?_
  refine lv_aload_n hx hb dJx4a65c_grow_d5877_1 rfl (lv_at hl 0 rfl) ?_
  refine va_get (D := (dC, dI)) (ci := 4) (v := .int 0) (C := RJx4a65c) (T := TJx4a65c) (N := 3) hx hb hts hi_Jx4a65c_grow_d5877_Jx4a65c hown hK hP 0 rfl rfl 2 (by decide) (hts (.fieldLink RJx4a65c 48 "java/util/ArrayList" "size" "I") (List.mem_cons_of_mem _ zw_94)) (fun _ h9 => h9) rfl dJx4a65c_grow_d5877_2 ?_
  refine lv_iconst (v := 1) hx hb dJx4a65c_grow_d5877_5 (by decide) ?_
  refine lv_iadd hx hb dJx4a65c_grow_d5877_6 ?_
  refine lv_topi (fun v1 ev1 => ?_)
  obtain rfl : v1 = 1 := ev1.trans (by decide)
  have hPc := hP.sub (ws' := [(al, .inr (4, [.int mc, .ref (zk 0), .int 0]))]) [0] rfl
  have hDc := hD.sub (ws' := [(al, .inr (4, [.int mc, .ref (zk 0), .int 0]))]) [0] (by decide) rfl
  have hFc := va_free (wc := [(al, .inr (4, [.int mc, .ref (zk 0), .int 0]))]) hD hS hA [0] rfl
  have hDv := hDc.self (sz := s.heap.size)
  have hpre := zpre (xs' := []) (av := [.ref al, .int 1]) hPc hK (hDc.weaken (fun _ _ _ h => h)) hZ hS hFc (fun r hr => by cases hr)
  refine va_callr (va_runV (As := [.int 1]) (rest := []) ⟨hx, hb, hml, hown, hts⟩ (k_grow1 l dC dI cI cB cR cO zk al mc s.heap.size ) (cwV 1 hts gJx4a65c_grow_d5877_Jx4a65c_grow_92f84 rfl rfl rfl (by decide +kernel) ⟨Nat.le_of_ble_eq_true rfl, Nat.le_of_ble_eq_true rfl⟩) ⟨zblind, (zrecv_4 hK hPc (q0 := 0) rfl), hpre⟩ rfl rfl hl.1 rfl (lv_room (Nat.le_of_ble_eq_true rfl)) dJx4a65c_grow_d5877_7 ⟨Nat.le_of_ble_eq_true rfl, Nat.le_of_ble_eq_true rfl⟩) hS (fun q _ h => hFc q h) hFc (fun u r3 t H2 locs ht hvm hw hB hz1 hk1 hS => ?_)
  obtain ⟨hP1, hK1, hD1, hz2⟩ := hB
  rw [ht] at hP1 hz2
  have hPD9 := va_join (wr := []) (w1 := [(al, .inr (4, [.int mc, .ref r3, .int 0])), (r3, .inl (cO, 10, .inr (.inr (.inr (.inr (fun _ => none))))))]) hP hD [0] [] rfl rfl (by decide) (by decide) hk1 hFc hP1 hD1
  clear hPc hDc hFc hDv hpre hP hD hP1 hK1 hD1
  obtain ⟨hP, hD⟩ := hPD9
  replace hz : s.heap.size + 1 ≤ H2.size := by omega
  clear hz2
  replace hP : va_P (dC, dI) vwCl [(al, .inr (4, [.int mc, .ref r3, .int 0])), (r3, .inl (cO, 10, .inr (.inr (.inr (.inr (fun _ => none))))))] H2 := hP
  replace hD : va_D A [(al, .inr (4, [.int mc, .ref r3, .int 0])), (r3, .inl (cO, 10, .inr (.inr (.inr (.inr (fun _ => none))))))] := hD
  refine W.widen (k := 1) (n := 10) (by omega) (by omega) ?_
  have hP9 := hP.sub (ws' := [(al, .inr (4, [.int mc, .ref r3, .int 0])), (r3, .inl (cO, 10, .inr (.inr (.inr (.inr (fun _ => none))))))]) [0, 1] rfl
  have hD9 := hD.sub (ws' := [(al, .inr (4, [.int mc, .ref r3, .int 0])), (r3, .inl (cO, 10, .inr (.inr (.inr (.inr (fun _ => none))))))]) [0, 1] (by decide) rfl
  exact W.aret hx hb hr (by first | exact Or.inl ⟨_, rfl⟩ | exact Or.inr ⟨_, rfl⟩) (Or.inr ⟨_, rfl⟩) (fun t ht hW => ⟨⟨(), _, rfl, trivial, ⟨by rw [ht]; exact hP9, va_K.moved hW.alike hK, hD9, by rw [ht]; exact hz⟩⟩, hS.F ht⟩) hS.2.2 dJx4a65c_grow_d5877_10

theorem hi_Jx4a65c_add_72be8_Jx4a65c : ∀ w ∈ u_ws RJx4a65c TJx4a65c 3, w ∈ wsJx4a65c_add_72be8 := fun w h => List.mem_cons_of_mem _ (zhi_Jx4a65c w h)
set_option maxHeartbeats 4000000 in
set_option maxRecDepth 100000 in
theorem k_ad3AX0 (l : Launch) (dC : Nat → ClassId) (dI : Nat → Nat → Nat) (cI cB cR cO : ClassId) (zk : Nat → Nat) (al el : Nat) (mc : Int32) (e1 e2 e3 : Nat) (e4 : Int32) (sz : Nat)  : Met l yJx4a65c_add_72be8 wsJx4a65c_add_72be8 ({ frames := 3, cells := 1, slots := 10, locals := 83 }) (va_Pc [.ref al, .ref el, .ref (zk 0), .int 0] (zPre (dC, dI) (zT cI cB cR cO) zk [] [(al, .inr (4, [.int mc, .ref (zk 0), .int 0])), (el, .inr (5, [.int 4, .int 4, .ref e1, .ref e2, .ref e3, .int e4]))] sz)) (va_Qv (fun _ : Unit => True) (fun _ t => ∃ ed, zEnd (dC, dI) (zT cI cB cR cO) (va_A [(al, .inr (4, [.int mc, .ref (zk 0), .int 0])), (el, .inr (5, [.int 4, .int 4, .ref e1, .ref e2, .ref e3, .int e4]))] sz) [(al, .inr (4, [.int mc, .ref ed, .int 1])), (ed, .inl (cO, 10, .inr (.inr (.inr (.inr (va_up (fun _ => none) 0 (some el))))))), (el, .inr (5, [.int 4, .int 4, .ref e1, .ref e2, .ref e3, .int e4]))] sz 1 t) (va_A [(al, .inr (4, [.int mc, .ref (zk 0), .int 0])), (el, .inr (5, [.int 4, .int 4, .ref e1, .ref e2, .ref e3, .int e4]))] sz)) 1 10 (va_A [(al, .inr (4, [.int mc, .ref (zk 0), .int 0])), (el, .inr (5, [.int 4, .int 4, .ref e1, .ref e2, .ref e3, .int e4]))] sz) := by
  refine Met.ofW (cc := cJx4a65c_add_72be8) (maxL := 4) (ret := none) (by decide) rfl ?_
  intro p e s mY args below meth c s₁ B hml hv
  obtain ⟨rfl, hsz, hP, hK, hD0, hZ⟩ := hv
  have hx := B.exec
  have hb := B.bytes
  have hr := B.returns
  have hts := atoms_spec (ws := wsJx4a65c_add_72be8) B.pre
  have hown : s.vm.findClass RJx4a65c = some mY.cls := findClass_of_methodNamed B.named
  have hlocks := B.notSynchronized
  subst hsz
  have hD := hD0.self (sz := s.heap.size)
  generalize hAe : va_A [(al, .inr (4, [.int mc, .ref (zk 0), .int 0])), (el, .inr (5, [.int 4, .int 4, .ref e1, .ref e2, .ref e3, .int e4]))] s.heap.size = A at hD hZ ⊢
  have hA : ∀ q : Nat, s.heap.size ≤ q → A q := fun q h => by rw [← hAe]; exact Or.inr h
  have hS : va_S A s.heap s.heap [] := va_S.rf
  have hz : s.heap.size + 0 ≤ s.heap.size := Nat.le_refl _
  have hl := lv_entry ([.ref al, .ref el, .ref (zk 0), .int 0]) (n := 4) (Nat.le_of_ble_eq_true rfl)
  rw [lg_entry_eq]
  generalize (lg_sl ([.ref al, .ref el, .ref (zk 0), .int 0]) ++ List.replicate (4 - (lg_sl ([.ref al, .ref el, .ref (zk 0), .int 0])).length) Slot.unset).toArray = ls at hl ⊢
  have hl : lv_has ls 4 [(0, .ref al), (1, .ref el), (2, .ref (zk 0)), (3, .int 0)] := hl
  have hP : va_P (dC, dI) vwCl [(al, .inr (4, [.int mc, .ref (zk 0), .int 0])), (el, .inr (5, [.int 4, .int 4, .ref e1, .ref e2, .ref e3, .int e4]))] s.heap := hP
  have hD : va_D A [(al, .inr (4, [.int mc, .ref (zk 0), .int 0])), (el, .inr (5, [.int 4, .int 4, .ref e1, .ref e2, .ref e3, .int e4]))] := hD
  refine lv_iload_n hx hb dJx4a65c_add_72be8_0 rfl (lv_at hl 3 rfl) ?_
  refine lv_aload_n hx hb dJx4a65c_add_72be8_1 rfl (lv_at hl 2 rfl) ?_
  refine va_tlen (v := 0) hx hb hZ.1.2.2.2.1 hS rfl dJx4a65c_add_72be8_2 ?_
  refine lv_icmp_ne (tgt := 11) hx hb dJx4a65c_add_72be8_3 (by decide) (fun c9 => ?_) (fun c9 => ?_)
  · exact absurd (by decide) c9
  refine lv_aload_n hx hb dJx4a65c_add_72be8_6 rfl (lv_at hl 0 rfl) ?_
  have hPc := hP.sub (ws' := [(al, .inr (4, [.int mc, .ref (zk 0), .int 0]))]) [0] rfl
  have hDc := hD.sub (ws' := [(al, .inr (4, [.int mc, .ref (zk 0), .int 0]))]) [0] (by decide) rfl
  have hFc := va_free (wc := [(al, .inr (4, [.int mc, .ref (zk 0), .int 0]))]) hD hS hA [0] rfl
  have hDv := hDc.self (sz := s.heap.size)
  have hpre := zpre (xs' := []) (av := [.ref al]) hPc hK (hDc.weaken (fun _ _ _ h => h)) hZ hS hFc (fun r hr => by cases hr)
  refine va_callr (va_runV (As := []) (rest := []) ⟨hx, hb, hml, hown, hts⟩ (k_grow0 l dC dI cI cB cR cO zk al mc s.heap.size ) (cwV 0 hts gJx4a65c_add_72be8_Jx4a65c_grow_d5877 rfl rfl rfl (by decide +kernel) ⟨Nat.le_of_ble_eq_true rfl, Nat.le_of_ble_eq_true rfl⟩) ⟨zblind, (zrecv_4 hK hPc (q0 := 0) rfl), hpre⟩ rfl rfl hl.1 rfl (lv_room (Nat.le_of_ble_eq_true rfl)) dJx4a65c_add_72be8_7 ⟨Nat.le_of_ble_eq_true rfl, Nat.le_of_ble_eq_true rfl⟩) hS (fun q _ h => hFc q h) hFc (fun u r2 t H1 locs ht hvm hw hB hz1 hk1 hS => ?_)
  obtain ⟨hP1, hK1, hD1, hz2⟩ := hB
  rw [ht] at hP1 hz2
  have hPD9 := va_join (wr := [(el, .inr (5, [.int 4, .int 4, .ref e1, .ref e2, .ref e3, .int e4]))]) (w1 := [(al, .inr (4, [.int mc, .ref r2, .int 0])), (r2, .inl (cO, 10, .inr (.inr (.inr (.inr (fun _ => none))))))]) hP hD [0] [1] rfl rfl (by decide) (by decide) hk1 hFc hP1 hD1
  clear hPc hDc hFc hDv hpre hP hD hP1 hK1 hD1
  obtain ⟨hP, hD⟩ := hPD9
  replace hz : s.heap.size + 1 ≤ H1.size := by omega
  clear hz2
  replace hP : va_P (dC, dI) vwCl [(el, .inr (5, [.int 4, .int 4, .ref e1, .ref e2, .ref e3, .int e4])), (al, .inr (4, [.int mc, .ref r2, .int 0])), (r2, .inl (cO, 10, .inr (.inr (.inr (.inr (fun _ => none))))))] H1 := hP
  replace hD : va_D A [(el, .inr (5, [.int 4, .int 4, .ref e1, .ref e2, .ref e3, .int e4])), (al, .inr (4, [.int mc, .ref r2, .int 0])), (r2, .inl (cO, 10, .inr (.inr (.inr (.inr (fun _ => none))))))] := hD
  refine W.widen (k := 1) (n := 10) (by omega) (by omega) ?_
  refine lv_astore_n (lv' := [(2, .ref r2), (0, .ref al), (1, .ref el), (3, .int 0)]) hx hb dJx4a65c_add_72be8_10 rfl hl (by decide) rfl (fun ls hl => ?_)
  refine lv_aload_n hx hb dJx4a65c_add_72be8_11 rfl (lv_at hl 0 rfl) ?_
  refine lv_iload_n hx hb dJx4a65c_add_72be8_12 rfl (lv_at hl 3 rfl) ?_
  refine lv_aload_n hx hb dJx4a65c_add_72be8_13 rfl (lv_at hl 2 rfl) ?_
  refine va_astqO (D := (dC, dI)) (cl := vwCl) (E := "java/lang/Object") hx hb hK hP hD (zS0 hS) 2 3 0 5 rfl rfl (zt1 hZ) rfl rfl (by unfold vp_in; decide) dJx4a65c_add_72be8_14 (fun H3 locs hP hD hS1 => ?_)
  have hz : s.heap.size + 1 ≤ H3.size := Nat.le_trans hz hS1.1
  have hS := zSS hS hS1
  replace hP : va_P (dC, dI) vwCl [(el, .inr (5, [.int 4, .int 4, .ref e1, .ref e2, .ref e3, .int e4])), (al, .inr (4, [.int mc, .ref r2, .int 0])), (r2, .inl (cO, 10, .inr (.inr (.inr (.inr (va_up (fun _ => none) 0 (some el)))))))] H3 := hP
  replace hD : va_D A [(el, .inr (5, [.int 4, .int 4, .ref e1, .ref e2, .ref e3, .int e4])), (al, .inr (4, [.int mc, .ref r2, .int 0])), (r2, .inl (cO, 10, .inr (.inr (.inr (.inr (va_up (fun _ => none) 0 (some el)))))))] := hD
  refine lv_aload_n hx hb dJx4a65c_add_72be8_15 rfl (lv_at hl 1 rfl) ?_
  refine lv_iload_n hx hb dJx4a65c_add_72be8_16 rfl (lv_at hl 3 rfl) ?_
  refine lv_iconst (v := 1) hx hb dJx4a65c_add_72be8_17 (by decide) ?_
  refine lv_iadd hx hb dJx4a65c_add_72be8_18 ?_
  refine lv_topi (fun v4 ev4 => ?_)
  obtain rfl : v4 = 1 := ev4.trans (by decide)
  refine va_put (D := (dC, dI)) (ci := 4) (v := .int 1) (ty := .int) (C := RJx4a65c) (T := TJx4a65c) (N := 3) hx hb hts hi_Jx4a65c_add_72be8_Jx4a65c tyJx4a65c tyJx4a65c_ok nmJx4a65c hown hK hP hD (zS0 hS) 1 rfl rfl 2 (by decide) (hts (.fieldLink RJx4a65c 48 "java/util/ArrayList" "size" "I") (List.mem_cons_of_mem _ zw_94)) (fun _ h9 => h9) rfl (by decide +kernel) rfl rfl (Nat.le_of_ble_eq_true rfl) dJx4a65c_add_72be8_19 (fun H5 locs hP hD hS1 => ?_)
  have hz : s.heap.size + 1 ≤ H5.size := Nat.le_trans hz hS1.1
  have hS := zSS hS hS1
  replace hP : va_P (dC, dI) vwCl [(el, .inr (5, [.int 4, .int 4, .ref e1, .ref e2, .ref e3, .int e4])), (al, .inr (4, [.int mc, .ref r2, .int 1])), (r2, .inl (cO, 10, .inr (.inr (.inr (.inr (va_up (fun _ => none) 0 (some el)))))))] H5 := hP
  replace hD : va_D A [(el, .inr (5, [.int 4, .int 4, .ref e1, .ref e2, .ref e3, .int e4])), (al, .inr (4, [.int mc, .ref r2, .int 1])), (r2, .inl (cO, 10, .inr (.inr (.inr (.inr (va_up (fun _ => none) 0 (some el)))))))] := hD
  have hP9 := hP.sub (ws' := [(al, .inr (4, [.int mc, .ref r2, .int 1])), (r2, .inl (cO, 10, .inr (.inr (.inr (.inr (va_up (fun _ => none) 0 (some el))))))), (el, .inr (5, [.int 4, .int 4, .ref e1, .ref e2, .ref e3, .int e4]))]) [1, 2, 0] rfl
  have hD9 := hD.sub (ws' := [(al, .inr (4, [.int mc, .ref r2, .int 1])), (r2, .inl (cO, 10, .inr (.inr (.inr (.inr (va_up (fun _ => none) 0 (some el))))))), (el, .inr (5, [.int 4, .int 4, .ref e1, .ref e2, .ref e3, .int e4]))]) [1, 2, 0] (by decide) rfl
  exact W.vret hx hb hr (fun t ht hW => ⟨⟨(), rfl, trivial, ⟨_, ⟨by rw [ht]; exact hP9, va_K.moved hW.alike hK, hD9, by rw [ht]; exact hz⟩⟩⟩, hS.F ht⟩) hS.2.2 dJx4a65c_add_72be8_22

theorem hi_Jx4a65c_add_9ea2d_Jx4a65c : ∀ w ∈ u_ws RJx4a65c TJx4a65c 3, w ∈ wsJx4a65c_add_9ea2d := fun w h => List.mem_cons_of_mem _ (zhi_Jx4a65c w h)
set_option maxHeartbeats 4000000 in
set_option maxRecDepth 100000 in
theorem k_addAX0 (l : Launch) (dC : Nat → ClassId) (dI : Nat → Nat → Nat) (cI cB cR cO : ClassId) (zk : Nat → Nat) (al el : Nat) (mc : Int32) (e1 e2 e3 : Nat) (e4 : Int32) (sz : Nat)  : Met l yJx4a65c_add_9ea2d wsJx4a65c_add_9ea2d ({ frames := 4, cells := 1, slots := 10, locals := 106 }) (va_Pc [.ref al, .ref el] (zPre (dC, dI) (zT cI cB cR cO) zk [] [(al, .inr (4, [.int mc, .ref (zk 0), .int 0])), (el, .inr (5, [.int 4, .int 4, .ref e1, .ref e2, .ref e3, .int e4]))] sz)) (va_Qi (fun r (_ : Unit) => r = 1) (fun _ t => ∃ ed, ∃ (mc2 : Int32), zEnd (dC, dI) (zT cI cB cR cO) (va_A [(al, .inr (4, [.int mc, .ref (zk 0), .int 0])), (el, .inr (5, [.int 4, .int 4, .ref e1, .ref e2, .ref e3, .int e4]))] sz) [(al, .inr (4, [.int mc2, .ref ed, .int 1])), (ed, .inl (cO, 10, .inr (.inr (.inr (.inr (va_up (fun _ => none) 0 (some el))))))), (el, .inr (5, [.int 4, .int 4, .ref e1, .ref e2, .ref e3, .int e4]))] sz 1 t) (va_A [(al, .inr (4, [.int mc, .ref (zk 0), .int 0])), (el, .inr (5, [.int 4, .int 4, .ref e1, .ref e2, .ref e3, .int e4]))] sz)) 1 10 (va_A [(al, .inr (4, [.int mc, .ref (zk 0), .int 0])), (el, .inr (5, [.int 4, .int 4, .ref e1, .ref e2, .ref e3, .int e4]))] sz) := by
  refine Met.ofW (cc := cJx4a65c_add_9ea2d) (maxL := 2) (ret := (some .boolean)) (by decide) rfl ?_
  intro p e s mY args below meth c s₁ B hml hv
  obtain ⟨rfl, hsz, hP, hK, hD0, hZ⟩ := hv
  have hx := B.exec
  have hb := B.bytes
  have hr := B.returns
  have hts := atoms_spec (ws := wsJx4a65c_add_9ea2d) B.pre
  have hown : s.vm.findClass RJx4a65c = some mY.cls := findClass_of_methodNamed B.named
  have hlocks := B.notSynchronized
  subst hsz
  have hD := hD0.self (sz := s.heap.size)
  generalize hAe : va_A [(al, .inr (4, [.int mc, .ref (zk 0), .int 0])), (el, .inr (5, [.int 4, .int 4, .ref e1, .ref e2, .ref e3, .int e4]))] s.heap.size = A at hD hZ ⊢
  have hA : ∀ q : Nat, s.heap.size ≤ q → A q := fun q h => by rw [← hAe]; exact Or.inr h
  have hS : va_S A s.heap s.heap [] := va_S.rf
  have hz : s.heap.size + 0 ≤ s.heap.size := Nat.le_refl _
  have hl := lv_entry ([.ref al, .ref el]) (n := 2) (Nat.le_of_ble_eq_true rfl)
  rw [lg_entry_eq]
  generalize (lg_sl ([.ref al, .ref el]) ++ List.replicate (2 - (lg_sl ([.ref al, .ref el])).length) Slot.unset).toArray = ls at hl ⊢
  have hl : lv_has ls 2 [(0, .ref al), (1, .ref el)] := hl
  have hP : va_P (dC, dI) vwCl [(al, .inr (4, [.int mc, .ref (zk 0), .int 0])), (el, .inr (5, [.int 4, .int 4, .ref e1, .ref e2, .ref e3, .int e4]))] s.heap := hP
  have hD : va_D A [(al, .inr (4, [.int mc, .ref (zk 0), .int 0])), (el, .inr (5, [.int 4, .int 4, .ref e1, .ref e2, .ref e3, .int e4]))] := hD
  refine lv_aload_n hx hb dJx4a65c_add_9ea2d_0 rfl (lv_at hl 0 rfl) ?_
  refine lv_dup hx hb dJx4a65c_add_9ea2d_1 rfl ?_
  refine va_get (D := (dC, dI)) (ci := 4) (v := .int mc) (C := RJx4a65c) (T := TJx4a65c) (N := 3) hx hb hts hi_Jx4a65c_add_9ea2d_Jx4a65c hown hK hP 0 rfl rfl 0 (by decide) (hts (.fieldLink RJx4a65c 63 "java/util/ArrayList" "modCount" "I") (List.mem_cons_of_mem _ zw_96)) (fun x9 h9 => u_same (hts (.sameField "java/util/ArrayList" "java/util/AbstractList" "modCount" "I") (List.mem_cons_of_mem _ zw_97)) x9 h9) rfl dJx4a65c_add_9ea2d_2 ?_
  refine lv_iconst (v := 1) hx hb dJx4a65c_add_9ea2d_5 (by decide) ?_
  refine lv_iadd hx hb dJx4a65c_add_9ea2d_6 ?_
  refine lv_topi (fun v1 ev1 => ?_)
  refine va_put (D := (dC, dI)) (ci := 4) (v := .int v1) (ty := .int) (C := RJx4a65c) (T := TJx4a65c) (N := 3) hx hb hts hi_Jx4a65c_add_9ea2d_Jx4a65c tyJx4a65c tyJx4a65c_ok nmJx4a65c hown hK hP hD (zS0 hS) 0 rfl rfl 0 (by decide) (hts (.fieldLink RJx4a65c 63 "java/util/ArrayList" "modCount" "I") (List.mem_cons_of_mem _ zw_96)) (fun x9 h9 => u_same (hts (.sameField "java/util/ArrayList" "java/util/AbstractList" "modCount" "I") (List.mem_cons_of_mem _ zw_97)) x9 h9) rfl (by decide +kernel) rfl rfl (Nat.le_of_ble_eq_true rfl) dJx4a65c_add_9ea2d_7 (fun H2 locs hP hD hS1 => ?_)
  have hz : s.heap.size + 0 ≤ H2.size := Nat.le_trans hz hS1.1
  have hS := zSS hS hS1
  replace hP : va_P (dC, dI) vwCl [(al, .inr (4, [.int v1, .ref (zk 0), .int 0])), (el, .inr (5, [.int 4, .int 4, .ref e1, .ref e2, .ref e3, .int e4]))] H2 := hP
  replace hD : va_D A [(al, .inr (4, [.int v1, .ref (zk 0), .int 0])), (el, .inr (5, [.int 4, .int 4, .ref e1, .ref e2, .ref e3, .int e4]))] := hD
  refine lv_aload_n hx hb dJx4a65c_add_9ea2d_10 rfl (lv_at hl 0 rfl) ?_
  refine lv_aload_n hx hb dJx4a65c_add_9ea2d_11 rfl (lv_at hl 1 rfl) ?_
  refine lv_aload_n hx hb dJx4a65c_add_9ea2d_12 rfl (lv_at hl 0 rfl) ?_
  refine va_get (D := (dC, dI)) (ci := 4) (v := .ref (zk 0)) (C := RJx4a65c) (T := TJx4a65c) (N := 3) hx hb hts hi_Jx4a65c_add_9ea2d_Jx4a65c hown hK hP 0 rfl rfl 1 (by decide) (hts (.fieldLink RJx4a65c 9 "java/util/ArrayList" "elementData" "[Ljava/lang/Object;") (List.mem_cons_of_mem _ zw_93)) (fun _ h9 => h9) rfl dJx4a65c_add_9ea2d_13 ?_
  refine lv_aload_n hx hb dJx4a65c_add_9ea2d_16 rfl (lv_at hl 0 rfl) ?_
  refine va_get (D := (dC, dI)) (ci := 4) (v := .int 0) (C := RJx4a65c) (T := TJx4a65c) (N := 3) hx hb hts hi_Jx4a65c_add_9ea2d_Jx4a65c hown hK hP 0 rfl rfl 2 (by decide) (hts (.fieldLink RJx4a65c 48 "java/util/ArrayList" "size" "I") (List.mem_cons_of_mem _ zw_94)) (fun _ h9 => h9) rfl dJx4a65c_add_9ea2d_17 ?_
  have hPc := hP.sub (ws' := [(al, .inr (4, [.int v1, .ref (zk 0), .int 0])), (el, .inr (5, [.int 4, .int 4, .ref e1, .ref e2, .ref e3, .int e4]))]) [0, 1] rfl
  have hDc := hD.sub (ws' := [(al, .inr (4, [.int v1, .ref (zk 0), .int 0])), (el, .inr (5, [.int 4, .int 4, .ref e1, .ref e2, .ref e3, .int e4]))]) [0, 1] (by decide) rfl
  have hFc := va_free (wc := [(al, .inr (4, [.int v1, .ref (zk 0), .int 0])), (el, .inr (5, [.int 4, .int 4, .ref e1, .ref e2, .ref e3, .int e4]))]) hD hS hA [0, 1] rfl
  have hDv := hDc.self (sz := H2.size)
  have hpre := zpre (xs' := []) (av := [.ref al, .ref el, .ref (zk 0), .int 0]) hPc hK (hDc.weaken (fun _ _ _ h => h)) hZ hS hFc (fun r hr => by cases hr)
  refine va_callv (va_runV (As := [.ref el, .ref (zk 0), .int 0]) (rest := []) ⟨hx, hb, hml, hown, hts⟩ (k_ad3AX0 l dC dI cI cB cR cO zk al el v1 e1 e2 e3 e4 H2.size ) (cwV 3 hts gJx4a65c_add_9ea2d_Jx4a65c_add_72be8 rfl rfl rfl (by decide +kernel) ⟨Nat.le_of_ble_eq_true rfl, Nat.le_of_ble_eq_true rfl⟩) ⟨zblind, (zrecv_4 hK hPc (q0 := 0) rfl), hpre⟩ rfl rfl hl.1 rfl (lv_room (Nat.le_of_ble_eq_true rfl)) dJx4a65c_add_9ea2d_20 ⟨Nat.le_of_ble_eq_true rfl, Nat.le_of_ble_eq_true rfl⟩) hS (fun q _ h => hFc q h) hFc (fun u t H3 locs ht hvm hw hB hz1 hk1 hS => ?_)
  obtain ⟨ed5, ⟨hP1, hK1, hD1, hz2⟩⟩ := hB
  rw [ht] at hP1 hz2
  have hPD9 := va_join (wr := []) (w1 := [(al, .inr (4, [.int v1, .ref ed5, .int 1])), (ed5, .inl (cO, 10, .inr (.inr (.inr (.inr (va_up (fun _ => none) 0 (some el))))))), (el, .inr (5, [.int 4, .int 4, .ref e1, .ref e2, .ref e3, .int e4]))]) hP hD [0, 1] [] rfl rfl (by decide) (by decide) hk1 hFc hP1 hD1
  clear hPc hDc hFc hDv hpre hP hD hP1 hK1 hD1
  obtain ⟨hP, hD⟩ := hPD9
  replace hz : s.heap.size + 1 ≤ H3.size := by omega
  clear hz2
  replace hP : va_P (dC, dI) vwCl [(al, .inr (4, [.int v1, .ref ed5, .int 1])), (ed5, .inl (cO, 10, .inr (.inr (.inr (.inr (va_up (fun _ => none) 0 (some el))))))), (el, .inr (5, [.int 4, .int 4, .ref e1, .ref e2, .ref e3, .int e4]))] H3 := hP
  replace hD : va_D A [(al, .inr (4, [.int v1, .ref ed5, .int 1])), (ed5, .inl (cO, 10, .inr (.inr (.inr (.inr (va_up (fun _ => none) 0 (some el))))))), (el, .inr (5, [.int 4, .int 4, .ref e1, .ref e2, .ref e3, .int e4]))] := hD
  refine W.widen (k := 1) (n := 10) (by omega) (by omega) ?_
  refine lv_iconst (v := 1) hx hb dJx4a65c_add_9ea2d_23 (by decide) ?_
  have hP9 := hP.sub (ws' := [(al, .inr (4, [.int v1, .ref ed5, .int 1])), (ed5, .inl (cO, 10, .inr (.inr (.inr (.inr (va_up (fun _ => none) 0 (some el))))))), (el, .inr (5, [.int 4, .int 4, .ref e1, .ref e2, .ref e3, .int e4]))]) [0, 1, 2] rfl
  have hD9 := hD.sub (ws' := [(al, .inr (4, [.int v1, .ref ed5, .int 1])), (ed5, .inl (cO, 10, .inr (.inr (.inr (.inr (va_up (fun _ => none) 0 (some el))))))), (el, .inr (5, [.int 4, .int 4, .ref e1, .ref e2, .ref e3, .int e4]))]) [0, 1, 2] (by decide) rfl
  exact W.zret (v := 1) hx hb hr (by decide +kernel) (fun t ht hW => ⟨⟨_, (), rfl, rfl, ⟨_, _, ⟨by rw [ht]; exact hP9, va_K.moved hW.alike hK, hD9, by rw [ht]; exact hz⟩⟩⟩, hS.F ht⟩) hS.2.2 dJx4a65c_add_9ea2d_24

set_option maxHeartbeats 4000000 in
set_option maxRecDepth 100000 in
theorem k_ad3BX0 (l : Launch) (dC : Nat → ClassId) (dI : Nat → Nat → Nat) (cI cB cR cO : ClassId) (zk : Nat → Nat) (al el ed k0 : Nat) (ee : Nat → Option Nat) (mc : Int32) (e1 e2 e3 : Nat) (e4 : Int32) (sz : Nat) (hk : k0 < 10) : Met l yJx4a65c_add_72be8 wsJx4a65c_add_72be8 ({ frames := 0, cells := 0, slots := 0, locals := 0 }) (va_Pc [.ref al, .ref el, .ref ed, .int (nI k0)] (zPre (dC, dI) (zT cI cB cR cO) zk [] [(al, .inr (4, [.int mc, .ref ed, .int (nI k0)])), (ed, .inl (cO, 10, .inr (.inr (.inr (.inr ee))))), (el, .inr (5, [.int 4, .int 4, .ref e1, .ref e2, .ref e3, .int e4]))] sz)) (va_Qv (fun _ : Unit => True) (fun _ t => zEnd (dC, dI) (zT cI cB cR cO) (va_A [(al, .inr (4, [.int mc, .ref ed, .int (nI k0)])), (ed, .inl (cO, 10, .inr (.inr (.inr (.inr ee))))), (el, .inr (5, [.int 4, .int 4, .ref e1, .ref e2, .ref e3, .int e4]))] sz) [(al, .inr (4, [.int mc, .ref ed, .int (nI (k0 + 1))])), (ed, .inl (cO, 10, .inr (.inr (.inr (.inr (va_up ee k0 (some el))))))), (el, .inr (5, [.int 4, .int 4, .ref e1, .ref e2, .ref e3, .int e4]))] sz 0 t) (va_A [(al, .inr (4, [.int mc, .ref ed, .int (nI k0)])), (ed, .inl (cO, 10, .inr (.inr (.inr (.inr ee))))), (el, .inr (5, [.int 4, .int 4, .ref e1, .ref e2, .ref e3, .int e4]))] sz)) 0 0 (va_A [(al, .inr (4, [.int mc, .ref ed, .int (nI k0)])), (ed, .inl (cO, 10, .inr (.inr (.inr (.inr ee))))), (el, .inr (5, [.int 4, .int 4, .ref e1, .ref e2, .ref e3, .int e4]))] sz) := by
  refine Met.ofW (cc := cJx4a65c_add_72be8) (maxL := 4) (ret := none) (by decide) rfl ?_
  intro p e s mY args below meth c s₁ B hml hv
  obtain ⟨rfl, hsz, hP, hK, hD0, hZ⟩ := hv
  have hx := B.exec
  have hb := B.bytes
  have hr := B.returns
  have hts := atoms_spec (ws := wsJx4a65c_add_72be8) B.pre
  have hown : s.vm.findClass RJx4a65c = some mY.cls := findClass_of_methodNamed B.named
  have hlocks := B.notSynchronized
  subst hsz
  have hD := hD0.self (sz := s.heap.size)
  generalize hAe : va_A [(al, .inr (4, [.int mc, .ref ed, .int (nI k0)])), (ed, .inl (cO, 10, .inr (.inr (.inr (.inr ee))))), (el, .inr (5, [.int 4, .int 4, .ref e1, .ref e2, .ref e3, .int e4]))] s.heap.size = A at hD hZ ⊢
  have hA : ∀ q : Nat, s.heap.size ≤ q → A q := fun q h => by rw [← hAe]; exact Or.inr h
  have hS : va_S A s.heap s.heap [] := va_S.rf
  have hz : s.heap.size + 0 ≤ s.heap.size := Nat.le_refl _
  have hl := lv_entry ([.ref al, .ref el, .ref ed, .int (nI k0)]) (n := 4) (Nat.le_of_ble_eq_true rfl)
  rw [lg_entry_eq]
  generalize (lg_sl ([.ref al, .ref el, .ref ed, .int (nI k0)]) ++ List.replicate (4 - (lg_sl ([.ref al, .ref el, .ref ed, .int (nI k0)])).length) Slot.unset).toArray = ls at hl ⊢
  have hl : lv_has ls 4 [(0, .ref al), (1, .ref el), (2, .ref ed), (3, .int (nI k0))] := hl
  have hP : va_P (dC, dI) vwCl [(al, .inr (4, [.int mc, .ref ed, .int (nI k0)])), (ed, .inl (cO, 10, .inr (.inr (.inr (.inr ee))))), (el, .inr (5, [.int 4, .int 4, .ref e1, .ref e2, .ref e3, .int e4]))] s.heap := hP
  have hD : va_D A [(al, .inr (4, [.int mc, .ref ed, .int (nI k0)])), (ed, .inl (cO, 10, .inr (.inr (.inr (.inr ee))))), (el, .inr (5, [.int 4, .int 4, .ref e1, .ref e2, .ref e3, .int e4]))] := hD
  refine lv_iload_n hx hb dJx4a65c_add_72be8_0 rfl (lv_at hl 3 rfl) ?_
  refine lv_aload_n hx hb dJx4a65c_add_72be8_1 rfl (lv_at hl 2 rfl) ?_
  refine va_alen (D := (dC, dI)) (cl := vwCl) (v := 10) hx hb hK hP 1 3 rfl rfl rfl dJx4a65c_add_72be8_2 ?_
  refine lv_icmp_ne (tgt := 11) hx hb dJx4a65c_add_72be8_3 (by decide) (fun c9 => ?_) (fun c9 => ?_)
  rotate_left
  · exact absurd c9 (fun e9 => absurd ((nI_eq (by omega) (by omega)).mp (show nI k0 = nI 10 from e9)) (by omega))
  refine lv_aload_n hx hb dJx4a65c_add_72be8_11 rfl (lv_at hl 2 rfl) ?_
  refine lv_iload_n hx hb dJx4a65c_add_72be8_12 rfl (lv_at hl 3 rfl) ?_
  refine lv_aload_n hx hb dJx4a65c_add_72be8_13 rfl (lv_at hl 1 rfl) ?_
  refine va_astqO (D := (dC, dI)) (cl := vwCl) (E := "java/lang/Object") hx hb hK hP hD (zS0 hS) 1 3 2 5 rfl rfl (zt1 hZ) rfl rfl (vp_in_nI hk (by omega)) dJx4a65c_add_72be8_14 (fun H1 locs hP hD hS1 => ?_)
  have hz : s.heap.size + 0 ≤ H1.size := Nat.le_trans hz hS1.1
  have hS := zSS hS hS1
  rw [nI_clamp (n := k0) (by omega)] at hP hD
  replace hP : va_P (dC, dI) vwCl [(al, .inr (4, [.int mc, .ref ed, .int (nI k0)])), (ed, .inl (cO, 10, .inr (.inr (.inr (.inr (va_up ee k0 (some el))))))), (el, .inr (5, [.int 4, .int 4, .ref e1, .ref e2, .ref e3, .int e4]))] H1 := hP
  replace hD : va_D A [(al, .inr (4, [.int mc, .ref ed, .int (nI k0)])), (ed, .inl (cO, 10, .inr (.inr (.inr (.inr (va_up ee k0 (some el))))))), (el, .inr (5, [.int 4, .int 4, .ref e1, .ref e2, .ref e3, .int e4]))] := hD
  refine lv_aload_n hx hb dJx4a65c_add_72be8_15 rfl (lv_at hl 0 rfl) ?_
  refine lv_iload_n hx hb dJx4a65c_add_72be8_16 rfl (lv_at hl 3 rfl) ?_
  refine lv_iconst (v := 1) hx hb dJx4a65c_add_72be8_17 (by decide) ?_
  refine lv_iadd hx hb dJx4a65c_add_72be8_18 ?_
  refine lv_topi (fun v2 ev2 => ?_)
  obtain rfl : v2 = nI (k0 + 1) := ev2.trans (nI_add k0 1)
  refine va_put (D := (dC, dI)) (ci := 4) (v := .int (nI (k0 + 1))) (ty := .int) (C := RJx4a65c) (T := TJx4a65c) (N := 3) hx hb hts hi_Jx4a65c_add_72be8_Jx4a65c tyJx4a65c tyJx4a65c_ok nmJx4a65c hown hK hP hD (zS0 hS) 0 rfl rfl 2 (by decide) (hts (.fieldLink RJx4a65c 48 "java/util/ArrayList" "size" "I") (List.mem_cons_of_mem _ zw_94)) (fun _ h9 => h9) rfl (by decide +kernel) rfl rfl (Nat.le_of_ble_eq_true rfl) dJx4a65c_add_72be8_19 (fun H3 locs hP hD hS1 => ?_)
  have hz : s.heap.size + 0 ≤ H3.size := Nat.le_trans hz hS1.1
  have hS := zSS hS hS1
  replace hP : va_P (dC, dI) vwCl [(al, .inr (4, [.int mc, .ref ed, .int (nI (k0 + 1))])), (ed, .inl (cO, 10, .inr (.inr (.inr (.inr (va_up ee k0 (some el))))))), (el, .inr (5, [.int 4, .int 4, .ref e1, .ref e2, .ref e3, .int e4]))] H3 := hP
  replace hD : va_D A [(al, .inr (4, [.int mc, .ref ed, .int (nI (k0 + 1))])), (ed, .inl (cO, 10, .inr (.inr (.inr (.inr (va_up ee k0 (some el))))))), (el, .inr (5, [.int 4, .int 4, .ref e1, .ref e2, .ref e3, .int e4]))] := hD
  have hP9 := hP.sub (ws' := [(al, .inr (4, [.int mc, .ref ed, .int (nI (k0 + 1))])), (ed, .inl (cO, 10, .inr (.inr (.inr (.inr (va_up ee k0 (some el))))))), (el, .inr (5, [.int 4, .int 4, .ref e1, .ref e2, .ref e3, .int e4]))]) [0, 1, 2] rfl
  have hD9 := hD.sub (ws' := [(al, .inr (4, [.int mc, .ref ed, .int (nI (k0 + 1))])), (ed, .inl (cO, 10, .inr (.inr (.inr (.inr (va_up ee k0 (some el))))))), (el, .inr (5, [.int 4, .int 4, .ref e1, .ref e2, .ref e3, .int e4]))]) [0, 1, 2] (by decide) rfl
  exact W.vret hx hb hr (fun t ht hW => ⟨⟨(), rfl, trivial, ⟨by rw [ht]; exact hP9, va_K.moved hW.alike hK, hD9, by rw [ht]; exact hz⟩⟩, hS.F ht⟩) hS.2.2 dJx4a65c_add_72be8_22

set_option maxHeartbeats 4000000 in
set_option maxRecDepth 100000 in
theorem k_addBX0 (l : Launch) (dC : Nat → ClassId) (dI : Nat → Nat → Nat) (cI cB cR cO : ClassId) (zk : Nat → Nat) (al el ed k0 : Nat) (ee : Nat → Option Nat) (mc : Int32) (e1 e2 e3 : Nat) (e4 : Int32) (sz : Nat) (hk : k0 < 10) : Met l yJx4a65c_add_9ea2d wsJx4a65c_add_9ea2d ({ frames := 1, cells := 0, slots := 0, locals := 23 }) (va_Pc [.ref al, .ref el] (zPre (dC, dI) (zT cI cB cR cO) zk [] [(al, .inr (4, [.int mc, .ref ed, .int (nI k0)])), (ed, .inl (cO, 10, .inr (.inr (.inr (.inr ee))))), (el, .inr (5, [.int 4, .int 4, .ref e1, .ref e2, .ref e3, .int e4]))] sz)) (va_Qi (fun r (_ : Unit) => r = 1) (fun _ t => ∃ (mc2 : Int32), zEnd (dC, dI) (zT cI cB cR cO) (va_A [(al, .inr (4, [.int mc, .ref ed, .int (nI k0)])), (ed, .inl (cO, 10, .inr (.inr (.inr (.inr ee))))), (el, .inr (5, [.int 4, .int 4, .ref e1, .ref e2, .ref e3, .int e4]))] sz) [(al, .inr (4, [.int mc2, .ref ed, .int (nI (k0 + 1))])), (ed, .inl (cO, 10, .inr (.inr (.inr (.inr (va_up ee k0 (some el))))))), (el, .inr (5, [.int 4, .int 4, .ref e1, .ref e2, .ref e3, .int e4]))] sz 0 t) (va_A [(al, .inr (4, [.int mc, .ref ed, .int (nI k0)])), (ed, .inl (cO, 10, .inr (.inr (.inr (.inr ee))))), (el, .inr (5, [.int 4, .int 4, .ref e1, .ref e2, .ref e3, .int e4]))] sz)) 0 0 (va_A [(al, .inr (4, [.int mc, .ref ed, .int (nI k0)])), (ed, .inl (cO, 10, .inr (.inr (.inr (.inr ee))))), (el, .inr (5, [.int 4, .int 4, .ref e1, .ref e2, .ref e3, .int e4]))] sz) := by
  refine Met.ofW (cc := cJx4a65c_add_9ea2d) (maxL := 2) (ret := (some .boolean)) (by decide) rfl ?_
  intro p e s mY args below meth c s₁ B hml hv
  obtain ⟨rfl, hsz, hP, hK, hD0, hZ⟩ := hv
  have hx := B.exec
  have hb := B.bytes
  have hr := B.returns
  have hts := atoms_spec (ws := wsJx4a65c_add_9ea2d) B.pre
  have hown : s.vm.findClass RJx4a65c = some mY.cls := findClass_of_methodNamed B.named
  have hlocks := B.notSynchronized
  subst hsz
  have hD := hD0.self (sz := s.heap.size)
  generalize hAe : va_A [(al, .inr (4, [.int mc, .ref ed, .int (nI k0)])), (ed, .inl (cO, 10, .inr (.inr (.inr (.inr ee))))), (el, .inr (5, [.int 4, .int 4, .ref e1, .ref e2, .ref e3, .int e4]))] s.heap.size = A at hD hZ ⊢
  have hA : ∀ q : Nat, s.heap.size ≤ q → A q := fun q h => by rw [← hAe]; exact Or.inr h
  have hS : va_S A s.heap s.heap [] := va_S.rf
  have hz : s.heap.size + 0 ≤ s.heap.size := Nat.le_refl _
  have hl := lv_entry ([.ref al, .ref el]) (n := 2) (Nat.le_of_ble_eq_true rfl)
  rw [lg_entry_eq]
  generalize (lg_sl ([.ref al, .ref el]) ++ List.replicate (2 - (lg_sl ([.ref al, .ref el])).length) Slot.unset).toArray = ls at hl ⊢
  have hl : lv_has ls 2 [(0, .ref al), (1, .ref el)] := hl
  have hP : va_P (dC, dI) vwCl [(al, .inr (4, [.int mc, .ref ed, .int (nI k0)])), (ed, .inl (cO, 10, .inr (.inr (.inr (.inr ee))))), (el, .inr (5, [.int 4, .int 4, .ref e1, .ref e2, .ref e3, .int e4]))] s.heap := hP
  have hD : va_D A [(al, .inr (4, [.int mc, .ref ed, .int (nI k0)])), (ed, .inl (cO, 10, .inr (.inr (.inr (.inr ee))))), (el, .inr (5, [.int 4, .int 4, .ref e1, .ref e2, .ref e3, .int e4]))] := hD
  refine lv_aload_n hx hb dJx4a65c_add_9ea2d_0 rfl (lv_at hl 0 rfl) ?_
  refine lv_dup hx hb dJx4a65c_add_9ea2d_1 rfl ?_
  refine va_get (D := (dC, dI)) (ci := 4) (v := .int mc) (C := RJx4a65c) (T := TJx4a65c) (N := 3) hx hb hts hi_Jx4a65c_add_9ea2d_Jx4a65c hown hK hP 0 rfl rfl 0 (by decide) (hts (.fieldLink RJx4a65c 63 "java/util/ArrayList" "modCount" "I") (List.mem_cons_of_mem _ zw_96)) (fun x9 h9 => u_same (hts (.sameField "java/util/ArrayList" "java/util/AbstractList" "modCount" "I") (List.mem_cons_of_mem _ zw_97)) x9 h9) rfl dJx4a65c_add_9ea2d_2 ?_
  refine lv_iconst (v := 1) hx hb dJx4a65c_add_9ea2d_5 (by decide) ?_
  refine lv_iadd hx hb dJx4a65c_add_9ea2d_6 ?_
  refine lv_topi (fun v1 ev1 => ?_)
  refine va_put (D := (dC, dI)) (ci := 4) (v := .int v1) (ty := .int) (C := RJx4a65c) (T := TJx4a65c) (N := 3) hx hb hts hi_Jx4a65c_add_9ea2d_Jx4a65c tyJx4a65c tyJx4a65c_ok nmJx4a65c hown hK hP hD (zS0 hS) 0 rfl rfl 0 (by decide) (hts (.fieldLink RJx4a65c 63 "java/util/ArrayList" "modCount" "I") (List.mem_cons_of_mem _ zw_96)) (fun x9 h9 => u_same (hts (.sameField "java/util/ArrayList" "java/util/AbstractList" "modCount" "I") (List.mem_cons_of_mem _ zw_97)) x9 h9) rfl (by decide +kernel) rfl rfl (Nat.le_of_ble_eq_true rfl) dJx4a65c_add_9ea2d_7 (fun H2 locs hP hD hS1 => ?_)
  have hz : s.heap.size + 0 ≤ H2.size := Nat.le_trans hz hS1.1
  have hS := zSS hS hS1
  replace hP : va_P (dC, dI) vwCl [(al, .inr (4, [.int v1, .ref ed, .int (nI k0)])), (ed, .inl (cO, 10, .inr (.inr (.inr (.inr ee))))), (el, .inr (5, [.int 4, .int 4, .ref e1, .ref e2, .ref e3, .int e4]))] H2 := hP
  replace hD : va_D A [(al, .inr (4, [.int v1, .ref ed, .int (nI k0)])), (ed, .inl (cO, 10, .inr (.inr (.inr (.inr ee))))), (el, .inr (5, [.int 4, .int 4, .ref e1, .ref e2, .ref e3, .int e4]))] := hD
  refine lv_aload_n hx hb dJx4a65c_add_9ea2d_10 rfl (lv_at hl 0 rfl) ?_
  refine lv_aload_n hx hb dJx4a65c_add_9ea2d_11 rfl (lv_at hl 1 rfl) ?_
  refine lv_aload_n hx hb dJx4a65c_add_9ea2d_12 rfl (lv_at hl 0 rfl) ?_
  refine va_get (D := (dC, dI)) (ci := 4) (v := .ref ed) (C := RJx4a65c) (T := TJx4a65c) (N := 3) hx hb hts hi_Jx4a65c_add_9ea2d_Jx4a65c hown hK hP 0 rfl rfl 1 (by decide) (hts (.fieldLink RJx4a65c 9 "java/util/ArrayList" "elementData" "[Ljava/lang/Object;") (List.mem_cons_of_mem _ zw_93)) (fun _ h9 => h9) rfl dJx4a65c_add_9ea2d_13 ?_
  refine lv_aload_n hx hb dJx4a65c_add_9ea2d_16 rfl (lv_at hl 0 rfl) ?_
  refine va_get (D := (dC, dI)) (ci := 4) (v := .int (nI k0)) (C := RJx4a65c) (T := TJx4a65c) (N := 3) hx hb hts hi_Jx4a65c_add_9ea2d_Jx4a65c hown hK hP 0 rfl rfl 2 (by decide) (hts (.fieldLink RJx4a65c 48 "java/util/ArrayList" "size" "I") (List.mem_cons_of_mem _ zw_94)) (fun _ h9 => h9) rfl dJx4a65c_add_9ea2d_17 ?_
  have hPc := hP.sub (ws' := [(al, .inr (4, [.int v1, .ref ed, .int (nI k0)])), (ed, .inl (cO, 10, .inr (.inr (.inr (.inr ee))))), (el, .inr (5, [.int 4, .int 4, .ref e1, .ref e2, .ref e3, .int e4]))]) [0, 1, 2] rfl
  have hDc := hD.sub (ws' := [(al, .inr (4, [.int v1, .ref ed, .int (nI k0)])), (ed, .inl (cO, 10, .inr (.inr (.inr (.inr ee))))), (el, .inr (5, [.int 4, .int 4, .ref e1, .ref e2, .ref e3, .int e4]))]) [0, 1, 2] (by decide) rfl
  have hFc := va_free (wc := [(al, .inr (4, [.int v1, .ref ed, .int (nI k0)])), (ed, .inl (cO, 10, .inr (.inr (.inr (.inr ee))))), (el, .inr (5, [.int 4, .int 4, .ref e1, .ref e2, .ref e3, .int e4]))]) hD hS hA [0, 1, 2] rfl
  have hDv := hDc.self (sz := H2.size)
  have hpre := zpre (xs' := []) (av := [.ref al, .ref el, .ref ed, .int (nI k0)]) hPc hK (hDc.weaken (fun _ _ _ h => h)) hZ hS hFc (fun r hr => by cases hr)
  refine va_callv (va_runV (As := [.ref el, .ref ed, .int (nI k0)]) (rest := []) ⟨hx, hb, hml, hown, hts⟩ (k_ad3BX0 l dC dI cI cB cR cO zk al el ed k0 ee v1 e1 e2 e3 e4 H2.size hk) (cwV 3 hts gJx4a65c_add_9ea2d_Jx4a65c_add_72be8 rfl rfl rfl (by decide +kernel) ⟨Nat.le_of_ble_eq_true rfl, Nat.le_of_ble_eq_true rfl⟩) ⟨zblind, (zrecv_4 hK hPc (q0 := 0) rfl), hpre⟩ rfl rfl hl.1 rfl (lv_room (Nat.le_of_ble_eq_true rfl)) dJx4a65c_add_9ea2d_20 ⟨Nat.le_of_ble_eq_true rfl, Nat.le_of_ble_eq_true rfl⟩) hS (fun q _ h => hFc q h) hFc (fun u t H3 locs ht hvm hw hB hz1 hk1 hS => ?_)
  obtain ⟨hP1, hK1, hD1, hz2⟩ := hB
  rw [ht] at hP1 hz2
  have hPD9 := va_join (wr := []) (w1 := [(al, .inr (4, [.int v1, .ref ed, .int (nI (k0 + 1))])), (ed, .inl (cO, 10, .inr (.inr (.inr (.inr (va_up ee k0 (some el))))))), (el, .inr (5, [.int 4, .int 4, .ref e1, .ref e2, .ref e3, .int e4]))]) hP hD [0, 1, 2] [] rfl rfl (by decide) (by decide) hk1 hFc hP1 hD1
  clear hPc hDc hFc hDv hpre hP hD hP1 hK1 hD1
  obtain ⟨hP, hD⟩ := hPD9
  replace hz : s.heap.size + 0 ≤ H3.size := by omega
  clear hz2
  replace hP : va_P (dC, dI) vwCl [(al, .inr (4, [.int v1, .ref ed, .int (nI (k0 + 1))])), (ed, .inl (cO, 10, .inr (.inr (.inr (.inr (va_up ee k0 (some el))))))), (el, .inr (5, [.int 4, .int 4, .ref e1, .ref e2, .ref e3, .int e4]))] H3 := hP
  replace hD : va_D A [(al, .inr (4, [.int v1, .ref ed, .int (nI (k0 + 1))])), (ed, .inl (cO, 10, .inr (.inr (.inr (.inr (va_up ee k0 (some el))))))), (el, .inr (5, [.int 4, .int 4, .ref e1, .ref e2, .ref e3, .int e4]))] := hD
  refine W.widen (k := 0) (n := 0) (by omega) (by omega) ?_
  refine lv_iconst (v := 1) hx hb dJx4a65c_add_9ea2d_23 (by decide) ?_
  have hP9 := hP.sub (ws' := [(al, .inr (4, [.int v1, .ref ed, .int (nI (k0 + 1))])), (ed, .inl (cO, 10, .inr (.inr (.inr (.inr (va_up ee k0 (some el))))))), (el, .inr (5, [.int 4, .int 4, .ref e1, .ref e2, .ref e3, .int e4]))]) [0, 1, 2] rfl
  have hD9 := hD.sub (ws' := [(al, .inr (4, [.int v1, .ref ed, .int (nI (k0 + 1))])), (ed, .inl (cO, 10, .inr (.inr (.inr (.inr (va_up ee k0 (some el))))))), (el, .inr (5, [.int 4, .int 4, .ref e1, .ref e2, .ref e3, .int e4]))]) [0, 1, 2] (by decide) rfl
  exact W.zret (v := 1) hx hb hr (by decide +kernel) (fun t ht hW => ⟨⟨_, (), rfl, rfl, ⟨_, ⟨by rw [ht]; exact hP9, va_K.moved hW.alike hK, hD9, by rw [ht]; exact hz⟩⟩⟩, hS.F ht⟩) hS.2.2 dJx4a65c_add_9ea2d_24

set_option maxHeartbeats 4000000 in
set_option maxRecDepth 100000 in
theorem k_ad3AX3 (l : Launch) (dC : Nat → ClassId) (dI : Nat → Nat → Nat) (cI cB cR cO : ClassId) (zk : Nat → Nat) (al el : Nat) (mc : Int32) (e1 e2 : Nat) (sz : Nat)  : Met l yJx4a65c_add_72be8 wsJx4a65c_add_72be8 ({ frames := 3, cells := 1, slots := 10, locals := 83 }) (va_Pc [.ref al, .ref el, .ref (zk 0), .int 0] (zPre (dC, dI) (zT cI cB cR cO) zk [] [(al, .inr (4, [.int mc, .ref (zk 0), .int 0])), (el, .inr (8, [.int 4, .ref e1, .ref e2]))] sz)) (va_Qv (fun _ : Unit => True) (fun _ t => ∃ ed, zEnd (dC, dI) (zT cI cB cR cO) (va_A [(al, .inr (4, [.int mc, .ref (zk 0), .int 0])), (el, .inr (8, [.int 4, .ref e1, .ref e2]))] sz) [(al, .inr (4, [.int mc, .ref ed, .int 1])), (ed, .inl (cO, 10, .inr (.inr (.inr (.inr (va_up (fun _ => none) 0 (some el))))))), (el, .inr (8, [.int 4, .ref e1, .ref e2]))] sz 1 t) (va_A [(al, .inr (4, [.int mc, .ref (zk 0), .int 0])), (el, .inr (8, [.int 4, .ref e1, .ref e2]))] sz)) 1 10 (va_A [(al, .inr (4, [.int mc, .ref (zk 0), .int 0])), (el, .inr (8, [.int 4, .ref e1, .ref e2]))] sz) := by
  refine Met.ofW (cc := cJx4a65c_add_72be8) (maxL := 4) (ret := none) (by decide) rfl ?_
  intro p e s mY args below meth c s₁ B hml hv
  obtain ⟨rfl, hsz, hP, hK, hD0, hZ⟩ := hv
  have hx := B.exec
  have hb := B.bytes
  have hr := B.returns
  have hts := atoms_spec (ws := wsJx4a65c_add_72be8) B.pre
  have hown : s.vm.findClass RJx4a65c = some mY.cls := findClass_of_methodNamed B.named
  have hlocks := B.notSynchronized
  subst hsz
  have hD := hD0.self (sz := s.heap.size)
  generalize hAe : va_A [(al, .inr (4, [.int mc, .ref (zk 0), .int 0])), (el, .inr (8, [.int 4, .ref e1, .ref e2]))] s.heap.size = A at hD hZ ⊢
  have hA : ∀ q : Nat, s.heap.size ≤ q → A q := fun q h => by rw [← hAe]; exact Or.inr h
  have hS : va_S A s.heap s.heap [] := va_S.rf
  have hz : s.heap.size + 0 ≤ s.heap.size := Nat.le_refl _
  have hl := lv_entry ([.ref al, .ref el, .ref (zk 0), .int 0]) (n := 4) (Nat.le_of_ble_eq_true rfl)
  rw [lg_entry_eq]
  generalize (lg_sl ([.ref al, .ref el, .ref (zk 0), .int 0]) ++ List.replicate (4 - (lg_sl ([.ref al, .ref el, .ref (zk 0), .int 0])).length) Slot.unset).toArray = ls at hl ⊢
  have hl : lv_has ls 4 [(0, .ref al), (1, .ref el), (2, .ref (zk 0)), (3, .int 0)] := hl
  have hP : va_P (dC, dI) vwCl [(al, .inr (4, [.int mc, .ref (zk 0), .int 0])), (el, .inr (8, [.int 4, .ref e1, .ref e2]))] s.heap := hP
  have hD : va_D A [(al, .inr (4, [.int mc, .ref (zk 0), .int 0])), (el, .inr (8, [.int 4, .ref e1, .ref e2]))] := hD
  refine lv_iload_n hx hb dJx4a65c_add_72be8_0 rfl (lv_at hl 3 rfl) ?_
  refine lv_aload_n hx hb dJx4a65c_add_72be8_1 rfl (lv_at hl 2 rfl) ?_
  refine va_tlen (v := 0) hx hb hZ.1.2.2.2.1 hS rfl dJx4a65c_add_72be8_2 ?_
  refine lv_icmp_ne (tgt := 11) hx hb dJx4a65c_add_72be8_3 (by decide) (fun c9 => ?_) (fun c9 => ?_)
  · exact absurd (by decide) c9
  refine lv_aload_n hx hb dJx4a65c_add_72be8_6 rfl (lv_at hl 0 rfl) ?_
  have hPc := hP.sub (ws' := [(al, .inr (4, [.int mc, .ref (zk 0), .int 0]))]) [0] rfl
  have hDc := hD.sub (ws' := [(al, .inr (4, [.int mc, .ref (zk 0), .int 0]))]) [0] (by decide) rfl
  have hFc := va_free (wc := [(al, .inr (4, [.int mc, .ref (zk 0), .int 0]))]) hD hS hA [0] rfl
  have hDv := hDc.self (sz := s.heap.size)
  have hpre := zpre (xs' := []) (av := [.ref al]) hPc hK (hDc.weaken (fun _ _ _ h => h)) hZ hS hFc (fun r hr => by cases hr)
  refine va_callr (va_runV (As := []) (rest := []) ⟨hx, hb, hml, hown, hts⟩ (k_grow0 l dC dI cI cB cR cO zk al mc s.heap.size ) (cwV 0 hts gJx4a65c_add_72be8_Jx4a65c_grow_d5877 rfl rfl rfl (by decide +kernel) ⟨Nat.le_of_ble_eq_true rfl, Nat.le_of_ble_eq_true rfl⟩) ⟨zblind, (zrecv_4 hK hPc (q0 := 0) rfl), hpre⟩ rfl rfl hl.1 rfl (lv_room (Nat.le_of_ble_eq_true rfl)) dJx4a65c_add_72be8_7 ⟨Nat.le_of_ble_eq_true rfl, Nat.le_of_ble_eq_true rfl⟩) hS (fun q _ h => hFc q h) hFc (fun u r2 t H1 locs ht hvm hw hB hz1 hk1 hS => ?_)
  obtain ⟨hP1, hK1, hD1, hz2⟩ := hB
  rw [ht] at hP1 hz2
  have hPD9 := va_join (wr := [(el, .inr (8, [.int 4, .ref e1, .ref e2]))]) (w1 := [(al, .inr (4, [.int mc, .ref r2, .int 0])), (r2, .inl (cO, 10, .inr (.inr (.inr (.inr (fun _ => none))))))]) hP hD [0] [1] rfl rfl (by decide) (by decide) hk1 hFc hP1 hD1
  clear hPc hDc hFc hDv hpre hP hD hP1 hK1 hD1
  obtain ⟨hP, hD⟩ := hPD9
  replace hz : s.heap.size + 1 ≤ H1.size := by omega
  clear hz2
  replace hP : va_P (dC, dI) vwCl [(el, .inr (8, [.int 4, .ref e1, .ref e2])), (al, .inr (4, [.int mc, .ref r2, .int 0])), (r2, .inl (cO, 10, .inr (.inr (.inr (.inr (fun _ => none))))))] H1 := hP
  replace hD : va_D A [(el, .inr (8, [.int 4, .ref e1, .ref e2])), (al, .inr (4, [.int mc, .ref r2, .int 0])), (r2, .inl (cO, 10, .inr (.inr (.inr (.inr (fun _ => none))))))] := hD
  refine W.widen (k := 1) (n := 10) (by omega) (by omega) ?_
  refine lv_astore_n (lv' := [(2, .ref r2), (0, .ref al), (1, .ref el), (3, .int 0)]) hx hb dJx4a65c_add_72be8_10 rfl hl (by decide) rfl (fun ls hl => ?_)
  refine lv_aload_n hx hb dJx4a65c_add_72be8_11 rfl (lv_at hl 0 rfl) ?_
  refine lv_iload_n hx hb dJx4a65c_add_72be8_12 rfl (lv_at hl 3 rfl) ?_
  refine lv_aload_n hx hb dJx4a65c_add_72be8_13 rfl (lv_at hl 2 rfl) ?_
  refine va_astqO (D := (dC, dI)) (cl := vwCl) (E := "java/lang/Object") hx hb hK hP hD (zS0 hS) 2 3 0 8 rfl rfl (zt2 hZ) rfl rfl (by unfold vp_in; decide) dJx4a65c_add_72be8_14 (fun H3 locs hP hD hS1 => ?_)
  have hz : s.heap.size + 1 ≤ H3.size := Nat.le_trans hz hS1.1
  have hS := zSS hS hS1
  replace hP : va_P (dC, dI) vwCl [(el, .inr (8, [.int 4, .ref e1, .ref e2])), (al, .inr (4, [.int mc, .ref r2, .int 0])), (r2, .inl (cO, 10, .inr (.inr (.inr (.inr (va_up (fun _ => none) 0 (some el)))))))] H3 := hP
  replace hD : va_D A [(el, .inr (8, [.int 4, .ref e1, .ref e2])), (al, .inr (4, [.int mc, .ref r2, .int 0])), (r2, .inl (cO, 10, .inr (.inr (.inr (.inr (va_up (fun _ => none) 0 (some el)))))))] := hD
  refine lv_aload_n hx hb dJx4a65c_add_72be8_15 rfl (lv_at hl 1 rfl) ?_
  refine lv_iload_n hx hb dJx4a65c_add_72be8_16 rfl (lv_at hl 3 rfl) ?_
  refine lv_iconst (v := 1) hx hb dJx4a65c_add_72be8_17 (by decide) ?_
  refine lv_iadd hx hb dJx4a65c_add_72be8_18 ?_
  refine lv_topi (fun v4 ev4 => ?_)
  obtain rfl : v4 = 1 := ev4.trans (by decide)
  refine va_put (D := (dC, dI)) (ci := 4) (v := .int 1) (ty := .int) (C := RJx4a65c) (T := TJx4a65c) (N := 3) hx hb hts hi_Jx4a65c_add_72be8_Jx4a65c tyJx4a65c tyJx4a65c_ok nmJx4a65c hown hK hP hD (zS0 hS) 1 rfl rfl 2 (by decide) (hts (.fieldLink RJx4a65c 48 "java/util/ArrayList" "size" "I") (List.mem_cons_of_mem _ zw_94)) (fun _ h9 => h9) rfl (by decide +kernel) rfl rfl (Nat.le_of_ble_eq_true rfl) dJx4a65c_add_72be8_19 (fun H5 locs hP hD hS1 => ?_)
  have hz : s.heap.size + 1 ≤ H5.size := Nat.le_trans hz hS1.1
  have hS := zSS hS hS1
  replace hP : va_P (dC, dI) vwCl [(el, .inr (8, [.int 4, .ref e1, .ref e2])), (al, .inr (4, [.int mc, .ref r2, .int 1])), (r2, .inl (cO, 10, .inr (.inr (.inr (.inr (va_up (fun _ => none) 0 (some el)))))))] H5 := hP
  replace hD : va_D A [(el, .inr (8, [.int 4, .ref e1, .ref e2])), (al, .inr (4, [.int mc, .ref r2, .int 1])), (r2, .inl (cO, 10, .inr (.inr (.inr (.inr (va_up (fun _ => none) 0 (some el)))))))] := hD
  have hP9 := hP.sub (ws' := [(al, .inr (4, [.int mc, .ref r2, .int 1])), (r2, .inl (cO, 10, .inr (.inr (.inr (.inr (va_up (fun _ => none) 0 (some el))))))), (el, .inr (8, [.int 4, .ref e1, .ref e2]))]) [1, 2, 0] rfl
  have hD9 := hD.sub (ws' := [(al, .inr (4, [.int mc, .ref r2, .int 1])), (r2, .inl (cO, 10, .inr (.inr (.inr (.inr (va_up (fun _ => none) 0 (some el))))))), (el, .inr (8, [.int 4, .ref e1, .ref e2]))]) [1, 2, 0] (by decide) rfl
  exact W.vret hx hb hr (fun t ht hW => ⟨⟨(), rfl, trivial, ⟨_, ⟨by rw [ht]; exact hP9, va_K.moved hW.alike hK, hD9, by rw [ht]; exact hz⟩⟩⟩, hS.F ht⟩) hS.2.2 dJx4a65c_add_72be8_22

set_option maxHeartbeats 4000000 in
set_option maxRecDepth 100000 in
theorem k_addAX3 (l : Launch) (dC : Nat → ClassId) (dI : Nat → Nat → Nat) (cI cB cR cO : ClassId) (zk : Nat → Nat) (al el : Nat) (mc : Int32) (e1 e2 : Nat) (sz : Nat)  : Met l yJx4a65c_add_9ea2d wsJx4a65c_add_9ea2d ({ frames := 4, cells := 1, slots := 10, locals := 106 }) (va_Pc [.ref al, .ref el] (zPre (dC, dI) (zT cI cB cR cO) zk [] [(al, .inr (4, [.int mc, .ref (zk 0), .int 0])), (el, .inr (8, [.int 4, .ref e1, .ref e2]))] sz)) (va_Qi (fun r (_ : Unit) => r = 1) (fun _ t => ∃ ed, ∃ (mc2 : Int32), zEnd (dC, dI) (zT cI cB cR cO) (va_A [(al, .inr (4, [.int mc, .ref (zk 0), .int 0])), (el, .inr (8, [.int 4, .ref e1, .ref e2]))] sz) [(al, .inr (4, [.int mc2, .ref ed, .int 1])), (ed, .inl (cO, 10, .inr (.inr (.inr (.inr (va_up (fun _ => none) 0 (some el))))))), (el, .inr (8, [.int 4, .ref e1, .ref e2]))] sz 1 t) (va_A [(al, .inr (4, [.int mc, .ref (zk 0), .int 0])), (el, .inr (8, [.int 4, .ref e1, .ref e2]))] sz)) 1 10 (va_A [(al, .inr (4, [.int mc, .ref (zk 0), .int 0])), (el, .inr (8, [.int 4, .ref e1, .ref e2]))] sz) := by
  refine Met.ofW (cc := cJx4a65c_add_9ea2d) (maxL := 2) (ret := (some .boolean)) (by decide) rfl ?_
  intro p e s mY args below meth c s₁ B hml hv
  obtain ⟨rfl, hsz, hP, hK, hD0, hZ⟩ := hv
  have hx := B.exec
  have hb := B.bytes
  have hr := B.returns
  have hts := atoms_spec (ws := wsJx4a65c_add_9ea2d) B.pre
  have hown : s.vm.findClass RJx4a65c = some mY.cls := findClass_of_methodNamed B.named
  have hlocks := B.notSynchronized
  subst hsz
  have hD := hD0.self (sz := s.heap.size)
  generalize hAe : va_A [(al, .inr (4, [.int mc, .ref (zk 0), .int 0])), (el, .inr (8, [.int 4, .ref e1, .ref e2]))] s.heap.size = A at hD hZ ⊢
  have hA : ∀ q : Nat, s.heap.size ≤ q → A q := fun q h => by rw [← hAe]; exact Or.inr h
  have hS : va_S A s.heap s.heap [] := va_S.rf
  have hz : s.heap.size + 0 ≤ s.heap.size := Nat.le_refl _
  have hl := lv_entry ([.ref al, .ref el]) (n := 2) (Nat.le_of_ble_eq_true rfl)
  rw [lg_entry_eq]
  generalize (lg_sl ([.ref al, .ref el]) ++ List.replicate (2 - (lg_sl ([.ref al, .ref el])).length) Slot.unset).toArray = ls at hl ⊢
  have hl : lv_has ls 2 [(0, .ref al), (1, .ref el)] := hl
  have hP : va_P (dC, dI) vwCl [(al, .inr (4, [.int mc, .ref (zk 0), .int 0])), (el, .inr (8, [.int 4, .ref e1, .ref e2]))] s.heap := hP
  have hD : va_D A [(al, .inr (4, [.int mc, .ref (zk 0), .int 0])), (el, .inr (8, [.int 4, .ref e1, .ref e2]))] := hD
  refine lv_aload_n hx hb dJx4a65c_add_9ea2d_0 rfl (lv_at hl 0 rfl) ?_
  refine lv_dup hx hb dJx4a65c_add_9ea2d_1 rfl ?_
  refine va_get (D := (dC, dI)) (ci := 4) (v := .int mc) (C := RJx4a65c) (T := TJx4a65c) (N := 3) hx hb hts hi_Jx4a65c_add_9ea2d_Jx4a65c hown hK hP 0 rfl rfl 0 (by decide) (hts (.fieldLink RJx4a65c 63 "java/util/ArrayList" "modCount" "I") (List.mem_cons_of_mem _ zw_96)) (fun x9 h9 => u_same (hts (.sameField "java/util/ArrayList" "java/util/AbstractList" "modCount" "I") (List.mem_cons_of_mem _ zw_97)) x9 h9) rfl dJx4a65c_add_9ea2d_2 ?_
  refine lv_iconst (v := 1) hx hb dJx4a65c_add_9ea2d_5 (by decide) ?_
  refine lv_iadd hx hb dJx4a65c_add_9ea2d_6 ?_
  refine lv_topi (fun v1 ev1 => ?_)
  refine va_put (D := (dC, dI)) (ci := 4) (v := .int v1) (ty := .int) (C := RJx4a65c) (T := TJx4a65c) (N := 3) hx hb hts hi_Jx4a65c_add_9ea2d_Jx4a65c tyJx4a65c tyJx4a65c_ok nmJx4a65c hown hK hP hD (zS0 hS) 0 rfl rfl 0 (by decide) (hts (.fieldLink RJx4a65c 63 "java/util/ArrayList" "modCount" "I") (List.mem_cons_of_mem _ zw_96)) (fun x9 h9 => u_same (hts (.sameField "java/util/ArrayList" "java/util/AbstractList" "modCount" "I") (List.mem_cons_of_mem _ zw_97)) x9 h9) rfl (by decide +kernel) rfl rfl (Nat.le_of_ble_eq_true rfl) dJx4a65c_add_9ea2d_7 (fun H2 locs hP hD hS1 => ?_)
  have hz : s.heap.size + 0 ≤ H2.size := Nat.le_trans hz hS1.1
  have hS := zSS hS hS1
  replace hP : va_P (dC, dI) vwCl [(al, .inr (4, [.int v1, .ref (zk 0), .int 0])), (el, .inr (8, [.int 4, .ref e1, .ref e2]))] H2 := hP
  replace hD : va_D A [(al, .inr (4, [.int v1, .ref (zk 0), .int 0])), (el, .inr (8, [.int 4, .ref e1, .ref e2]))] := hD
  refine lv_aload_n hx hb dJx4a65c_add_9ea2d_10 rfl (lv_at hl 0 rfl) ?_
  refine lv_aload_n hx hb dJx4a65c_add_9ea2d_11 rfl (lv_at hl 1 rfl) ?_
  refine lv_aload_n hx hb dJx4a65c_add_9ea2d_12 rfl (lv_at hl 0 rfl) ?_
  refine va_get (D := (dC, dI)) (ci := 4) (v := .ref (zk 0)) (C := RJx4a65c) (T := TJx4a65c) (N := 3) hx hb hts hi_Jx4a65c_add_9ea2d_Jx4a65c hown hK hP 0 rfl rfl 1 (by decide) (hts (.fieldLink RJx4a65c 9 "java/util/ArrayList" "elementData" "[Ljava/lang/Object;") (List.mem_cons_of_mem _ zw_93)) (fun _ h9 => h9) rfl dJx4a65c_add_9ea2d_13 ?_
  refine lv_aload_n hx hb dJx4a65c_add_9ea2d_16 rfl (lv_at hl 0 rfl) ?_
  refine va_get (D := (dC, dI)) (ci := 4) (v := .int 0) (C := RJx4a65c) (T := TJx4a65c) (N := 3) hx hb hts hi_Jx4a65c_add_9ea2d_Jx4a65c hown hK hP 0 rfl rfl 2 (by decide) (hts (.fieldLink RJx4a65c 48 "java/util/ArrayList" "size" "I") (List.mem_cons_of_mem _ zw_94)) (fun _ h9 => h9) rfl dJx4a65c_add_9ea2d_17 ?_
  have hPc := hP.sub (ws' := [(al, .inr (4, [.int v1, .ref (zk 0), .int 0])), (el, .inr (8, [.int 4, .ref e1, .ref e2]))]) [0, 1] rfl
  have hDc := hD.sub (ws' := [(al, .inr (4, [.int v1, .ref (zk 0), .int 0])), (el, .inr (8, [.int 4, .ref e1, .ref e2]))]) [0, 1] (by decide) rfl
  have hFc := va_free (wc := [(al, .inr (4, [.int v1, .ref (zk 0), .int 0])), (el, .inr (8, [.int 4, .ref e1, .ref e2]))]) hD hS hA [0, 1] rfl
  have hDv := hDc.self (sz := H2.size)
  have hpre := zpre (xs' := []) (av := [.ref al, .ref el, .ref (zk 0), .int 0]) hPc hK (hDc.weaken (fun _ _ _ h => h)) hZ hS hFc (fun r hr => by cases hr)
  refine va_callv (va_runV (As := [.ref el, .ref (zk 0), .int 0]) (rest := []) ⟨hx, hb, hml, hown, hts⟩ (k_ad3AX3 l dC dI cI cB cR cO zk al el v1 e1 e2 H2.size ) (cwV 3 hts gJx4a65c_add_9ea2d_Jx4a65c_add_72be8 rfl rfl rfl (by decide +kernel) ⟨Nat.le_of_ble_eq_true rfl, Nat.le_of_ble_eq_true rfl⟩) ⟨zblind, (zrecv_4 hK hPc (q0 := 0) rfl), hpre⟩ rfl rfl hl.1 rfl (lv_room (Nat.le_of_ble_eq_true rfl)) dJx4a65c_add_9ea2d_20 ⟨Nat.le_of_ble_eq_true rfl, Nat.le_of_ble_eq_true rfl⟩) hS (fun q _ h => hFc q h) hFc (fun u t H3 locs ht hvm hw hB hz1 hk1 hS => ?_)
  obtain ⟨ed5, ⟨hP1, hK1, hD1, hz2⟩⟩ := hB
  rw [ht] at hP1 hz2
  have hPD9 := va_join (wr := []) (w1 := [(al, .inr (4, [.int v1, .ref ed5, .int 1])), (ed5, .inl (cO, 10, .inr (.inr (.inr (.inr (va_up (fun _ => none) 0 (some el))))))), (el, .inr (8, [.int 4, .ref e1, .ref e2]))]) hP hD [0, 1] [] rfl rfl (by decide) (by decide) hk1 hFc hP1 hD1
  clear hPc hDc hFc hDv hpre hP hD hP1 hK1 hD1
  obtain ⟨hP, hD⟩ := hPD9
  replace hz : s.heap.size + 1 ≤ H3.size := by omega
  clear hz2
  replace hP : va_P (dC, dI) vwCl [(al, .inr (4, [.int v1, .ref ed5, .int 1])), (ed5, .inl (cO, 10, .inr (.inr (.inr (.inr (va_up (fun _ => none) 0 (some el))))))), (el, .inr (8, [.int 4, .ref e1, .ref e2]))] H3 := hP
  replace hD : va_D A [(al, .inr (4, [.int v1, .ref ed5, .int 1])), (ed5, .inl (cO, 10, .inr (.inr (.inr (.inr (va_up (fun _ => none) 0 (some el))))))), (el, .inr (8, [.int 4, .ref e1, .ref e2]))] := hD
  refine W.widen (k := 1) (n := 10) (by omega) (by omega) ?_
  refine lv_iconst (v := 1) hx hb dJx4a65c_add_9ea2d_23 (by decide) ?_
  have hP9 := hP.sub (ws' := [(al, .inr (4, [.int v1, .ref ed5, .int 1])), (ed5, .inl (cO, 10, .inr (.inr (.inr (.inr (va_up (fun _ => none) 0 (some el))))))), (el, .inr (8, [.int 4, .ref e1, .ref e2]))]) [0, 1, 2] rfl
  have hD9 := hD.sub (ws' := [(al, .inr (4, [.int v1, .ref ed5, .int 1])), (ed5, .inl (cO, 10, .inr (.inr (.inr (.inr (va_up (fun _ => none) 0 (some el))))))), (el, .inr (8, [.int 4, .ref e1, .ref e2]))]) [0, 1, 2] (by decide) rfl
  exact W.zret (v := 1) hx hb hr (by decide +kernel) (fun t ht hW => ⟨⟨_, (), rfl, rfl, ⟨_, _, ⟨by rw [ht]; exact hP9, va_K.moved hW.alike hK, hD9, by rw [ht]; exact hz⟩⟩⟩, hS.F ht⟩) hS.2.2 dJx4a65c_add_9ea2d_24

set_option maxHeartbeats 4000000 in
set_option maxRecDepth 100000 in
theorem k_ad3BX3 (l : Launch) (dC : Nat → ClassId) (dI : Nat → Nat → Nat) (cI cB cR cO : ClassId) (zk : Nat → Nat) (al el ed k0 : Nat) (ee : Nat → Option Nat) (mc : Int32) (e1 e2 : Nat) (sz : Nat) (hk : k0 < 10) : Met l yJx4a65c_add_72be8 wsJx4a65c_add_72be8 ({ frames := 0, cells := 0, slots := 0, locals := 0 }) (va_Pc [.ref al, .ref el, .ref ed, .int (nI k0)] (zPre (dC, dI) (zT cI cB cR cO) zk [] [(al, .inr (4, [.int mc, .ref ed, .int (nI k0)])), (ed, .inl (cO, 10, .inr (.inr (.inr (.inr ee))))), (el, .inr (8, [.int 4, .ref e1, .ref e2]))] sz)) (va_Qv (fun _ : Unit => True) (fun _ t => zEnd (dC, dI) (zT cI cB cR cO) (va_A [(al, .inr (4, [.int mc, .ref ed, .int (nI k0)])), (ed, .inl (cO, 10, .inr (.inr (.inr (.inr ee))))), (el, .inr (8, [.int 4, .ref e1, .ref e2]))] sz) [(al, .inr (4, [.int mc, .ref ed, .int (nI (k0 + 1))])), (ed, .inl (cO, 10, .inr (.inr (.inr (.inr (va_up ee k0 (some el))))))), (el, .inr (8, [.int 4, .ref e1, .ref e2]))] sz 0 t) (va_A [(al, .inr (4, [.int mc, .ref ed, .int (nI k0)])), (ed, .inl (cO, 10, .inr (.inr (.inr (.inr ee))))), (el, .inr (8, [.int 4, .ref e1, .ref e2]))] sz)) 0 0 (va_A [(al, .inr (4, [.int mc, .ref ed, .int (nI k0)])), (ed, .inl (cO, 10, .inr (.inr (.inr (.inr ee))))), (el, .inr (8, [.int 4, .ref e1, .ref e2]))] sz) := by
  refine Met.ofW (cc := cJx4a65c_add_72be8) (maxL := 4) (ret := none) (by decide) rfl ?_
  intro p e s mY args below meth c s₁ B hml hv
  obtain ⟨rfl, hsz, hP, hK, hD0, hZ⟩ := hv
  have hx := B.exec
  have hb := B.bytes
  have hr := B.returns
  have hts := atoms_spec (ws := wsJx4a65c_add_72be8) B.pre
  have hown : s.vm.findClass RJx4a65c = some mY.cls := findClass_of_methodNamed B.named
  have hlocks := B.notSynchronized
  subst hsz
  have hD := hD0.self (sz := s.heap.size)
  generalize hAe : va_A [(al, .inr (4, [.int mc, .ref ed, .int (nI k0)])), (ed, .inl (cO, 10, .inr (.inr (.inr (.inr ee))))), (el, .inr (8, [.int 4, .ref e1, .ref e2]))] s.heap.size = A at hD hZ ⊢
  have hA : ∀ q : Nat, s.heap.size ≤ q → A q := fun q h => by rw [← hAe]; exact Or.inr h
  have hS : va_S A s.heap s.heap [] := va_S.rf
  have hz : s.heap.size + 0 ≤ s.heap.size := Nat.le_refl _
  have hl := lv_entry ([.ref al, .ref el, .ref ed, .int (nI k0)]) (n := 4) (Nat.le_of_ble_eq_true rfl)
  rw [lg_entry_eq]
  generalize (lg_sl ([.ref al, .ref el, .ref ed, .int (nI k0)]) ++ List.replicate (4 - (lg_sl ([.ref al, .ref el, .ref ed, .int (nI k0)])).length) Slot.unset).toArray = ls at hl ⊢
  have hl : lv_has ls 4 [(0, .ref al), (1, .ref el), (2, .ref ed), (3, .int (nI k0))] := hl
  have hP : va_P (dC, dI) vwCl [(al, .inr (4, [.int mc, .ref ed, .int (nI k0)])), (ed, .inl (cO, 10, .inr (.inr (.inr (.inr ee))))), (el, .inr (8, [.int 4, .ref e1, .ref e2]))] s.heap := hP
  have hD : va_D A [(al, .inr (4, [.int mc, .ref ed, .int (nI k0)])), (ed, .inl (cO, 10, .inr (.inr (.inr (.inr ee))))), (el, .inr (8, [.int 4, .ref e1, .ref e2]))] := hD
  refine lv_iload_n hx hb dJx4a65c_add_72be8_0 rfl (lv_at hl 3 rfl) ?_
  refine lv_aload_n hx hb dJx4a65c_add_72be8_1 rfl (lv_at hl 2 rfl) ?_
  refine va_alen (D := (dC, dI)) (cl := vwCl) (v := 10) hx hb hK hP 1 3 rfl rfl rfl dJx4a65c_add_72be8_2 ?_
  refine lv_icmp_ne (tgt := 11) hx hb dJx4a65c_add_72be8_3 (by decide) (fun c9 => ?_) (fun c9 => ?_)
  rotate_left
  · exact absurd c9 (fun e9 => absurd ((nI_eq (by omega) (by omega)).mp (show nI k0 = nI 10 from e9)) (by omega))
  refine lv_aload_n hx hb dJx4a65c_add_72be8_11 rfl (lv_at hl 2 rfl) ?_
  refine lv_iload_n hx hb dJx4a65c_add_72be8_12 rfl (lv_at hl 3 rfl) ?_
  refine lv_aload_n hx hb dJx4a65c_add_72be8_13 rfl (lv_at hl 1 rfl) ?_
  refine va_astqO (D := (dC, dI)) (cl := vwCl) (E := "java/lang/Object") hx hb hK hP hD (zS0 hS) 1 3 2 8 rfl rfl (zt2 hZ) rfl rfl (vp_in_nI hk (by omega)) dJx4a65c_add_72be8_14 (fun H1 locs hP hD hS1 => ?_)
  have hz : s.heap.size + 0 ≤ H1.size := Nat.le_trans hz hS1.1
  have hS := zSS hS hS1
  rw [nI_clamp (n := k0) (by omega)] at hP hD
  replace hP : va_P (dC, dI) vwCl [(al, .inr (4, [.int mc, .ref ed, .int (nI k0)])), (ed, .inl (cO, 10, .inr (.inr (.inr (.inr (va_up ee k0 (some el))))))), (el, .inr (8, [.int 4, .ref e1, .ref e2]))] H1 := hP
  replace hD : va_D A [(al, .inr (4, [.int mc, .ref ed, .int (nI k0)])), (ed, .inl (cO, 10, .inr (.inr (.inr (.inr (va_up ee k0 (some el))))))), (el, .inr (8, [.int 4, .ref e1, .ref e2]))] := hD
  refine lv_aload_n hx hb dJx4a65c_add_72be8_15 rfl (lv_at hl 0 rfl) ?_
  refine lv_iload_n hx hb dJx4a65c_add_72be8_16 rfl (lv_at hl 3 rfl) ?_
  refine lv_iconst (v := 1) hx hb dJx4a65c_add_72be8_17 (by decide) ?_
  refine lv_iadd hx hb dJx4a65c_add_72be8_18 ?_
  refine lv_topi (fun v2 ev2 => ?_)
  obtain rfl : v2 = nI (k0 + 1) := ev2.trans (nI_add k0 1)
  refine va_put (D := (dC, dI)) (ci := 4) (v := .int (nI (k0 + 1))) (ty := .int) (C := RJx4a65c) (T := TJx4a65c) (N := 3) hx hb hts hi_Jx4a65c_add_72be8_Jx4a65c tyJx4a65c tyJx4a65c_ok nmJx4a65c hown hK hP hD (zS0 hS) 0 rfl rfl 2 (by decide) (hts (.fieldLink RJx4a65c 48 "java/util/ArrayList" "size" "I") (List.mem_cons_of_mem _ zw_94)) (fun _ h9 => h9) rfl (by decide +kernel) rfl rfl (Nat.le_of_ble_eq_true rfl) dJx4a65c_add_72be8_19 (fun H3 locs hP hD hS1 => ?_)
  have hz : s.heap.size + 0 ≤ H3.size := Nat.le_trans hz hS1.1
  have hS := zSS hS hS1
  replace hP : va_P (dC, dI) vwCl [(al, .inr (4, [.int mc, .ref ed, .int (nI (k0 + 1))])), (ed, .inl (cO, 10, .inr (.inr (.inr (.inr (va_up ee k0 (some el))))))), (el, .inr (8, [.int 4, .ref e1, .ref e2]))] H3 := hP
  replace hD : va_D A [(al, .inr (4, [.int mc, .ref ed, .int (nI (k0 + 1))])), (ed, .inl (cO, 10, .inr (.inr (.inr (.inr (va_up ee k0 (some el))))))), (el, .inr (8, [.int 4, .ref e1, .ref e2]))] := hD
  have hP9 := hP.sub (ws' := [(al, .inr (4, [.int mc, .ref ed, .int (nI (k0 + 1))])), (ed, .inl (cO, 10, .inr (.inr (.inr (.inr (va_up ee k0 (some el))))))), (el, .inr (8, [.int 4, .ref e1, .ref e2]))]) [0, 1, 2] rfl
  have hD9 := hD.sub (ws' := [(al, .inr (4, [.int mc, .ref ed, .int (nI (k0 + 1))])), (ed, .inl (cO, 10, .inr (.inr (.inr (.inr (va_up ee k0 (some el))))))), (el, .inr (8, [.int 4, .ref e1, .ref e2]))]) [0, 1, 2] (by decide) rfl
  exact W.vret hx hb hr (fun t ht hW => ⟨⟨(), rfl, trivial, ⟨by rw [ht]; exact hP9, va_K.moved hW.alike hK, hD9, by rw [ht]; exact hz⟩⟩, hS.F ht⟩) hS.2.2 dJx4a65c_add_72be8_22

set_option maxHeartbeats 4000000 in
set_option maxRecDepth 100000 in
theorem k_addBX3 (l : Launch) (dC : Nat → ClassId) (dI : Nat → Nat → Nat) (cI cB cR cO : ClassId) (zk : Nat → Nat) (al el ed k0 : Nat) (ee : Nat → Option Nat) (mc : Int32) (e1 e2 : Nat) (sz : Nat) (hk : k0 < 10) : Met l yJx4a65c_add_9ea2d wsJx4a65c_add_9ea2d ({ frames := 1, cells := 0, slots := 0, locals := 23 }) (va_Pc [.ref al, .ref el] (zPre (dC, dI) (zT cI cB cR cO) zk [] [(al, .inr (4, [.int mc, .ref ed, .int (nI k0)])), (ed, .inl (cO, 10, .inr (.inr (.inr (.inr ee))))), (el, .inr (8, [.int 4, .ref e1, .ref e2]))] sz)) (va_Qi (fun r (_ : Unit) => r = 1) (fun _ t => ∃ (mc2 : Int32), zEnd (dC, dI) (zT cI cB cR cO) (va_A [(al, .inr (4, [.int mc, .ref ed, .int (nI k0)])), (ed, .inl (cO, 10, .inr (.inr (.inr (.inr ee))))), (el, .inr (8, [.int 4, .ref e1, .ref e2]))] sz) [(al, .inr (4, [.int mc2, .ref ed, .int (nI (k0 + 1))])), (ed, .inl (cO, 10, .inr (.inr (.inr (.inr (va_up ee k0 (some el))))))), (el, .inr (8, [.int 4, .ref e1, .ref e2]))] sz 0 t) (va_A [(al, .inr (4, [.int mc, .ref ed, .int (nI k0)])), (ed, .inl (cO, 10, .inr (.inr (.inr (.inr ee))))), (el, .inr (8, [.int 4, .ref e1, .ref e2]))] sz)) 0 0 (va_A [(al, .inr (4, [.int mc, .ref ed, .int (nI k0)])), (ed, .inl (cO, 10, .inr (.inr (.inr (.inr ee))))), (el, .inr (8, [.int 4, .ref e1, .ref e2]))] sz) := by
  refine Met.ofW (cc := cJx4a65c_add_9ea2d) (maxL := 2) (ret := (some .boolean)) (by decide) rfl ?_
  intro p e s mY args below meth c s₁ B hml hv
  obtain ⟨rfl, hsz, hP, hK, hD0, hZ⟩ := hv
  have hx := B.exec
  have hb := B.bytes
  have hr := B.returns
  have hts := atoms_spec (ws := wsJx4a65c_add_9ea2d) B.pre
  have hown : s.vm.findClass RJx4a65c = some mY.cls := findClass_of_methodNamed B.named
  have hlocks := B.notSynchronized
  subst hsz
  have hD := hD0.self (sz := s.heap.size)
  generalize hAe : va_A [(al, .inr (4, [.int mc, .ref ed, .int (nI k0)])), (ed, .inl (cO, 10, .inr (.inr (.inr (.inr ee))))), (el, .inr (8, [.int 4, .ref e1, .ref e2]))] s.heap.size = A at hD hZ ⊢
  have hA : ∀ q : Nat, s.heap.size ≤ q → A q := fun q h => by rw [← hAe]; exact Or.inr h
  have hS : va_S A s.heap s.heap [] := va_S.rf
  have hz : s.heap.size + 0 ≤ s.heap.size := Nat.le_refl _
  have hl := lv_entry ([.ref al, .ref el]) (n := 2) (Nat.le_of_ble_eq_true rfl)
  rw [lg_entry_eq]
  generalize (lg_sl ([.ref al, .ref el]) ++ List.replicate (2 - (lg_sl ([.ref al, .ref el])).length) Slot.unset).toArray = ls at hl ⊢
  have hl : lv_has ls 2 [(0, .ref al), (1, .ref el)] := hl
  have hP : va_P (dC, dI) vwCl [(al, .inr (4, [.int mc, .ref ed, .int (nI k0)])), (ed, .inl (cO, 10, .inr (.inr (.inr (.inr ee))))), (el, .inr (8, [.int 4, .ref e1, .ref e2]))] s.heap := hP
  have hD : va_D A [(al, .inr (4, [.int mc, .ref ed, .int (nI k0)])), (ed, .inl (cO, 10, .inr (.inr (.inr (.inr ee))))), (el, .inr (8, [.int 4, .ref e1, .ref e2]))] := hD
  refine lv_aload_n hx hb dJx4a65c_add_9ea2d_0 rfl (lv_at hl 0 rfl) ?_
  refine lv_dup hx hb dJx4a65c_add_9ea2d_1 rfl ?_
  refine va_get (D := (dC, dI)) (ci := 4) (v := .int mc) (C := RJx4a65c) (T := TJx4a65c) (N := 3) hx hb hts hi_Jx4a65c_add_9ea2d_Jx4a65c hown hK hP 0 rfl rfl 0 (by decide) (hts (.fieldLink RJx4a65c 63 "java/util/ArrayList" "modCount" "I") (List.mem_cons_of_mem _ zw_96)) (fun x9 h9 => u_same (hts (.sameField "java/util/ArrayList" "java/util/AbstractList" "modCount" "I") (List.mem_cons_of_mem _ zw_97)) x9 h9) rfl dJx4a65c_add_9ea2d_2 ?_
  refine lv_iconst (v := 1) hx hb dJx4a65c_add_9ea2d_5 (by decide) ?_
  refine lv_iadd hx hb dJx4a65c_add_9ea2d_6 ?_
  refine lv_topi (fun v1 ev1 => ?_)
  refine va_put (D := (dC, dI)) (ci := 4) (v := .int v1) (ty := .int) (C := RJx4a65c) (T := TJx4a65c) (N := 3) hx hb hts hi_Jx4a65c_add_9ea2d_Jx4a65c tyJx4a65c tyJx4a65c_ok nmJx4a65c hown hK hP hD (zS0 hS) 0 rfl rfl 0 (by decide) (hts (.fieldLink RJx4a65c 63 "java/util/ArrayList" "modCount" "I") (List.mem_cons_of_mem _ zw_96)) (fun x9 h9 => u_same (hts (.sameField "java/util/ArrayList" "java/util/AbstractList" "modCount" "I") (List.mem_cons_of_mem _ zw_97)) x9 h9) rfl (by decide +kernel) rfl rfl (Nat.le_of_ble_eq_true rfl) dJx4a65c_add_9ea2d_7 (fun H2 locs hP hD hS1 => ?_)
  have hz : s.heap.size + 0 ≤ H2.size := Nat.le_trans hz hS1.1
  have hS := zSS hS hS1
  replace hP : va_P (dC, dI) vwCl [(al, .inr (4, [.int v1, .ref ed, .int (nI k0)])), (ed, .inl (cO, 10, .inr (.inr (.inr (.inr ee))))), (el, .inr (8, [.int 4, .ref e1, .ref e2]))] H2 := hP
  replace hD : va_D A [(al, .inr (4, [.int v1, .ref ed, .int (nI k0)])), (ed, .inl (cO, 10, .inr (.inr (.inr (.inr ee))))), (el, .inr (8, [.int 4, .ref e1, .ref e2]))] := hD
  refine lv_aload_n hx hb dJx4a65c_add_9ea2d_10 rfl (lv_at hl 0 rfl) ?_
  refine lv_aload_n hx hb dJx4a65c_add_9ea2d_11 rfl (lv_at hl 1 rfl) ?_
  refine lv_aload_n hx hb dJx4a65c_add_9ea2d_12 rfl (lv_at hl 0 rfl) ?_
  refine va_get (D := (dC, dI)) (ci := 4) (v := .ref ed) (C := RJx4a65c) (T := TJx4a65c) (N := 3) hx hb hts hi_Jx4a65c_add_9ea2d_Jx4a65c hown hK hP 0 rfl rfl 1 (by decide) (hts (.fieldLink RJx4a65c 9 "java/util/ArrayList" "elementData" "[Ljava/lang/Object;") (List.mem_cons_of_mem _ zw_93)) (fun _ h9 => h9) rfl dJx4a65c_add_9ea2d_13 ?_
  refine lv_aload_n hx hb dJx4a65c_add_9ea2d_16 rfl (lv_at hl 0 rfl) ?_
  refine va_get (D := (dC, dI)) (ci := 4) (v := .int (nI k0)) (C := RJx4a65c) (T := TJx4a65c) (N := 3) hx hb hts hi_Jx4a65c_add_9ea2d_Jx4a65c hown hK hP 0 rfl rfl 2 (by decide) (hts (.fieldLink RJx4a65c 48 "java/util/ArrayList" "size" "I") (List.mem_cons_of_mem _ zw_94)) (fun _ h9 => h9) rfl dJx4a65c_add_9ea2d_17 ?_
  have hPc := hP.sub (ws' := [(al, .inr (4, [.int v1, .ref ed, .int (nI k0)])), (ed, .inl (cO, 10, .inr (.inr (.inr (.inr ee))))), (el, .inr (8, [.int 4, .ref e1, .ref e2]))]) [0, 1, 2] rfl
  have hDc := hD.sub (ws' := [(al, .inr (4, [.int v1, .ref ed, .int (nI k0)])), (ed, .inl (cO, 10, .inr (.inr (.inr (.inr ee))))), (el, .inr (8, [.int 4, .ref e1, .ref e2]))]) [0, 1, 2] (by decide) rfl
  have hFc := va_free (wc := [(al, .inr (4, [.int v1, .ref ed, .int (nI k0)])), (ed, .inl (cO, 10, .inr (.inr (.inr (.inr ee))))), (el, .inr (8, [.int 4, .ref e1, .ref e2]))]) hD hS hA [0, 1, 2] rfl
  have hDv := hDc.self (sz := H2.size)
  have hpre := zpre (xs' := []) (av := [.ref al, .ref el, .ref ed, .int (nI k0)]) hPc hK (hDc.weaken (fun _ _ _ h => h)) hZ hS hFc (fun r hr => by cases hr)
  refine va_callv (va_runV (As := [.ref el, .ref ed, .int (nI k0)]) (rest := []) ⟨hx, hb, hml, hown, hts⟩ (k_ad3BX3 l dC dI cI cB cR cO zk al el ed k0 ee v1 e1 e2 H2.size hk) (cwV 3 hts gJx4a65c_add_9ea2d_Jx4a65c_add_72be8 rfl rfl rfl (by decide +kernel) ⟨Nat.le_of_ble_eq_true rfl, Nat.le_of_ble_eq_true rfl⟩) ⟨zblind, (zrecv_4 hK hPc (q0 := 0) rfl), hpre⟩ rfl rfl hl.1 rfl (lv_room (Nat.le_of_ble_eq_true rfl)) dJx4a65c_add_9ea2d_20 ⟨Nat.le_of_ble_eq_true rfl, Nat.le_of_ble_eq_true rfl⟩) hS (fun q _ h => hFc q h) hFc (fun u t H3 locs ht hvm hw hB hz1 hk1 hS => ?_)
  obtain ⟨hP1, hK1, hD1, hz2⟩ := hB
  rw [ht] at hP1 hz2
  have hPD9 := va_join (wr := []) (w1 := [(al, .inr (4, [.int v1, .ref ed, .int (nI (k0 + 1))])), (ed, .inl (cO, 10, .inr (.inr (.inr (.inr (va_up ee k0 (some el))))))), (el, .inr (8, [.int 4, .ref e1, .ref e2]))]) hP hD [0, 1, 2] [] rfl rfl (by decide) (by decide) hk1 hFc hP1 hD1
  clear hPc hDc hFc hDv hpre hP hD hP1 hK1 hD1
  obtain ⟨hP, hD⟩ := hPD9
  replace hz : s.heap.size + 0 ≤ H3.size := by omega
  clear hz2
  replace hP : va_P (dC, dI) vwCl [(al, .inr (4, [.int v1, .ref ed, .int (nI (k0 + 1))])), (ed, .inl (cO, 10, .inr (.inr (.inr (.inr (va_up ee k0 (some el))))))), (el, .inr (8, [.int 4, .ref e1, .ref e2]))] H3 := hP
  replace hD : va_D A [(al, .inr (4, [.int v1, .ref ed, .int (nI (k0 + 1))])), (ed, .inl (cO, 10, .inr (.inr (.inr (.inr (va_up ee k0 (some el))))))), (el, .inr (8, [.int 4, .ref e1, .ref e2]))] := hD
  refine W.widen (k := 0) (n := 0) (by omega) (by omega) ?_
  refine lv_iconst (v := 1) hx hb dJx4a65c_add_9ea2d_23 (by decide) ?_
  have hP9 := hP.sub (ws' := [(al, .inr (4, [.int v1, .ref ed, .int (nI (k0 + 1))])), (ed, .inl (cO, 10, .inr (.inr (.inr (.inr (va_up ee k0 (some el))))))), (el, .inr (8, [.int 4, .ref e1, .ref e2]))]) [0, 1, 2] rfl
  have hD9 := hD.sub (ws' := [(al, .inr (4, [.int v1, .ref ed, .int (nI (k0 + 1))])), (ed, .inl (cO, 10, .inr (.inr (.inr (.inr (va_up ee k0 (some el))))))), (el, .inr (8, [.int 4, .ref e1, .ref e2]))]) [0, 1, 2] (by decide) rfl
  exact W.zret (v := 1) hx hb hr (by decide +kernel) (fun t ht hW => ⟨⟨_, (), rfl, rfl, ⟨_, ⟨by rw [ht]; exact hP9, va_K.moved hW.alike hK, hD9, by rw [ht]; exact hz⟩⟩⟩, hS.F ht⟩) hS.2.2 dJx4a65c_add_9ea2d_24
