set_option maxHeartbeats 4000000 in
set_option maxRecDepth 100000 in
theorem k_chk3 (l : Launch) (dC : Nat → ClassId) (dI : Nat → Nat → Nat) (cI cB cR cO : ClassId) (zk : Nat → Nat) (i n : Nat) (sz : Nat) (hi : i < n) (hn : n < 2 ^ 30) : Met l yJ3_checkIndex_8e157 wsJ3_checkIndex_8e157 ({ frames := 0, cells := 0, slots := 0, locals := 0 }) (va_Pc [.int (nI i), .int (nI n), .null] (zPre (dC, dI) (zT cI cB cR cO) zk [] [] sz)) (va_Qi (fun r (_ : Unit) => r = nI i) (fun _ t => zEnd (dC, dI) (zT cI cB cR cO) (va_A [] sz) [] sz 0 t) (va_A [] sz)) 0 0 (va_A [] sz) := by
  refine Met.ofW (cc := cJ3_checkIndex_8e157) (maxL := 3) (ret := (some .int)) (by decide) rfl ?_
  intro p e s mY args below meth c s₁ B hml hv
  obtain ⟨rfl, hsz, hP, hK, hD0, hZ⟩ := hv
  have hx := B.exec
  have hb := B.bytes
  have hr := B.returns
  have hts := atoms_spec (ws := wsJ3_checkIndex_8e157) B.pre
  have hown : s.vm.findClass RJ3 = some mY.cls := findClass_of_methodNamed B.named
  have hlocks := B.notSynchronized
  subst hsz
  have hD := hD0.self (sz := s.heap.size)
  generalize hAe : va_A [] s.heap.size = A at hD hZ ⊢
  have hA : ∀ q : Nat, s.heap.size ≤ q → A q := fun q h => by rw [← hAe]; exact Or.inr h
  have hS : va_S A s.heap s.heap [] := va_S.rf
  have hz : s.heap.size + 0 ≤ s.heap.size := Nat.le_refl _
  have hl := lv_entry ([.int (nI i), .int (nI n), .null]) (n := 3) (Nat.le_of_ble_eq_true rfl)
  rw [lg_entry_eq]
  generalize (lg_sl ([.int (nI i), .int (nI n), .null]) ++ List.replicate (3 - (lg_sl ([.int (nI i), .int (nI n), .null])).length) Slot.unset).toArray = ls at hl ⊢
  have hl : lv_has ls 3 [(0, .int (nI i)), (1, .int (nI n)), (2, .null)] := hl
  have hP : va_P (dC, dI) vwCl [] s.heap := hP
  have hD : va_D A [] := hD
  refine lv_iload_n hx hb dJ3_checkIndex_8e157_0 rfl (lv_at hl 0 rfl) ?_
  refine lv_if_lt (tgt := 9) hx hb dJ3_checkIndex_8e157_1 (by decide) (fun c9 => ?_) (fun c9 => ?_)
  · exact absurd c9 (nI_pos (by omega))
  refine lv_iload_n hx hb dJ3_checkIndex_8e157_4 rfl (lv_at hl 0 rfl) ?_
  refine lv_iload_n hx hb dJ3_checkIndex_8e157_5 rfl (lv_at hl 1 rfl) ?_
  refine lv_icmp_lt (tgt := 16) hx hb dJ3_checkIndex_8e157_6 (by decide) (fun c9 => ?_) (fun c9 => ?_)
  rotate_left
  · exact absurd (nI_lt hi (by omega)) c9
  refine lv_iload_n hx hb dJ3_checkIndex_8e157_16 rfl (lv_at hl 0 rfl) ?_
  have hP9 := hP.sub (ws' := []) [] rfl
  have hD9 := hD.sub (ws' := []) [] (by decide) rfl
  exact W.iret (v := (nI i)) hx hb hr (fun t ht hW => ⟨⟨_, (), rfl, rfl, ⟨by rw [ht]; exact hP9, va_K.moved hW.alike hK, hD9, by rw [ht]; exact hz⟩⟩, hS.F ht⟩) hS.2.2 dJ3_checkIndex_8e157_17

set_option maxHeartbeats 4000000 in
set_option maxRecDepth 100000 in
theorem k_chk15 (l : Launch) (dC : Nat → ClassId) (dI : Nat → Nat → Nat) (cI cB cR cO : ClassId) (zk : Nat → Nat) (i n : Nat) (sz : Nat) (hi : i < n) (hn : n < 2 ^ 30) : Met l yJ15_checkIndex_7cf53 wsJ15_checkIndex_7cf53 ({ frames := 1, cells := 0, slots := 0, locals := 22 }) (va_Pc [.int (nI i), .int (nI n)] (zPre (dC, dI) (zT cI cB cR cO) zk [] [] sz)) (va_Qi (fun r (_ : Unit) => r = nI i) (fun _ t => zEnd (dC, dI) (zT cI cB cR cO) (va_A [] sz) [] sz 0 t) (va_A [] sz)) 0 0 (va_A [] sz) := by
  refine Met.ofW (cc := cJ15_checkIndex_7cf53) (maxL := 2) (ret := (some .int)) (by decide) rfl ?_
  intro p e s mY args below meth c s₁ B hml hv
  obtain ⟨rfl, hsz, hP, hK, hD0, hZ⟩ := hv
  have hx := B.exec
  have hb := B.bytes
  have hr := B.returns
  have hts := atoms_spec (ws := wsJ15_checkIndex_7cf53) B.pre
  have hown : s.vm.findClass RJ15 = some mY.cls := findClass_of_methodNamed B.named
  have hlocks := B.notSynchronized
  subst hsz
  have hD := hD0.self (sz := s.heap.size)
  generalize hAe : va_A [] s.heap.size = A at hD hZ ⊢
  have hA : ∀ q : Nat, s.heap.size ≤ q → A q := fun q h => by rw [← hAe]; exact Or.inr h
  have hS : va_S A s.heap s.heap [] := va_S.rf
  have hz : s.heap.size + 0 ≤ s.heap.size := Nat.le_refl _
  have hl := lv_entry ([.int (nI i), .int (nI n)]) (n := 2) (Nat.le_of_ble_eq_true rfl)
  rw [lg_entry_eq]
  generalize (lg_sl ([.int (nI i), .int (nI n)]) ++ List.replicate (2 - (lg_sl ([.int (nI i), .int (nI n)])).length) Slot.unset).toArray = ls at hl ⊢
  have hl : lv_has ls 2 [(0, .int (nI i)), (1, .int (nI n))] := hl
  have hP : va_P (dC, dI) vwCl [] s.heap := hP
  have hD : va_D A [] := hD
  refine lv_iload_n hx hb dJ15_checkIndex_7cf53_0 rfl (lv_at hl 0 rfl) ?_
  refine lv_iload_n hx hb dJ15_checkIndex_7cf53_1 rfl (lv_at hl 1 rfl) ?_
  refine lv_null hx hb dJ15_checkIndex_7cf53_2 ?_
  have hPc := hP.sub (ws' := []) [] rfl
  have hDc := hD.sub (ws' := []) [] (by decide) rfl
  have hFc := va_free (wc := []) hD hS hA [] rfl
  have hDv := hDc.self (sz := s.heap.size)
  have hpre := zpre (xs' := []) (av := [.int (nI i), .int (nI n), .null]) hPc hK (hDc.weaken (fun _ _ _ h => h)) hZ hS hFc (fun r hr => by cases hr)
  refine va_calli (va_runS (As := [.int (nI i), .int (nI n), .null]) (rest := []) ⟨hx, hb, hml, hown, hts⟩ (k_chk3 l dC dI cI cB cR cO zk i n s.heap.size hi hn) (va_cwS 3 hts gJ15_checkIndex_7cf53_J3_checkIndex_8e157 rfl rfl rfl (by decide +kernel) ⟨Nat.le_of_ble_eq_true rfl, Nat.le_of_ble_eq_true rfl⟩) ⟨zblind, hpre⟩ rfl rfl hl.1 rfl (lv_room (Nat.le_of_ble_eq_true rfl)) dJ15_checkIndex_7cf53_3 ⟨Nat.le_of_ble_eq_true rfl, Nat.le_of_ble_eq_true rfl⟩) hS (fun q _ h => hFc q h) hFc (fun r2 u t H1 locs ht hvm hw hB hz1 hk1 hS => ?_)
  obtain rfl : (nI i) = r2 := (show r2 = (nI i) from hw).symm
  obtain ⟨hP1, hK1, hD1, hz2⟩ := hB
  rw [ht] at hP1 hz2
  have hPD9 := va_join (wr := []) (w1 := []) hP hD [] [] rfl rfl (by decide) (by decide) hk1 hFc hP1 hD1
  clear hPc hDc hFc hDv hpre hP hD hP1 hK1 hD1
  obtain ⟨hP, hD⟩ := hPD9
  replace hz : s.heap.size + 0 ≤ H1.size := by omega
  clear hz2
  replace hP : va_P (dC, dI) vwCl [] H1 := hP
  replace hD : va_D A [] := hD
  refine W.widen (k := 0) (n := 0) (by omega) (by omega) ?_
  have hP9 := hP.sub (ws' := []) [] rfl
  have hD9 := hD.sub (ws' := []) [] (by decide) rfl
  exact W.iret (v := (nI i)) hx hb hr (fun t ht hW => ⟨⟨_, (), rfl, rfl, ⟨by rw [ht]; exact hP9, va_K.moved hW.alike hK, hD9, by rw [ht]; exact hz⟩⟩, hS.F ht⟩) hS.2.2 dJ15_checkIndex_7cf53_6

theorem hi_Jx4a65c_elementData_915e3_Jx4a65c : ∀ w ∈ u_ws RJx4a65c TJx4a65c 3, w ∈ wsJx4a65c_elementData_915e3 := fun w h => List.mem_cons_of_mem _ (zhi_Jx4a65c w h)
set_option maxHeartbeats 4000000 in
set_option maxRecDepth 100000 in
theorem k_elem (l : Launch) (dC : Nat → ClassId) (dI : Nat → Nat → Nat) (cI cB cR cO : ClassId) (zk : Nat → Nat) (al ed i c0 n a : Nat) (ee : Nat → Option Nat) (mc : Value) (sz : Nat) (hi : i < n) (hn : n < 2 ^ 30) (he : ee i = some a) : Met l yJx4a65c_elementData_915e3 wsJx4a65c_elementData_915e3 ({ frames := 0, cells := 0, slots := 0, locals := 0 }) (va_Pc [.ref al, .int (nI i)] (zPre (dC, dI) (zT cI cB cR cO) zk [] [(al, .inr (4, [mc, .ref ed, .int (nI c0)])), (ed, .inl (cO, n, .inr (.inr (.inr (.inr ee)))))] sz)) (va_Qr (fun _ : Unit => True) (fun _ ra t => zEnd (dC, dI) (zT cI cB cR cO) (va_A [(al, .inr (4, [mc, .ref ed, .int (nI c0)])), (ed, .inl (cO, n, .inr (.inr (.inr (.inr ee)))))] sz) [(al, .inr (4, [mc, .ref ed, .int (nI c0)])), (ed, .inl (cO, n, .inr (.inr (.inr (.inr ee)))))] sz 0 t ∧ ra = a) (va_A [(al, .inr (4, [mc, .ref ed, .int (nI c0)])), (ed, .inl (cO, n, .inr (.inr (.inr (.inr ee)))))] sz)) 0 0 (va_A [(al, .inr (4, [mc, .ref ed, .int (nI c0)])), (ed, .inl (cO, n, .inr (.inr (.inr (.inr ee)))))] sz) := by
  refine Met.ofW (cc := cJx4a65c_elementData_915e3) (maxL := 2) (ret := (some (.object "java/lang/Object"))) (by decide) rfl ?_
  intro p e s mY args below meth c s₁ B hml hv
  obtain ⟨rfl, hsz, hP, hK, hD0, hZ⟩ := hv
  have hx := B.exec
  have hb := B.bytes
  have hr := B.returns
  have hts := atoms_spec (ws := wsJx4a65c_elementData_915e3) B.pre
  have hown : s.vm.findClass RJx4a65c = some mY.cls := findClass_of_methodNamed B.named
  have hlocks := B.notSynchronized
  subst hsz
  have hD := hD0.self (sz := s.heap.size)
  generalize hAe : va_A [(al, .inr (4, [mc, .ref ed, .int (nI c0)])), (ed, .inl (cO, n, .inr (.inr (.inr (.inr ee)))))] s.heap.size = A at hD hZ ⊢
  have hA : ∀ q : Nat, s.heap.size ≤ q → A q := fun q h => by rw [← hAe]; exact Or.inr h
  have hS : va_S A s.heap s.heap [] := va_S.rf
  have hz : s.heap.size + 0 ≤ s.heap.size := Nat.le_refl _
  have hl := lv_entry ([.ref al, .int (nI i)]) (n := 2) (Nat.le_of_ble_eq_true rfl)
  rw [lg_entry_eq]
  generalize (lg_sl ([.ref al, .int (nI i)]) ++ List.replicate (2 - (lg_sl ([.ref al, .int (nI i)])).length) Slot.unset).toArray = ls at hl ⊢
  have hl : lv_has ls 2 [(0, .ref al), (1, .int (nI i))] := hl
  have hP : va_P (dC, dI) vwCl [(al, .inr (4, [mc, .ref ed, .int (nI c0)])), (ed, .inl (cO, n, .inr (.inr (.inr (.inr ee)))))] s.heap := hP
  have hD : va_D A [(al, .inr (4, [mc, .ref ed, .int (nI c0)])), (ed, .inl (cO, n, .inr (.inr (.inr (.inr ee)))))] := hD
  refine lv_aload_n hx hb dJx4a65c_elementData_915e3_0 rfl (lv_at hl 0 rfl) ?_
  refine va_get (D := (dC, dI)) (ci := 4) (v := .ref ed) (C := RJx4a65c) (T := TJx4a65c) (N := 3) hx hb hts hi_Jx4a65c_elementData_915e3_Jx4a65c hown hK hP 0 rfl rfl 1 (by decide) (hts (.fieldLink RJx4a65c 9 "java/util/ArrayList" "elementData" "[Ljava/lang/Object;") (List.mem_cons_of_mem _ zw_93)) (fun _ h9 => h9) rfl dJx4a65c_elementData_915e3_1 ?_
  refine lv_iload_n hx hb dJx4a65c_elementData_915e3_4 rfl (lv_at hl 1 rfl) ?_
  refine va_aldq (D := (dC, dI)) (cl := vwCl) hx hb hK hP 1 3 rfl rfl (vp_in_nI hi (by omega)) dJx4a65c_elementData_915e3_5 ?_
  rw [nI_clamp (n := i) (by omega), he]
  refine W.eq (g2 := F0 mY 6 ls [.ref a]) rfl ?_
  have hP9 := hP.sub (ws' := [(al, .inr (4, [mc, .ref ed, .int (nI c0)])), (ed, .inl (cO, n, .inr (.inr (.inr (.inr ee)))))]) [0, 1] rfl
  have hD9 := hD.sub (ws' := [(al, .inr (4, [mc, .ref ed, .int (nI c0)])), (ed, .inl (cO, n, .inr (.inr (.inr (.inr ee)))))]) [0, 1] (by decide) rfl
  exact W.aret hx hb hr (by first | exact Or.inl ⟨_, rfl⟩ | exact Or.inr ⟨_, rfl⟩) (Or.inr ⟨_, rfl⟩) (fun t ht hW => ⟨⟨(), _, rfl, trivial, ⟨⟨by rw [ht]; exact hP9, va_K.moved hW.alike hK, hD9, by rw [ht]; exact hz⟩, rfl⟩⟩, hS.F ht⟩) hS.2.2 dJx4a65c_elementData_915e3_6

theorem hi_Jx4a65c_get_915e3_Jx4a65c : ∀ w ∈ u_ws RJx4a65c TJx4a65c 3, w ∈ wsJx4a65c_get_915e3 := fun w h => List.mem_cons_of_mem _ (zhi_Jx4a65c w h)
set_option maxHeartbeats 4000000 in
set_option maxRecDepth 100000 in
theorem k_get (l : Launch) (dC : Nat → ClassId) (dI : Nat → Nat → Nat) (cI cB cR cO : ClassId) (zk : Nat → Nat) (al ed i c0 n a : Nat) (ee : Nat → Option Nat) (mc : Value) (sz : Nat) (hi : i < c0) (hc : c0 ≤ n) (hn : n < 2 ^ 30) (he : ee i = some a) : Met l yJx4a65c_get_915e3 wsJx4a65c_get_915e3 ({ frames := 2, cells := 0, slots := 0, locals := 43 }) (va_Pc [.ref al, .int (nI i)] (zPre (dC, dI) (zT cI cB cR cO) zk [] [(al, .inr (4, [mc, .ref ed, .int (nI c0)])), (ed, .inl (cO, n, .inr (.inr (.inr (.inr ee)))))] sz)) (va_Qr (fun _ : Unit => True) (fun _ ra t => zEnd (dC, dI) (zT cI cB cR cO) (va_A [(al, .inr (4, [mc, .ref ed, .int (nI c0)])), (ed, .inl (cO, n, .inr (.inr (.inr (.inr ee)))))] sz) [(al, .inr (4, [mc, .ref ed, .int (nI c0)])), (ed, .inl (cO, n, .inr (.inr (.inr (.inr ee)))))] sz 0 t ∧ ra = a) (va_A [(al, .inr (4, [mc, .ref ed, .int (nI c0)])), (ed, .inl (cO, n, .inr (.inr (.inr (.inr ee)))))] sz)) 0 0 (va_A [(al, .inr (4, [mc, .ref ed, .int (nI c0)])), (ed, .inl (cO, n, .inr (.inr (.inr (.inr ee)))))] sz) := by
  refine Met.ofW (cc := cJx4a65c_get_915e3) (maxL := 2) (ret := (some (.object "java/lang/Object"))) (by decide) rfl ?_
  intro p e s mY args below meth c s₁ B hml hv
  obtain ⟨rfl, hsz, hP, hK, hD0, hZ⟩ := hv
  have hx := B.exec
  have hb := B.bytes
  have hr := B.returns
  have hts := atoms_spec (ws := wsJx4a65c_get_915e3) B.pre
  have hown : s.vm.findClass RJx4a65c = some mY.cls := findClass_of_methodNamed B.named
  have hlocks := B.notSynchronized
  subst hsz
  have hD := hD0.self (sz := s.heap.size)
  generalize hAe : va_A [(al, .inr (4, [mc, .ref ed, .int (nI c0)])), (ed, .inl (cO, n, .inr (.inr (.inr (.inr ee)))))] s.heap.size = A at hD hZ ⊢
  have hA : ∀ q : Nat, s.heap.size ≤ q → A q := fun q h => by rw [← hAe]; exact Or.inr h
  have hS : va_S A s.heap s.heap [] := va_S.rf
  have hz : s.heap.size + 0 ≤ s.heap.size := Nat.le_refl _
  have hl := lv_entry ([.ref al, .int (nI i)]) (n := 2) (Nat.le_of_ble_eq_true rfl)
  rw [lg_entry_eq]
  generalize (lg_sl ([.ref al, .int (nI i)]) ++ List.replicate (2 - (lg_sl ([.ref al, .int (nI i)])).length) Slot.unset).toArray = ls at hl ⊢
  have hl : lv_has ls 2 [(0, .ref al), (1, .int (nI i))] := hl
  have hP : va_P (dC, dI) vwCl [(al, .inr (4, [mc, .ref ed, .int (nI c0)])), (ed, .inl (cO, n, .inr (.inr (.inr (.inr ee)))))] s.heap := hP
  have hD : va_D A [(al, .inr (4, [mc, .ref ed, .int (nI c0)])), (ed, .inl (cO, n, .inr (.inr (.inr (.inr ee)))))] := hD
  refine lv_iload_n hx hb dJx4a65c_get_915e3_0 rfl (lv_at hl 1 rfl) ?_
  refine lv_aload_n hx hb dJx4a65c_get_915e3_1 rfl (lv_at hl 0 rfl) ?_
  refine va_get (D := (dC, dI)) (ci := 4) (v := .int (nI c0)) (C := RJx4a65c) (T := TJx4a65c) (N := 3) hx hb hts hi_Jx4a65c_get_915e3_Jx4a65c hown hK hP 0 rfl rfl 2 (by decide) (hts (.fieldLink RJx4a65c 48 "java/util/ArrayList" "size" "I") (List.mem_cons_of_mem _ zw_94)) (fun _ h9 => h9) rfl dJx4a65c_get_915e3_2 ?_
  have hPc := hP.sub (ws' := []) [] rfl
  have hDc := hD.sub (ws' := []) [] (by decide) rfl
  have hFc := va_free (wc := []) hD hS hA [] rfl
  have hDv := hDc.self (sz := s.heap.size)
  have hpre := zpre (xs' := []) (av := [.int (nI i), .int (nI c0)]) hPc hK (hDc.weaken (fun _ _ _ h => h)) hZ hS hFc (fun r hr => by cases hr)
  refine va_calli (va_runS (As := [.int (nI i), .int (nI c0)]) (rest := []) ⟨hx, hb, hml, hown, hts⟩ (k_chk15 l dC dI cI cB cR cO zk i c0 s.heap.size hi (by omega)) (va_cwS 2 hts gJx4a65c_get_915e3_J15_checkIndex_7cf53 rfl rfl rfl (by decide +kernel) ⟨Nat.le_of_ble_eq_true rfl, Nat.le_of_ble_eq_true rfl⟩) ⟨zblind, hpre⟩ rfl rfl hl.1 rfl (lv_room (Nat.le_of_ble_eq_true rfl)) dJx4a65c_get_915e3_5 ⟨Nat.le_of_ble_eq_true rfl, Nat.le_of_ble_eq_true rfl⟩) hS (fun q _ h => hFc q h) hFc (fun r2 u t H1 locs ht hvm hw hB hz1 hk1 hS => ?_)
  obtain rfl : (nI i) = r2 := (show r2 = (nI i) from hw).symm
  obtain ⟨hP1, hK1, hD1, hz2⟩ := hB
  rw [ht] at hP1 hz2
  have hPD9 := va_join (wr := [(al, .inr (4, [mc, .ref ed, .int (nI c0)])), (ed, .inl (cO, n, .inr (.inr (.inr (.inr ee)))))]) (w1 := []) hP hD [] [0, 1] rfl rfl (by decide) (by decide) hk1 hFc hP1 hD1
  clear hPc hDc hFc hDv hpre hP hD hP1 hK1 hD1
  obtain ⟨hP, hD⟩ := hPD9
  replace hz : s.heap.size + 0 ≤ H1.size := by omega
  clear hz2
  replace hP : va_P (dC, dI) vwCl [(al, .inr (4, [mc, .ref ed, .int (nI c0)])), (ed, .inl (cO, n, .inr (.inr (.inr (.inr ee)))))] H1 := hP
  replace hD : va_D A [(al, .inr (4, [mc, .ref ed, .int (nI c0)])), (ed, .inl (cO, n, .inr (.inr (.inr (.inr ee)))))] := hD
  refine W.widen (k := 0) (n := 0) (by omega) (by omega) ?_
  refine lv_pop hx hb dJx4a65c_get_915e3_8 rfl ?_
  refine lv_aload_n hx hb dJx4a65c_get_915e3_9 rfl (lv_at hl 0 rfl) ?_
  refine lv_iload_n hx hb dJx4a65c_get_915e3_10 rfl (lv_at hl 1 rfl) ?_
  have hPc := hP.sub (ws' := [(al, .inr (4, [mc, .ref ed, .int (nI c0)])), (ed, .inl (cO, n, .inr (.inr (.inr (.inr ee)))))]) [0, 1] rfl
  have hDc := hD.sub (ws' := [(al, .inr (4, [mc, .ref ed, .int (nI c0)])), (ed, .inl (cO, n, .inr (.inr (.inr (.inr ee)))))]) [0, 1] (by decide) rfl
  have hFc := va_free (wc := [(al, .inr (4, [mc, .ref ed, .int (nI c0)])), (ed, .inl (cO, n, .inr (.inr (.inr (.inr ee)))))]) hD hS hA [0, 1] rfl
  have hDv := hDc.self (sz := H1.size)
  have hpre := zpre (xs' := []) (av := [.ref al, .int (nI i)]) hPc hK (hDc.weaken (fun _ _ _ h => h)) hZ hS hFc (fun r hr => by cases hr)
  refine va_callr (va_runV (As := [.int (nI i)]) (rest := []) ⟨hx, hb, hml, hown, hts⟩ (k_elem l dC dI cI cB cR cO zk al ed i c0 n a ee mc H1.size (by omega) hn he) (cwV 1 hts gJx4a65c_get_915e3_Jx4a65c_elementData_915e3 rfl rfl rfl (by decide +kernel) ⟨Nat.le_of_ble_eq_true rfl, Nat.le_of_ble_eq_true rfl⟩) ⟨zblind, (zrecv_4 hK hPc (q0 := 0) rfl), hpre⟩ rfl rfl hl.1 rfl (lv_room (Nat.le_of_ble_eq_true rfl)) dJx4a65c_get_915e3_11 ⟨Nat.le_of_ble_eq_true rfl, Nat.le_of_ble_eq_true rfl⟩) hS (fun q _ h => hFc q h) hFc (fun u r4 t H3 locs ht hvm hw hB hz1 hk1 hS => ?_)
  obtain ⟨⟨hP1, hK1, hD1, hz2⟩, her4⟩ := hB
  rw [ht] at hP1 hz2
  have hPD9 := va_join (wr := []) (w1 := [(al, .inr (4, [mc, .ref ed, .int (nI c0)])), (ed, .inl (cO, n, .inr (.inr (.inr (.inr ee)))))]) hP hD [0, 1] [] rfl rfl (by decide) (by decide) hk1 hFc hP1 hD1
  clear hPc hDc hFc hDv hpre hP hD hP1 hK1 hD1
  obtain ⟨hP, hD⟩ := hPD9
  replace hz : s.heap.size + 0 ≤ H3.size := by omega
  clear hz2
  replace hP : va_P (dC, dI) vwCl [(al, .inr (4, [mc, .ref ed, .int (nI c0)])), (ed, .inl (cO, n, .inr (.inr (.inr (.inr ee)))))] H3 := hP
  replace hD : va_D A [(al, .inr (4, [mc, .ref ed, .int (nI c0)])), (ed, .inl (cO, n, .inr (.inr (.inr (.inr ee)))))] := hD
  refine W.widen (k := 0) (n := 0) (by omega) (by omega) ?_
  have hP9 := hP.sub (ws' := [(al, .inr (4, [mc, .ref ed, .int (nI c0)])), (ed, .inl (cO, n, .inr (.inr (.inr (.inr ee)))))]) [0, 1] rfl
  have hD9 := hD.sub (ws' := [(al, .inr (4, [mc, .ref ed, .int (nI c0)])), (ed, .inl (cO, n, .inr (.inr (.inr (.inr ee)))))]) [0, 1] (by decide) rfl
  exact W.aret hx hb hr (by first | exact Or.inl ⟨_, rfl⟩ | exact Or.inr ⟨_, rfl⟩) (Or.inr ⟨_, rfl⟩) (fun t ht hW => ⟨⟨(), _, rfl, trivial, ⟨⟨by rw [ht]; exact hP9, va_K.moved hW.alike hK, hD9, by rw [ht]; exact hz⟩, her4⟩⟩, hS.F ht⟩) hS.2.2 dJx4a65c_get_915e3_14

theorem hi_X3_length_X3 : ∀ w ∈ u_ws RX3 TX3 3, w ∈ wsX3_length := fun w h => List.mem_cons_of_mem _ (zhi_X3 w h)
set_option maxHeartbeats 4000000 in
set_option maxRecDepth 100000 in
theorem k_rlen (l : Launch) (dC : Nat → ClassId) (dI : Nat → Nat → Nat) (cI cB cR cO : ClassId) (zk : Nat → Nat) (a wa na : Nat) (fw : Nat → Int32) (sz : Nat)  : Met l yX3_length wsX3_length ({ frames := 0, cells := 0, slots := 0, locals := 0 }) (va_Pc [.ref a] (zPre (dC, dI) (zT cI cB cR cO) zk [] [(a, .inr (8, [.int 4, .ref wa, .ref na])), (wa, .inl (cI, 4, .inl fw))] sz)) (va_Qi (fun r (_ : Unit) => r = 4) (fun _ t => zEnd (dC, dI) (zT cI cB cR cO) (va_A [(a, .inr (8, [.int 4, .ref wa, .ref na])), (wa, .inl (cI, 4, .inl fw))] sz) [(a, .inr (8, [.int 4, .ref wa, .ref na])), (wa, .inl (cI, 4, .inl fw))] sz 0 t) (va_A [(a, .inr (8, [.int 4, .ref wa, .ref na])), (wa, .inl (cI, 4, .inl fw))] sz)) 0 0 (va_A [(a, .inr (8, [.int 4, .ref wa, .ref na])), (wa, .inl (cI, 4, .inl fw))] sz) := by
  refine Met.ofW (cc := cX3_length) (maxL := 1) (ret := (some .int)) (by decide) rfl ?_
  intro p e s mY args below meth c s₁ B hml hv
  obtain ⟨rfl, hsz, hP, hK, hD0, hZ⟩ := hv
  have hx := B.exec
  have hb := B.bytes
  have hr := B.returns
  have hts := atoms_spec (ws := wsX3_length) B.pre
  have hown : s.vm.findClass RX3 = some mY.cls := findClass_of_methodNamed B.named
  have hlocks := B.notSynchronized
  subst hsz
  have hD := hD0.self (sz := s.heap.size)
  generalize hAe : va_A [(a, .inr (8, [.int 4, .ref wa, .ref na])), (wa, .inl (cI, 4, .inl fw))] s.heap.size = A at hD hZ ⊢
  have hA : ∀ q : Nat, s.heap.size ≤ q → A q := fun q h => by rw [← hAe]; exact Or.inr h
  have hS : va_S A s.heap s.heap [] := va_S.rf
  have hz : s.heap.size + 0 ≤ s.heap.size := Nat.le_refl _
  have hl := lv_entry ([.ref a]) (n := 1) (Nat.le_of_ble_eq_true rfl)
  rw [lg_entry_eq]
  generalize (lg_sl ([.ref a]) ++ List.replicate (1 - (lg_sl ([.ref a])).length) Slot.unset).toArray = ls at hl ⊢
  have hl : lv_has ls 1 [(0, .ref a)] := hl
  have hP : va_P (dC, dI) vwCl [(a, .inr (8, [.int 4, .ref wa, .ref na])), (wa, .inl (cI, 4, .inl fw))] s.heap := hP
  have hD : va_D A [(a, .inr (8, [.int 4, .ref wa, .ref na])), (wa, .inl (cI, 4, .inl fw))] := hD
  refine lv_aload_n hx hb dX3_length_0 rfl (lv_at hl 0 rfl) ?_
  refine va_get (D := (dC, dI)) (ci := 8) (v := .ref wa) (C := RX3) (T := TX3) (N := 3) hx hb hts hi_X3_length_X3 hown hK hP 0 rfl rfl 1 (by decide) (hts (.fieldLink RX3 15 "DeeprowsModel$Row" "whats" "[I") (List.mem_cons_of_mem _ zw_1177)) (fun _ h9 => h9) rfl dX3_length_1 ?_
  refine va_alen (D := (dC, dI)) (cl := vwCl) (v := 4) hx hb hK hP 1 0 rfl rfl rfl dX3_length_4 ?_
  have hP9 := hP.sub (ws' := [(a, .inr (8, [.int 4, .ref wa, .ref na])), (wa, .inl (cI, 4, .inl fw))]) [0, 1] rfl
  have hD9 := hD.sub (ws' := [(a, .inr (8, [.int 4, .ref wa, .ref na])), (wa, .inl (cI, 4, .inl fw))]) [0, 1] (by decide) rfl
  exact W.iret (v := 4) hx hb hr (fun t ht hW => ⟨⟨_, (), rfl, rfl, ⟨by rw [ht]; exact hP9, va_K.moved hW.alike hK, hD9, by rw [ht]; exact hz⟩⟩, hS.F ht⟩) hS.2.2 dX3_length_5
