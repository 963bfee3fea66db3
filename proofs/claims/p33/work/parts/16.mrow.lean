theorem hi_X3_put_X3 : ∀ w ∈ u_ws RX3 TX3 3, w ∈ wsX3_put := fun w h => List.mem_cons_of_mem _ (zhi_X3 w h)
set_option maxHeartbeats 4000000 in
set_option maxRecDepth 100000 in
theorem k_mp0 (l : Launch) (dC : Nat → ClassId) (dI : Nat → Nat → Nat) (cI cB cR cO : ClassId) (zk : Nat → Nat) (a wa na : Nat) (fw fn : Nat → Int32) (wt nm : Int32) (sz : Nat)  : Met l yX3_put wsX3_put ({ frames := 0, cells := 0, slots := 0, locals := 0 }) (va_Pc [.ref a, .int 0, .int wt, .int nm] (zPre (dC, dI) (zT cI cB cR cO) zk [] [(a, .inr (8, [.int 4, .ref wa, .ref na])), (wa, .inl (cI, 4, .inl fw)), (na, .inl (cI, 4, .inl fn))] sz)) (va_Qv (fun _ : Unit => True) (fun _ t => zEnd (dC, dI) (zT cI cB cR cO) (va_A [(a, .inr (8, [.int 4, .ref wa, .ref na])), (wa, .inl (cI, 4, .inl fw)), (na, .inl (cI, 4, .inl fn))] sz) [(a, .inr (8, [.int 4, .ref wa, .ref na])), (wa, .inl (cI, 4, .inl (upd fw 0 wt))), (na, .inl (cI, 4, .inl (upd fn 0 nm)))] sz 0 t) (va_A [(a, .inr (8, [.int 4, .ref wa, .ref na])), (wa, .inl (cI, 4, .inl fw)), (na, .inl (cI, 4, .inl fn))] sz)) 0 0 (va_A [(a, .inr (8, [.int 4, .ref wa, .ref na])), (wa, .inl (cI, 4, .inl fw)), (na, .inl (cI, 4, .inl fn))] sz) := by
  refine Met.ofW (cc := cX3_put) (maxL := 4) (ret := none) (by decide) rfl ?_
  intro p e s mY args below meth c s₁ B hml hv
  obtain ⟨rfl, hsz, hP, hK, hD0, hZ⟩ := hv
  have hx := B.exec
  have hb := B.bytes
  have hr := B.returns
  have hts := atoms_spec (ws := wsX3_put) B.pre
  have hown : s.vm.findClass RX3 = some mY.cls := findClass_of_methodNamed B.named
  have hlocks := B.notSynchronized
  subst hsz
  have hD := hD0.self (sz := s.heap.size)
  generalize hAe : va_A [(a, .inr (8, [.int 4, .ref wa, .ref na])), (wa, .inl (cI, 4, .inl fw)), (na, .inl (cI, 4, .inl fn))] s.heap.size = A at hD hZ ⊢
  have hA : ∀ q : Nat, s.heap.size ≤ q → A q := fun q h => by rw [← hAe]; exact Or.inr h
  have hS : va_S A s.heap s.heap [] := va_S.rf
  have hz : s.heap.size + 0 ≤ s.heap.size := Nat.le_refl _
  have hl := lv_entry ([.ref a, .int 0, .int wt, .int nm]) (n := 4) (Nat.le_of_ble_eq_true rfl)
  rw [lg_entry_eq]
  generalize (lg_sl ([.ref a, .int 0, .int wt, .int nm]) ++ List.replicate (4 - (lg_sl ([.ref a, .int 0, .int wt, .int nm])).length) Slot.unset).toArray = ls at hl ⊢
  have hl : lv_has ls 4 [(0, .ref a), (1, .int 0), (2, .int wt), (3, .int nm)] := hl
  have hP : va_P (dC, dI) vwCl [(a, .inr (8, [.int 4, .ref wa, .ref na])), (wa, .inl (cI, 4, .inl fw)), (na, .inl (cI, 4, .inl fn))] s.heap := hP
  have hD : va_D A [(a, .inr (8, [.int 4, .ref wa, .ref na])), (wa, .inl (cI, 4, .inl fw)), (na, .inl (cI, 4, .inl fn))] := hD
  refine lv_aload_n hx hb dX3_put_0 rfl (lv_at hl 0 rfl) ?_
  refine va_get (D := (dC, dI)) (ci := 8) (v := .ref wa) (C := RX3) (T := TX3) (N := 3) hx hb hts hi_X3_put_X3 hown hK hP 0 rfl rfl 1 (by decide) (hts (.fieldLink RX3 15 "DeeprowsModel$Row" "whats" "[I") (List.mem_cons_of_mem _ zw_1177)) (fun _ h9 => h9) rfl dX3_put_1 ?_
  refine lv_iload_n hx hb dX3_put_4 rfl (lv_at hl 1 rfl) ?_
  refine lv_iload_n hx hb dX3_put_5 rfl (lv_at hl 2 rfl) ?_
  refine va_iast (D := (dC, dI)) (cl := vwCl) hx hb hK hP hD (zS0 hS) 1 0 rfl rfl (by unfold vp_in; decide) dX3_put_6 (fun H1 locs hP hD hS1 => ?_)
  have hz : s.heap.size + 0 ≤ H1.size := Nat.le_trans hz hS1.1
  have hS := zSS hS hS1
  replace hP : va_P (dC, dI) vwCl [(a, .inr (8, [.int 4, .ref wa, .ref na])), (wa, .inl (cI, 4, .inl (upd fw 0 wt))), (na, .inl (cI, 4, .inl fn))] H1 := hP
  replace hD : va_D A [(a, .inr (8, [.int 4, .ref wa, .ref na])), (wa, .inl (cI, 4, .inl (upd fw 0 wt))), (na, .inl (cI, 4, .inl fn))] := hD
  refine lv_aload_n hx hb dX3_put_7 rfl (lv_at hl 0 rfl) ?_
  refine va_get (D := (dC, dI)) (ci := 8) (v := .ref na) (C := RX3) (T := TX3) (N := 3) hx hb hts hi_X3_put_X3 hown hK hP 0 rfl rfl 2 (by decide) (hts (.fieldLink RX3 19 "DeeprowsModel$Row" "numbers" "[I") (List.mem_cons_of_mem _ zw_1179)) (fun _ h9 => h9) rfl dX3_put_8 ?_
  refine lv_iload_n hx hb dX3_put_11 rfl (lv_at hl 1 rfl) ?_
  refine lv_iload_n hx hb dX3_put_12 rfl (lv_at hl 3 rfl) ?_
  refine va_iast (D := (dC, dI)) (cl := vwCl) hx hb hK hP hD (zS0 hS) 2 0 rfl rfl (by unfold vp_in; decide) dX3_put_13 (fun H2 locs hP hD hS1 => ?_)
  have hz : s.heap.size + 0 ≤ H2.size := Nat.le_trans hz hS1.1
  have hS := zSS hS hS1
  replace hP : va_P (dC, dI) vwCl [(a, .inr (8, [.int 4, .ref wa, .ref na])), (wa, .inl (cI, 4, .inl (upd fw 0 wt))), (na, .inl (cI, 4, .inl (upd fn 0 nm)))] H2 := hP
  replace hD : va_D A [(a, .inr (8, [.int 4, .ref wa, .ref na])), (wa, .inl (cI, 4, .inl (upd fw 0 wt))), (na, .inl (cI, 4, .inl (upd fn 0 nm)))] := hD
  have hP9 := hP.sub (ws' := [(a, .inr (8, [.int 4, .ref wa, .ref na])), (wa, .inl (cI, 4, .inl (upd fw 0 wt))), (na, .inl (cI, 4, .inl (upd fn 0 nm)))]) [0, 1, 2] rfl
  have hD9 := hD.sub (ws' := [(a, .inr (8, [.int 4, .ref wa, .ref na])), (wa, .inl (cI, 4, .inl (upd fw 0 wt))), (na, .inl (cI, 4, .inl (upd fn 0 nm)))]) [0, 1, 2] (by decide) rfl
  exact W.vret hx hb hr (fun t ht hW => ⟨⟨(), rfl, trivial, ⟨by rw [ht]; exact hP9, va_K.moved hW.alike hK, hD9, by rw [ht]; exact hz⟩⟩, hS.F ht⟩) hS.2.2 dX3_put_14

set_option maxHeartbeats 4000000 in
set_option maxRecDepth 100000 in
theorem k_mp1 (l : Launch) (dC : Nat → ClassId) (dI : Nat → Nat → Nat) (cI cB cR cO : ClassId) (zk : Nat → Nat) (a wa na : Nat) (fw fn : Nat → Int32) (wt nm : Int32) (sz : Nat)  : Met l yX3_put wsX3_put ({ frames := 0, cells := 0, slots := 0, locals := 0 }) (va_Pc [.ref a, .int 1, .int wt, .int nm] (zPre (dC, dI) (zT cI cB cR cO) zk [] [(a, .inr (8, [.int 4, .ref wa, .ref na])), (wa, .inl (cI, 4, .inl fw)), (na, .inl (cI, 4, .inl fn))] sz)) (va_Qv (fun _ : Unit => True) (fun _ t => zEnd (dC, dI) (zT cI cB cR cO) (va_A [(a, .inr (8, [.int 4, .ref wa, .ref na])), (wa, .inl (cI, 4, .inl fw)), (na, .inl (cI, 4, .inl fn))] sz) [(a, .inr (8, [.int 4, .ref wa, .ref na])), (wa, .inl (cI, 4, .inl (upd fw 1 wt))), (na, .inl (cI, 4, .inl (upd fn 1 nm)))] sz 0 t) (va_A [(a, .inr (8, [.int 4, .ref wa, .ref na])), (wa, .inl (cI, 4, .inl fw)), (na, .inl (cI, 4, .inl fn))] sz)) 0 0 (va_A [(a, .inr (8, [.int 4, .ref wa, .ref na])), (wa, .inl (cI, 4, .inl fw)), (na, .inl (cI, 4, .inl fn))] sz) := by
  refine Met.ofW (cc := cX3_put) (maxL := 4) (ret := none) (by decide) rfl ?_
  intro p e s mY args below meth c s₁ B hml hv
  obtain ⟨rfl, hsz, hP, hK, hD0, hZ⟩ := hv
  have hx := B.exec
  have hb := B.bytes
  have hr := B.returns
  have hts := atoms_spec (ws := wsX3_put) B.pre
  have hown : s.vm.findClass RX3 = some mY.cls := findClass_of_methodNamed B.named
  have hlocks := B.notSynchronized
  subst hsz
  have hD := hD0.self (sz := s.heap.size)
  generalize hAe : va_A [(a, .inr (8, [.int 4, .ref wa, .ref na])), (wa, .inl (cI, 4, .inl fw)), (na, .inl (cI, 4, .inl fn))] s.heap.size = A at hD hZ ⊢
  have hA : ∀ q : Nat, s.heap.size ≤ q → A q := fun q h => by rw [← hAe]; exact Or.inr h
  have hS : va_S A s.heap s.heap [] := va_S.rf
  have hz : s.heap.size + 0 ≤ s.heap.size := Nat.le_refl _
  have hl := lv_entry ([.ref a, .int 1, .int wt, .int nm]) (n := 4) (Nat.le_of_ble_eq_true rfl)
  rw [lg_entry_eq]
  generalize (lg_sl ([.ref a, .int 1, .int wt, .int nm]) ++ List.replicate (4 - (lg_sl ([.ref a, .int 1, .int wt, .int nm])).length) Slot.unset).toArray = ls at hl ⊢
  have hl : lv_has ls 4 [(0, .ref a), (1, .int 1), (2, .int wt), (3, .int nm)] := hl
  have hP : va_P (dC, dI) vwCl [(a, .inr (8, [.int 4, .ref wa, .ref na])), (wa, .inl (cI, 4, .inl fw)), (na, .inl (cI, 4, .inl fn))] s.heap := hP
  have hD : va_D A [(a, .inr (8, [.int 4, .ref wa, .ref na])), (wa, .inl (cI, 4, .inl fw)), (na, .inl (cI, 4, .inl fn))] := hD
  refine lv_aload_n hx hb dX3_put_0 rfl (lv_at hl 0 rfl) ?_
  refine va_get (D := (dC, dI)) (ci := 8) (v := .ref wa) (C := RX3) (T := TX3) (N := 3) hx hb hts hi_X3_put_X3 hown hK hP 0 rfl rfl 1 (by decide) (hts (.fieldLink RX3 15 "DeeprowsModel$Row" "whats" "[I") (List.mem_cons_of_mem _ zw_1177)) (fun _ h9 => h9) rfl dX3_put_1 ?_
  refine lv_iload_n hx hb dX3_put_4 rfl (lv_at hl 1 rfl) ?_
  refine lv_iload_n hx hb dX3_put_5 rfl (lv_at hl 2 rfl) ?_
  refine va_iast (D := (dC, dI)) (cl := vwCl) hx hb hK hP hD (zS0 hS) 1 0 rfl rfl (by unfold vp_in; decide) dX3_put_6 (fun H1 locs hP hD hS1 => ?_)
  have hz : s.heap.size + 0 ≤ H1.size := Nat.le_trans hz hS1.1
  have hS := zSS hS hS1
  replace hP : va_P (dC, dI) vwCl [(a, .inr (8, [.int 4, .ref wa, .ref na])), (wa, .inl (cI, 4, .inl (upd fw 1 wt))), (na, .inl (cI, 4, .inl fn))] H1 := hP
  replace hD : va_D A [(a, .inr (8, [.int 4, .ref wa, .ref na])), (wa, .inl (cI, 4, .inl (upd fw 1 wt))), (na, .inl (cI, 4, .inl fn))] := hD
  refine lv_aload_n hx hb dX3_put_7 rfl (lv_at hl 0 rfl) ?_
  refine va_get (D := (dC, dI)) (ci := 8) (v := .ref na) (C := RX3) (T := TX3) (N := 3) hx hb hts hi_X3_put_X3 hown hK hP 0 rfl rfl 2 (by decide) (hts (.fieldLink RX3 19 "DeeprowsModel$Row" "numbers" "[I") (List.mem_cons_of_mem _ zw_1179)) (fun _ h9 => h9) rfl dX3_put_8 ?_
  refine lv_iload_n hx hb dX3_put_11 rfl (lv_at hl 1 rfl) ?_
  refine lv_iload_n hx hb dX3_put_12 rfl (lv_at hl 3 rfl) ?_
  refine va_iast (D := (dC, dI)) (cl := vwCl) hx hb hK hP hD (zS0 hS) 2 0 rfl rfl (by unfold vp_in; decide) dX3_put_13 (fun H2 locs hP hD hS1 => ?_)
  have hz : s.heap.size + 0 ≤ H2.size := Nat.le_trans hz hS1.1
  have hS := zSS hS hS1
  replace hP : va_P (dC, dI) vwCl [(a, .inr (8, [.int 4, .ref wa, .ref na])), (wa, .inl (cI, 4, .inl (upd fw 1 wt))), (na, .inl (cI, 4, .inl (upd fn 1 nm)))] H2 := hP
  replace hD : va_D A [(a, .inr (8, [.int 4, .ref wa, .ref na])), (wa, .inl (cI, 4, .inl (upd fw 1 wt))), (na, .inl (cI, 4, .inl (upd fn 1 nm)))] := hD
  have hP9 := hP.sub (ws' := [(a, .inr (8, [.int 4, .ref wa, .ref na])), (wa, .inl (cI, 4, .inl (upd fw 1 wt))), (na, .inl (cI, 4, .inl (upd fn 1 nm)))]) [0, 1, 2] rfl
  have hD9 := hD.sub (ws' := [(a, .inr (8, [.int 4, .ref wa, .ref na])), (wa, .inl (cI, 4, .inl (upd fw 1 wt))), (na, .inl (cI, 4, .inl (upd fn 1 nm)))]) [0, 1, 2] (by decide) rfl
  exact W.vret hx hb hr (fun t ht hW => ⟨⟨(), rfl, trivial, ⟨by rw [ht]; exact hP9, va_K.moved hW.alike hK, hD9, by rw [ht]; exact hz⟩⟩, hS.F ht⟩) hS.2.2 dX3_put_14

set_option maxHeartbeats 4000000 in
set_option maxRecDepth 100000 in
theorem k_mp2 (l : Launch) (dC : Nat → ClassId) (dI : Nat → Nat → Nat) (cI cB cR cO : ClassId) (zk : Nat → Nat) (a wa na : Nat) (fw fn : Nat → Int32) (wt nm : Int32) (sz : Nat)  : Met l yX3_put wsX3_put ({ frames := 0, cells := 0, slots := 0, locals := 0 }) (va_Pc [.ref a, .int 2, .int wt, .int nm] (zPre (dC, dI) (zT cI cB cR cO) zk [] [(a, .inr (8, [.int 4, .ref wa, .ref na])), (wa, .inl (cI, 4, .inl fw)), (na, .inl (cI, 4, .inl fn))] sz)) (va_Qv (fun _ : Unit => True) (fun _ t => zEnd (dC, dI) (zT cI cB cR cO) (va_A [(a, .inr (8, [.int 4, .ref wa, .ref na])), (wa, .inl (cI, 4, .inl fw)), (na, .inl (cI, 4, .inl fn))] sz) [(a, .inr (8, [.int 4, .ref wa, .ref na])), (wa, .inl (cI, 4, .inl (upd fw 2 wt))), (na, .inl (cI, 4, .inl (upd fn 2 nm)))] sz 0 t) (va_A [(a, .inr (8, [.int 4, .ref wa, .ref na])), (wa, .inl (cI, 4, .inl fw)), (na, .inl (cI, 4, .inl fn))] sz)) 0 0 (va_A [(a, .inr (8, [.int 4, .ref wa, .ref na])), (wa, .inl (cI, 4, .inl fw)), (na, .inl (cI, 4, .inl fn))] sz) := by
  refine Met.ofW (cc := cX3_put) (maxL := 4) (ret := none) (by decide) rfl ?_
  intro p e s mY args below meth c s₁ B hml hv
  obtain ⟨rfl, hsz, hP, hK, hD0, hZ⟩ := hv
  have hx := B.exec
  have hb := B.bytes
  have hr := B.returns
  have hts := atoms_spec (ws := wsX3_put) B.pre
  have hown : s.vm.findClass RX3 = some mY.cls := findClass_of_methodNamed B.named
  have hlocks := B.notSynchronized
  subst hsz
  have hD := hD0.self (sz := s.heap.size)
  generalize hAe : va_A [(a, .inr (8, [.int 4, .ref wa, .ref na])), (wa, .inl (cI, 4, .inl fw)), (na, .inl (cI, 4, .inl fn))] s.heap.size = A at hD hZ ⊢
  have hA : ∀ q : Nat, s.heap.size ≤ q → A q := fun q h => by rw [← hAe]; exact Or.inr h
  have hS : va_S A s.heap s.heap [] := va_S.rf
  have hz : s.heap.size + 0 ≤ s.heap.size := Nat.le_refl _
  have hl := lv_entry ([.ref a, .int 2, .int wt, .int nm]) (n := 4) (Nat.le_of_ble_eq_true rfl)
  rw [lg_entry_eq]
  generalize (lg_sl ([.ref a, .int 2, .int wt, .int nm]) ++ List.replicate (4 - (lg_sl ([.ref a, .int 2, .int wt, .int nm])).length) Slot.unset).toArray = ls at hl ⊢
  have hl : lv_has ls 4 [(0, .ref a), (1, .int 2), (2, .int wt), (3, .int nm)] := hl
  have hP : va_P (dC, dI) vwCl [(a, .inr (8, [.int 4, .ref wa, .ref na])), (wa, .inl (cI, 4, .inl fw)), (na, .inl (cI, 4, .inl fn))] s.heap := hP
  have hD : va_D A [(a, .inr (8, [.int 4, .ref wa, .ref na])), (wa, .inl (cI, 4, .inl fw)), (na, .inl (cI, 4, .inl fn))] := hD
  refine lv_aload_n hx hb dX3_put_0 rfl (lv_at hl 0 rfl) ?_
  refine va_get (D := (dC, dI)) (ci := 8) (v := .ref wa) (C := RX3) (T := TX3) (N := 3) hx hb hts hi_X3_put_X3 hown hK hP 0 rfl rfl 1 (by decide) (hts (.fieldLink RX3 15 "DeeprowsModel$Row" "whats" "[I") (List.mem_cons_of_mem _ zw_1177)) (fun _ h9 => h9) rfl dX3_put_1 ?_
  refine lv_iload_n hx hb dX3_put_4 rfl (lv_at hl 1 rfl) ?_
  refine lv_iload_n hx hb dX3_put_5 rfl (lv_at hl 2 rfl) ?_
  refine va_iast (D := (dC, dI)) (cl := vwCl) hx hb hK hP hD (zS0 hS) 1 0 rfl rfl (by unfold vp_in; decide) dX3_put_6 (fun H1 locs hP hD hS1 => ?_)
  have hz : s.heap.size + 0 ≤ H1.size := Nat.le_trans hz hS1.1
  have hS := zSS hS hS1
  replace hP : va_P (dC, dI) vwCl [(a, .inr (8, [.int 4, .ref wa, .ref na])), (wa, .inl (cI, 4, .inl (upd fw 2 wt))), (na, .inl (cI, 4, .inl fn))] H1 := hP
  replace hD : va_D A [(a, .inr (8, [.int 4, .ref wa, .ref na])), (wa, .inl (cI, 4, .inl (upd fw 2 wt))), (na, .inl (cI, 4, .inl fn))] := hD
  refine lv_aload_n hx hb dX3_put_7 rfl (lv_at hl 0 rfl) ?_
  refine va_get (D := (dC, dI)) (ci := 8) (v := .ref na) (C := RX3) (T := TX3) (N := 3) hx hb hts hi_X3_put_X3 hown hK hP 0 rfl rfl 2 (by decide) (hts (.fieldLink RX3 19 "DeeprowsModel$Row" "numbers" "[I") (List.mem_cons_of_mem _ zw_1179)) (fun _ h9 => h9) rfl dX3_put_8 ?_
  refine lv_iload_n hx hb dX3_put_11 rfl (lv_at hl 1 rfl) ?_
  refine lv_iload_n hx hb dX3_put_12 rfl (lv_at hl 3 rfl) ?_
  refine va_iast (D := (dC, dI)) (cl := vwCl) hx hb hK hP hD (zS0 hS) 2 0 rfl rfl (by unfold vp_in; decide) dX3_put_13 (fun H2 locs hP hD hS1 => ?_)
  have hz : s.heap.size + 0 ≤ H2.size := Nat.le_trans hz hS1.1
  have hS := zSS hS hS1
  replace hP : va_P (dC, dI) vwCl [(a, .inr (8, [.int 4, .ref wa, .ref na])), (wa, .inl (cI, 4, .inl (upd fw 2 wt))), (na, .inl (cI, 4, .inl (upd fn 2 nm)))] H2 := hP
  replace hD : va_D A [(a, .inr (8, [.int 4, .ref wa, .ref na])), (wa, .inl (cI, 4, .inl (upd fw 2 wt))), (na, .inl (cI, 4, .inl (upd fn 2 nm)))] := hD
  have hP9 := hP.sub (ws' := [(a, .inr (8, [.int 4, .ref wa, .ref na])), (wa, .inl (cI, 4, .inl (upd fw 2 wt))), (na, .inl (cI, 4, .inl (upd fn 2 nm)))]) [0, 1, 2] rfl
  have hD9 := hD.sub (ws' := [(a, .inr (8, [.int 4, .ref wa, .ref na])), (wa, .inl (cI, 4, .inl (upd fw 2 wt))), (na, .inl (cI, 4, .inl (upd fn 2 nm)))]) [0, 1, 2] (by decide) rfl
  exact W.vret hx hb hr (fun t ht hW => ⟨⟨(), rfl, trivial, ⟨by rw [ht]; exact hP9, va_K.moved hW.alike hK, hD9, by rw [ht]; exact hz⟩⟩, hS.F ht⟩) hS.2.2 dX3_put_14

set_option maxHeartbeats 4000000 in
set_option maxRecDepth 100000 in
theorem k_mp3 (l : Launch) (dC : Nat → ClassId) (dI : Nat → Nat → Nat) (cI cB cR cO : ClassId) (zk : Nat → Nat) (a wa na : Nat) (fw fn : Nat → Int32) (wt nm : Int32) (sz : Nat)  : Met l yX3_put wsX3_put ({ frames := 0, cells := 0, slots := 0, locals := 0 }) (va_Pc [.ref a, .int 3, .int wt, .int nm] (zPre (dC, dI) (zT cI cB cR cO) zk [] [(a, .inr (8, [.int 4, .ref wa, .ref na])), (wa, .inl (cI, 4, .inl fw)), (na, .inl (cI, 4, .inl fn))] sz)) (va_Qv (fun _ : Unit => True) (fun _ t => zEnd (dC, dI) (zT cI cB cR cO) (va_A [(a, .inr (8, [.int 4, .ref wa, .ref na])), (wa, .inl (cI, 4, .inl fw)), (na, .inl (cI, 4, .inl fn))] sz) [(a, .inr (8, [.int 4, .ref wa, .ref na])), (wa, .inl (cI, 4, .inl (upd fw 3 wt))), (na, .inl (cI, 4, .inl (upd fn 3 nm)))] sz 0 t) (va_A [(a, .inr (8, [.int 4, .ref wa, .ref na])), (wa, .inl (cI, 4, .inl fw)), (na, .inl (cI, 4, .inl fn))] sz)) 0 0 (va_A [(a, .inr (8, [.int 4, .ref wa, .ref na])), (wa, .inl (cI, 4, .inl fw)), (na, .inl (cI, 4, .inl fn))] sz) := by
  refine Met.ofW (cc := cX3_put) (maxL := 4) (ret := none) (by decide) rfl ?_
  intro p e s mY args below meth c s₁ B hml hv
  obtain ⟨rfl, hsz, hP, hK, hD0, hZ⟩ := hv
  have hx := B.exec
  have hb := B.bytes
  have hr := B.returns
  have hts := atoms_spec (ws := wsX3_put) B.pre
  have hown : s.vm.findClass RX3 = some mY.cls := findClass_of_methodNamed B.named
  have hlocks := B.notSynchronized
  subst hsz
  have hD := hD0.self (sz := s.heap.size)
  generalize hAe : va_A [(a, .inr (8, [.int 4, .ref wa, .ref na])), (wa, .inl (cI, 4, .inl fw)), (na, .inl (cI, 4, .inl fn))] s.heap.size = A at hD hZ ⊢
  have hA : ∀ q : Nat, s.heap.size ≤ q → A q := fun q h => by rw [← hAe]; exact Or.inr h
  have hS : va_S A s.heap s.heap [] := va_S.rf
  have hz : s.heap.size + 0 ≤ s.heap.size := Nat.le_refl _
  have hl := lv_entry ([.ref a, .int 3, .int wt, .int nm]) (n := 4) (Nat.le_of_ble_eq_true rfl)
  rw [lg_entry_eq]
  generalize (lg_sl ([.ref a, .int 3, .int wt, .int nm]) ++ List.replicate (4 - (lg_sl ([.ref a, .int 3, .int wt, .int nm])).length) Slot.unset).toArray = ls at hl ⊢
  have hl : lv_has ls 4 [(0, .ref a), (1, .int 3), (2, .int wt), (3, .int nm)] := hl
  have hP : va_P (dC, dI) vwCl [(a, .inr (8, [.int 4, .ref wa, .ref na])), (wa, .inl (cI, 4, .inl fw)), (na, .inl (cI, 4, .inl fn))] s.heap := hP
  have hD : va_D A [(a, .inr (8, [.int 4, .ref wa, .ref na])), (wa, .inl (cI, 4, .inl fw)), (na, .inl (cI, 4, .inl fn))] := hD
  refine lv_aload_n hx hb dX3_put_0 rfl (lv_at hl 0 rfl) ?_
  refine va_get (D := (dC, dI)) (ci := 8) (v := .ref wa) (C := RX3) (T := TX3) (N := 3) hx hb hts hi_X3_put_X3 hown hK hP 0 rfl rfl 1 (by decide) (hts (.fieldLink RX3 15 "DeeprowsModel$Row" "whats" "[I") (List.mem_cons_of_mem _ zw_1177)) (fun _ h9 => h9) rfl dX3_put_1 ?_
  refine lv_iload_n hx hb dX3_put_4 rfl (lv_at hl 1 rfl) ?_
  refine lv_iload_n hx hb dX3_put_5 rfl (lv_at hl 2 rfl) ?_
  refine va_iast (D := (dC, dI)) (cl := vwCl) hx hb hK hP hD (zS0 hS) 1 0 rfl rfl (by unfold vp_in; decide) dX3_put_6 (fun H1 locs hP hD hS1 => ?_)
  have hz : s.heap.size + 0 ≤ H1.size := Nat.le_trans hz hS1.1
  have hS := zSS hS hS1
  replace hP : va_P (dC, dI) vwCl [(a, .inr (8, [.int 4, .ref wa, .ref na])), (wa, .inl (cI, 4, .inl (upd fw 3 wt))), (na, .inl (cI, 4, .inl fn))] H1 := hP
  replace hD : va_D A [(a, .inr (8, [.int 4, .ref wa, .ref na])), (wa, .inl (cI, 4, .inl (upd fw 3 wt))), (na, .inl (cI, 4, .inl fn))] := hD
  refine lv_aload_n hx hb dX3_put_7 rfl (lv_at hl 0 rfl) ?_
  refine va_get (D := (dC, dI)) (ci := 8) (v := .ref na) (C := RX3) (T := TX3) (N := 3) hx hb hts hi_X3_put_X3 hown hK hP 0 rfl rfl 2 (by decide) (hts (.fieldLink RX3 19 "DeeprowsModel$Row" "numbers" "[I") (List.mem_cons_of_mem _ zw_1179)) (fun _ h9 => h9) rfl dX3_put_8 ?_
  refine lv_iload_n hx hb dX3_put_11 rfl (lv_at hl 1 rfl) ?_
  refine lv_iload_n hx hb dX3_put_12 rfl (lv_at hl 3 rfl) ?_
  refine va_iast (D := (dC, dI)) (cl := vwCl) hx hb hK hP hD (zS0 hS) 2 0 rfl rfl (by unfold vp_in; decide) dX3_put_13 (fun H2 locs hP hD hS1 => ?_)
  have hz : s.heap.size + 0 ≤ H2.size := Nat.le_trans hz hS1.1
  have hS := zSS hS hS1
  replace hP : va_P (dC, dI) vwCl [(a, .inr (8, [.int 4, .ref wa, .ref na])), (wa, .inl (cI, 4, .inl (upd fw 3 wt))), (na, .inl (cI, 4, .inl (upd fn 3 nm)))] H2 := hP
  replace hD : va_D A [(a, .inr (8, [.int 4, .ref wa, .ref na])), (wa, .inl (cI, 4, .inl (upd fw 3 wt))), (na, .inl (cI, 4, .inl (upd fn 3 nm)))] := hD
  have hP9 := hP.sub (ws' := [(a, .inr (8, [.int 4, .ref wa, .ref na])), (wa, .inl (cI, 4, .inl (upd fw 3 wt))), (na, .inl (cI, 4, .inl (upd fn 3 nm)))]) [0, 1, 2] rfl
  have hD9 := hD.sub (ws' := [(a, .inr (8, [.int 4, .ref wa, .ref na])), (wa, .inl (cI, 4, .inl (upd fw 3 wt))), (na, .inl (cI, 4, .inl (upd fn 3 nm)))]) [0, 1, 2] (by decide) rfl
  exact W.vret hx hb hr (fun t ht hW => ⟨⟨(), rfl, trivial, ⟨by rw [ht]; exact hP9, va_K.moved hW.alike hK, hD9, by rw [ht]; exact hz⟩⟩, hS.F ht⟩) hS.2.2 dX3_put_14

theorem hi_X3_init_X3 : ∀ w ∈ u_ws RX3 TX3 3, w ∈ wsX3_init := fun w h => List.mem_cons_of_mem _ (zhi_X3 w h)
set_option maxHeartbeats 4000000 in
set_option maxRecDepth 100000 in
theorem k_mrin (l : Launch) (dC : Nat → ClassId) (dI : Nat → Nat → Nat) (cI cB cR cO : ClassId) (zk : Nat → Nat) (a : Nat) (sz : Nat)  : Met l yX3_init wsX3_init ({ frames := 1, cells := 2, slots := 8, locals := 60 }) (va_Pc [.ref a, .int 4, .int 4] (zPre (dC, dI) (zT cI cB cR cO) zk [] [(a, .inr (8, [.int 0, .null, .null]))] sz)) (va_Qv (fun _ : Unit => True) (fun _ t => ∃ wa, ∃ na, ∃ (fw : Nat → Int32), ∃ (fn : Nat → Int32), zEnd (dC, dI) (zT cI cB cR cO) (va_A [(a, .inr (8, [.int 0, .null, .null]))] sz) [(a, .inr (8, [.int 4, .ref wa, .ref na])), (wa, .inl (cI, 4, .inl fw)), (na, .inl (cI, 4, .inl fn))] sz 2 t ∧ (∀ i, i < 4 → fw i = 0) ∧ (∀ i, i < 4 → fn i = -1)) (va_A [(a, .inr (8, [.int 0, .null, .null]))] sz)) 2 8 (va_A [(a, .inr (8, [.int 0, .null, .null]))] sz) := by
  refine Met.ofW (cc := cX3_init) (maxL := 4) (ret := none) (by decide) rfl ?_
  intro p e s mY args below meth c s₁ B hml hv
  obtain ⟨rfl, hsz, hP, hK, hD0, hZ⟩ := hv
  have hx := B.exec
  have hb := B.bytes
  have hr := B.returns
  have hts := atoms_spec (ws := wsX3_init) B.pre
  have hown : s.vm.findClass RX3 = some mY.cls := findClass_of_methodNamed B.named
  have hlocks := B.notSynchronized
  have hin : meth.name = "<init>" := (name_of_methodNamed B.named B.method).1
  subst hsz
  have hD := hD0.self (sz := s.heap.size)
  generalize hAe : va_A [(a, .inr (8, [.int 0, .null, .null]))] s.heap.size = A at hD hZ ⊢
  have hA : ∀ q : Nat, s.heap.size ≤ q → A q := fun q h => by rw [← hAe]; exact Or.inr h
  have hS : va_S A s.heap s.heap [] := va_S.rf
  have hz : s.heap.size + 0 ≤ s.heap.size := Nat.le_refl _
  have hl := lv_entry ([.ref a, .int 4, .int 4]) (n := 4) (Nat.le_of_ble_eq_true rfl)
  rw [lg_entry_eq]
  generalize (lg_sl ([.ref a, .int 4, .int 4]) ++ List.replicate (4 - (lg_sl ([.ref a, .int 4, .int 4])).length) Slot.unset).toArray = ls at hl ⊢
  have hl : lv_has ls 4 [(0, .ref a), (1, .int 4), (2, .int 4)] := hl
  have hP : va_P (dC, dI) vwCl [(a, .inr (8, [.int 0, .null, .null]))] s.heap := hP
  have hD : va_D A [(a, .inr (8, [.int 0, .null, .null]))] := hD
  refine lv_aload_n hx hb dX3_init_0 rfl (lv_at hl 0 rfl) ?_
  refine W.objInit hx hb hown (hts (.methodLink RX3 3 objectInit) (List.mem_cons_of_mem _ zw_1170)) (hts (.instanceMethod objectInit) (List.mem_cons_of_mem _ zw_77)) (hts (.code objectInit ⟨#[0xb1]⟩ 1 none) (List.mem_cons_of_mem _ zw_78)) rfl (by rw [hml]; exact hl.1) rfl dX3_init_1 (Nat.le_of_ble_eq_true rfl) (Nat.le_of_ble_eq_true rfl) ?_
  refine W.eq (g2 := F0 mY 4 ls []) rfl ?_
  refine lv_aload_n hx hb dX3_init_4 rfl (lv_at hl 0 rfl) ?_
  refine lv_iload_n hx hb dX3_init_5 rfl (lv_at hl 1 rfl) ?_
  refine va_putF (D := (dC, dI)) (ci := 8) (v := .int 4) (ty := .int) (C := RX3) (T := TX3) (N := 3) hx hb hts hi_X3_init_X3 tyX3 tyX3_ok nmX3 hown hK hP hD (zS0 hS) 0 rfl rfl 0 (by decide) (hts (.fieldLink RX3 9 "DeeprowsModel$Row" "kind" "I") (List.mem_cons_of_mem _ zw_1175)) (fun _ h9 => h9) rfl hin rfl (by decide +kernel) rfl rfl (Nat.le_of_ble_eq_true rfl) dX3_init_6 (fun H1 locs hP hD hS1 => ?_)
  have hz : s.heap.size + 0 ≤ H1.size := Nat.le_trans hz hS1.1
  have hS := zSS hS hS1
  replace hP : va_P (dC, dI) vwCl [(a, .inr (8, [.int 4, .null, .null]))] H1 := hP
  replace hD : va_D A [(a, .inr (8, [.int 4, .null, .null]))] := hD
  refine lv_aload_n hx hb dX3_init_9 rfl (lv_at hl 0 rfl) ?_
  refine lv_iload_n hx hb dX3_init_10 rfl (lv_at hl 2 rfl) ?_
  refine zw_newa (atype := .int) (ty := .int) (N' := 4) hx hb (hts (.arrayClass .int) (List.mem_cons_of_mem _ zw_137)) rfl (by first | exact Or.inl rfl | exact Or.inr rfl) hK hP hD hS hA 0 rfl (by decide) (by decide) (Nat.le_of_ble_eq_true rfl) (Nat.le_of_ble_eq_true rfl) (Nat.le_of_ble_eq_true rfl) dX3_init_11 hz (fun q2 H3 hP hD hS hz => ?_)
  replace hP : va_P (dC, dI) vwCl [(a, .inr (8, [.int 4, .null, .null])), (q2, .inl (cI, 4, .inl (fun _ => 0)))] H3 := hP
  replace hD : va_D A [(a, .inr (8, [.int 4, .null, .null])), (q2, .inl (cI, 4, .inl (fun _ => 0)))] := hD
  refine W.widen (k := 1) (n := 4) (by omega) (by omega) ?_
  refine va_putF (D := (dC, dI)) (ci := 8) (v := .ref q2) (ty := .array .int) (C := RX3) (T := TX3) (N := 3) hx hb hts hi_X3_init_X3 tyX3 tyX3_ok nmX3 hown hK hP hD (zS0 hS) 0 rfl rfl 1 (by decide) (hts (.fieldLink RX3 15 "DeeprowsModel$Row" "whats" "[I") (List.mem_cons_of_mem _ zw_1177)) (fun _ h9 => h9) rfl hin rfl (by decide +kernel) rfl rfl (Nat.le_of_ble_eq_true rfl) dX3_init_13 (fun H4 locs hP hD hS1 => ?_)
  have hz : s.heap.size + 1 ≤ H4.size := Nat.le_trans hz hS1.1
  have hS := zSS hS hS1
  replace hP : va_P (dC, dI) vwCl [(a, .inr (8, [.int 4, .ref q2, .null])), (q2, .inl (cI, 4, .inl (fun _ => 0)))] H4 := hP
  replace hD : va_D A [(a, .inr (8, [.int 4, .ref q2, .null])), (q2, .inl (cI, 4, .inl (fun _ => 0)))] := hD
  refine lv_aload_n hx hb dX3_init_16 rfl (lv_at hl 0 rfl) ?_
  refine lv_iload_n hx hb dX3_init_17 rfl (lv_at hl 2 rfl) ?_
  refine zw_newa (atype := .int) (ty := .int) (N' := 4) hx hb (hts (.arrayClass .int) (List.mem_cons_of_mem _ zw_137)) rfl (by first | exact Or.inl rfl | exact Or.inr rfl) hK hP hD hS hA 0 rfl (by decide) (by decide) (Nat.le_of_ble_eq_true rfl) (Nat.le_of_ble_eq_true rfl) (Nat.le_of_ble_eq_true rfl) dX3_init_18 hz (fun q5 H6 hP hD hS hz => ?_)
  replace hP : va_P (dC, dI) vwCl [(a, .inr (8, [.int 4, .ref q2, .null])), (q2, .inl (cI, 4, .inl (fun _ => 0))), (q5, .inl (cI, 4, .inl (fun _ => 0)))] H6 := hP
  replace hD : va_D A [(a, .inr (8, [.int 4, .ref q2, .null])), (q2, .inl (cI, 4, .inl (fun _ => 0))), (q5, .inl (cI, 4, .inl (fun _ => 0)))] := hD
  refine W.widen (k := 2) (n := 8) (by omega) (by omega) ?_
  refine va_putF (D := (dC, dI)) (ci := 8) (v := .ref q5) (ty := .array .int) (C := RX3) (T := TX3) (N := 3) hx hb hts hi_X3_init_X3 tyX3 tyX3_ok nmX3 hown hK hP hD (zS0 hS) 0 rfl rfl 2 (by decide) (hts (.fieldLink RX3 19 "DeeprowsModel$Row" "numbers" "[I") (List.mem_cons_of_mem _ zw_1179)) (fun _ h9 => h9) rfl hin rfl (by decide +kernel) rfl rfl (Nat.le_of_ble_eq_true rfl) dX3_init_20 (fun H7 locs hP hD hS1 => ?_)
  have hz : s.heap.size + 2 ≤ H7.size := Nat.le_trans hz hS1.1
  have hS := zSS hS hS1
  replace hP : va_P (dC, dI) vwCl [(a, .inr (8, [.int 4, .ref q2, .ref q5])), (q2, .inl (cI, 4, .inl (fun _ => 0))), (q5, .inl (cI, 4, .inl (fun _ => 0)))] H7 := hP
  replace hD : va_D A [(a, .inr (8, [.int 4, .ref q2, .ref q5])), (q2, .inl (cI, 4, .inl (fun _ => 0))), (q5, .inl (cI, 4, .inl (fun _ => 0)))] := hD
  refine lv_iconst (v := 0) hx hb dX3_init_23 (by decide) ?_
  refine lv_istore_n (lv' := [(3, .int 0), (0, .ref a), (1, .int 4), (2, .int 4)]) hx hb dX3_init_24 rfl hl (by decide) rfl (fun ls hl => ?_)
  refine lv_iload_n hx hb dX3_init_25 rfl (lv_at hl 0 rfl) ?_
  refine lv_iload_n hx hb dX3_init_26 rfl (lv_at hl 3 rfl) ?_
  refine lv_icmp_ge (tgt := 61) hx hb dX3_init_27 (by decide) (fun c9 => ?_) (fun c9 => ?_)
  · exact absurd c9 (by decide)
  refine lv_aload_n hx hb dX3_init_30 rfl (lv_at hl 1 rfl) ?_
  refine lv_iload_n hx hb dX3_init_31 rfl (lv_at hl 0 rfl) ?_
  refine lv_iload_n hx hb dX3_init_32 rfl (lv_at hl 2 rfl) ?_
  refine lv_iconst (v := 4) hx hb dX3_init_33 (by decide) ?_
  refine lv_icmp_ne (tgt := 41) hx hb dX3_init_34 (by decide) (fun c9 => ?_) (fun c9 => ?_)
  · exact absurd (by decide) c9
  refine lv_iconst (v := 0) hx hb dX3_init_37 (by decide) ?_
  refine lv_goto (tgt := 42) hx hb dX3_init_38 (by decide) ?_
  refine lv_iload_n hx hb dX3_init_42 rfl (lv_at hl 2 rfl) ?_
  refine lv_iconst (v := 4) hx hb dX3_init_43 (by decide) ?_
  refine lv_icmp_ne (tgt := 51) hx hb dX3_init_44 (by decide) (fun c9 => ?_) (fun c9 => ?_)
  · exact absurd (by decide) c9
  refine lv_iconst (v := (-1)) hx hb dX3_init_47 (by decide) ?_
  refine lv_goto (tgt := 52) hx hb dX3_init_48 (by decide) ?_
  have hPc := hP.sub (ws' := [(a, .inr (8, [.int 4, .ref q2, .ref q5])), (q2, .inl (cI, 4, .inl (fun _ => 0))), (q5, .inl (cI, 4, .inl (fun _ => 0)))]) [0, 1, 2] rfl
  have hDc := hD.sub (ws' := [(a, .inr (8, [.int 4, .ref q2, .ref q5])), (q2, .inl (cI, 4, .inl (fun _ => 0))), (q5, .inl (cI, 4, .inl (fun _ => 0)))]) [0, 1, 2] (by decide) rfl
  have hFc := va_free (wc := [(a, .inr (8, [.int 4, .ref q2, .ref q5])), (q2, .inl (cI, 4, .inl (fun _ => 0))), (q5, .inl (cI, 4, .inl (fun _ => 0)))]) hD hS hA [0, 1, 2] rfl
  have hDv := hDc.self (sz := H7.size)
  have hpre := zpre (xs' := []) (av := [.ref a, .int 0, .int 0, .int (-1)]) hPc hK (hDc.weaken (fun _ _ _ h => h)) hZ hS hFc (fun r hr => by cases hr)
  refine va_callv (va_runV (As := [.int 0, .int 0, .int (-1)]) (rest := []) ⟨hx, hb, hml, hown, hts⟩ (k_mp0 l dC dI cI cB cR cO zk a q2 q5 (fun _ => 0) (fun _ => 0) 0 (-1) H7.size ) (cwV 3 hts gX3_init_X3_put rfl rfl rfl (by decide +kernel) ⟨Nat.le_of_ble_eq_true rfl, Nat.le_of_ble_eq_true rfl⟩) ⟨zblind, (zrecv_8 hK hPc (q0 := 0) rfl), hpre⟩ rfl rfl hl.1 rfl (lv_room (Nat.le_of_ble_eq_true rfl)) dX3_init_52 ⟨Nat.le_of_ble_eq_true rfl, Nat.le_of_ble_eq_true rfl⟩) hS (fun q _ h => hFc q h) hFc (fun u t H8 locs ht hvm hw hB hz1 hk1 hS => ?_)
  obtain ⟨hP1, hK1, hD1, hz2⟩ := hB
  rw [ht] at hP1 hz2
  have hPD9 := va_join (wr := []) (w1 := [(a, .inr (8, [.int 4, .ref q2, .ref q5])), (q2, .inl (cI, 4, .inl (upd (fun _ => 0) 0 0))), (q5, .inl (cI, 4, .inl (upd (fun _ => 0) 0 (-1))))]) hP hD [0, 1, 2] [] rfl rfl (by decide) (by decide) hk1 hFc hP1 hD1
  clear hPc hDc hFc hDv hpre hP hD hP1 hK1 hD1
  obtain ⟨hP, hD⟩ := hPD9
  replace hz : s.heap.size + 2 ≤ H8.size := by omega
  clear hz2
  replace hP : va_P (dC, dI) vwCl [(a, .inr (8, [.int 4, .ref q2, .ref q5])), (q2, .inl (cI, 4, .inl (upd (fun _ => 0) 0 0))), (q5, .inl (cI, 4, .inl (upd (fun _ => 0) 0 (-1))))] H8 := hP
  replace hD : va_D A [(a, .inr (8, [.int 4, .ref q2, .ref q5])), (q2, .inl (cI, 4, .inl (upd (fun _ => 0) 0 0))), (q5, .inl (cI, 4, .inl (upd (fun _ => 0) 0 (-1))))] := hD
  refine W.widen (k := 2) (n := 8) (by omega) (by omega) ?_
  refine lv_iinc (v := 1) (lv' := [(3, .int 1), (0, .ref a), (1, .int 4), (2, .int 4)]) hx hb dX3_init_55 hl (k := 0) rfl (by decide) (by decide) rfl (fun ls hl => ?_)
  refine lv_goto (tgt := 25) hx hb dX3_init_58 (by decide) ?_
  refine lv_iload_n hx hb dX3_init_25 rfl (lv_at hl 0 rfl) ?_
  refine lv_iload_n hx hb dX3_init_26 rfl (lv_at hl 3 rfl) ?_
  refine lv_icmp_ge (tgt := 61) hx hb dX3_init_27 (by decide) (fun c9 => ?_) (fun c9 => ?_)
  · exact absurd c9 (by decide)
  refine lv_aload_n hx hb dX3_init_30 rfl (lv_at hl 1 rfl) ?_
  refine lv_iload_n hx hb dX3_init_31 rfl (lv_at hl 0 rfl) ?_
  refine lv_iload_n hx hb dX3_init_32 rfl (lv_at hl 2 rfl) ?_
  refine lv_iconst (v := 4) hx hb dX3_init_33 (by decide) ?_
  refine lv_icmp_ne (tgt := 41) hx hb dX3_init_34 (by decide) (fun c9 => ?_) (fun c9 => ?_)
  · exact absurd (by decide) c9
  refine lv_iconst (v := 0) hx hb dX3_init_37 (by decide) ?_
  refine lv_goto (tgt := 42) hx hb dX3_init_38 (by decide) ?_
  refine lv_iload_n hx hb dX3_init_42 rfl (lv_at hl 2 rfl) ?_
  refine lv_iconst (v := 4) hx hb dX3_init_43 (by decide) ?_
  refine lv_icmp_ne (tgt := 51) hx hb dX3_init_44 (by decide) (fun c9 => ?_) (fun c9 => ?_)
  · exact absurd (by decide) c9
  refine lv_iconst (v := (-1)) hx hb dX3_init_47 (by decide) ?_
  refine lv_goto (tgt := 52) hx hb dX3_init_48 (by decide) ?_
  have hPc := hP.sub (ws' := [(a, .inr (8, [.int 4, .ref q2, .ref q5])), (q2, .inl (cI, 4, .inl (upd (fun _ => 0) 0 0))), (q5, .inl (cI, 4, .inl (upd (fun _ => 0) 0 (-1))))]) [0, 1, 2] rfl
  have hDc := hD.sub (ws' := [(a, .inr (8, [.int 4, .ref q2, .ref q5])), (q2, .inl (cI, 4, .inl (upd (fun _ => 0) 0 0))), (q5, .inl (cI, 4, .inl (upd (fun _ => 0) 0 (-1))))]) [0, 1, 2] (by decide) rfl
  have hFc := va_free (wc := [(a, .inr (8, [.int 4, .ref q2, .ref q5])), (q2, .inl (cI, 4, .inl (upd (fun _ => 0) 0 0))), (q5, .inl (cI, 4, .inl (upd (fun _ => 0) 0 (-1))))]) hD hS hA [0, 1, 2] rfl
  have hDv := hDc.self (sz := H8.size)
  have hpre := zpre (xs' := []) (av := [.ref a, .int 1, .int 0, .int (-1)]) hPc hK (hDc.weaken (fun _ _ _ h => h)) hZ hS hFc (fun r hr => by cases hr)
  refine va_callv (va_runV (As := [.int 1, .int 0, .int (-1)]) (rest := []) ⟨hx, hb, hml, hown, hts⟩ (k_mp1 l dC dI cI cB cR cO zk a q2 q5 (upd (fun _ => 0) 0 0) (upd (fun _ => 0) 0 (-1)) 0 (-1) H8.size ) (cwV 3 hts gX3_init_X3_put rfl rfl rfl (by decide +kernel) ⟨Nat.le_of_ble_eq_true rfl, Nat.le_of_ble_eq_true rfl⟩) ⟨zblind, (zrecv_8 hK hPc (q0 := 0) rfl), hpre⟩ rfl rfl hl.1 rfl (lv_room (Nat.le_of_ble_eq_true rfl)) dX3_init_52 ⟨Nat.le_of_ble_eq_true rfl, Nat.le_of_ble_eq_true rfl⟩) hS (fun q _ h => hFc q h) hFc (fun u t H10 locs ht hvm hw hB hz1 hk1 hS => ?_)
  obtain ⟨hP1, hK1, hD1, hz2⟩ := hB
  rw [ht] at hP1 hz2
  have hPD9 := va_join (wr := []) (w1 := [(a, .inr (8, [.int 4, .ref q2, .ref q5])), (q2, .inl (cI, 4, .inl (upd (upd (fun _ => 0) 0 0) 1 0))), (q5, .inl (cI, 4, .inl (upd (upd (fun _ => 0) 0 (-1)) 1 (-1))))]) hP hD [0, 1, 2] [] rfl rfl (by decide) (by decide) hk1 hFc hP1 hD1
  clear hPc hDc hFc hDv hpre hP hD hP1 hK1 hD1
  obtain ⟨hP, hD⟩ := hPD9
  replace hz : s.heap.size + 2 ≤ H10.size := by omega
  clear hz2
  replace hP : va_P (dC, dI) vwCl [(a, .inr (8, [.int 4, .ref q2, .ref q5])), (q2, .inl (cI, 4, .inl (upd (upd (fun _ => 0) 0 0) 1 0))), (q5, .inl (cI, 4, .inl (upd (upd (fun _ => 0) 0 (-1)) 1 (-1))))] H10 := hP
  replace hD : va_D A [(a, .inr (8, [.int 4, .ref q2, .ref q5])), (q2, .inl (cI, 4, .inl (upd (upd (fun _ => 0) 0 0) 1 0))), (q5, .inl (cI, 4, .inl (upd (upd (fun _ => 0) 0 (-1)) 1 (-1))))] := hD
  refine W.widen (k := 2) (n := 8) (by omega) (by omega) ?_
  refine lv_iinc (v := 2) (lv' := [(3, .int 2), (0, .ref a), (1, .int 4), (2, .int 4)]) hx hb dX3_init_55 hl (k := 0) rfl (by decide) (by decide) rfl (fun ls hl => ?_)
  refine lv_goto (tgt := 25) hx hb dX3_init_58 (by decide) ?_
  refine lv_iload_n hx hb dX3_init_25 rfl (lv_at hl 0 rfl) ?_
  refine lv_iload_n hx hb dX3_init_26 rfl (lv_at hl 3 rfl) ?_
  refine lv_icmp_ge (tgt := 61) hx hb dX3_init_27 (by decide) (fun c9 => ?_) (fun c9 => ?_)
  · exact absurd c9 (by decide)
  refine lv_aload_n hx hb dX3_init_30 rfl (lv_at hl 1 rfl) ?_
  refine lv_iload_n hx hb dX3_init_31 rfl (lv_at hl 0 rfl) ?_
  refine lv_iload_n hx hb dX3_init_32 rfl (lv_at hl 2 rfl) ?_
  refine lv_iconst (v := 4) hx hb dX3_init_33 (by decide) ?_
  refine lv_icmp_ne (tgt := 41) hx hb dX3_init_34 (by decide) (fun c9 => ?_) (fun c9 => ?_)
  · exact absurd (by decide) c9
  refine lv_iconst (v := 0) hx hb dX3_init_37 (by decide) ?_
  refine lv_goto (tgt := 42) hx hb dX3_init_38 (by decide) ?_
  refine lv_iload_n hx hb dX3_init_42 rfl (lv_at hl 2 rfl) ?_
  refine lv_iconst (v := 4) hx hb dX3_init_43 (by decide) ?_
  refine lv_icmp_ne (tgt := 51) hx hb dX3_init_44 (by decide) (fun c9 => ?_) (fun c9 => ?_)
  · exact absurd (by decide) c9
  refine lv_iconst (v := (-1)) hx hb dX3_init_47 (by decide) ?_
  refine lv_goto (tgt := 52) hx hb dX3_init_48 (by decide) ?_
  have hPc := hP.sub (ws' := [(a, .inr (8, [.int 4, .ref q2, .ref q5])), (q2, .inl (cI, 4, .inl (upd (upd (fun _ => 0) 0 0) 1 0))), (q5, .inl (cI, 4, .inl (upd (upd (fun _ => 0) 0 (-1)) 1 (-1))))]) [0, 1, 2] rfl
  have hDc := hD.sub (ws' := [(a, .inr (8, [.int 4, .ref q2, .ref q5])), (q2, .inl (cI, 4, .inl (upd (upd (fun _ => 0) 0 0) 1 0))), (q5, .inl (cI, 4, .inl (upd (upd (fun _ => 0) 0 (-1)) 1 (-1))))]) [0, 1, 2] (by decide) rfl
  have hFc := va_free (wc := [(a, .inr (8, [.int 4, .ref q2, .ref q5])), (q2, .inl (cI, 4, .inl (upd (upd (fun _ => 0) 0 0) 1 0))), (q5, .inl (cI, 4, .inl (upd (upd (fun _ => 0) 0 (-1)) 1 (-1))))]) hD hS hA [0, 1, 2] rfl
  have hDv := hDc.self (sz := H10.size)
  have hpre := zpre (xs' := []) (av := [.ref a, .int 2, .int 0, .int (-1)]) hPc hK (hDc.weaken (fun _ _ _ h => h)) hZ hS hFc (fun r hr => by cases hr)
  refine va_callv (va_runV (As := [.int 2, .int 0, .int (-1)]) (rest := []) ⟨hx, hb, hml, hown, hts⟩ (k_mp2 l dC dI cI cB cR cO zk a q2 q5 (upd (upd (fun _ => 0) 0 0) 1 0) (upd (upd (fun _ => 0) 0 (-1)) 1 (-1)) 0 (-1) H10.size ) (cwV 3 hts gX3_init_X3_put rfl rfl rfl (by decide +kernel) ⟨Nat.le_of_ble_eq_true rfl, Nat.le_of_ble_eq_true rfl⟩) ⟨zblind, (zrecv_8 hK hPc (q0 := 0) rfl), hpre⟩ rfl rfl hl.1 rfl (lv_room (Nat.le_of_ble_eq_true rfl)) dX3_init_52 ⟨Nat.le_of_ble_eq_true rfl, Nat.le_of_ble_eq_true rfl⟩) hS (fun q _ h => hFc q h) hFc (fun u t H12 locs ht hvm hw hB hz1 hk1 hS => ?_)
  obtain ⟨hP1, hK1, hD1, hz2⟩ := hB
  rw [ht] at hP1 hz2
  have hPD9 := va_join (wr := []) (w1 := [(a, .inr (8, [.int 4, .ref q2, .ref q5])), (q2, .inl (cI, 4, .inl (upd (upd (upd (fun _ => 0) 0 0) 1 0) 2 0))), (q5, .inl (cI, 4, .inl (upd (upd (upd (fun _ => 0) 0 (-1)) 1 (-1)) 2 (-1))))]) hP hD [0, 1, 2] [] rfl rfl (by decide) (by decide) hk1 hFc hP1 hD1
  clear hPc hDc hFc hDv hpre hP hD hP1 hK1 hD1
  obtain ⟨hP, hD⟩ := hPD9
  replace hz : s.heap.size + 2 ≤ H12.size := by omega
  clear hz2
  replace hP : va_P (dC, dI) vwCl [(a, .inr (8, [.int 4, .ref q2, .ref q5])), (q2, .inl (cI, 4, .inl (upd (upd (upd (fun _ => 0) 0 0) 1 0) 2 0))), (q5, .inl (cI, 4, .inl (upd (upd (upd (fun _ => 0) 0 (-1)) 1 (-1)) 2 (-1))))] H12 := hP
  replace hD : va_D A [(a, .inr (8, [.int 4, .ref q2, .ref q5])), (q2, .inl (cI, 4, .inl (upd (upd (upd (fun _ => 0) 0 0) 1 0) 2 0))), (q5, .inl (cI, 4, .inl (upd (upd (upd (fun _ => 0) 0 (-1)) 1 (-1)) 2 (-1))))] := hD
  refine W.widen (k := 2) (n := 8) (by omega) (by omega) ?_
  refine lv_iinc (v := 3) (lv' := [(3, .int 3), (0, .ref a), (1, .int 4), (2, .int 4)]) hx hb dX3_init_55 hl (k := 0) rfl (by decide) (by decide) rfl (fun ls hl => ?_)
  refine lv_goto (tgt := 25) hx hb dX3_init_58 (by decide) ?_
  refine lv_iload_n hx hb dX3_init_25 rfl (lv_at hl 0 rfl) ?_
  refine lv_iload_n hx hb dX3_init_26 rfl (lv_at hl 3 rfl) ?_
  refine lv_icmp_ge (tgt := 61) hx hb dX3_init_27 (by decide) (fun c9 => ?_) (fun c9 => ?_)
  · exact absurd c9 (by decide)
  refine lv_aload_n hx hb dX3_init_30 rfl (lv_at hl 1 rfl) ?_
  refine lv_iload_n hx hb dX3_init_31 rfl (lv_at hl 0 rfl) ?_
  refine lv_iload_n hx hb dX3_init_32 rfl (lv_at hl 2 rfl) ?_
  refine lv_iconst (v := 4) hx hb dX3_init_33 (by decide) ?_
  refine lv_icmp_ne (tgt := 41) hx hb dX3_init_34 (by decide) (fun c9 => ?_) (fun c9 => ?_)
  · exact absurd (by decide) c9
  refine lv_iconst (v := 0) hx hb dX3_init_37 (by decide) ?_
  refine lv_goto (tgt := 42) hx hb dX3_init_38 (by decide) ?_
  refine lv_iload_n hx hb dX3_init_42 rfl (lv_at hl 2 rfl) ?_
  refine lv_iconst (v := 4) hx hb dX3_init_43 (by decide) ?_
  refine lv_icmp_ne (tgt := 51) hx hb dX3_init_44 (by decide) (fun c9 => ?_) (fun c9 => ?_)
  · exact absurd (by decide) c9
  refine lv_iconst (v := (-1)) hx hb dX3_init_47 (by decide) ?_
  refine lv_goto (tgt := 52) hx hb dX3_init_48 (by decide) ?_
  have hPc := hP.sub (ws' := [(a, .inr (8, [.int 4, .ref q2, .ref q5])), (q2, .inl (cI, 4, .inl (upd (upd (upd (fun _ => 0) 0 0) 1 0) 2 0))), (q5, .inl (cI, 4, .inl (upd (upd (upd (fun _ => 0) 0 (-1)) 1 (-1)) 2 (-1))))]) [0, 1, 2] rfl
  have hDc := hD.sub (ws' := [(a, .inr (8, [.int 4, .ref q2, .ref q5])), (q2, .inl (cI, 4, .inl (upd (upd (upd (fun _ => 0) 0 0) 1 0) 2 0))), (q5, .inl (cI, 4, .inl (upd (upd (upd (fun _ => 0) 0 (-1)) 1 (-1)) 2 (-1))))]) [0, 1, 2] (by decide) rfl
  have hFc := va_free (wc := [(a, .inr (8, [.int 4, .ref q2, .ref q5])), (q2, .inl (cI, 4, .inl (upd (upd (upd (fun _ => 0) 0 0) 1 0) 2 0))), (q5, .inl (cI, 4, .inl (upd (upd (upd (fun _ => 0) 0 (-1)) 1 (-1)) 2 (-1))))]) hD hS hA [0, 1, 2] rfl
  have hDv := hDc.self (sz := H12.size)
  have hpre := zpre (xs' := []) (av := [.ref a, .int 3, .int 0, .int (-1)]) hPc hK (hDc.weaken (fun _ _ _ h => h)) hZ hS hFc (fun r hr => by cases hr)
  refine va_callv (va_runV (As := [.int 3, .int 0, .int (-1)]) (rest := []) ⟨hx, hb, hml, hown, hts⟩ (k_mp3 l dC dI cI cB cR cO zk a q2 q5 (upd (upd (upd (fun _ => 0) 0 0) 1 0) 2 0) (upd (upd (upd (fun _ => 0) 0 (-1)) 1 (-1)) 2 (-1)) 0 (-1) H12.size ) (cwV 3 hts gX3_init_X3_put rfl rfl rfl (by decide +kernel) ⟨Nat.le_of_ble_eq_true rfl, Nat.le_of_ble_eq_true rfl⟩) ⟨zblind, (zrecv_8 hK hPc (q0 := 0) rfl), hpre⟩ rfl rfl hl.1 rfl (lv_room (Nat.le_of_ble_eq_true rfl)) dX3_init_52 ⟨Nat.le_of_ble_eq_true rfl, Nat.le_of_ble_eq_true rfl⟩) hS (fun q _ h => hFc q h) hFc (fun u t H14 locs ht hvm hw hB hz1 hk1 hS => ?_)
  obtain ⟨hP1, hK1, hD1, hz2⟩ := hB
  rw [ht] at hP1 hz2
  have hPD9 := va_join (wr := []) (w1 := [(a, .inr (8, [.int 4, .ref q2, .ref q5])), (q2, .inl (cI, 4, .inl (upd (upd (upd (upd (fun _ => 0) 0 0) 1 0) 2 0) 3 0))), (q5, .inl (cI, 4, .inl (upd (upd (upd (upd (fun _ => 0) 0 (-1)) 1 (-1)) 2 (-1)) 3 (-1))))]) hP hD [0, 1, 2] [] rfl rfl (by decide) (by decide) hk1 hFc hP1 hD1
  clear hPc hDc hFc hDv hpre hP hD hP1 hK1 hD1
  obtain ⟨hP, hD⟩ := hPD9
  replace hz : s.heap.size + 2 ≤ H14.size := by omega
  clear hz2
  replace hP : va_P (dC, dI) vwCl [(a, .inr (8, [.int 4, .ref q2, .ref q5])), (q2, .inl (cI, 4, .inl (upd (upd (upd (upd (fun _ => 0) 0 0) 1 0) 2 0) 3 0))), (q5, .inl (cI, 4, .inl (upd (upd (upd (upd (fun _ => 0) 0 (-1)) 1 (-1)) 2 (-1)) 3 (-1))))] H14 := hP
  replace hD : va_D A [(a, .inr (8, [.int 4, .ref q2, .ref q5])), (q2, .inl (cI, 4, .inl (upd (upd (upd (upd (fun _ => 0) 0 0) 1 0) 2 0) 3 0))), (q5, .inl (cI, 4, .inl (upd (upd (upd (upd (fun _ => 0) 0 (-1)) 1 (-1)) 2 (-1)) 3 (-1))))] := hD
  refine W.widen (k := 2) (n := 8) (by omega) (by omega) ?_
  refine lv_iinc (v := 4) (lv' := [(3, .int 4), (0, .ref a), (1, .int 4), (2, .int 4)]) hx hb dX3_init_55 hl (k := 0) rfl (by decide) (by decide) rfl (fun ls hl => ?_)
  refine lv_goto (tgt := 25) hx hb dX3_init_58 (by decide) ?_
  refine lv_iload_n hx hb dX3_init_25 rfl (lv_at hl 0 rfl) ?_
  refine lv_iload_n hx hb dX3_init_26 rfl (lv_at hl 3 rfl) ?_
  refine lv_icmp_ge (tgt := 61) hx hb dX3_init_27 (by decide) (fun c9 => ?_) (fun c9 => ?_)
  rotate_left
  · exact absurd (by decide) c9
  have hP9 := hP.sub (ws' := [(a, .inr (8, [.int 4, .ref q2, .ref q5])), (q2, .inl (cI, 4, .inl (upd (upd (upd (upd (fun _ => 0) 0 0) 1 0) 2 0) 3 0))), (q5, .inl (cI, 4, .inl (upd (upd (upd (upd (fun _ => 0) 0 (-1)) 1 (-1)) 2 (-1)) 3 (-1))))]) [0, 1, 2] rfl
  have hD9 := hD.sub (ws' := [(a, .inr (8, [.int 4, .ref q2, .ref q5])), (q2, .inl (cI, 4, .inl (upd (upd (upd (upd (fun _ => 0) 0 0) 1 0) 2 0) 3 0))), (q5, .inl (cI, 4, .inl (upd (upd (upd (upd (fun _ => 0) 0 (-1)) 1 (-1)) 2 (-1)) 3 (-1))))]) [0, 1, 2] (by decide) rfl
  exact W.vret hx hb hr (fun t ht hW => ⟨⟨(), rfl, trivial, ⟨_, _, _, _, ⟨by rw [ht]; exact hP9, va_K.moved hW.alike hK, hD9, by rw [ht]; exact hz⟩, fun i hi => by rcases (show i = 0 ∨ i = 1 ∨ i = 2 ∨ i = 3 by omega) with rfl | rfl | rfl | rfl <;> rfl, fun i hi => by rcases (show i = 0 ∨ i = 1 ∨ i = 2 ∨ i = 3 by omega) with rfl | rfl | rfl | rfl <;> rfl⟩⟩, hS.F ht⟩) hS.2.2 dX3_init_61

theorem hi_X3_hangs_X3 : ∀ w ∈ u_ws RX3 TX3 3, w ∈ wsX3_hangs := fun w h => List.mem_cons_of_mem _ (zhi_X3 w h)
set_option maxHeartbeats 4000000 in
set_option maxRecDepth 100000 in
theorem k_mh0_0 (l : Launch) (dC : Nat → ClassId) (dI : Nat → Nat → Nat) (cI cB cR cO : ClassId) (zk : Nat → Nat) (a wa na : Nat) (fw : Nat → Int32) (sz : Nat) (hv : fw 0 = 0) : Met l yX3_hangs wsX3_hangs ({ frames := 0, cells := 0, slots := 0, locals := 0 }) (va_Pc [.ref a, .int 0] (zPre (dC, dI) (zT cI cB cR cO) zk [] [(a, .inr (8, [.int 4, .ref wa, .ref na])), (wa, .inl (cI, 4, .inl fw))] sz)) (va_Qi (fun r (_ : Unit) => r = 0) (fun _ t => zEnd (dC, dI) (zT cI cB cR cO) (va_A [(a, .inr (8, [.int 4, .ref wa, .ref na])), (wa, .inl (cI, 4, .inl fw))] sz) [(a, .inr (8, [.int 4, .ref wa, .ref na])), (wa, .inl (cI, 4, .inl fw))] sz 0 t) (va_A [(a, .inr (8, [.int 4, .ref wa, .ref na])), (wa, .inl (cI, 4, .inl fw))] sz)) 0 0 (va_A [(a, .inr (8, [.int 4, .ref wa, .ref na])), (wa, .inl (cI, 4, .inl fw))] sz) := by
  refine Met.ofW (cc := cX3_hangs) (maxL := 2) (ret := (some .boolean)) (by decide) rfl ?_
  intro p e s mY args below meth c s₁ B hml hv
  obtain ⟨rfl, hsz, hP, hK, hD0, hZ⟩ := hv
  have hx := B.exec
  have hb := B.bytes
  have hr := B.returns
  have hts := atoms_spec (ws := wsX3_hangs) B.pre
  have hown : s.vm.findClass RX3 = some mY.cls := findClass_of_methodNamed B.named
  have hlocks := B.notSynchronized
  subst hsz
  have hD := hD0.self (sz := s.heap.size)
  generalize hAe : va_A [(a, .inr (8, [.int 4, .ref wa, .ref na])), (wa, .inl (cI, 4, .inl fw))] s.heap.size = A at hD hZ ⊢
  have hA : ∀ q : Nat, s.heap.size ≤ q → A q := fun q h => by rw [← hAe]; exact Or.inr h
  have hS : va_S A s.heap s.heap [] := va_S.rf
  have hz : s.heap.size + 0 ≤ s.heap.size := Nat.le_refl _
  have hl := lv_entry ([.ref a, .int 0]) (n := 2) (Nat.le_of_ble_eq_true rfl)
  rw [lg_entry_eq]
  generalize (lg_sl ([.ref a, .int 0]) ++ List.replicate (2 - (lg_sl ([.ref a, .int 0])).length) Slot.unset).toArray = ls at hl ⊢
  have hl : lv_has ls 2 [(0, .ref a), (1, .int 0)] := hl
  have hP : va_P (dC, dI) vwCl [(a, .inr (8, [.int 4, .ref wa, .ref na])), (wa, .inl (cI, 4, .inl fw))] s.heap := hP
  have hD : va_D A [(a, .inr (8, [.int 4, .ref wa, .ref na])), (wa, .inl (cI, 4, .inl fw))] := hD
  refine lv_aload_n hx hb dX3_hangs_0 rfl (lv_at hl 0 rfl) ?_
  refine va_get (D := (dC, dI)) (ci := 8) (v := .ref wa) (C := RX3) (T := TX3) (N := 3) hx hb hts hi_X3_hangs_X3 hown hK hP 0 rfl rfl 1 (by decide) (hts (.fieldLink RX3 15 "DeeprowsModel$Row" "whats" "[I") (List.mem_cons_of_mem _ zw_1177)) (fun _ h9 => h9) rfl dX3_hangs_1 ?_
  refine lv_iload_n hx hb dX3_hangs_4 rfl (lv_at hl 1 rfl) ?_
  refine va_iald (D := (dC, dI)) (cl := vwCl) hx hb hK hP 1 0 rfl rfl (by unfold vp_in; decide) dX3_hangs_5 ?_
  refine lv_topi (fun v1 ev1 => ?_)
  obtain rfl : v1 = 0 := ev1.trans (hv)
  refine lv_iconst (v := 3) hx hb dX3_hangs_6 (by decide) ?_
  refine lv_icmp_ne (tgt := 14) hx hb dX3_hangs_7 (by decide) (fun c9 => ?_) (fun c9 => ?_)
  rotate_left
  · exact absurd c9 (by decide)
  refine lv_iconst (v := 0) hx hb dX3_hangs_14 (by decide) ?_
  have hP9 := hP.sub (ws' := [(a, .inr (8, [.int 4, .ref wa, .ref na])), (wa, .inl (cI, 4, .inl fw))]) [0, 1] rfl
  have hD9 := hD.sub (ws' := [(a, .inr (8, [.int 4, .ref wa, .ref na])), (wa, .inl (cI, 4, .inl fw))]) [0, 1] (by decide) rfl
  exact W.zret (v := 0) hx hb hr (by decide +kernel) (fun t ht hW => ⟨⟨_, (), rfl, rfl, ⟨by rw [ht]; exact hP9, va_K.moved hW.alike hK, hD9, by rw [ht]; exact hz⟩⟩, hS.F ht⟩) hS.2.2 dX3_hangs_15

set_option maxHeartbeats 4000000 in
set_option maxRecDepth 100000 in
theorem k_mh0_3 (l : Launch) (dC : Nat → ClassId) (dI : Nat → Nat → Nat) (cI cB cR cO : ClassId) (zk : Nat → Nat) (a wa na : Nat) (fw : Nat → Int32) (sz : Nat) (hv : fw 0 = 3) : Met l yX3_hangs wsX3_hangs ({ frames := 0, cells := 0, slots := 0, locals := 0 }) (va_Pc [.ref a, .int 0] (zPre (dC, dI) (zT cI cB cR cO) zk [] [(a, .inr (8, [.int 4, .ref wa, .ref na])), (wa, .inl (cI, 4, .inl fw))] sz)) (va_Qi (fun r (_ : Unit) => r = 1) (fun _ t => zEnd (dC, dI) (zT cI cB cR cO) (va_A [(a, .inr (8, [.int 4, .ref wa, .ref na])), (wa, .inl (cI, 4, .inl fw))] sz) [(a, .inr (8, [.int 4, .ref wa, .ref na])), (wa, .inl (cI, 4, .inl fw))] sz 0 t) (va_A [(a, .inr (8, [.int 4, .ref wa, .ref na])), (wa, .inl (cI, 4, .inl fw))] sz)) 0 0 (va_A [(a, .inr (8, [.int 4, .ref wa, .ref na])), (wa, .inl (cI, 4, .inl fw))] sz) := by
  refine Met.ofW (cc := cX3_hangs) (maxL := 2) (ret := (some .boolean)) (by decide) rfl ?_
  intro p e s mY args below meth c s₁ B hml hv
  obtain ⟨rfl, hsz, hP, hK, hD0, hZ⟩ := hv
  have hx := B.exec
  have hb := B.bytes
  have hr := B.returns
  have hts := atoms_spec (ws := wsX3_hangs) B.pre
  have hown : s.vm.findClass RX3 = some mY.cls := findClass_of_methodNamed B.named
  have hlocks := B.notSynchronized
  subst hsz
  have hD := hD0.self (sz := s.heap.size)
  generalize hAe : va_A [(a, .inr (8, [.int 4, .ref wa, .ref na])), (wa, .inl (cI, 4, .inl fw))] s.heap.size = A at hD hZ ⊢
  have hA : ∀ q : Nat, s.heap.size ≤ q → A q := fun q h => by rw [← hAe]; exact Or.inr h
  have hS : va_S A s.heap s.heap [] := va_S.rf
  have hz : s.heap.size + 0 ≤ s.heap.size := Nat.le_refl _
  have hl := lv_entry ([.ref a, .int 0]) (n := 2) (Nat.le_of_ble_eq_true rfl)
  rw [lg_entry_eq]
  generalize (lg_sl ([.ref a, .int 0]) ++ List.replicate (2 - (lg_sl ([.ref a, .int 0])).length) Slot.unset).toArray = ls at hl ⊢
  have hl : lv_has ls 2 [(0, .ref a), (1, .int 0)] := hl
  have hP : va_P (dC, dI) vwCl [(a, .inr (8, [.int 4, .ref wa, .ref na])), (wa, .inl (cI, 4, .inl fw))] s.heap := hP
  have hD : va_D A [(a, .inr (8, [.int 4, .ref wa, .ref na])), (wa, .inl (cI, 4, .inl fw))] := hD
  refine lv_aload_n hx hb dX3_hangs_0 rfl (lv_at hl 0 rfl) ?_
  refine va_get (D := (dC, dI)) (ci := 8) (v := .ref wa) (C := RX3) (T := TX3) (N := 3) hx hb hts hi_X3_hangs_X3 hown hK hP 0 rfl rfl 1 (by decide) (hts (.fieldLink RX3 15 "DeeprowsModel$Row" "whats" "[I") (List.mem_cons_of_mem _ zw_1177)) (fun _ h9 => h9) rfl dX3_hangs_1 ?_
  refine lv_iload_n hx hb dX3_hangs_4 rfl (lv_at hl 1 rfl) ?_
  refine va_iald (D := (dC, dI)) (cl := vwCl) hx hb hK hP 1 0 rfl rfl (by unfold vp_in; decide) dX3_hangs_5 ?_
  refine lv_topi (fun v1 ev1 => ?_)
  obtain rfl : v1 = 3 := ev1.trans (hv)
  refine lv_iconst (v := 3) hx hb dX3_hangs_6 (by decide) ?_
  refine lv_icmp_ne (tgt := 14) hx hb dX3_hangs_7 (by decide) (fun c9 => ?_) (fun c9 => ?_)
  · exact absurd (by decide) c9
  refine lv_iconst (v := 1) hx hb dX3_hangs_10 (by decide) ?_
  refine lv_goto (tgt := 15) hx hb dX3_hangs_11 (by decide) ?_
  have hP9 := hP.sub (ws' := [(a, .inr (8, [.int 4, .ref wa, .ref na])), (wa, .inl (cI, 4, .inl fw))]) [0, 1] rfl
  have hD9 := hD.sub (ws' := [(a, .inr (8, [.int 4, .ref wa, .ref na])), (wa, .inl (cI, 4, .inl fw))]) [0, 1] (by decide) rfl
  exact W.zret (v := 1) hx hb hr (by decide +kernel) (fun t ht hW => ⟨⟨_, (), rfl, rfl, ⟨by rw [ht]; exact hP9, va_K.moved hW.alike hK, hD9, by rw [ht]; exact hz⟩⟩, hS.F ht⟩) hS.2.2 dX3_hangs_15

set_option maxHeartbeats 4000000 in
set_option maxRecDepth 100000 in
theorem k_mh1_0 (l : Launch) (dC : Nat → ClassId) (dI : Nat → Nat → Nat) (cI cB cR cO : ClassId) (zk : Nat → Nat) (a wa na : Nat) (fw : Nat → Int32) (sz : Nat) (hv : fw 1 = 0) : Met l yX3_hangs wsX3_hangs ({ frames := 0, cells := 0, slots := 0, locals := 0 }) (va_Pc [.ref a, .int 1] (zPre (dC, dI) (zT cI cB cR cO) zk [] [(a, .inr (8, [.int 4, .ref wa, .ref na])), (wa, .inl (cI, 4, .inl fw))] sz)) (va_Qi (fun r (_ : Unit) => r = 0) (fun _ t => zEnd (dC, dI) (zT cI cB cR cO) (va_A [(a, .inr (8, [.int 4, .ref wa, .ref na])), (wa, .inl (cI, 4, .inl fw))] sz) [(a, .inr (8, [.int 4, .ref wa, .ref na])), (wa, .inl (cI, 4, .inl fw))] sz 0 t) (va_A [(a, .inr (8, [.int 4, .ref wa, .ref na])), (wa, .inl (cI, 4, .inl fw))] sz)) 0 0 (va_A [(a, .inr (8, [.int 4, .ref wa, .ref na])), (wa, .inl (cI, 4, .inl fw))] sz) := by
  refine Met.ofW (cc := cX3_hangs) (maxL := 2) (ret := (some .boolean)) (by decide) rfl ?_
  intro p e s mY args below meth c s₁ B hml hv
  obtain ⟨rfl, hsz, hP, hK, hD0, hZ⟩ := hv
  have hx := B.exec
  have hb := B.bytes
  have hr := B.returns
  have hts := atoms_spec (ws := wsX3_hangs) B.pre
  have hown : s.vm.findClass RX3 = some mY.cls := findClass_of_methodNamed B.named
  have hlocks := B.notSynchronized
  subst hsz
  have hD := hD0.self (sz := s.heap.size)
  generalize hAe : va_A [(a, .inr (8, [.int 4, .ref wa, .ref na])), (wa, .inl (cI, 4, .inl fw))] s.heap.size = A at hD hZ ⊢
  have hA : ∀ q : Nat, s.heap.size ≤ q → A q := fun q h => by rw [← hAe]; exact Or.inr h
  have hS : va_S A s.heap s.heap [] := va_S.rf
  have hz : s.heap.size + 0 ≤ s.heap.size := Nat.le_refl _
  have hl := lv_entry ([.ref a, .int 1]) (n := 2) (Nat.le_of_ble_eq_true rfl)
  rw [lg_entry_eq]
  generalize (lg_sl ([.ref a, .int 1]) ++ List.replicate (2 - (lg_sl ([.ref a, .int 1])).length) Slot.unset).toArray = ls at hl ⊢
  have hl : lv_has ls 2 [(0, .ref a), (1, .int 1)] := hl
  have hP : va_P (dC, dI) vwCl [(a, .inr (8, [.int 4, .ref wa, .ref na])), (wa, .inl (cI, 4, .inl fw))] s.heap := hP
  have hD : va_D A [(a, .inr (8, [.int 4, .ref wa, .ref na])), (wa, .inl (cI, 4, .inl fw))] := hD
  refine lv_aload_n hx hb dX3_hangs_0 rfl (lv_at hl 0 rfl) ?_
  refine va_get (D := (dC, dI)) (ci := 8) (v := .ref wa) (C := RX3) (T := TX3) (N := 3) hx hb hts hi_X3_hangs_X3 hown hK hP 0 rfl rfl 1 (by decide) (hts (.fieldLink RX3 15 "DeeprowsModel$Row" "whats" "[I") (List.mem_cons_of_mem _ zw_1177)) (fun _ h9 => h9) rfl dX3_hangs_1 ?_
  refine lv_iload_n hx hb dX3_hangs_4 rfl (lv_at hl 1 rfl) ?_
  refine va_iald (D := (dC, dI)) (cl := vwCl) hx hb hK hP 1 0 rfl rfl (by unfold vp_in; decide) dX3_hangs_5 ?_
  refine lv_topi (fun v1 ev1 => ?_)
  obtain rfl : v1 = 0 := ev1.trans (hv)
  refine lv_iconst (v := 3) hx hb dX3_hangs_6 (by decide) ?_
  refine lv_icmp_ne (tgt := 14) hx hb dX3_hangs_7 (by decide) (fun c9 => ?_) (fun c9 => ?_)
  rotate_left
  · exact absurd c9 (by decide)
  refine lv_iconst (v := 0) hx hb dX3_hangs_14 (by decide) ?_
  have hP9 := hP.sub (ws' := [(a, .inr (8, [.int 4, .ref wa, .ref na])), (wa, .inl (cI, 4, .inl fw))]) [0, 1] rfl
  have hD9 := hD.sub (ws' := [(a, .inr (8, [.int 4, .ref wa, .ref na])), (wa, .inl (cI, 4, .inl fw))]) [0, 1] (by decide) rfl
  exact W.zret (v := 0) hx hb hr (by decide +kernel) (fun t ht hW => ⟨⟨_, (), rfl, rfl, ⟨by rw [ht]; exact hP9, va_K.moved hW.alike hK, hD9, by rw [ht]; exact hz⟩⟩, hS.F ht⟩) hS.2.2 dX3_hangs_15

set_option maxHeartbeats 4000000 in
set_option maxRecDepth 100000 in
theorem k_mh1_3 (l : Launch) (dC : Nat → ClassId) (dI : Nat → Nat → Nat) (cI cB cR cO : ClassId) (zk : Nat → Nat) (a wa na : Nat) (fw : Nat → Int32) (sz : Nat) (hv : fw 1 = 3) : Met l yX3_hangs wsX3_hangs ({ frames := 0, cells := 0, slots := 0, locals := 0 }) (va_Pc [.ref a, .int 1] (zPre (dC, dI) (zT cI cB cR cO) zk [] [(a, .inr (8, [.int 4, .ref wa, .ref na])), (wa, .inl (cI, 4, .inl fw))] sz)) (va_Qi (fun r (_ : Unit) => r = 1) (fun _ t => zEnd (dC, dI) (zT cI cB cR cO) (va_A [(a, .inr (8, [.int 4, .ref wa, .ref na])), (wa, .inl (cI, 4, .inl fw))] sz) [(a, .inr (8, [.int 4, .ref wa, .ref na])), (wa, .inl (cI, 4, .inl fw))] sz 0 t) (va_A [(a, .inr (8, [.int 4, .ref wa, .ref na])), (wa, .inl (cI, 4, .inl fw))] sz)) 0 0 (va_A [(a, .inr (8, [.int 4, .ref wa, .ref na])), (wa, .inl (cI, 4, .inl fw))] sz) := by
  refine Met.ofW (cc := cX3_hangs) (maxL := 2) (ret := (some .boolean)) (by decide) rfl ?_
  intro p e s mY args below meth c s₁ B hml hv
  obtain ⟨rfl, hsz, hP, hK, hD0, hZ⟩ := hv
  have hx := B.exec
  have hb := B.bytes
  have hr := B.returns
  have hts := atoms_spec (ws := wsX3_hangs) B.pre
  have hown : s.vm.findClass RX3 = some mY.cls := findClass_of_methodNamed B.named
  have hlocks := B.notSynchronized
  subst hsz
  have hD := hD0.self (sz := s.heap.size)
  generalize hAe : va_A [(a, .inr (8, [.int 4, .ref wa, .ref na])), (wa, .inl (cI, 4, .inl fw))] s.heap.size = A at hD hZ ⊢
  have hA : ∀ q : Nat, s.heap.size ≤ q → A q := fun q h => by rw [← hAe]; exact Or.inr h
  have hS : va_S A s.heap s.heap [] := va_S.rf
  have hz : s.heap.size + 0 ≤ s.heap.size := Nat.le_refl _
  have hl := lv_entry ([.ref a, .int 1]) (n := 2) (Nat.le_of_ble_eq_true rfl)
  rw [lg_entry_eq]
  generalize (lg_sl ([.ref a, .int 1]) ++ List.replicate (2 - (lg_sl ([.ref a, .int 1])).length) Slot.unset).toArray = ls at hl ⊢
  have hl : lv_has ls 2 [(0, .ref a), (1, .int 1)] := hl
  have hP : va_P (dC, dI) vwCl [(a, .inr (8, [.int 4, .ref wa, .ref na])), (wa, .inl (cI, 4, .inl fw))] s.heap := hP
  have hD : va_D A [(a, .inr (8, [.int 4, .ref wa, .ref na])), (wa, .inl (cI, 4, .inl fw))] := hD
  refine lv_aload_n hx hb dX3_hangs_0 rfl (lv_at hl 0 rfl) ?_
  refine va_get (D := (dC, dI)) (ci := 8) (v := .ref wa) (C := RX3) (T := TX3) (N := 3) hx hb hts hi_X3_hangs_X3 hown hK hP 0 rfl rfl 1 (by decide) (hts (.fieldLink RX3 15 "DeeprowsModel$Row" "whats" "[I") (List.mem_cons_of_mem _ zw_1177)) (fun _ h9 => h9) rfl dX3_hangs_1 ?_
  refine lv_iload_n hx hb dX3_hangs_4 rfl (lv_at hl 1 rfl) ?_
  refine va_iald (D := (dC, dI)) (cl := vwCl) hx hb hK hP 1 0 rfl rfl (by unfold vp_in; decide) dX3_hangs_5 ?_
  refine lv_topi (fun v1 ev1 => ?_)
  obtain rfl : v1 = 3 := ev1.trans (hv)
  refine lv_iconst (v := 3) hx hb dX3_hangs_6 (by decide) ?_
  refine lv_icmp_ne (tgt := 14) hx hb dX3_hangs_7 (by decide) (fun c9 => ?_) (fun c9 => ?_)
  · exact absurd (by decide) c9
  refine lv_iconst (v := 1) hx hb dX3_hangs_10 (by decide) ?_
  refine lv_goto (tgt := 15) hx hb dX3_hangs_11 (by decide) ?_
  have hP9 := hP.sub (ws' := [(a, .inr (8, [.int 4, .ref wa, .ref na])), (wa, .inl (cI, 4, .inl fw))]) [0, 1] rfl
  have hD9 := hD.sub (ws' := [(a, .inr (8, [.int 4, .ref wa, .ref na])), (wa, .inl (cI, 4, .inl fw))]) [0, 1] (by decide) rfl
  exact W.zret (v := 1) hx hb hr (by decide +kernel) (fun t ht hW => ⟨⟨_, (), rfl, rfl, ⟨by rw [ht]; exact hP9, va_K.moved hW.alike hK, hD9, by rw [ht]; exact hz⟩⟩, hS.F ht⟩) hS.2.2 dX3_hangs_15

set_option maxHeartbeats 4000000 in
set_option maxRecDepth 100000 in
theorem k_mh2_0 (l : Launch) (dC : Nat → ClassId) (dI : Nat → Nat → Nat) (cI cB cR cO : ClassId) (zk : Nat → Nat) (a wa na : Nat) (fw : Nat → Int32) (sz : Nat) (hv : fw 2 = 0) : Met l yX3_hangs wsX3_hangs ({ frames := 0, cells := 0, slots := 0, locals := 0 }) (va_Pc [.ref a, .int 2] (zPre (dC, dI) (zT cI cB cR cO) zk [] [(a, .inr (8, [.int 4, .ref wa, .ref na])), (wa, .inl (cI, 4, .inl fw))] sz)) (va_Qi (fun r (_ : Unit) => r = 0) (fun _ t => zEnd (dC, dI) (zT cI cB cR cO) (va_A [(a, .inr (8, [.int 4, .ref wa, .ref na])), (wa, .inl (cI, 4, .inl fw))] sz) [(a, .inr (8, [.int 4, .ref wa, .ref na])), (wa, .inl (cI, 4, .inl fw))] sz 0 t) (va_A [(a, .inr (8, [.int 4, .ref wa, .ref na])), (wa, .inl (cI, 4, .inl fw))] sz)) 0 0 (va_A [(a, .inr (8, [.int 4, .ref wa, .ref na])), (wa, .inl (cI, 4, .inl fw))] sz) := by
  refine Met.ofW (cc := cX3_hangs) (maxL := 2) (ret := (some .boolean)) (by decide) rfl ?_
  intro p e s mY args below meth c s₁ B hml hv
  obtain ⟨rfl, hsz, hP, hK, hD0, hZ⟩ := hv
  have hx := B.exec
  have hb := B.bytes
  have hr := B.returns
  have hts := atoms_spec (ws := wsX3_hangs) B.pre
  have hown : s.vm.findClass RX3 = some mY.cls := findClass_of_methodNamed B.named
  have hlocks := B.notSynchronized
  subst hsz
  have hD := hD0.self (sz := s.heap.size)
  generalize hAe : va_A [(a, .inr (8, [.int 4, .ref wa, .ref na])), (wa, .inl (cI, 4, .inl fw))] s.heap.size = A at hD hZ ⊢
  have hA : ∀ q : Nat, s.heap.size ≤ q → A q := fun q h => by rw [← hAe]; exact Or.inr h
  have hS : va_S A s.heap s.heap [] := va_S.rf
  have hz : s.heap.size + 0 ≤ s.heap.size := Nat.le_refl _
  have hl := lv_entry ([.ref a, .int 2]) (n := 2) (Nat.le_of_ble_eq_true rfl)
  rw [lg_entry_eq]
  generalize (lg_sl ([.ref a, .int 2]) ++ List.replicate (2 - (lg_sl ([.ref a, .int 2])).length) Slot.unset).toArray = ls at hl ⊢
  have hl : lv_has ls 2 [(0, .ref a), (1, .int 2)] := hl
  have hP : va_P (dC, dI) vwCl [(a, .inr (8, [.int 4, .ref wa, .ref na])), (wa, .inl (cI, 4, .inl fw))] s.heap := hP
  have hD : va_D A [(a, .inr (8, [.int 4, .ref wa, .ref na])), (wa, .inl (cI, 4, .inl fw))] := hD
  refine lv_aload_n hx hb dX3_hangs_0 rfl (lv_at hl 0 rfl) ?_
  refine va_get (D := (dC, dI)) (ci := 8) (v := .ref wa) (C := RX3) (T := TX3) (N := 3) hx hb hts hi_X3_hangs_X3 hown hK hP 0 rfl rfl 1 (by decide) (hts (.fieldLink RX3 15 "DeeprowsModel$Row" "whats" "[I") (List.mem_cons_of_mem _ zw_1177)) (fun _ h9 => h9) rfl dX3_hangs_1 ?_
  refine lv_iload_n hx hb dX3_hangs_4 rfl (lv_at hl 1 rfl) ?_
  refine va_iald (D := (dC, dI)) (cl := vwCl) hx hb hK hP 1 0 rfl rfl (by unfold vp_in; decide) dX3_hangs_5 ?_
  refine lv_topi (fun v1 ev1 => ?_)
  obtain rfl : v1 = 0 := ev1.trans (hv)
  refine lv_iconst (v := 3) hx hb dX3_hangs_6 (by decide) ?_
  refine lv_icmp_ne (tgt := 14) hx hb dX3_hangs_7 (by decide) (fun c9 => ?_) (fun c9 => ?_)
  rotate_left
  · exact absurd c9 (by decide)
  refine lv_iconst (v := 0) hx hb dX3_hangs_14 (by decide) ?_
  have hP9 := hP.sub (ws' := [(a, .inr (8, [.int 4, .ref wa, .ref na])), (wa, .inl (cI, 4, .inl fw))]) [0, 1] rfl
  have hD9 := hD.sub (ws' := [(a, .inr (8, [.int 4, .ref wa, .ref na])), (wa, .inl (cI, 4, .inl fw))]) [0, 1] (by decide) rfl
  exact W.zret (v := 0) hx hb hr (by decide +kernel) (fun t ht hW => ⟨⟨_, (), rfl, rfl, ⟨by rw [ht]; exact hP9, va_K.moved hW.alike hK, hD9, by rw [ht]; exact hz⟩⟩, hS.F ht⟩) hS.2.2 dX3_hangs_15

set_option maxHeartbeats 4000000 in
set_option maxRecDepth 100000 in
theorem k_mh2_3 (l : Launch) (dC : Nat → ClassId) (dI : Nat → Nat → Nat) (cI cB cR cO : ClassId) (zk : Nat → Nat) (a wa na : Nat) (fw : Nat → Int32) (sz : Nat) (hv : fw 2 = 3) : Met l yX3_hangs wsX3_hangs ({ frames := 0, cells := 0, slots := 0, locals := 0 }) (va_Pc [.ref a, .int 2] (zPre (dC, dI) (zT cI cB cR cO) zk [] [(a, .inr (8, [.int 4, .ref wa, .ref na])), (wa, .inl (cI, 4, .inl fw))] sz)) (va_Qi (fun r (_ : Unit) => r = 1) (fun _ t => zEnd (dC, dI) (zT cI cB cR cO) (va_A [(a, .inr (8, [.int 4, .ref wa, .ref na])), (wa, .inl (cI, 4, .inl fw))] sz) [(a, .inr (8, [.int 4, .ref wa, .ref na])), (wa, .inl (cI, 4, .inl fw))] sz 0 t) (va_A [(a, .inr (8, [.int 4, .ref wa, .ref na])), (wa, .inl (cI, 4, .inl fw))] sz)) 0 0 (va_A [(a, .inr (8, [.int 4, .ref wa, .ref na])), (wa, .inl (cI, 4, .inl fw))] sz) := by
  refine Met.ofW (cc := cX3_hangs) (maxL := 2) (ret := (some .boolean)) (by decide) rfl ?_
  intro p e s mY args below meth c s₁ B hml hv
  obtain ⟨rfl, hsz, hP, hK, hD0, hZ⟩ := hv
  have hx := B.exec
  have hb := B.bytes
  have hr := B.returns
  have hts := atoms_spec (ws := wsX3_hangs) B.pre
  have hown : s.vm.findClass RX3 = some mY.cls := findClass_of_methodNamed B.named
  have hlocks := B.notSynchronized
  subst hsz
  have hD := hD0.self (sz := s.heap.size)
  generalize hAe : va_A [(a, .inr (8, [.int 4, .ref wa, .ref na])), (wa, .inl (cI, 4, .inl fw))] s.heap.size = A at hD hZ ⊢
  have hA : ∀ q : Nat, s.heap.size ≤ q → A q := fun q h => by rw [← hAe]; exact Or.inr h
  have hS : va_S A s.heap s.heap [] := va_S.rf
  have hz : s.heap.size + 0 ≤ s.heap.size := Nat.le_refl _
  have hl := lv_entry ([.ref a, .int 2]) (n := 2) (Nat.le_of_ble_eq_true rfl)
  rw [lg_entry_eq]
  generalize (lg_sl ([.ref a, .int 2]) ++ List.replicate (2 - (lg_sl ([.ref a, .int 2])).length) Slot.unset).toArray = ls at hl ⊢
  have hl : lv_has ls 2 [(0, .ref a), (1, .int 2)] := hl
  have hP : va_P (dC, dI) vwCl [(a, .inr (8, [.int 4, .ref wa, .ref na])), (wa, .inl (cI, 4, .inl fw))] s.heap := hP
  have hD : va_D A [(a, .inr (8, [.int 4, .ref wa, .ref na])), (wa, .inl (cI, 4, .inl fw))] := hD
  refine lv_aload_n hx hb dX3_hangs_0 rfl (lv_at hl 0 rfl) ?_
  refine va_get (D := (dC, dI)) (ci := 8) (v := .ref wa) (C := RX3) (T := TX3) (N := 3) hx hb hts hi_X3_hangs_X3 hown hK hP 0 rfl rfl 1 (by decide) (hts (.fieldLink RX3 15 "DeeprowsModel$Row" "whats" "[I") (List.mem_cons_of_mem _ zw_1177)) (fun _ h9 => h9) rfl dX3_hangs_1 ?_
  refine lv_iload_n hx hb dX3_hangs_4 rfl (lv_at hl 1 rfl) ?_
  refine va_iald (D := (dC, dI)) (cl := vwCl) hx hb hK hP 1 0 rfl rfl (by unfold vp_in; decide) dX3_hangs_5 ?_
  refine lv_topi (fun v1 ev1 => ?_)
  obtain rfl : v1 = 3 := ev1.trans (hv)
  refine lv_iconst (v := 3) hx hb dX3_hangs_6 (by decide) ?_
  refine lv_icmp_ne (tgt := 14) hx hb dX3_hangs_7 (by decide) (fun c9 => ?_) (fun c9 => ?_)
  · exact absurd (by decide) c9
  refine lv_iconst (v := 1) hx hb dX3_hangs_10 (by decide) ?_
  refine lv_goto (tgt := 15) hx hb dX3_hangs_11 (by decide) ?_
  have hP9 := hP.sub (ws' := [(a, .inr (8, [.int 4, .ref wa, .ref na])), (wa, .inl (cI, 4, .inl fw))]) [0, 1] rfl
  have hD9 := hD.sub (ws' := [(a, .inr (8, [.int 4, .ref wa, .ref na])), (wa, .inl (cI, 4, .inl fw))]) [0, 1] (by decide) rfl
  exact W.zret (v := 1) hx hb hr (by decide +kernel) (fun t ht hW => ⟨⟨_, (), rfl, rfl, ⟨by rw [ht]; exact hP9, va_K.moved hW.alike hK, hD9, by rw [ht]; exact hz⟩⟩, hS.F ht⟩) hS.2.2 dX3_hangs_15

set_option maxHeartbeats 4000000 in
set_option maxRecDepth 100000 in
theorem k_mh3_0 (l : Launch) (dC : Nat → ClassId) (dI : Nat → Nat → Nat) (cI cB cR cO : ClassId) (zk : Nat → Nat) (a wa na : Nat) (fw : Nat → Int32) (sz : Nat) (hv : fw 3 = 0) : Met l yX3_hangs wsX3_hangs ({ frames := 0, cells := 0, slots := 0, locals := 0 }) (va_Pc [.ref a, .int 3] (zPre (dC, dI) (zT cI cB cR cO) zk [] [(a, .inr (8, [.int 4, .ref wa, .ref na])), (wa, .inl (cI, 4, .inl fw))] sz)) (va_Qi (fun r (_ : Unit) => r = 0) (fun _ t => zEnd (dC, dI) (zT cI cB cR cO) (va_A [(a, .inr (8, [.int 4, .ref wa, .ref na])), (wa, .inl (cI, 4, .inl fw))] sz) [(a, .inr (8, [.int 4, .ref wa, .ref na])), (wa, .inl (cI, 4, .inl fw))] sz 0 t) (va_A [(a, .inr (8, [.int 4, .ref wa, .ref na])), (wa, .inl (cI, 4, .inl fw))] sz)) 0 0 (va_A [(a, .inr (8, [.int 4, .ref wa, .ref na])), (wa, .inl (cI, 4, .inl fw))] sz) := by
  refine Met.ofW (cc := cX3_hangs) (maxL := 2) (ret := (some .boolean)) (by decide) rfl ?_
  intro p e s mY args below meth c s₁ B hml hv
  obtain ⟨rfl, hsz, hP, hK, hD0, hZ⟩ := hv
  have hx := B.exec
  have hb := B.bytes
  have hr := B.returns
  have hts := atoms_spec (ws := wsX3_hangs) B.pre
  have hown : s.vm.findClass RX3 = some mY.cls := findClass_of_methodNamed B.named
  have hlocks := B.notSynchronized
  subst hsz
  have hD := hD0.self (sz := s.heap.size)
  generalize hAe : va_A [(a, .inr (8, [.int 4, .ref wa, .ref na])), (wa, .inl (cI, 4, .inl fw))] s.heap.size = A at hD hZ ⊢
  have hA : ∀ q : Nat, s.heap.size ≤ q → A q := fun q h => by rw [← hAe]; exact Or.inr h
  have hS : va_S A s.heap s.heap [] := va_S.rf
  have hz : s.heap.size + 0 ≤ s.heap.size := Nat.le_refl _
  have hl := lv_entry ([.ref a, .int 3]) (n := 2) (Nat.le_of_ble_eq_true rfl)
  rw [lg_entry_eq]
  generalize (lg_sl ([.ref a, .int 3]) ++ List.replicate (2 - (lg_sl ([.ref a, .int 3])).length) Slot.unset).toArray = ls at hl ⊢
  have hl : lv_has ls 2 [(0, .ref a), (1, .int 3)] := hl
  have hP : va_P (dC, dI) vwCl [(a, .inr (8, [.int 4, .ref wa, .ref na])), (wa, .inl (cI, 4, .inl fw))] s.heap := hP
  have hD : va_D A [(a, .inr (8, [.int 4, .ref wa, .ref na])), (wa, .inl (cI, 4, .inl fw))] := hD
  refine lv_aload_n hx hb dX3_hangs_0 rfl (lv_at hl 0 rfl) ?_
  refine va_get (D := (dC, dI)) (ci := 8) (v := .ref wa) (C := RX3) (T := TX3) (N := 3) hx hb hts hi_X3_hangs_X3 hown hK hP 0 rfl rfl 1 (by decide) (hts (.fieldLink RX3 15 "DeeprowsModel$Row" "whats" "[I") (List.mem_cons_of_mem _ zw_1177)) (fun _ h9 => h9) rfl dX3_hangs_1 ?_
  refine lv_iload_n hx hb dX3_hangs_4 rfl (lv_at hl 1 rfl) ?_
  refine va_iald (D := (dC, dI)) (cl := vwCl) hx hb hK hP 1 0 rfl rfl (by unfold vp_in; decide) dX3_hangs_5 ?_
  refine lv_topi (fun v1 ev1 => ?_)
  obtain rfl : v1 = 0 := ev1.trans (hv)
  refine lv_iconst (v := 3) hx hb dX3_hangs_6 (by decide) ?_
  refine lv_icmp_ne (tgt := 14) hx hb dX3_hangs_7 (by decide) (fun c9 => ?_) (fun c9 => ?_)
  rotate_left
  · exact absurd c9 (by decide)
  refine lv_iconst (v := 0) hx hb dX3_hangs_14 (by decide) ?_
  have hP9 := hP.sub (ws' := [(a, .inr (8, [.int 4, .ref wa, .ref na])), (wa, .inl (cI, 4, .inl fw))]) [0, 1] rfl
  have hD9 := hD.sub (ws' := [(a, .inr (8, [.int 4, .ref wa, .ref na])), (wa, .inl (cI, 4, .inl fw))]) [0, 1] (by decide) rfl
  exact W.zret (v := 0) hx hb hr (by decide +kernel) (fun t ht hW => ⟨⟨_, (), rfl, rfl, ⟨by rw [ht]; exact hP9, va_K.moved hW.alike hK, hD9, by rw [ht]; exact hz⟩⟩, hS.F ht⟩) hS.2.2 dX3_hangs_15

set_option maxHeartbeats 4000000 in
set_option maxRecDepth 100000 in
theorem k_mh3_3 (l : Launch) (dC : Nat → ClassId) (dI : Nat → Nat → Nat) (cI cB cR cO : ClassId) (zk : Nat → Nat) (a wa na : Nat) (fw : Nat → Int32) (sz : Nat) (hv : fw 3 = 3) : Met l yX3_hangs wsX3_hangs ({ frames := 0, cells := 0, slots := 0, locals := 0 }) (va_Pc [.ref a, .int 3] (zPre (dC, dI) (zT cI cB cR cO) zk [] [(a, .inr (8, [.int 4, .ref wa, .ref na])), (wa, .inl (cI, 4, .inl fw))] sz)) (va_Qi (fun r (_ : Unit) => r = 1) (fun _ t => zEnd (dC, dI) (zT cI cB cR cO) (va_A [(a, .inr (8, [.int 4, .ref wa, .ref na])), (wa, .inl (cI, 4, .inl fw))] sz) [(a, .inr (8, [.int 4, .ref wa, .ref na])), (wa, .inl (cI, 4, .inl fw))] sz 0 t) (va_A [(a, .inr (8, [.int 4, .ref wa, .ref na])), (wa, .inl (cI, 4, .inl fw))] sz)) 0 0 (va_A [(a, .inr (8, [.int 4, .ref wa, .ref na])), (wa, .inl (cI, 4, .inl fw))] sz) := by
  refine Met.ofW (cc := cX3_hangs) (maxL := 2) (ret := (some .boolean)) (by decide) rfl ?_
  intro p e s mY args below meth c s₁ B hml hv
  obtain ⟨rfl, hsz, hP, hK, hD0, hZ⟩ := hv
  have hx := B.exec
  have hb := B.bytes
  have hr := B.returns
  have hts := atoms_spec (ws := wsX3_hangs) B.pre
  have hown : s.vm.findClass RX3 = some mY.cls := findClass_of_methodNamed B.named
  have hlocks := B.notSynchronized
  subst hsz
  have hD := hD0.self (sz := s.heap.size)
  generalize hAe : va_A [(a, .inr (8, [.int 4, .ref wa, .ref na])), (wa, .inl (cI, 4, .inl fw))] s.heap.size = A at hD hZ ⊢
  have hA : ∀ q : Nat, s.heap.size ≤ q → A q := fun q h => by rw [← hAe]; exact Or.inr h
  have hS : va_S A s.heap s.heap [] := va_S.rf
  have hz : s.heap.size + 0 ≤ s.heap.size := Nat.le_refl _
  have hl := lv_entry ([.ref a, .int 3]) (n := 2) (Nat.le_of_ble_eq_true rfl)
  rw [lg_entry_eq]
  generalize (lg_sl ([.ref a, .int 3]) ++ List.replicate (2 - (lg_sl ([.ref a, .int 3])).length) Slot.unset).toArray = ls at hl ⊢
  have hl : lv_has ls 2 [(0, .ref a), (1, .int 3)] := hl
  have hP : va_P (dC, dI) vwCl [(a, .inr (8, [.int 4, .ref wa, .ref na])), (wa, .inl (cI, 4, .inl fw))] s.heap := hP
  have hD : va_D A [(a, .inr (8, [.int 4, .ref wa, .ref na])), (wa, .inl (cI, 4, .inl fw))] := hD
  refine lv_aload_n hx hb dX3_hangs_0 rfl (lv_at hl 0 rfl) ?_
  refine va_get (D := (dC, dI)) (ci := 8) (v := .ref wa) (C := RX3) (T := TX3) (N := 3) hx hb hts hi_X3_hangs_X3 hown hK hP 0 rfl rfl 1 (by decide) (hts (.fieldLink RX3 15 "DeeprowsModel$Row" "whats" "[I") (List.mem_cons_of_mem _ zw_1177)) (fun _ h9 => h9) rfl dX3_hangs_1 ?_
  refine lv_iload_n hx hb dX3_hangs_4 rfl (lv_at hl 1 rfl) ?_
  refine va_iald (D := (dC, dI)) (cl := vwCl) hx hb hK hP 1 0 rfl rfl (by unfold vp_in; decide) dX3_hangs_5 ?_
  refine lv_topi (fun v1 ev1 => ?_)
  obtain rfl : v1 = 3 := ev1.trans (hv)
  refine lv_iconst (v := 3) hx hb dX3_hangs_6 (by decide) ?_
  refine lv_icmp_ne (tgt := 14) hx hb dX3_hangs_7 (by decide) (fun c9 => ?_) (fun c9 => ?_)
  · exact absurd (by decide) c9
  refine lv_iconst (v := 1) hx hb dX3_hangs_10 (by decide) ?_
  refine lv_goto (tgt := 15) hx hb dX3_hangs_11 (by decide) ?_
  have hP9 := hP.sub (ws' := [(a, .inr (8, [.int 4, .ref wa, .ref na])), (wa, .inl (cI, 4, .inl fw))]) [0, 1] rfl
  have hD9 := hD.sub (ws' := [(a, .inr (8, [.int 4, .ref wa, .ref na])), (wa, .inl (cI, 4, .inl fw))]) [0, 1] (by decide) rfl
  exact W.zret (v := 1) hx hb hr (by decide +kernel) (fun t ht hW => ⟨⟨_, (), rfl, rfl, ⟨by rw [ht]; exact hP9, va_K.moved hW.alike hK, hD9, by rw [ht]; exact hz⟩⟩, hS.F ht⟩) hS.2.2 dX3_hangs_15

theorem hi_X3_twin_X3 : ∀ w ∈ u_ws RX3 TX3 3, w ∈ wsX3_twin := fun w h => List.mem_cons_of_mem _ (zhi_X3 w h)
set_option maxHeartbeats 4000000 in
set_option maxRecDepth 100000 in
theorem k_mtw (l : Launch) (dC : Nat → ClassId) (dI : Nat → Nat → Nat) (cI cB cR cO : ClassId) (zk : Nat → Nat) (a wa na : Nat) (fw fn : Nat → Int32) (sz : Nat) (hw0 : ∀ i, i < 4 → fw i = 0) (hn0 : ∀ i, i < 4 → fn i = -1) : Met l yX3_twin wsX3_twin ({ frames := 2, cells := 3, slots := 11, locals := 83 }) (va_Pc [.ref a, .int 4] (zPre (dC, dI) (zT cI cB cR cO) zk [] [(a, .inr (8, [.int 4, .ref wa, .ref na])), (wa, .inl (cI, 4, .inl fw)), (na, .inl (cI, 4, .inl fn))] sz)) (va_Qr (fun _ : Unit => True) (fun _ ra t => ∃ wb, ∃ nb, ∃ (fwb : Nat → Int32), ∃ (fnb : Nat → Int32), zEnd (dC, dI) (zT cI cB cR cO) (va_A [(a, .inr (8, [.int 4, .ref wa, .ref na])), (wa, .inl (cI, 4, .inl fw)), (na, .inl (cI, 4, .inl fn))] sz) [(a, .inr (8, [.int 4, .ref wa, .ref na])), (wa, .inl (cI, 4, .inl fw)), (na, .inl (cI, 4, .inl fn)), (ra, .inr (8, [.int 4, .ref wb, .ref nb])), (wb, .inl (cI, 4, .inl fwb)), (nb, .inl (cI, 4, .inl fnb))] sz 3 t) (va_A [(a, .inr (8, [.int 4, .ref wa, .ref na])), (wa, .inl (cI, 4, .inl fw)), (na, .inl (cI, 4, .inl fn))] sz)) 3 11 (va_A [(a, .inr (8, [.int 4, .ref wa, .ref na])), (wa, .inl (cI, 4, .inl fw)), (na, .inl (cI, 4, .inl fn))] sz) := by
  refine Met.ofW (cc := cX3_twin) (maxL := 4) (ret := (some (.object "DeeprowsModel$Row"))) (by decide) rfl ?_
  intro p e s mY args below meth c s₁ B hml hv
  obtain ⟨rfl, hsz, hP, hK, hD0, hZ⟩ := hv
  have hx := B.exec
  have hb := B.bytes
  have hr := B.returns
  have hts := atoms_spec (ws := wsX3_twin) B.pre
  have hown : s.vm.findClass RX3 = some mY.cls := findClass_of_methodNamed B.named
  have hlocks := B.notSynchronized
  subst hsz
  have hD := hD0.self (sz := s.heap.size)
  generalize hAe : va_A [(a, .inr (8, [.int 4, .ref wa, .ref na])), (wa, .inl (cI, 4, .inl fw)), (na, .inl (cI, 4, .inl fn))] s.heap.size = A at hD hZ ⊢
  have hA : ∀ q : Nat, s.heap.size ≤ q → A q := fun q h => by rw [← hAe]; exact Or.inr h
  have hS : va_S A s.heap s.heap [] := va_S.rf
  have hz : s.heap.size + 0 ≤ s.heap.size := Nat.le_refl _
  have hl := lv_entry ([.ref a, .int 4]) (n := 4) (Nat.le_of_ble_eq_true rfl)
  rw [lg_entry_eq]
  generalize (lg_sl ([.ref a, .int 4]) ++ List.replicate (4 - (lg_sl ([.ref a, .int 4])).length) Slot.unset).toArray = ls at hl ⊢
  have hl : lv_has ls 4 [(0, .ref a), (1, .int 4)] := hl
  have hP : va_P (dC, dI) vwCl [(a, .inr (8, [.int 4, .ref wa, .ref na])), (wa, .inl (cI, 4, .inl fw)), (na, .inl (cI, 4, .inl fn))] s.heap := hP
  have hD : va_D A [(a, .inr (8, [.int 4, .ref wa, .ref na])), (wa, .inl (cI, 4, .inl fw)), (na, .inl (cI, 4, .inl fn))] := hD
  refine zw_new (ci := 8) (fs := [.int 0, .null, .null]) (C := RX3) (T := TX3) (N := 3) hx hb hts hi_X3_twin_X3 tyX3 tyX3_ok hown (hts (.classLink RX3 10 RX3) (List.mem_cons_of_mem _ zw_1253)) (hts (.instantiable RX3 3) (List.mem_cons_of_mem _ zw_1166)) (hts (.initialized RX3) (List.mem_cons_of_mem _ zw_61)) hK hP hD hS hA rfl (fun j hj => by rcases (show j = 0 ∨ j = 1 ∨ j = 2 by omega) with rfl | rfl | rfl <;> rfl) (Nat.le_of_ble_eq_true rfl) (Nat.le_of_ble_eq_true rfl) dX3_twin_0 hz (fun q1 H2 hP hD hS hz => ?_)
  replace hP : va_P (dC, dI) vwCl [(a, .inr (8, [.int 4, .ref wa, .ref na])), (wa, .inl (cI, 4, .inl fw)), (na, .inl (cI, 4, .inl fn)), (q1, .inr (8, [.int 0, .null, .null]))] H2 := hP
  replace hD : va_D A [(a, .inr (8, [.int 4, .ref wa, .ref na])), (wa, .inl (cI, 4, .inl fw)), (na, .inl (cI, 4, .inl fn)), (q1, .inr (8, [.int 0, .null, .null]))] := hD
  refine W.widen (k := 1) (n := 3) (by omega) (by omega) ?_
  refine lv_dup hx hb dX3_twin_3 rfl ?_
  refine lv_aload_n hx hb dX3_twin_4 rfl (lv_at hl 0 rfl) ?_
  refine va_get (D := (dC, dI)) (ci := 8) (v := .int 4) (C := RX3) (T := TX3) (N := 3) hx hb hts hi_X3_twin_X3 hown hK hP 0 rfl rfl 0 (by decide) (hts (.fieldLink RX3 9 "DeeprowsModel$Row" "kind" "I") (List.mem_cons_of_mem _ zw_1175)) (fun _ h9 => h9) rfl dX3_twin_5 ?_
  refine lv_iload_n hx hb dX3_twin_8 rfl (lv_at hl 1 rfl) ?_
  have hPc := hP.sub (ws' := [(q1, .inr (8, [.int 0, .null, .null]))]) [3] rfl
  have hDc := hD.sub (ws' := [(q1, .inr (8, [.int 0, .null, .null]))]) [3] (by decide) rfl
  have hFc := va_free (wc := [(q1, .inr (8, [.int 0, .null, .null]))]) hD hS hA [3] rfl
  have hDv := hDc.self (sz := H2.size)
  have hpre := zpre (xs' := []) (av := [.ref q1, .int 4, .int 4]) hPc hK (hDc.weaken (fun _ _ _ h => h)) hZ hS hFc (fun r hr => by cases hr)
  refine va_callv (va_runI (As := [.int 4, .int 4]) (rest := [.ref q1]) ⟨hx, hb, hml, hown, hts⟩ (k_mrin l dC dI cI cB cR cO zk q1 H2.size ) (cwI 2 hts gX3_twin_X3_init rfl rfl rfl (hts (.initialized RX3) (List.mem_cons_of_mem _ zw_61)) (hts (.methodLink RX3 36 yX3_init) (List.mem_cons_of_mem _ zw_1254)) (hts (.instanceMethod yX3_init) (List.mem_cons_of_mem _ zw_1168)) rfl (by decide +kernel) ⟨Nat.le_of_ble_eq_true rfl, Nat.le_of_ble_eq_true rfl⟩) ⟨zblind, hpre⟩ rfl rfl hl.1 rfl (lv_room (Nat.le_of_ble_eq_true rfl)) dX3_twin_9 ⟨Nat.le_of_ble_eq_true rfl, Nat.le_of_ble_eq_true rfl⟩) hS (fun q _ h => hFc q h) hFc (fun u t H3 locs ht hvm hw hB hz1 hk1 hS => ?_)
  obtain ⟨wa5, na6, fw7, fn8, ⟨hP1, hK1, hD1, hz2⟩, hwfw7, hnfn8⟩ := hB
  rw [ht] at hP1 hz2
  have hPD9 := va_join (wr := [(a, .inr (8, [.int 4, .ref wa, .ref na])), (wa, .inl (cI, 4, .inl fw)), (na, .inl (cI, 4, .inl fn))]) (w1 := [(q1, .inr (8, [.int 4, .ref wa5, .ref na6])), (wa5, .inl (cI, 4, .inl fw7)), (na6, .inl (cI, 4, .inl fn8))]) hP hD [3] [0, 1, 2] rfl rfl (by decide) (by decide) hk1 hFc hP1 hD1
  clear hPc hDc hFc hDv hpre hP hD hP1 hK1 hD1
  obtain ⟨hP, hD⟩ := hPD9
  replace hz : s.heap.size + 3 ≤ H3.size := by omega
  clear hz2
  replace hP : va_P (dC, dI) vwCl [(a, .inr (8, [.int 4, .ref wa, .ref na])), (wa, .inl (cI, 4, .inl fw)), (na, .inl (cI, 4, .inl fn)), (q1, .inr (8, [.int 4, .ref wa5, .ref na6])), (wa5, .inl (cI, 4, .inl fw7)), (na6, .inl (cI, 4, .inl fn8))] H3 := hP
  replace hD : va_D A [(a, .inr (8, [.int 4, .ref wa, .ref na])), (wa, .inl (cI, 4, .inl fw)), (na, .inl (cI, 4, .inl fn)), (q1, .inr (8, [.int 4, .ref wa5, .ref na6])), (wa5, .inl (cI, 4, .inl fw7)), (na6, .inl (cI, 4, .inl fn8))] := hD
  refine W.widen (k := 3) (n := 11) (by omega) (by omega) ?_
  refine lv_astore_n (lv' := [(2, .ref q1), (0, .ref a), (1, .int 4)]) hx hb dX3_twin_12 rfl hl (by decide) rfl (fun ls hl => ?_)
  refine lv_iconst (v := 0) hx hb dX3_twin_13 (by decide) ?_
  refine lv_istore_n (lv' := [(3, .int 0), (2, .ref q1), (0, .ref a), (1, .int 4)]) hx hb dX3_twin_14 rfl hl (by decide) rfl (fun ls hl => ?_)
  refine lv_iload_n hx hb dX3_twin_15 rfl (lv_at hl 0 rfl) ?_
  refine lv_iload_n hx hb dX3_twin_16 rfl (lv_at hl 3 rfl) ?_
  refine lv_icmp_ge (tgt := 51) hx hb dX3_twin_17 (by decide) (fun c9 => ?_) (fun c9 => ?_)
  · exact absurd c9 (by decide)
  refine lv_iload_n hx hb dX3_twin_20 rfl (lv_at hl 0 rfl) ?_
  refine lv_aload_n hx hb dX3_twin_21 rfl (lv_at hl 2 rfl) ?_
  have hPc := hP.sub (ws' := [(a, .inr (8, [.int 4, .ref wa, .ref na])), (wa, .inl (cI, 4, .inl fw))]) [0, 1] rfl
  have hDc := hD.sub (ws' := [(a, .inr (8, [.int 4, .ref wa, .ref na])), (wa, .inl (cI, 4, .inl fw))]) [0, 1] (by decide) rfl
  have hFc := va_free (wc := [(a, .inr (8, [.int 4, .ref wa, .ref na])), (wa, .inl (cI, 4, .inl fw))]) hD hS hA [0, 1] rfl
  have hDv := hDc.self (sz := H3.size)
  have hpre := zpre (xs' := []) (av := [.ref a]) hPc hK (hDc.weaken (fun _ _ _ h => h)) hZ hS hFc (fun r hr => by cases hr)
  refine va_calli (va_runV (As := []) (rest := [.int 0]) ⟨hx, hb, hml, hown, hts⟩ (k_rlen l dC dI cI cB cR cO zk a wa na fw H3.size ) (cwV 0 hts gX3_twin_X3_length rfl rfl rfl (by decide +kernel) ⟨Nat.le_of_ble_eq_true rfl, Nat.le_of_ble_eq_true rfl⟩) ⟨zblind, (zrecv_8 hK hPc (q0 := 0) rfl), hpre⟩ rfl rfl hl.1 rfl (lv_room (Nat.le_of_ble_eq_true rfl)) dX3_twin_22 ⟨Nat.le_of_ble_eq_true rfl, Nat.le_of_ble_eq_true rfl⟩) hS (fun q _ h => hFc q h) hFc (fun r10 u t H9 locs ht hvm hw hB hz1 hk1 hS => ?_)
  obtain rfl : 4 = r10 := (show r10 = 4 from hw).symm
  obtain ⟨hP1, hK1, hD1, hz2⟩ := hB
  rw [ht] at hP1 hz2
  have hPD9 := va_join (wr := [(na, .inl (cI, 4, .inl fn)), (q1, .inr (8, [.int 4, .ref wa5, .ref na6])), (wa5, .inl (cI, 4, .inl fw7)), (na6, .inl (cI, 4, .inl fn8))]) (w1 := [(a, .inr (8, [.int 4, .ref wa, .ref na])), (wa, .inl (cI, 4, .inl fw))]) hP hD [0, 1] [2, 3, 4, 5] rfl rfl (by decide) (by decide) hk1 hFc hP1 hD1
  clear hPc hDc hFc hDv hpre hP hD hP1 hK1 hD1
  obtain ⟨hP, hD⟩ := hPD9
  replace hz : s.heap.size + 3 ≤ H9.size := by omega
  clear hz2
  replace hP : va_P (dC, dI) vwCl [(na, .inl (cI, 4, .inl fn)), (q1, .inr (8, [.int 4, .ref wa5, .ref na6])), (wa5, .inl (cI, 4, .inl fw7)), (na6, .inl (cI, 4, .inl fn8)), (a, .inr (8, [.int 4, .ref wa, .ref na])), (wa, .inl (cI, 4, .inl fw))] H9 := hP
  replace hD : va_D A [(na, .inl (cI, 4, .inl fn)), (q1, .inr (8, [.int 4, .ref wa5, .ref na6])), (wa5, .inl (cI, 4, .inl fw7)), (na6, .inl (cI, 4, .inl fn8)), (a, .inr (8, [.int 4, .ref wa, .ref na])), (wa, .inl (cI, 4, .inl fw))] := hD
  refine W.widen (k := 3) (n := 11) (by omega) (by omega) ?_
  refine lv_icmp_ge (tgt := 51) hx hb dX3_twin_25 (by decide) (fun c9 => ?_) (fun c9 => ?_)
  · exact absurd c9 (by decide)
  refine lv_aload_n hx hb dX3_twin_28 rfl (lv_at hl 1 rfl) ?_
  refine lv_iload_n hx hb dX3_twin_29 rfl (lv_at hl 0 rfl) ?_
  refine lv_aload_n hx hb dX3_twin_30 rfl (lv_at hl 2 rfl) ?_
  refine va_get (D := (dC, dI)) (ci := 8) (v := .ref wa) (C := RX3) (T := TX3) (N := 3) hx hb hts hi_X3_twin_X3 hown hK hP 4 rfl rfl 1 (by decide) (hts (.fieldLink RX3 15 "DeeprowsModel$Row" "whats" "[I") (List.mem_cons_of_mem _ zw_1177)) (fun _ h9 => h9) rfl dX3_twin_31 ?_
  refine lv_iload_n hx hb dX3_twin_34 rfl (lv_at hl 0 rfl) ?_
  refine va_iald (D := (dC, dI)) (cl := vwCl) hx hb hK hP 5 0 rfl rfl (by unfold vp_in; decide) dX3_twin_35 ?_
  refine lv_topi (fun v11 ev11 => ?_)
  obtain rfl : v11 = 0 := ev11.trans (hw0 0 (by decide))
  refine lv_aload_n hx hb dX3_twin_36 rfl (lv_at hl 2 rfl) ?_
  refine va_get (D := (dC, dI)) (ci := 8) (v := .ref na) (C := RX3) (T := TX3) (N := 3) hx hb hts hi_X3_twin_X3 hown hK hP 4 rfl rfl 2 (by decide) (hts (.fieldLink RX3 19 "DeeprowsModel$Row" "numbers" "[I") (List.mem_cons_of_mem _ zw_1179)) (fun _ h9 => h9) rfl dX3_twin_37 ?_
  refine lv_iload_n hx hb dX3_twin_40 rfl (lv_at hl 0 rfl) ?_
  refine va_iald (D := (dC, dI)) (cl := vwCl) hx hb hK hP 0 0 rfl rfl (by unfold vp_in; decide) dX3_twin_41 ?_
  refine lv_topi (fun v12 ev12 => ?_)
  obtain rfl : v12 = (-1) := ev12.trans (hn0 0 (by decide))
  have hPc := hP.sub (ws' := [(q1, .inr (8, [.int 4, .ref wa5, .ref na6])), (wa5, .inl (cI, 4, .inl fw7)), (na6, .inl (cI, 4, .inl fn8))]) [1, 2, 3] rfl
  have hDc := hD.sub (ws' := [(q1, .inr (8, [.int 4, .ref wa5, .ref na6])), (wa5, .inl (cI, 4, .inl fw7)), (na6, .inl (cI, 4, .inl fn8))]) [1, 2, 3] (by decide) rfl
  have hFc := va_free (wc := [(q1, .inr (8, [.int 4, .ref wa5, .ref na6])), (wa5, .inl (cI, 4, .inl fw7)), (na6, .inl (cI, 4, .inl fn8))]) hD hS hA [1, 2, 3] rfl
  have hDv := hDc.self (sz := H9.size)
  have hpre := zpre (xs' := []) (av := [.ref q1, .int 0, .int 0, .int (-1)]) hPc hK (hDc.weaken (fun _ _ _ h => h)) hZ hS hFc (fun r hr => by cases hr)
  refine va_callv (va_runV (As := [.int 0, .int 0, .int (-1)]) (rest := []) ⟨hx, hb, hml, hown, hts⟩ (k_mp0 l dC dI cI cB cR cO zk q1 wa5 na6 fw7 fn8 0 (-1) H9.size ) (cwV 3 hts gX3_twin_X3_put rfl rfl rfl (by decide +kernel) ⟨Nat.le_of_ble_eq_true rfl, Nat.le_of_ble_eq_true rfl⟩) ⟨zblind, (zrecv_8 hK hPc (q0 := 0) rfl), hpre⟩ rfl rfl hl.1 rfl (lv_room (Nat.le_of_ble_eq_true rfl)) dX3_twin_42 ⟨Nat.le_of_ble_eq_true rfl, Nat.le_of_ble_eq_true rfl⟩) hS (fun q _ h => hFc q h) hFc (fun u t H13 locs ht hvm hw hB hz1 hk1 hS => ?_)
  obtain ⟨hP1, hK1, hD1, hz2⟩ := hB
  rw [ht] at hP1 hz2
  have hPD9 := va_join (wr := [(na, .inl (cI, 4, .inl fn)), (a, .inr (8, [.int 4, .ref wa, .ref na])), (wa, .inl (cI, 4, .inl fw))]) (w1 := [(q1, .inr (8, [.int 4, .ref wa5, .ref na6])), (wa5, .inl (cI, 4, .inl (upd fw7 0 0))), (na6, .inl (cI, 4, .inl (upd fn8 0 (-1))))]) hP hD [1, 2, 3] [0, 4, 5] rfl rfl (by decide) (by decide) hk1 hFc hP1 hD1
  clear hPc hDc hFc hDv hpre hP hD hP1 hK1 hD1
  obtain ⟨hP, hD⟩ := hPD9
  replace hz : s.heap.size + 3 ≤ H13.size := by omega
  clear hz2
  replace hP : va_P (dC, dI) vwCl [(na, .inl (cI, 4, .inl fn)), (a, .inr (8, [.int 4, .ref wa, .ref na])), (wa, .inl (cI, 4, .inl fw)), (q1, .inr (8, [.int 4, .ref wa5, .ref na6])), (wa5, .inl (cI, 4, .inl (upd fw7 0 0))), (na6, .inl (cI, 4, .inl (upd fn8 0 (-1))))] H13 := hP
  replace hD : va_D A [(na, .inl (cI, 4, .inl fn)), (a, .inr (8, [.int 4, .ref wa, .ref na])), (wa, .inl (cI, 4, .inl fw)), (q1, .inr (8, [.int 4, .ref wa5, .ref na6])), (wa5, .inl (cI, 4, .inl (upd fw7 0 0))), (na6, .inl (cI, 4, .inl (upd fn8 0 (-1))))] := hD
  refine W.widen (k := 3) (n := 11) (by omega) (by omega) ?_
  refine lv_iinc (v := 1) (lv' := [(3, .int 1), (2, .ref q1), (0, .ref a), (1, .int 4)]) hx hb dX3_twin_45 hl (k := 0) rfl (by decide) (by decide) rfl (fun ls hl => ?_)
  refine lv_goto (tgt := 15) hx hb dX3_twin_48 (by decide) ?_
  refine lv_iload_n hx hb dX3_twin_15 rfl (lv_at hl 0 rfl) ?_
  refine lv_iload_n hx hb dX3_twin_16 rfl (lv_at hl 3 rfl) ?_
  refine lv_icmp_ge (tgt := 51) hx hb dX3_twin_17 (by decide) (fun c9 => ?_) (fun c9 => ?_)
  · exact absurd c9 (by decide)
  refine lv_iload_n hx hb dX3_twin_20 rfl (lv_at hl 0 rfl) ?_
  refine lv_aload_n hx hb dX3_twin_21 rfl (lv_at hl 2 rfl) ?_
  have hPc := hP.sub (ws' := [(a, .inr (8, [.int 4, .ref wa, .ref na])), (wa, .inl (cI, 4, .inl fw))]) [1, 2] rfl
  have hDc := hD.sub (ws' := [(a, .inr (8, [.int 4, .ref wa, .ref na])), (wa, .inl (cI, 4, .inl fw))]) [1, 2] (by decide) rfl
  have hFc := va_free (wc := [(a, .inr (8, [.int 4, .ref wa, .ref na])), (wa, .inl (cI, 4, .inl fw))]) hD hS hA [1, 2] rfl
  have hDv := hDc.self (sz := H13.size)
  have hpre := zpre (xs' := []) (av := [.ref a]) hPc hK (hDc.weaken (fun _ _ _ h => h)) hZ hS hFc (fun r hr => by cases hr)
  refine va_calli (va_runV (As := []) (rest := [.int 1]) ⟨hx, hb, hml, hown, hts⟩ (k_rlen l dC dI cI cB cR cO zk a wa na fw H13.size ) (cwV 0 hts gX3_twin_X3_length rfl rfl rfl (by decide +kernel) ⟨Nat.le_of_ble_eq_true rfl, Nat.le_of_ble_eq_true rfl⟩) ⟨zblind, (zrecv_8 hK hPc (q0 := 0) rfl), hpre⟩ rfl rfl hl.1 rfl (lv_room (Nat.le_of_ble_eq_true rfl)) dX3_twin_22 ⟨Nat.le_of_ble_eq_true rfl, Nat.le_of_ble_eq_true rfl⟩) hS (fun q _ h => hFc q h) hFc (fun r16 u t H15 locs ht hvm hw hB hz1 hk1 hS => ?_)
  obtain rfl : 4 = r16 := (show r16 = 4 from hw).symm
  obtain ⟨hP1, hK1, hD1, hz2⟩ := hB
  rw [ht] at hP1 hz2
  have hPD9 := va_join (wr := [(na, .inl (cI, 4, .inl fn)), (q1, .inr (8, [.int 4, .ref wa5, .ref na6])), (wa5, .inl (cI, 4, .inl (upd fw7 0 0))), (na6, .inl (cI, 4, .inl (upd fn8 0 (-1))))]) (w1 := [(a, .inr (8, [.int 4, .ref wa, .ref na])), (wa, .inl (cI, 4, .inl fw))]) hP hD [1, 2] [0, 3, 4, 5] rfl rfl (by decide) (by decide) hk1 hFc hP1 hD1
  clear hPc hDc hFc hDv hpre hP hD hP1 hK1 hD1
  obtain ⟨hP, hD⟩ := hPD9
  replace hz : s.heap.size + 3 ≤ H15.size := by omega
  clear hz2
  replace hP : va_P (dC, dI) vwCl [(na, .inl (cI, 4, .inl fn)), (q1, .inr (8, [.int 4, .ref wa5, .ref na6])), (wa5, .inl (cI, 4, .inl (upd fw7 0 0))), (na6, .inl (cI, 4, .inl (upd fn8 0 (-1)))), (a, .inr (8, [.int 4, .ref wa, .ref na])), (wa, .inl (cI, 4, .inl fw))] H15 := hP
  replace hD : va_D A [(na, .inl (cI, 4, .inl fn)), (q1, .inr (8, [.int 4, .ref wa5, .ref na6])), (wa5, .inl (cI, 4, .inl (upd fw7 0 0))), (na6, .inl (cI, 4, .inl (upd fn8 0 (-1)))), (a, .inr (8, [.int 4, .ref wa, .ref na])), (wa, .inl (cI, 4, .inl fw))] := hD
  refine W.widen (k := 3) (n := 11) (by omega) (by omega) ?_
  refine lv_icmp_ge (tgt := 51) hx hb dX3_twin_25 (by decide) (fun c9 => ?_) (fun c9 => ?_)
  · exact absurd c9 (by decide)
  refine lv_aload_n hx hb dX3_twin_28 rfl (lv_at hl 1 rfl) ?_
  refine lv_iload_n hx hb dX3_twin_29 rfl (lv_at hl 0 rfl) ?_
  refine lv_aload_n hx hb dX3_twin_30 rfl (lv_at hl 2 rfl) ?_
  refine va_get (D := (dC, dI)) (ci := 8) (v := .ref wa) (C := RX3) (T := TX3) (N := 3) hx hb hts hi_X3_twin_X3 hown hK hP 4 rfl rfl 1 (by decide) (hts (.fieldLink RX3 15 "DeeprowsModel$Row" "whats" "[I") (List.mem_cons_of_mem _ zw_1177)) (fun _ h9 => h9) rfl dX3_twin_31 ?_
  refine lv_iload_n hx hb dX3_twin_34 rfl (lv_at hl 0 rfl) ?_
  refine va_iald (D := (dC, dI)) (cl := vwCl) hx hb hK hP 5 0 rfl rfl (by unfold vp_in; decide) dX3_twin_35 ?_
  refine lv_topi (fun v17 ev17 => ?_)
  obtain rfl : v17 = 0 := ev17.trans (hw0 1 (by decide))
  refine lv_aload_n hx hb dX3_twin_36 rfl (lv_at hl 2 rfl) ?_
  refine va_get (D := (dC, dI)) (ci := 8) (v := .ref na) (C := RX3) (T := TX3) (N := 3) hx hb hts hi_X3_twin_X3 hown hK hP 4 rfl rfl 2 (by decide) (hts (.fieldLink RX3 19 "DeeprowsModel$Row" "numbers" "[I") (List.mem_cons_of_mem _ zw_1179)) (fun _ h9 => h9) rfl dX3_twin_37 ?_
  refine lv_iload_n hx hb dX3_twin_40 rfl (lv_at hl 0 rfl) ?_
  refine va_iald (D := (dC, dI)) (cl := vwCl) hx hb hK hP 0 0 rfl rfl (by unfold vp_in; decide) dX3_twin_41 ?_
  refine lv_topi (fun v18 ev18 => ?_)
  obtain rfl : v18 = (-1) := ev18.trans (hn0 1 (by decide))
  have hPc := hP.sub (ws' := [(q1, .inr (8, [.int 4, .ref wa5, .ref na6])), (wa5, .inl (cI, 4, .inl (upd fw7 0 0))), (na6, .inl (cI, 4, .inl (upd fn8 0 (-1))))]) [1, 2, 3] rfl
  have hDc := hD.sub (ws' := [(q1, .inr (8, [.int 4, .ref wa5, .ref na6])), (wa5, .inl (cI, 4, .inl (upd fw7 0 0))), (na6, .inl (cI, 4, .inl (upd fn8 0 (-1))))]) [1, 2, 3] (by decide) rfl
  have hFc := va_free (wc := [(q1, .inr (8, [.int 4, .ref wa5, .ref na6])), (wa5, .inl (cI, 4, .inl (upd fw7 0 0))), (na6, .inl (cI, 4, .inl (upd fn8 0 (-1))))]) hD hS hA [1, 2, 3] rfl
  have hDv := hDc.self (sz := H15.size)
  have hpre := zpre (xs' := []) (av := [.ref q1, .int 1, .int 0, .int (-1)]) hPc hK (hDc.weaken (fun _ _ _ h => h)) hZ hS hFc (fun r hr => by cases hr)
  refine va_callv (va_runV (As := [.int 1, .int 0, .int (-1)]) (rest := []) ⟨hx, hb, hml, hown, hts⟩ (k_mp1 l dC dI cI cB cR cO zk q1 wa5 na6 (upd fw7 0 0) (upd fn8 0 (-1)) 0 (-1) H15.size ) (cwV 3 hts gX3_twin_X3_put rfl rfl rfl (by decide +kernel) ⟨Nat.le_of_ble_eq_true rfl, Nat.le_of_ble_eq_true rfl⟩) ⟨zblind, (zrecv_8 hK hPc (q0 := 0) rfl), hpre⟩ rfl rfl hl.1 rfl (lv_room (Nat.le_of_ble_eq_true rfl)) dX3_twin_42 ⟨Nat.le_of_ble_eq_true rfl, Nat.le_of_ble_eq_true rfl⟩) hS (fun q _ h => hFc q h) hFc (fun u t H19 locs ht hvm hw hB hz1 hk1 hS => ?_)
  obtain ⟨hP1, hK1, hD1, hz2⟩ := hB
  rw [ht] at hP1 hz2
  have hPD9 := va_join (wr := [(na, .inl (cI, 4, .inl fn)), (a, .inr (8, [.int 4, .ref wa, .ref na])), (wa, .inl (cI, 4, .inl fw))]) (w1 := [(q1, .inr (8, [.int 4, .ref wa5, .ref na6])), (wa5, .inl (cI, 4, .inl (upd (upd fw7 0 0) 1 0))), (na6, .inl (cI, 4, .inl (upd (upd fn8 0 (-1)) 1 (-1))))]) hP hD [1, 2, 3] [0, 4, 5] rfl rfl (by decide) (by decide) hk1 hFc hP1 hD1
  clear hPc hDc hFc hDv hpre hP hD hP1 hK1 hD1
  obtain ⟨hP, hD⟩ := hPD9
  replace hz : s.heap.size + 3 ≤ H19.size := by omega
  clear hz2
  replace hP : va_P (dC, dI) vwCl [(na, .inl (cI, 4, .inl fn)), (a, .inr (8, [.int 4, .ref wa, .ref na])), (wa, .inl (cI, 4, .inl fw)), (q1, .inr (8, [.int 4, .ref wa5, .ref na6])), (wa5, .inl (cI, 4, .inl (upd (upd fw7 0 0) 1 0))), (na6, .inl (cI, 4, .inl (upd (upd fn8 0 (-1)) 1 (-1))))] H19 := hP
  replace hD : va_D A [(na, .inl (cI, 4, .inl fn)), (a, .inr (8, [.int 4, .ref wa, .ref na])), (wa, .inl (cI, 4, .inl fw)), (q1, .inr (8, [.int 4, .ref wa5, .ref na6])), (wa5, .inl (cI, 4, .inl (upd (upd fw7 0 0) 1 0))), (na6, .inl (cI, 4, .inl (upd (upd fn8 0 (-1)) 1 (-1))))] := hD
  refine W.widen (k := 3) (n := 11) (by omega) (by omega) ?_
  refine lv_iinc (v := 2) (lv' := [(3, .int 2), (2, .ref q1), (0, .ref a), (1, .int 4)]) hx hb dX3_twin_45 hl (k := 0) rfl (by decide) (by decide) rfl (fun ls hl => ?_)
  refine lv_goto (tgt := 15) hx hb dX3_twin_48 (by decide) ?_
  refine lv_iload_n hx hb dX3_twin_15 rfl (lv_at hl 0 rfl) ?_
  refine lv_iload_n hx hb dX3_twin_16 rfl (lv_at hl 3 rfl) ?_
  refine lv_icmp_ge (tgt := 51) hx hb dX3_twin_17 (by decide) (fun c9 => ?_) (fun c9 => ?_)
  · exact absurd c9 (by decide)
  refine lv_iload_n hx hb dX3_twin_20 rfl (lv_at hl 0 rfl) ?_
  refine lv_aload_n hx hb dX3_twin_21 rfl (lv_at hl 2 rfl) ?_
  have hPc := hP.sub (ws' := [(a, .inr (8, [.int 4, .ref wa, .ref na])), (wa, .inl (cI, 4, .inl fw))]) [1, 2] rfl
  have hDc := hD.sub (ws' := [(a, .inr (8, [.int 4, .ref wa, .ref na])), (wa, .inl (cI, 4, .inl fw))]) [1, 2] (by decide) rfl
  have hFc := va_free (wc := [(a, .inr (8, [.int 4, .ref wa, .ref na])), (wa, .inl (cI, 4, .inl fw))]) hD hS hA [1, 2] rfl
  have hDv := hDc.self (sz := H19.size)
  have hpre := zpre (xs' := []) (av := [.ref a]) hPc hK (hDc.weaken (fun _ _ _ h => h)) hZ hS hFc (fun r hr => by cases hr)
  refine va_calli (va_runV (As := []) (rest := [.int 2]) ⟨hx, hb, hml, hown, hts⟩ (k_rlen l dC dI cI cB cR cO zk a wa na fw H19.size ) (cwV 0 hts gX3_twin_X3_length rfl rfl rfl (by decide +kernel) ⟨Nat.le_of_ble_eq_true rfl, Nat.le_of_ble_eq_true rfl⟩) ⟨zblind, (zrecv_8 hK hPc (q0 := 0) rfl), hpre⟩ rfl rfl hl.1 rfl (lv_room (Nat.le_of_ble_eq_true rfl)) dX3_twin_22 ⟨Nat.le_of_ble_eq_true rfl, Nat.le_of_ble_eq_true rfl⟩) hS (fun q _ h => hFc q h) hFc (fun r22 u t H21 locs ht hvm hw hB hz1 hk1 hS => ?_)
  obtain rfl : 4 = r22 := (show r22 = 4 from hw).symm
  obtain ⟨hP1, hK1, hD1, hz2⟩ := hB
  rw [ht] at hP1 hz2
  have hPD9 := va_join (wr := [(na, .inl (cI, 4, .inl fn)), (q1, .inr (8, [.int 4, .ref wa5, .ref na6])), (wa5, .inl (cI, 4, .inl (upd (upd fw7 0 0) 1 0))), (na6, .inl (cI, 4, .inl (upd (upd fn8 0 (-1)) 1 (-1))))]) (w1 := [(a, .inr (8, [.int 4, .ref wa, .ref na])), (wa, .inl (cI, 4, .inl fw))]) hP hD [1, 2] [0, 3, 4, 5] rfl rfl (by decide) (by decide) hk1 hFc hP1 hD1
  clear hPc hDc hFc hDv hpre hP hD hP1 hK1 hD1
  obtain ⟨hP, hD⟩ := hPD9
  replace hz : s.heap.size + 3 ≤ H21.size := by omega
  clear hz2
  replace hP : va_P (dC, dI) vwCl [(na, .inl (cI, 4, .inl fn)), (q1, .inr (8, [.int 4, .ref wa5, .ref na6])), (wa5, .inl (cI, 4, .inl (upd (upd fw7 0 0) 1 0))), (na6, .inl (cI, 4, .inl (upd (upd fn8 0 (-1)) 1 (-1)))), (a, .inr (8, [.int 4, .ref wa, .ref na])), (wa, .inl (cI, 4, .inl fw))] H21 := hP
  replace hD : va_D A [(na, .inl (cI, 4, .inl fn)), (q1, .inr (8, [.int 4, .ref wa5, .ref na6])), (wa5, .inl (cI, 4, .inl (upd (upd fw7 0 0) 1 0))), (na6, .inl (cI, 4, .inl (upd (upd fn8 0 (-1)) 1 (-1)))), (a, .inr (8, [.int 4, .ref wa, .ref na])), (wa, .inl (cI, 4, .inl fw))] := hD
  refine W.widen (k := 3) (n := 11) (by omega) (by omega) ?_
  refine lv_icmp_ge (tgt := 51) hx hb dX3_twin_25 (by decide) (fun c9 => ?_) (fun c9 => ?_)
  · exact absurd c9 (by decide)
  refine lv_aload_n hx hb dX3_twin_28 rfl (lv_at hl 1 rfl) ?_
  refine lv_iload_n hx hb dX3_twin_29 rfl (lv_at hl 0 rfl) ?_
  refine lv_aload_n hx hb dX3_twin_30 rfl (lv_at hl 2 rfl) ?_
  refine va_get (D := (dC, dI)) (ci := 8) (v := .ref wa) (C := RX3) (T := TX3) (N := 3) hx hb hts hi_X3_twin_X3 hown hK hP 4 rfl rfl 1 (by decide) (hts (.fieldLink RX3 15 "DeeprowsModel$Row" "whats" "[I") (List.mem_cons_of_mem _ zw_1177)) (fun _ h9 => h9) rfl dX3_twin_31 ?_
  refine lv_iload_n hx hb dX3_twin_34 rfl (lv_at hl 0 rfl) ?_
  refine va_iald (D := (dC, dI)) (cl := vwCl) hx hb hK hP 5 0 rfl rfl (by unfold vp_in; decide) dX3_twin_35 ?_
  refine lv_topi (fun v23 ev23 => ?_)
  obtain rfl : v23 = 0 := ev23.trans (hw0 2 (by decide))
  refine lv_aload_n hx hb dX3_twin_36 rfl (lv_at hl 2 rfl) ?_
  refine va_get (D := (dC, dI)) (ci := 8) (v := .ref na) (C := RX3) (T := TX3) (N := 3) hx hb hts hi_X3_twin_X3 hown hK hP 4 rfl rfl 2 (by decide) (hts (.fieldLink RX3 19 "DeeprowsModel$Row" "numbers" "[I") (List.mem_cons_of_mem _ zw_1179)) (fun _ h9 => h9) rfl dX3_twin_37 ?_
  refine lv_iload_n hx hb dX3_twin_40 rfl (lv_at hl 0 rfl) ?_
  refine va_iald (D := (dC, dI)) (cl := vwCl) hx hb hK hP 0 0 rfl rfl (by unfold vp_in; decide) dX3_twin_41 ?_
  refine lv_topi (fun v24 ev24 => ?_)
  obtain rfl : v24 = (-1) := ev24.trans (hn0 2 (by decide))
  have hPc := hP.sub (ws' := [(q1, .inr (8, [.int 4, .ref wa5, .ref na6])), (wa5, .inl (cI, 4, .inl (upd (upd fw7 0 0) 1 0))), (na6, .inl (cI, 4, .inl (upd (upd fn8 0 (-1)) 1 (-1))))]) [1, 2, 3] rfl
  have hDc := hD.sub (ws' := [(q1, .inr (8, [.int 4, .ref wa5, .ref na6])), (wa5, .inl (cI, 4, .inl (upd (upd fw7 0 0) 1 0))), (na6, .inl (cI, 4, .inl (upd (upd fn8 0 (-1)) 1 (-1))))]) [1, 2, 3] (by decide) rfl
  have hFc := va_free (wc := [(q1, .inr (8, [.int 4, .ref wa5, .ref na6])), (wa5, .inl (cI, 4, .inl (upd (upd fw7 0 0) 1 0))), (na6, .inl (cI, 4, .inl (upd (upd fn8 0 (-1)) 1 (-1))))]) hD hS hA [1, 2, 3] rfl
  have hDv := hDc.self (sz := H21.size)
  have hpre := zpre (xs' := []) (av := [.ref q1, .int 2, .int 0, .int (-1)]) hPc hK (hDc.weaken (fun _ _ _ h => h)) hZ hS hFc (fun r hr => by cases hr)
  refine va_callv (va_runV (As := [.int 2, .int 0, .int (-1)]) (rest := []) ⟨hx, hb, hml, hown, hts⟩ (k_mp2 l dC dI cI cB cR cO zk q1 wa5 na6 (upd (upd fw7 0 0) 1 0) (upd (upd fn8 0 (-1)) 1 (-1)) 0 (-1) H21.size ) (cwV 3 hts gX3_twin_X3_put rfl rfl rfl (by decide +kernel) ⟨Nat.le_of_ble_eq_true rfl, Nat.le_of_ble_eq_true rfl⟩) ⟨zblind, (zrecv_8 hK hPc (q0 := 0) rfl), hpre⟩ rfl rfl hl.1 rfl (lv_room (Nat.le_of_ble_eq_true rfl)) dX3_twin_42 ⟨Nat.le_of_ble_eq_true rfl, Nat.le_of_ble_eq_true rfl⟩) hS (fun q _ h => hFc q h) hFc (fun u t H25 locs ht hvm hw hB hz1 hk1 hS => ?_)
  obtain ⟨hP1, hK1, hD1, hz2⟩ := hB
  rw [ht] at hP1 hz2
  have hPD9 := va_join (wr := [(na, .inl (cI, 4, .inl fn)), (a, .inr (8, [.int 4, .ref wa, .ref na])), (wa, .inl (cI, 4, .inl fw))]) (w1 := [(q1, .inr (8, [.int 4, .ref wa5, .ref na6])), (wa5, .inl (cI, 4, .inl (upd (upd (upd fw7 0 0) 1 0) 2 0))), (na6, .inl (cI, 4, .inl (upd (upd (upd fn8 0 (-1)) 1 (-1)) 2 (-1))))]) hP hD [1, 2, 3] [0, 4, 5] rfl rfl (by decide) (by decide) hk1 hFc hP1 hD1
  clear hPc hDc hFc hDv hpre hP hD hP1 hK1 hD1
  obtain ⟨hP, hD⟩ := hPD9
  replace hz : s.heap.size + 3 ≤ H25.size := by omega
  clear hz2
  replace hP : va_P (dC, dI) vwCl [(na, .inl (cI, 4, .inl fn)), (a, .inr (8, [.int 4, .ref wa, .ref na])), (wa, .inl (cI, 4, .inl fw)), (q1, .inr (8, [.int 4, .ref wa5, .ref na6])), (wa5, .inl (cI, 4, .inl (upd (upd (upd fw7 0 0) 1 0) 2 0))), (na6, .inl (cI, 4, .inl (upd (upd (upd fn8 0 (-1)) 1 (-1)) 2 (-1))))] H25 := hP
  replace hD : va_D A [(na, .inl (cI, 4, .inl fn)), (a, .inr (8, [.int 4, .ref wa, .ref na])), (wa, .inl (cI, 4, .inl fw)), (q1, .inr (8, [.int 4, .ref wa5, .ref na6])), (wa5, .inl (cI, 4, .inl (upd (upd (upd fw7 0 0) 1 0) 2 0))), (na6, .inl (cI, 4, .inl (upd (upd (upd fn8 0 (-1)) 1 (-1)) 2 (-1))))] := hD
  refine W.widen (k := 3) (n := 11) (by omega) (by omega) ?_
  refine lv_iinc (v := 3) (lv' := [(3, .int 3), (2, .ref q1), (0, .ref a), (1, .int 4)]) hx hb dX3_twin_45 hl (k := 0) rfl (by decide) (by decide) rfl (fun ls hl => ?_)
  refine lv_goto (tgt := 15) hx hb dX3_twin_48 (by decide) ?_
  refine lv_iload_n hx hb dX3_twin_15 rfl (lv_at hl 0 rfl) ?_
  refine lv_iload_n hx hb dX3_twin_16 rfl (lv_at hl 3 rfl) ?_
  refine lv_icmp_ge (tgt := 51) hx hb dX3_twin_17 (by decide) (fun c9 => ?_) (fun c9 => ?_)
  · exact absurd c9 (by decide)
  refine lv_iload_n hx hb dX3_twin_20 rfl (lv_at hl 0 rfl) ?_
  refine lv_aload_n hx hb dX3_twin_21 rfl (lv_at hl 2 rfl) ?_
  have hPc := hP.sub (ws' := [(a, .inr (8, [.int 4, .ref wa, .ref na])), (wa, .inl (cI, 4, .inl fw))]) [1, 2] rfl
  have hDc := hD.sub (ws' := [(a, .inr (8, [.int 4, .ref wa, .ref na])), (wa, .inl (cI, 4, .inl fw))]) [1, 2] (by decide) rfl
  have hFc := va_free (wc := [(a, .inr (8, [.int 4, .ref wa, .ref na])), (wa, .inl (cI, 4, .inl fw))]) hD hS hA [1, 2] rfl
  have hDv := hDc.self (sz := H25.size)
  have hpre := zpre (xs' := []) (av := [.ref a]) hPc hK (hDc.weaken (fun _ _ _ h => h)) hZ hS hFc (fun r hr => by cases hr)
  refine va_calli (va_runV (As := []) (rest := [.int 3]) ⟨hx, hb, hml, hown, hts⟩ (k_rlen l dC dI cI cB cR cO zk a wa na fw H25.size ) (cwV 0 hts gX3_twin_X3_length rfl rfl rfl (by decide +kernel) ⟨Nat.le_of_ble_eq_true rfl, Nat.le_of_ble_eq_true rfl⟩) ⟨zblind, (zrecv_8 hK hPc (q0 := 0) rfl), hpre⟩ rfl rfl hl.1 rfl (lv_room (Nat.le_of_ble_eq_true rfl)) dX3_twin_22 ⟨Nat.le_of_ble_eq_true rfl, Nat.le_of_ble_eq_true rfl⟩) hS (fun q _ h => hFc q h) hFc (fun r28 u t H27 locs ht hvm hw hB hz1 hk1 hS => ?_)
  obtain rfl : 4 = r28 := (show r28 = 4 from hw).symm
  obtain ⟨hP1, hK1, hD1, hz2⟩ := hB
  rw [ht] at hP1 hz2
  have hPD9 := va_join (wr := [(na, .inl (cI, 4, .inl fn)), (q1, .inr (8, [.int 4, .ref wa5, .ref na6])), (wa5, .inl (cI, 4, .inl (upd (upd (upd fw7 0 0) 1 0) 2 0))), (na6, .inl (cI, 4, .inl (upd (upd (upd fn8 0 (-1)) 1 (-1)) 2 (-1))))]) (w1 := [(a, .inr (8, [.int 4, .ref wa, .ref na])), (wa, .inl (cI, 4, .inl fw))]) hP hD [1, 2] [0, 3, 4, 5] rfl rfl (by decide) (by decide) hk1 hFc hP1 hD1
  clear hPc hDc hFc hDv hpre hP hD hP1 hK1 hD1
  obtain ⟨hP, hD⟩ := hPD9
  replace hz : s.heap.size + 3 ≤ H27.size := by omega
  clear hz2
  replace hP : va_P (dC, dI) vwCl [(na, .inl (cI, 4, .inl fn)), (q1, .inr (8, [.int 4, .ref wa5, .ref na6])), (wa5, .inl (cI, 4, .inl (upd (upd (upd fw7 0 0) 1 0) 2 0))), (na6, .inl (cI, 4, .inl (upd (upd (upd fn8 0 (-1)) 1 (-1)) 2 (-1)))), (a, .inr (8, [.int 4, .ref wa, .ref na])), (wa, .inl (cI, 4, .inl fw))] H27 := hP
  replace hD : va_D A [(na, .inl (cI, 4, .inl fn)), (q1, .inr (8, [.int 4, .ref wa5, .ref na6])), (wa5, .inl (cI, 4, .inl (upd (upd (upd fw7 0 0) 1 0) 2 0))), (na6, .inl (cI, 4, .inl (upd (upd (upd fn8 0 (-1)) 1 (-1)) 2 (-1)))), (a, .inr (8, [.int 4, .ref wa, .ref na])), (wa, .inl (cI, 4, .inl fw))] := hD
  refine W.widen (k := 3) (n := 11) (by omega) (by omega) ?_
  refine lv_icmp_ge (tgt := 51) hx hb dX3_twin_25 (by decide) (fun c9 => ?_) (fun c9 => ?_)
  · exact absurd c9 (by decide)
  refine lv_aload_n hx hb dX3_twin_28 rfl (lv_at hl 1 rfl) ?_
  refine lv_iload_n hx hb dX3_twin_29 rfl (lv_at hl 0 rfl) ?_
  refine lv_aload_n hx hb dX3_twin_30 rfl (lv_at hl 2 rfl) ?_
  refine va_get (D := (dC, dI)) (ci := 8) (v := .ref wa) (C := RX3) (T := TX3) (N := 3) hx hb hts hi_X3_twin_X3 hown hK hP 4 rfl rfl 1 (by decide) (hts (.fieldLink RX3 15 "DeeprowsModel$Row" "whats" "[I") (List.mem_cons_of_mem _ zw_1177)) (fun _ h9 => h9) rfl dX3_twin_31 ?_
  refine lv_iload_n hx hb dX3_twin_34 rfl (lv_at hl 0 rfl) ?_
  refine va_iald (D := (dC, dI)) (cl := vwCl) hx hb hK hP 5 0 rfl rfl (by unfold vp_in; decide) dX3_twin_35 ?_
  refine lv_topi (fun v29 ev29 => ?_)
  obtain rfl : v29 = 0 := ev29.trans (hw0 3 (by decide))
  refine lv_aload_n hx hb dX3_twin_36 rfl (lv_at hl 2 rfl) ?_
  refine va_get (D := (dC, dI)) (ci := 8) (v := .ref na) (C := RX3) (T := TX3) (N := 3) hx hb hts hi_X3_twin_X3 hown hK hP 4 rfl rfl 2 (by decide) (hts (.fieldLink RX3 19 "DeeprowsModel$Row" "numbers" "[I") (List.mem_cons_of_mem _ zw_1179)) (fun _ h9 => h9) rfl dX3_twin_37 ?_
  refine lv_iload_n hx hb dX3_twin_40 rfl (lv_at hl 0 rfl) ?_
  refine va_iald (D := (dC, dI)) (cl := vwCl) hx hb hK hP 0 0 rfl rfl (by unfold vp_in; decide) dX3_twin_41 ?_
  refine lv_topi (fun v30 ev30 => ?_)
  obtain rfl : v30 = (-1) := ev30.trans (hn0 3 (by decide))
  have hPc := hP.sub (ws' := [(q1, .inr (8, [.int 4, .ref wa5, .ref na6])), (wa5, .inl (cI, 4, .inl (upd (upd (upd fw7 0 0) 1 0) 2 0))), (na6, .inl (cI, 4, .inl (upd (upd (upd fn8 0 (-1)) 1 (-1)) 2 (-1))))]) [1, 2, 3] rfl
  have hDc := hD.sub (ws' := [(q1, .inr (8, [.int 4, .ref wa5, .ref na6])), (wa5, .inl (cI, 4, .inl (upd (upd (upd fw7 0 0) 1 0) 2 0))), (na6, .inl (cI, 4, .inl (upd (upd (upd fn8 0 (-1)) 1 (-1)) 2 (-1))))]) [1, 2, 3] (by decide) rfl
  have hFc := va_free (wc := [(q1, .inr (8, [.int 4, .ref wa5, .ref na6])), (wa5, .inl (cI, 4, .inl (upd (upd (upd fw7 0 0) 1 0) 2 0))), (na6, .inl (cI, 4, .inl (upd (upd (upd fn8 0 (-1)) 1 (-1)) 2 (-1))))]) hD hS hA [1, 2, 3] rfl
  have hDv := hDc.self (sz := H27.size)
  have hpre := zpre (xs' := []) (av := [.ref q1, .int 3, .int 0, .int (-1)]) hPc hK (hDc.weaken (fun _ _ _ h => h)) hZ hS hFc (fun r hr => by cases hr)
  refine va_callv (va_runV (As := [.int 3, .int 0, .int (-1)]) (rest := []) ⟨hx, hb, hml, hown, hts⟩ (k_mp3 l dC dI cI cB cR cO zk q1 wa5 na6 (upd (upd (upd fw7 0 0) 1 0) 2 0) (upd (upd (upd fn8 0 (-1)) 1 (-1)) 2 (-1)) 0 (-1) H27.size ) (cwV 3 hts gX3_twin_X3_put rfl rfl rfl (by decide +kernel) ⟨Nat.le_of_ble_eq_true rfl, Nat.le_of_ble_eq_true rfl⟩) ⟨zblind, (zrecv_8 hK hPc (q0 := 0) rfl), hpre⟩ rfl rfl hl.1 rfl (lv_room (Nat.le_of_ble_eq_true rfl)) dX3_twin_42 ⟨Nat.le_of_ble_eq_true rfl, Nat.le_of_ble_eq_true rfl⟩) hS (fun q _ h => hFc q h) hFc (fun u t H31 locs ht hvm hw hB hz1 hk1 hS => ?_)
  obtain ⟨hP1, hK1, hD1, hz2⟩ := hB
  rw [ht] at hP1 hz2
  have hPD9 := va_join (wr := [(na, .inl (cI, 4, .inl fn)), (a, .inr (8, [.int 4, .ref wa, .ref na])), (wa, .inl (cI, 4, .inl fw))]) (w1 := [(q1, .inr (8, [.int 4, .ref wa5, .ref na6])), (wa5, .inl (cI, 4, .inl (upd (upd (upd (upd fw7 0 0) 1 0) 2 0) 3 0))), (na6, .inl (cI, 4, .inl (upd (upd (upd (upd fn8 0 (-1)) 1 (-1)) 2 (-1)) 3 (-1))))]) hP hD [1, 2, 3] [0, 4, 5] rfl rfl (by decide) (by decide) hk1 hFc hP1 hD1
  clear hPc hDc hFc hDv hpre hP hD hP1 hK1 hD1
  obtain ⟨hP, hD⟩ := hPD9
  replace hz : s.heap.size + 3 ≤ H31.size := by omega
  clear hz2
  replace hP : va_P (dC, dI) vwCl [(na, .inl (cI, 4, .inl fn)), (a, .inr (8, [.int 4, .ref wa, .ref na])), (wa, .inl (cI, 4, .inl fw)), (q1, .inr (8, [.int 4, .ref wa5, .ref na6])), (wa5, .inl (cI, 4, .inl (upd (upd (upd (upd fw7 0 0) 1 0) 2 0) 3 0))), (na6, .inl (cI, 4, .inl (upd (upd (upd (upd fn8 0 (-1)) 1 (-1)) 2 (-1)) 3 (-1))))] H31 := hP
  replace hD : va_D A [(na, .inl (cI, 4, .inl fn)), (a, .inr (8, [.int 4, .ref wa, .ref na])), (wa, .inl (cI, 4, .inl fw)), (q1, .inr (8, [.int 4, .ref wa5, .ref na6])), (wa5, .inl (cI, 4, .inl (upd (upd (upd (upd fw7 0 0) 1 0) 2 0) 3 0))), (na6, .inl (cI, 4, .inl (upd (upd (upd (upd fn8 0 (-1)) 1 (-1)) 2 (-1)) 3 (-1))))] := hD
  refine W.widen (k := 3) (n := 11) (by omega) (by omega) ?_
  refine lv_iinc (v := 4) (lv' := [(3, .int 4), (2, .ref q1), (0, .ref a), (1, .int 4)]) hx hb dX3_twin_45 hl (k := 0) rfl (by decide) (by decide) rfl (fun ls hl => ?_)
  refine lv_goto (tgt := 15) hx hb dX3_twin_48 (by decide) ?_
  refine lv_iload_n hx hb dX3_twin_15 rfl (lv_at hl 0 rfl) ?_
  refine lv_iload_n hx hb dX3_twin_16 rfl (lv_at hl 3 rfl) ?_
  refine lv_icmp_ge (tgt := 51) hx hb dX3_twin_17 (by decide) (fun c9 => ?_) (fun c9 => ?_)
  rotate_left
  · exact absurd (by decide) c9
  refine lv_aload_n hx hb dX3_twin_51 rfl (lv_at hl 1 rfl) ?_
  have hP9 := hP.sub (ws' := [(a, .inr (8, [.int 4, .ref wa, .ref na])), (wa, .inl (cI, 4, .inl fw)), (na, .inl (cI, 4, .inl fn)), (q1, .inr (8, [.int 4, .ref wa5, .ref na6])), (wa5, .inl (cI, 4, .inl (upd (upd (upd (upd fw7 0 0) 1 0) 2 0) 3 0))), (na6, .inl (cI, 4, .inl (upd (upd (upd (upd fn8 0 (-1)) 1 (-1)) 2 (-1)) 3 (-1))))]) [1, 2, 0, 3, 4, 5] rfl
  have hD9 := hD.sub (ws' := [(a, .inr (8, [.int 4, .ref wa, .ref na])), (wa, .inl (cI, 4, .inl fw)), (na, .inl (cI, 4, .inl fn)), (q1, .inr (8, [.int 4, .ref wa5, .ref na6])), (wa5, .inl (cI, 4, .inl (upd (upd (upd (upd fw7 0 0) 1 0) 2 0) 3 0))), (na6, .inl (cI, 4, .inl (upd (upd (upd (upd fn8 0 (-1)) 1 (-1)) 2 (-1)) 3 (-1))))]) [1, 2, 0, 3, 4, 5] (by decide) rfl
  exact W.aret hx hb hr (by first | exact Or.inl ⟨_, rfl⟩ | exact Or.inr ⟨_, rfl⟩) (Or.inr ⟨_, rfl⟩) (fun t ht hW => ⟨⟨(), _, rfl, trivial, ⟨_, _, _, _, ⟨by rw [ht]; exact hP9, va_K.moved hW.alike hK, hD9, by rw [ht]; exact hz⟩⟩⟩, hS.F ht⟩) hS.2.2 dX3_twin_52
