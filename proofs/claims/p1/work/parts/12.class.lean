set_option maxHeartbeats 4000000 in
set_option maxRecDepth 100000 in
theorem k_putX (l : Launch) (dC : Nat → ClassId) (dI : Nat → Nat → Nat) (cI cB cR cO : ClassId) (zk : Nat → Nat) (hfl : l.stackTraces = false) (xo al b1 : Nat) (x1 x2 x3 x4 x5 x7 : Value) (mc : Int32) (p0 p1 p2 : Int32) (sz : Nat)  : vx_Met l yX1_put wsX1_put ({ frames := 7, cells := 1, slots := 6, locals := 111 }) (va_Pc [.ref xo, .int p0, .int p1, .int p2] (zPre (dC, dI) (zT cI cB cR cO) zk [] [(xo, .inr (6, [.ref al, x1, x2, x3, x4, x5, .ref b1, x7])), (al, .inr (4, [.int mc, .ref (zk 0), .int 0]))] sz)) (va_Qi (fun (_ : Int32) (_ : Unit) => False) (fun _ _ => True) (va_A [(xo, .inr (6, [.ref al, x1, x2, x3, x4, x5, .ref b1, x7])), (al, .inr (4, [.int mc, .ref (zk 0), .int 0]))] sz)) (vx_X (fun _ : Unit => True) (fun E9 _ t => E9 = "java/lang/IndexOutOfBoundsException" ∧ zEnd (dC, dI) (zT cI cB cR cO) (va_A [(xo, .inr (6, [.ref al, x1, x2, x3, x4, x5, .ref b1, x7])), (al, .inr (4, [.int mc, .ref (zk 0), .int 0]))] sz) [(xo, .inr (6, [.ref al, x1, x2, x3, x4, x5, .ref b1, x7])), (al, .inr (4, [.int mc, .ref (zk 0), .int 0]))] sz 0 t) (va_A [(xo, .inr (6, [.ref al, x1, x2, x3, x4, x5, .ref b1, x7])), (al, .inr (4, [.int mc, .ref (zk 0), .int 0]))] sz)) 1 6 (va_A [(xo, .inr (6, [.ref al, x1, x2, x3, x4, x5, .ref b1, x7])), (al, .inr (4, [.int mc, .ref (zk 0), .int 0]))] sz) := by
  refine vx_ofW (cc := cX1_put) (maxL := 5) (ret := (some .int)) (by decide) rfl ?_
  intro p e s mY args below meth c s₁ B hml hntab hv
  obtain ⟨rfl, hsz, hP, hK, hD0, hZ⟩ := hv
  have hx := B.exec
  have hb := B.bytes
  have hr := B.returns
  have hts := atoms_spec (ws := wsX1_put) B.pre
  have hown : s.vm.findClass RX1 = some mY.cls := findClass_of_methodNamed B.named
  have hlocks := B.notSynchronized
  subst hsz
  have hD := hD0.self (sz := s.heap.size)
  generalize hAe : va_A [(xo, .inr (6, [.ref al, x1, x2, x3, x4, x5, .ref b1, x7])), (al, .inr (4, [.int mc, .ref (zk 0), .int 0]))] s.heap.size = A at hD hZ ⊢
  have hA : ∀ q : Nat, s.heap.size ≤ q → A q := fun q h => by rw [← hAe]; exact Or.inr h
  have hS : va_S A s.heap s.heap [] := va_S.rf
  have hz : s.heap.size + 0 ≤ s.heap.size := Nat.le_refl _
  have hl := lv_entry ([.ref xo, .int p0, .int p1, .int p2]) (n := 5) (Nat.le_of_ble_eq_true rfl)
  rw [lg_entry_eq]
  generalize (lg_sl ([.ref xo, .int p0, .int p1, .int p2]) ++ List.replicate (5 - (lg_sl ([.ref xo, .int p0, .int p1, .int p2])).length) Slot.unset).toArray = ls at hl ⊢
  have hl : lv_has ls 5 [(0, .ref xo), (1, .int p0), (2, .int p1), (3, .int p2)] := hl
  have hP : va_P (dC, dI) vwCl [(xo, .inr (6, [.ref al, x1, x2, x3, x4, x5, .ref b1, x7])), (al, .inr (4, [.int mc, .ref (zk 0), .int 0]))] s.heap := hP
  have hD : va_D A [(xo, .inr (6, [.ref al, x1, x2, x3, x4, x5, .ref b1, x7])), (al, .inr (4, [.int mc, .ref (zk 0), .int 0]))] := hD
  refine lv_aload_n hx hb dX1_put_0 rfl (lv_at hl 0 rfl) ?_
  refine lv_iload_n hx hb dX1_put_1 rfl (lv_at hl 1 rfl) ?_
  have hPc := hP.sub (ws' := [(xo, .inr (6, [.ref al, x1, x2, x3, x4, x5, .ref b1, x7])), (al, .inr (4, [.int mc, .ref (zk 0), .int 0]))]) [0, 1] rfl
  have hDc := hD.sub (ws' := [(xo, .inr (6, [.ref al, x1, x2, x3, x4, x5, .ref b1, x7])), (al, .inr (4, [.int mc, .ref (zk 0), .int 0]))]) [0, 1] (by decide) rfl
  have hFc := va_free (wc := [(xo, .inr (6, [.ref al, x1, x2, x3, x4, x5, .ref b1, x7])), (al, .inr (4, [.int mc, .ref (zk 0), .int 0]))]) hD hS hA [0, 1] rfl
  have hDv := hDc.self (sz := s.heap.size)
  have hpre := zpre (xs' := []) (av := [.ref xo, .int p0]) hPc hK (hDc.weaken (fun _ _ _ h => h)) hZ hS hFc (fun r hr => by cases hr)
  refine vx_callq (vx_runV (As := [.int p0]) (rest := []) ⟨hx, hb, hml, hown, hts⟩ (k_rowX l dC dI cI cB cR cO zk hfl xo al b1 x1 x2 x3 x4 x5 x7 mc p0 s.heap.size ) (cwV 1 hts gX1_put_X1_rowOf rfl rfl rfl (by decide +kernel) ⟨(Nat.le_of_ble_eq_true rfl), (Nat.le_of_ble_eq_true rfl)⟩) ⟨zblind, (zrecv_6 hK hPc (q0 := 0) rfl), hpre⟩ rfl rfl hl.1 rfl (lv_room (Nat.le_of_ble_eq_true rfl)) dX1_put_2 ⟨(Nat.le_of_ble_eq_true rfl), (Nat.le_of_ble_eq_true rfl)⟩) hS (fun q _ h => hFc q h) hFc (fun q _ h => hFc q h) (fun E9 ce q9 u t H1 locs ht hvm hu hB hz1 hk1 hS hcell hcv hcl => ?_) (fun _ _ _ _ _ _ _ hw9 _ _ _ _ => hw9.elim)
  obtain ⟨hE9, hP1, hK1, hD1, hz2⟩ := hB
  subst hE9
  rw [ht] at hP1 hz2
  have hPD9 := va_join (wr := []) (w1 := [(xo, .inr (6, [.ref al, x1, x2, x3, x4, x5, .ref b1, x7])), (al, .inr (4, [.int mc, .ref (zk 0), .int 0]))]) hP hD [0, 1] [] rfl rfl (by decide) (by decide) hk1 hFc hP1 hD1
  clear hPc hDc hFc hDv hpre hP hD hP1 hK1 hD1
  obtain ⟨hP, hD⟩ := hPD9
  replace hz : s.heap.size + 0 ≤ H1.size := by omega
  clear hz2
  replace hP : va_P (dC, dI) vwCl [(xo, .inr (6, [.ref al, x1, x2, x3, x4, x5, .ref b1, x7])), (al, .inr (4, [.int mc, .ref (zk 0), .int 0]))] H1 := hP
  replace hD : va_D A [(xo, .inr (6, [.ref al, x1, x2, x3, x4, x5, .ref b1, x7])), (al, .inr (4, [.int mc, .ref (zk 0), .int 0]))] := hD
  have hP9 := hP.sub (ws' := [(xo, .inr (6, [.ref al, x1, x2, x3, x4, x5, .ref b1, x7])), (al, .inr (4, [.int mc, .ref (zk 0), .int 0]))]) [0, 1] rfl
  have hD9 := hD.sub (ws' := [(xo, .inr (6, [.ref al, x1, x2, x3, x4, x5, .ref b1, x7])), (al, .inr (4, [.int mc, .ref (zk 0), .int 0]))]) [0, 1] (by decide) rfl
  exact vx_out (fun x hx9 => (hntab x hx9).elim) hlocks hcell hcv hcl (fun t ht hal => ⟨(), trivial, ⟨rfl, by rw [ht]; exact hP9, va_K.moved hal hK, hD9, by rw [ht]; exact hz⟩, hS.F ht⟩) hS.2.2 (Nat.le_of_ble_eq_true rfl) (Nat.le_of_ble_eq_true rfl)

set_option maxHeartbeats 4000000 in
set_option maxRecDepth 100000 in
theorem k_sayX (l : Launch) (dC : Nat → ClassId) (dI : Nat → Nat → Nat) (cI cB cR cO : ClassId) (zk : Nat → Nat) (hfl : l.stackTraces = false) (xo al b1 : Nat) (x1 x2 x3 x4 x5 x7 : Value) (mc : Int32) (p0 p1 p2 : Int32) (sz : Nat)  : vx_Met l yX1_say wsX1_say ({ frames := 7, cells := 1, slots := 6, locals := 111 }) (va_Pc [.ref xo, .int p0, .int p1, .int p2] (zPre (dC, dI) (zT cI cB cR cO) zk [] [(xo, .inr (6, [.ref al, x1, x2, x3, x4, x5, .ref b1, x7])), (al, .inr (4, [.int mc, .ref (zk 0), .int 0]))] sz)) (va_Qi (fun (_ : Int32) (_ : Unit) => False) (fun _ _ => True) (va_A [(xo, .inr (6, [.ref al, x1, x2, x3, x4, x5, .ref b1, x7])), (al, .inr (4, [.int mc, .ref (zk 0), .int 0]))] sz)) (vx_X (fun _ : Unit => True) (fun E9 _ t => E9 = "java/lang/IndexOutOfBoundsException" ∧ zEnd (dC, dI) (zT cI cB cR cO) (va_A [(xo, .inr (6, [.ref al, x1, x2, x3, x4, x5, .ref b1, x7])), (al, .inr (4, [.int mc, .ref (zk 0), .int 0]))] sz) [(xo, .inr (6, [.ref al, x1, x2, x3, x4, x5, .ref b1, x7])), (al, .inr (4, [.int mc, .ref (zk 0), .int 0]))] sz 0 t) (va_A [(xo, .inr (6, [.ref al, x1, x2, x3, x4, x5, .ref b1, x7])), (al, .inr (4, [.int mc, .ref (zk 0), .int 0]))] sz)) 1 6 (va_A [(xo, .inr (6, [.ref al, x1, x2, x3, x4, x5, .ref b1, x7])), (al, .inr (4, [.int mc, .ref (zk 0), .int 0]))] sz) := by
  refine vx_ofW (cc := cX1_say) (maxL := 5) (ret := (some .int)) (by decide) rfl ?_
  intro p e s mY args below meth c s₁ B hml hntab hv
  obtain ⟨rfl, hsz, hP, hK, hD0, hZ⟩ := hv
  have hx := B.exec
  have hb := B.bytes
  have hr := B.returns
  have hts := atoms_spec (ws := wsX1_say) B.pre
  have hown : s.vm.findClass RX1 = some mY.cls := findClass_of_methodNamed B.named
  have hlocks := B.notSynchronized
  subst hsz
  have hD := hD0.self (sz := s.heap.size)
  generalize hAe : va_A [(xo, .inr (6, [.ref al, x1, x2, x3, x4, x5, .ref b1, x7])), (al, .inr (4, [.int mc, .ref (zk 0), .int 0]))] s.heap.size = A at hD hZ ⊢
  have hA : ∀ q : Nat, s.heap.size ≤ q → A q := fun q h => by rw [← hAe]; exact Or.inr h
  have hS : va_S A s.heap s.heap [] := va_S.rf
  have hz : s.heap.size + 0 ≤ s.heap.size := Nat.le_refl _
  have hl := lv_entry ([.ref xo, .int p0, .int p1, .int p2]) (n := 5) (Nat.le_of_ble_eq_true rfl)
  rw [lg_entry_eq]
  generalize (lg_sl ([.ref xo, .int p0, .int p1, .int p2]) ++ List.replicate (5 - (lg_sl ([.ref xo, .int p0, .int p1, .int p2])).length) Slot.unset).toArray = ls at hl ⊢
  have hl : lv_has ls 5 [(0, .ref xo), (1, .int p0), (2, .int p1), (3, .int p2)] := hl
  have hP : va_P (dC, dI) vwCl [(xo, .inr (6, [.ref al, x1, x2, x3, x4, x5, .ref b1, x7])), (al, .inr (4, [.int mc, .ref (zk 0), .int 0]))] s.heap := hP
  have hD : va_D A [(xo, .inr (6, [.ref al, x1, x2, x3, x4, x5, .ref b1, x7])), (al, .inr (4, [.int mc, .ref (zk 0), .int 0]))] := hD
  refine lv_aload_n hx hb dX1_say_0 rfl (lv_at hl 0 rfl) ?_
  refine lv_iload_n hx hb dX1_say_1 rfl (lv_at hl 1 rfl) ?_
  have hPc := hP.sub (ws' := [(xo, .inr (6, [.ref al, x1, x2, x3, x4, x5, .ref b1, x7])), (al, .inr (4, [.int mc, .ref (zk 0), .int 0]))]) [0, 1] rfl
  have hDc := hD.sub (ws' := [(xo, .inr (6, [.ref al, x1, x2, x3, x4, x5, .ref b1, x7])), (al, .inr (4, [.int mc, .ref (zk 0), .int 0]))]) [0, 1] (by decide) rfl
  have hFc := va_free (wc := [(xo, .inr (6, [.ref al, x1, x2, x3, x4, x5, .ref b1, x7])), (al, .inr (4, [.int mc, .ref (zk 0), .int 0]))]) hD hS hA [0, 1] rfl
  have hDv := hDc.self (sz := s.heap.size)
  have hpre := zpre (xs' := []) (av := [.ref xo, .int p0]) hPc hK (hDc.weaken (fun _ _ _ h => h)) hZ hS hFc (fun r hr => by cases hr)
  refine vx_callq (vx_runV (As := [.int p0]) (rest := []) ⟨hx, hb, hml, hown, hts⟩ (k_rowX l dC dI cI cB cR cO zk hfl xo al b1 x1 x2 x3 x4 x5 x7 mc p0 s.heap.size ) (cwV 1 hts gX1_say_X1_rowOf rfl rfl rfl (by decide +kernel) ⟨(Nat.le_of_ble_eq_true rfl), (Nat.le_of_ble_eq_true rfl)⟩) ⟨zblind, (zrecv_6 hK hPc (q0 := 0) rfl), hpre⟩ rfl rfl hl.1 rfl (lv_room (Nat.le_of_ble_eq_true rfl)) dX1_say_2 ⟨(Nat.le_of_ble_eq_true rfl), (Nat.le_of_ble_eq_true rfl)⟩) hS (fun q _ h => hFc q h) hFc (fun q _ h => hFc q h) (fun E9 ce q9 u t H1 locs ht hvm hu hB hz1 hk1 hS hcell hcv hcl => ?_) (fun _ _ _ _ _ _ _ hw9 _ _ _ _ => hw9.elim)
  obtain ⟨hE9, hP1, hK1, hD1, hz2⟩ := hB
  subst hE9
  rw [ht] at hP1 hz2
  have hPD9 := va_join (wr := []) (w1 := [(xo, .inr (6, [.ref al, x1, x2, x3, x4, x5, .ref b1, x7])), (al, .inr (4, [.int mc, .ref (zk 0), .int 0]))]) hP hD [0, 1] [] rfl rfl (by decide) (by decide) hk1 hFc hP1 hD1
  clear hPc hDc hFc hDv hpre hP hD hP1 hK1 hD1
  obtain ⟨hP, hD⟩ := hPD9
  replace hz : s.heap.size + 0 ≤ H1.size := by omega
  clear hz2
  replace hP : va_P (dC, dI) vwCl [(xo, .inr (6, [.ref al, x1, x2, x3, x4, x5, .ref b1, x7])), (al, .inr (4, [.int mc, .ref (zk 0), .int 0]))] H1 := hP
  replace hD : va_D A [(xo, .inr (6, [.ref al, x1, x2, x3, x4, x5, .ref b1, x7])), (al, .inr (4, [.int mc, .ref (zk 0), .int 0]))] := hD
  have hP9 := hP.sub (ws' := [(xo, .inr (6, [.ref al, x1, x2, x3, x4, x5, .ref b1, x7])), (al, .inr (4, [.int mc, .ref (zk 0), .int 0]))]) [0, 1] rfl
  have hD9 := hD.sub (ws' := [(xo, .inr (6, [.ref al, x1, x2, x3, x4, x5, .ref b1, x7])), (al, .inr (4, [.int mc, .ref (zk 0), .int 0]))]) [0, 1] (by decide) rfl
  exact vx_out (fun x hx9 => (hntab x hx9).elim) hlocks hcell hcv hcl (fun t ht hal => ⟨(), trivial, ⟨rfl, by rw [ht]; exact hP9, va_K.moved hal hK, hD9, by rw [ht]; exact hz⟩, hS.F ht⟩) hS.2.2 (Nat.le_of_ble_eq_true rfl) (Nat.le_of_ble_eq_true rfl)

set_option maxHeartbeats 4000000 in
set_option maxRecDepth 100000 in
theorem k_noneX (l : Launch) (dC : Nat → ClassId) (dI : Nat → Nat → Nat) (cI cB cR cO : ClassId) (zk : Nat → Nat) (hfl : l.stackTraces = false) (xo al b1 : Nat) (x1 x2 x3 x4 x5 x7 : Value) (mc : Int32) (p0 p1 : Int32) (sz : Nat)  : vx_Met l yX1_none wsX1_none ({ frames := 7, cells := 1, slots := 6, locals := 111 }) (va_Pc [.ref xo, .int p0, .int p1] (zPre (dC, dI) (zT cI cB cR cO) zk [] [(xo, .inr (6, [.ref al, x1, x2, x3, x4, x5, .ref b1, x7])), (al, .inr (4, [.int mc, .ref (zk 0), .int 0]))] sz)) (va_Qi (fun (_ : Int32) (_ : Unit) => False) (fun _ _ => True) (va_A [(xo, .inr (6, [.ref al, x1, x2, x3, x4, x5, .ref b1, x7])), (al, .inr (4, [.int mc, .ref (zk 0), .int 0]))] sz)) (vx_X (fun _ : Unit => True) (fun E9 _ t => E9 = "java/lang/IndexOutOfBoundsException" ∧ zEnd (dC, dI) (zT cI cB cR cO) (va_A [(xo, .inr (6, [.ref al, x1, x2, x3, x4, x5, .ref b1, x7])), (al, .inr (4, [.int mc, .ref (zk 0), .int 0]))] sz) [(xo, .inr (6, [.ref al, x1, x2, x3, x4, x5, .ref b1, x7])), (al, .inr (4, [.int mc, .ref (zk 0), .int 0]))] sz 0 t) (va_A [(xo, .inr (6, [.ref al, x1, x2, x3, x4, x5, .ref b1, x7])), (al, .inr (4, [.int mc, .ref (zk 0), .int 0]))] sz)) 1 6 (va_A [(xo, .inr (6, [.ref al, x1, x2, x3, x4, x5, .ref b1, x7])), (al, .inr (4, [.int mc, .ref (zk 0), .int 0]))] sz) := by
  refine vx_ofW (cc := cX1_none) (maxL := 4) (ret := (some .int)) (by decide) rfl ?_
  intro p e s mY args below meth c s₁ B hml hntab hv
  obtain ⟨rfl, hsz, hP, hK, hD0, hZ⟩ := hv
  have hx := B.exec
  have hb := B.bytes
  have hr := B.returns
  have hts := atoms_spec (ws := wsX1_none) B.pre
  have hown : s.vm.findClass RX1 = some mY.cls := findClass_of_methodNamed B.named
  have hlocks := B.notSynchronized
  subst hsz
  have hD := hD0.self (sz := s.heap.size)
  generalize hAe : va_A [(xo, .inr (6, [.ref al, x1, x2, x3, x4, x5, .ref b1, x7])), (al, .inr (4, [.int mc, .ref (zk 0), .int 0]))] s.heap.size = A at hD hZ ⊢
  have hA : ∀ q : Nat, s.heap.size ≤ q → A q := fun q h => by rw [← hAe]; exact Or.inr h
  have hS : va_S A s.heap s.heap [] := va_S.rf
  have hz : s.heap.size + 0 ≤ s.heap.size := Nat.le_refl _
  have hl := lv_entry ([.ref xo, .int p0, .int p1]) (n := 4) (Nat.le_of_ble_eq_true rfl)
  rw [lg_entry_eq]
  generalize (lg_sl ([.ref xo, .int p0, .int p1]) ++ List.replicate (4 - (lg_sl ([.ref xo, .int p0, .int p1])).length) Slot.unset).toArray = ls at hl ⊢
  have hl : lv_has ls 4 [(0, .ref xo), (1, .int p0), (2, .int p1)] := hl
  have hP : va_P (dC, dI) vwCl [(xo, .inr (6, [.ref al, x1, x2, x3, x4, x5, .ref b1, x7])), (al, .inr (4, [.int mc, .ref (zk 0), .int 0]))] s.heap := hP
  have hD : va_D A [(xo, .inr (6, [.ref al, x1, x2, x3, x4, x5, .ref b1, x7])), (al, .inr (4, [.int mc, .ref (zk 0), .int 0]))] := hD
  refine lv_aload_n hx hb dX1_none_0 rfl (lv_at hl 0 rfl) ?_
  refine lv_iload_n hx hb dX1_none_1 rfl (lv_at hl 1 rfl) ?_
  have hPc := hP.sub (ws' := [(xo, .inr (6, [.ref al, x1, x2, x3, x4, x5, .ref b1, x7])), (al, .inr (4, [.int mc, .ref (zk 0), .int 0]))]) [0, 1] rfl
  have hDc := hD.sub (ws' := [(xo, .inr (6, [.ref al, x1, x2, x3, x4, x5, .ref b1, x7])), (al, .inr (4, [.int mc, .ref (zk 0), .int 0]))]) [0, 1] (by decide) rfl
  have hFc := va_free (wc := [(xo, .inr (6, [.ref al, x1, x2, x3, x4, x5, .ref b1, x7])), (al, .inr (4, [.int mc, .ref (zk 0), .int 0]))]) hD hS hA [0, 1] rfl
  have hDv := hDc.self (sz := s.heap.size)
  have hpre := zpre (xs' := []) (av := [.ref xo, .int p0]) hPc hK (hDc.weaken (fun _ _ _ h => h)) hZ hS hFc (fun r hr => by cases hr)
  refine vx_callq (vx_runV (As := [.int p0]) (rest := []) ⟨hx, hb, hml, hown, hts⟩ (k_rowX l dC dI cI cB cR cO zk hfl xo al b1 x1 x2 x3 x4 x5 x7 mc p0 s.heap.size ) (cwV 1 hts gX1_none_X1_rowOf rfl rfl rfl (by decide +kernel) ⟨(Nat.le_of_ble_eq_true rfl), (Nat.le_of_ble_eq_true rfl)⟩) ⟨zblind, (zrecv_6 hK hPc (q0 := 0) rfl), hpre⟩ rfl rfl hl.1 rfl (lv_room (Nat.le_of_ble_eq_true rfl)) dX1_none_2 ⟨(Nat.le_of_ble_eq_true rfl), (Nat.le_of_ble_eq_true rfl)⟩) hS (fun q _ h => hFc q h) hFc (fun q _ h => hFc q h) (fun E9 ce q9 u t H1 locs ht hvm hu hB hz1 hk1 hS hcell hcv hcl => ?_) (fun _ _ _ _ _ _ _ hw9 _ _ _ _ => hw9.elim)
  obtain ⟨hE9, hP1, hK1, hD1, hz2⟩ := hB
  subst hE9
  rw [ht] at hP1 hz2
  have hPD9 := va_join (wr := []) (w1 := [(xo, .inr (6, [.ref al, x1, x2, x3, x4, x5, .ref b1, x7])), (al, .inr (4, [.int mc, .ref (zk 0), .int 0]))]) hP hD [0, 1] [] rfl rfl (by decide) (by decide) hk1 hFc hP1 hD1
  clear hPc hDc hFc hDv hpre hP hD hP1 hK1 hD1
  obtain ⟨hP, hD⟩ := hPD9
  replace hz : s.heap.size + 0 ≤ H1.size := by omega
  clear hz2
  replace hP : va_P (dC, dI) vwCl [(xo, .inr (6, [.ref al, x1, x2, x3, x4, x5, .ref b1, x7])), (al, .inr (4, [.int mc, .ref (zk 0), .int 0]))] H1 := hP
  replace hD : va_D A [(xo, .inr (6, [.ref al, x1, x2, x3, x4, x5, .ref b1, x7])), (al, .inr (4, [.int mc, .ref (zk 0), .int 0]))] := hD
  have hP9 := hP.sub (ws' := [(xo, .inr (6, [.ref al, x1, x2, x3, x4, x5, .ref b1, x7])), (al, .inr (4, [.int mc, .ref (zk 0), .int 0]))]) [0, 1] rfl
  have hD9 := hD.sub (ws' := [(xo, .inr (6, [.ref al, x1, x2, x3, x4, x5, .ref b1, x7])), (al, .inr (4, [.int mc, .ref (zk 0), .int 0]))]) [0, 1] (by decide) rfl
  exact vx_out (fun x hx9 => (hntab x hx9).elim) hlocks hcell hcv hcl (fun t ht hal => ⟨(), trivial, ⟨rfl, by rw [ht]; exact hP9, va_K.moved hal hK, hD9, by rw [ht]; exact hz⟩, hS.F ht⟩) hS.2.2 (Nat.le_of_ble_eq_true rfl) (Nat.le_of_ble_eq_true rfl)

set_option maxHeartbeats 4000000 in
set_option maxRecDepth 100000 in
theorem k_hangX (l : Launch) (dC : Nat → ClassId) (dI : Nat → Nat → Nat) (cI cB cR cO : ClassId) (zk : Nat → Nat) (hfl : l.stackTraces = false) (xo al b1 : Nat) (x1 x2 x3 x4 x5 x7 : Value) (mc : Int32) (p0 p1 p2 : Int32) (sz : Nat)  : vx_Met l yX1_hang wsX1_hang ({ frames := 7, cells := 1, slots := 6, locals := 111 }) (va_Pc [.ref xo, .int p0, .int p1, .int p2] (zPre (dC, dI) (zT cI cB cR cO) zk [] [(xo, .inr (6, [.ref al, x1, x2, x3, x4, x5, .ref b1, x7])), (al, .inr (4, [.int mc, .ref (zk 0), .int 0]))] sz)) (va_Qi (fun (_ : Int32) (_ : Unit) => False) (fun _ _ => True) (va_A [(xo, .inr (6, [.ref al, x1, x2, x3, x4, x5, .ref b1, x7])), (al, .inr (4, [.int mc, .ref (zk 0), .int 0]))] sz)) (vx_X (fun _ : Unit => True) (fun E9 _ t => E9 = "java/lang/IndexOutOfBoundsException" ∧ zEnd (dC, dI) (zT cI cB cR cO) (va_A [(xo, .inr (6, [.ref al, x1, x2, x3, x4, x5, .ref b1, x7])), (al, .inr (4, [.int mc, .ref (zk 0), .int 0]))] sz) [(xo, .inr (6, [.ref al, x1, x2, x3, x4, x5, .ref b1, x7])), (al, .inr (4, [.int mc, .ref (zk 0), .int 0]))] sz 0 t) (va_A [(xo, .inr (6, [.ref al, x1, x2, x3, x4, x5, .ref b1, x7])), (al, .inr (4, [.int mc, .ref (zk 0), .int 0]))] sz)) 1 6 (va_A [(xo, .inr (6, [.ref al, x1, x2, x3, x4, x5, .ref b1, x7])), (al, .inr (4, [.int mc, .ref (zk 0), .int 0]))] sz) := by
  refine vx_ofW (cc := cX1_hang) (maxL := 7) (ret := (some .int)) (by decide) rfl ?_
  intro p e s mY args below meth c s₁ B hml hntab hv
  obtain ⟨rfl, hsz, hP, hK, hD0, hZ⟩ := hv
  have hx := B.exec
  have hb := B.bytes
  have hr := B.returns
  have hts := atoms_spec (ws := wsX1_hang) B.pre
  have hown : s.vm.findClass RX1 = some mY.cls := findClass_of_methodNamed B.named
  have hlocks := B.notSynchronized
  subst hsz
  have hD := hD0.self (sz := s.heap.size)
  generalize hAe : va_A [(xo, .inr (6, [.ref al, x1, x2, x3, x4, x5, .ref b1, x7])), (al, .inr (4, [.int mc, .ref (zk 0), .int 0]))] s.heap.size = A at hD hZ ⊢
  have hA : ∀ q : Nat, s.heap.size ≤ q → A q := fun q h => by rw [← hAe]; exact Or.inr h
  have hS : va_S A s.heap s.heap [] := va_S.rf
  have hz : s.heap.size + 0 ≤ s.heap.size := Nat.le_refl _
  have hl := lv_entry ([.ref xo, .int p0, .int p1, .int p2]) (n := 7) (Nat.le_of_ble_eq_true rfl)
  rw [lg_entry_eq]
  generalize (lg_sl ([.ref xo, .int p0, .int p1, .int p2]) ++ List.replicate (7 - (lg_sl ([.ref xo, .int p0, .int p1, .int p2])).length) Slot.unset).toArray = ls at hl ⊢
  have hl : lv_has ls 7 [(0, .ref xo), (1, .int p0), (2, .int p1), (3, .int p2)] := hl
  have hP : va_P (dC, dI) vwCl [(xo, .inr (6, [.ref al, x1, x2, x3, x4, x5, .ref b1, x7])), (al, .inr (4, [.int mc, .ref (zk 0), .int 0]))] s.heap := hP
  have hD : va_D A [(xo, .inr (6, [.ref al, x1, x2, x3, x4, x5, .ref b1, x7])), (al, .inr (4, [.int mc, .ref (zk 0), .int 0]))] := hD
  refine lv_aload_n hx hb dX1_hang_0 rfl (lv_at hl 0 rfl) ?_
  refine lv_iload_n hx hb dX1_hang_1 rfl (lv_at hl 1 rfl) ?_
  have hPc := hP.sub (ws' := [(xo, .inr (6, [.ref al, x1, x2, x3, x4, x5, .ref b1, x7])), (al, .inr (4, [.int mc, .ref (zk 0), .int 0]))]) [0, 1] rfl
  have hDc := hD.sub (ws' := [(xo, .inr (6, [.ref al, x1, x2, x3, x4, x5, .ref b1, x7])), (al, .inr (4, [.int mc, .ref (zk 0), .int 0]))]) [0, 1] (by decide) rfl
  have hFc := va_free (wc := [(xo, .inr (6, [.ref al, x1, x2, x3, x4, x5, .ref b1, x7])), (al, .inr (4, [.int mc, .ref (zk 0), .int 0]))]) hD hS hA [0, 1] rfl
  have hDv := hDc.self (sz := s.heap.size)
  have hpre := zpre (xs' := []) (av := [.ref xo, .int p0]) hPc hK (hDc.weaken (fun _ _ _ h => h)) hZ hS hFc (fun r hr => by cases hr)
  refine vx_callq (vx_runV (As := [.int p0]) (rest := []) ⟨hx, hb, hml, hown, hts⟩ (k_rowX l dC dI cI cB cR cO zk hfl xo al b1 x1 x2 x3 x4 x5 x7 mc p0 s.heap.size ) (cwV 1 hts gX1_hang_X1_rowOf rfl rfl rfl (by decide +kernel) ⟨(Nat.le_of_ble_eq_true rfl), (Nat.le_of_ble_eq_true rfl)⟩) ⟨zblind, (zrecv_6 hK hPc (q0 := 0) rfl), hpre⟩ rfl rfl hl.1 rfl (lv_room (Nat.le_of_ble_eq_true rfl)) dX1_hang_2 ⟨(Nat.le_of_ble_eq_true rfl), (Nat.le_of_ble_eq_true rfl)⟩) hS (fun q _ h => hFc q h) hFc (fun q _ h => hFc q h) (fun E9 ce q9 u t H1 locs ht hvm hu hB hz1 hk1 hS hcell hcv hcl => ?_) (fun _ _ _ _ _ _ _ hw9 _ _ _ _ => hw9.elim)
  obtain ⟨hE9, hP1, hK1, hD1, hz2⟩ := hB
  subst hE9
  rw [ht] at hP1 hz2
  have hPD9 := va_join (wr := []) (w1 := [(xo, .inr (6, [.ref al, x1, x2, x3, x4, x5, .ref b1, x7])), (al, .inr (4, [.int mc, .ref (zk 0), .int 0]))]) hP hD [0, 1] [] rfl rfl (by decide) (by decide) hk1 hFc hP1 hD1
  clear hPc hDc hFc hDv hpre hP hD hP1 hK1 hD1
  obtain ⟨hP, hD⟩ := hPD9
  replace hz : s.heap.size + 0 ≤ H1.size := by omega
  clear hz2
  replace hP : va_P (dC, dI) vwCl [(xo, .inr (6, [.ref al, x1, x2, x3, x4, x5, .ref b1, x7])), (al, .inr (4, [.int mc, .ref (zk 0), .int 0]))] H1 := hP
  replace hD : va_D A [(xo, .inr (6, [.ref al, x1, x2, x3, x4, x5, .ref b1, x7])), (al, .inr (4, [.int mc, .ref (zk 0), .int 0]))] := hD
  have hP9 := hP.sub (ws' := [(xo, .inr (6, [.ref al, x1, x2, x3, x4, x5, .ref b1, x7])), (al, .inr (4, [.int mc, .ref (zk 0), .int 0]))]) [0, 1] rfl
  have hD9 := hD.sub (ws' := [(xo, .inr (6, [.ref al, x1, x2, x3, x4, x5, .ref b1, x7])), (al, .inr (4, [.int mc, .ref (zk 0), .int 0]))]) [0, 1] (by decide) rfl
  exact vx_out (fun x hx9 => (hntab x hx9).elim) hlocks hcell hcv hcl (fun t ht hal => ⟨(), trivial, ⟨rfl, by rw [ht]; exact hP9, va_K.moved hal hK, hD9, by rw [ht]; exact hz⟩, hS.F ht⟩) hS.2.2 (Nat.le_of_ble_eq_true rfl) (Nat.le_of_ble_eq_true rfl)

set_option maxHeartbeats 4000000 in
set_option maxRecDepth 100000 in
theorem k_swapX (l : Launch) (dC : Nat → ClassId) (dI : Nat → Nat → Nat) (cI cB cR cO : ClassId) (zk : Nat → Nat) (hfl : l.stackTraces = false) (xo al b1 : Nat) (x1 x2 x3 x4 x5 x7 : Value) (mc : Int32) (p0 p1 p2 : Int32) (sz : Nat)  : vx_Met l yX1_swap wsX1_swap ({ frames := 7, cells := 1, slots := 6, locals := 111 }) (va_Pc [.ref xo, .int p0, .int p1, .int p2] (zPre (dC, dI) (zT cI cB cR cO) zk [] [(xo, .inr (6, [.ref al, x1, x2, x3, x4, x5, .ref b1, x7])), (al, .inr (4, [.int mc, .ref (zk 0), .int 0]))] sz)) (va_Qi (fun (_ : Int32) (_ : Unit) => False) (fun _ _ => True) (va_A [(xo, .inr (6, [.ref al, x1, x2, x3, x4, x5, .ref b1, x7])), (al, .inr (4, [.int mc, .ref (zk 0), .int 0]))] sz)) (vx_X (fun _ : Unit => True) (fun E9 _ t => E9 = "java/lang/IndexOutOfBoundsException" ∧ zEnd (dC, dI) (zT cI cB cR cO) (va_A [(xo, .inr (6, [.ref al, x1, x2, x3, x4, x5, .ref b1, x7])), (al, .inr (4, [.int mc, .ref (zk 0), .int 0]))] sz) [(xo, .inr (6, [.ref al, x1, x2, x3, x4, x5, .ref b1, x7])), (al, .inr (4, [.int mc, .ref (zk 0), .int 0]))] sz 0 t) (va_A [(xo, .inr (6, [.ref al, x1, x2, x3, x4, x5, .ref b1, x7])), (al, .inr (4, [.int mc, .ref (zk 0), .int 0]))] sz)) 1 6 (va_A [(xo, .inr (6, [.ref al, x1, x2, x3, x4, x5, .ref b1, x7])), (al, .inr (4, [.int mc, .ref (zk 0), .int 0]))] sz) := by
  refine vx_ofW (cc := cX1_swap) (maxL := 8) (ret := (some .int)) (by decide) rfl ?_
  intro p e s mY args below meth c s₁ B hml hntab hv
  obtain ⟨rfl, hsz, hP, hK, hD0, hZ⟩ := hv
  have hx := B.exec
  have hb := B.bytes
  have hr := B.returns
  have hts := atoms_spec (ws := wsX1_swap) B.pre
  have hown : s.vm.findClass RX1 = some mY.cls := findClass_of_methodNamed B.named
  have hlocks := B.notSynchronized
  subst hsz
  have hD := hD0.self (sz := s.heap.size)
  generalize hAe : va_A [(xo, .inr (6, [.ref al, x1, x2, x3, x4, x5, .ref b1, x7])), (al, .inr (4, [.int mc, .ref (zk 0), .int 0]))] s.heap.size = A at hD hZ ⊢
  have hA : ∀ q : Nat, s.heap.size ≤ q → A q := fun q h => by rw [← hAe]; exact Or.inr h
  have hS : va_S A s.heap s.heap [] := va_S.rf
  have hz : s.heap.size + 0 ≤ s.heap.size := Nat.le_refl _
  have hl := lv_entry ([.ref xo, .int p0, .int p1, .int p2]) (n := 8) (Nat.le_of_ble_eq_true rfl)
  rw [lg_entry_eq]
  generalize (lg_sl ([.ref xo, .int p0, .int p1, .int p2]) ++ List.replicate (8 - (lg_sl ([.ref xo, .int p0, .int p1, .int p2])).length) Slot.unset).toArray = ls at hl ⊢
  have hl : lv_has ls 8 [(0, .ref xo), (1, .int p0), (2, .int p1), (3, .int p2)] := hl
  have hP : va_P (dC, dI) vwCl [(xo, .inr (6, [.ref al, x1, x2, x3, x4, x5, .ref b1, x7])), (al, .inr (4, [.int mc, .ref (zk 0), .int 0]))] s.heap := hP
  have hD : va_D A [(xo, .inr (6, [.ref al, x1, x2, x3, x4, x5, .ref b1, x7])), (al, .inr (4, [.int mc, .ref (zk 0), .int 0]))] := hD
  refine lv_aload_n hx hb dX1_swap_0 rfl (lv_at hl 0 rfl) ?_
  refine lv_iload_n hx hb dX1_swap_1 rfl (lv_at hl 1 rfl) ?_
  have hPc := hP.sub (ws' := [(xo, .inr (6, [.ref al, x1, x2, x3, x4, x5, .ref b1, x7])), (al, .inr (4, [.int mc, .ref (zk 0), .int 0]))]) [0, 1] rfl
  have hDc := hD.sub (ws' := [(xo, .inr (6, [.ref al, x1, x2, x3, x4, x5, .ref b1, x7])), (al, .inr (4, [.int mc, .ref (zk 0), .int 0]))]) [0, 1] (by decide) rfl
  have hFc := va_free (wc := [(xo, .inr (6, [.ref al, x1, x2, x3, x4, x5, .ref b1, x7])), (al, .inr (4, [.int mc, .ref (zk 0), .int 0]))]) hD hS hA [0, 1] rfl
  have hDv := hDc.self (sz := s.heap.size)
  have hpre := zpre (xs' := []) (av := [.ref xo, .int p0]) hPc hK (hDc.weaken (fun _ _ _ h => h)) hZ hS hFc (fun r hr => by cases hr)
  refine vx_callq (vx_runV (As := [.int p0]) (rest := []) ⟨hx, hb, hml, hown, hts⟩ (k_rowX l dC dI cI cB cR cO zk hfl xo al b1 x1 x2 x3 x4 x5 x7 mc p0 s.heap.size ) (cwV 1 hts gX1_swap_X1_rowOf rfl rfl rfl (by decide +kernel) ⟨(Nat.le_of_ble_eq_true rfl), (Nat.le_of_ble_eq_true rfl)⟩) ⟨zblind, (zrecv_6 hK hPc (q0 := 0) rfl), hpre⟩ rfl rfl hl.1 rfl (lv_room (Nat.le_of_ble_eq_true rfl)) dX1_swap_2 ⟨(Nat.le_of_ble_eq_true rfl), (Nat.le_of_ble_eq_true rfl)⟩) hS (fun q _ h => hFc q h) hFc (fun q _ h => hFc q h) (fun E9 ce q9 u t H1 locs ht hvm hu hB hz1 hk1 hS hcell hcv hcl => ?_) (fun _ _ _ _ _ _ _ hw9 _ _ _ _ => hw9.elim)
  obtain ⟨hE9, hP1, hK1, hD1, hz2⟩ := hB
  subst hE9
  rw [ht] at hP1 hz2
  have hPD9 := va_join (wr := []) (w1 := [(xo, .inr (6, [.ref al, x1, x2, x3, x4, x5, .ref b1, x7])), (al, .inr (4, [.int mc, .ref (zk 0), .int 0]))]) hP hD [0, 1] [] rfl rfl (by decide) (by decide) hk1 hFc hP1 hD1
  clear hPc hDc hFc hDv hpre hP hD hP1 hK1 hD1
  obtain ⟨hP, hD⟩ := hPD9
  replace hz : s.heap.size + 0 ≤ H1.size := by omega
  clear hz2
  replace hP : va_P (dC, dI) vwCl [(xo, .inr (6, [.ref al, x1, x2, x3, x4, x5, .ref b1, x7])), (al, .inr (4, [.int mc, .ref (zk 0), .int 0]))] H1 := hP
  replace hD : va_D A [(xo, .inr (6, [.ref al, x1, x2, x3, x4, x5, .ref b1, x7])), (al, .inr (4, [.int mc, .ref (zk 0), .int 0]))] := hD
  have hP9 := hP.sub (ws' := [(xo, .inr (6, [.ref al, x1, x2, x3, x4, x5, .ref b1, x7])), (al, .inr (4, [.int mc, .ref (zk 0), .int 0]))]) [0, 1] rfl
  have hD9 := hD.sub (ws' := [(xo, .inr (6, [.ref al, x1, x2, x3, x4, x5, .ref b1, x7])), (al, .inr (4, [.int mc, .ref (zk 0), .int 0]))]) [0, 1] (by decide) rfl
  exact vx_out (fun x hx9 => (hntab x hx9).elim) hlocks hcell hcv hcl (fun t ht hal => ⟨(), trivial, ⟨rfl, by rw [ht]; exact hP9, va_K.moved hal hK, hD9, by rw [ht]; exact hz⟩, hS.F ht⟩) hS.2.2 (Nat.le_of_ble_eq_true rfl) (Nat.le_of_ble_eq_true rfl)

set_option maxHeartbeats 4000000 in
set_option maxRecDepth 100000 in
theorem k_fillX (l : Launch) (dC : Nat → ClassId) (dI : Nat → Nat → Nat) (cI cB cR cO : ClassId) (zk : Nat → Nat) (hfl : l.stackTraces = false) (xo al b1 : Nat) (x1 x2 x3 x4 x5 x7 : Value) (mc : Int32) (p0 p1 : Int32) (sz : Nat)  : vx_Met l yX1_fill wsX1_fill ({ frames := 7, cells := 1, slots := 6, locals := 111 }) (va_Pc [.ref xo, .int p0, .int p1] (zPre (dC, dI) (zT cI cB cR cO) zk [] [(xo, .inr (6, [.ref al, x1, x2, x3, x4, x5, .ref b1, x7])), (al, .inr (4, [.int mc, .ref (zk 0), .int 0]))] sz)) (va_Qi (fun (_ : Int32) (_ : Unit) => False) (fun _ _ => True) (va_A [(xo, .inr (6, [.ref al, x1, x2, x3, x4, x5, .ref b1, x7])), (al, .inr (4, [.int mc, .ref (zk 0), .int 0]))] sz)) (vx_X (fun _ : Unit => True) (fun E9 _ t => E9 = "java/lang/IndexOutOfBoundsException" ∧ zEnd (dC, dI) (zT cI cB cR cO) (va_A [(xo, .inr (6, [.ref al, x1, x2, x3, x4, x5, .ref b1, x7])), (al, .inr (4, [.int mc, .ref (zk 0), .int 0]))] sz) [(xo, .inr (6, [.ref al, x1, x2, x3, x4, x5, .ref b1, x7])), (al, .inr (4, [.int mc, .ref (zk 0), .int 0]))] sz 0 t) (va_A [(xo, .inr (6, [.ref al, x1, x2, x3, x4, x5, .ref b1, x7])), (al, .inr (4, [.int mc, .ref (zk 0), .int 0]))] sz)) 1 6 (va_A [(xo, .inr (6, [.ref al, x1, x2, x3, x4, x5, .ref b1, x7])), (al, .inr (4, [.int mc, .ref (zk 0), .int 0]))] sz) := by
  refine vx_ofW (cc := cX1_fill) (maxL := 5) (ret := (some .int)) (by decide) rfl ?_
  intro p e s mY args below meth c s₁ B hml hntab hv
  obtain ⟨rfl, hsz, hP, hK, hD0, hZ⟩ := hv
  have hx := B.exec
  have hb := B.bytes
  have hr := B.returns
  have hts := atoms_spec (ws := wsX1_fill) B.pre
  have hown : s.vm.findClass RX1 = some mY.cls := findClass_of_methodNamed B.named
  have hlocks := B.notSynchronized
  subst hsz
  have hD := hD0.self (sz := s.heap.size)
  generalize hAe : va_A [(xo, .inr (6, [.ref al, x1, x2, x3, x4, x5, .ref b1, x7])), (al, .inr (4, [.int mc, .ref (zk 0), .int 0]))] s.heap.size = A at hD hZ ⊢
  have hA : ∀ q : Nat, s.heap.size ≤ q → A q := fun q h => by rw [← hAe]; exact Or.inr h
  have hS : va_S A s.heap s.heap [] := va_S.rf
  have hz : s.heap.size + 0 ≤ s.heap.size := Nat.le_refl _
  have hl := lv_entry ([.ref xo, .int p0, .int p1]) (n := 5) (Nat.le_of_ble_eq_true rfl)
  rw [lg_entry_eq]
  generalize (lg_sl ([.ref xo, .int p0, .int p1]) ++ List.replicate (5 - (lg_sl ([.ref xo, .int p0, .int p1])).length) Slot.unset).toArray = ls at hl ⊢
  have hl : lv_has ls 5 [(0, .ref xo), (1, .int p0), (2, .int p1)] := hl
  have hP : va_P (dC, dI) vwCl [(xo, .inr (6, [.ref al, x1, x2, x3, x4, x5, .ref b1, x7])), (al, .inr (4, [.int mc, .ref (zk 0), .int 0]))] s.heap := hP
  have hD : va_D A [(xo, .inr (6, [.ref al, x1, x2, x3, x4, x5, .ref b1, x7])), (al, .inr (4, [.int mc, .ref (zk 0), .int 0]))] := hD
  refine lv_aload_n hx hb dX1_fill_0 rfl (lv_at hl 0 rfl) ?_
  refine lv_iload_n hx hb dX1_fill_1 rfl (lv_at hl 1 rfl) ?_
  have hPc := hP.sub (ws' := [(xo, .inr (6, [.ref al, x1, x2, x3, x4, x5, .ref b1, x7])), (al, .inr (4, [.int mc, .ref (zk 0), .int 0]))]) [0, 1] rfl
  have hDc := hD.sub (ws' := [(xo, .inr (6, [.ref al, x1, x2, x3, x4, x5, .ref b1, x7])), (al, .inr (4, [.int mc, .ref (zk 0), .int 0]))]) [0, 1] (by decide) rfl
  have hFc := va_free (wc := [(xo, .inr (6, [.ref al, x1, x2, x3, x4, x5, .ref b1, x7])), (al, .inr (4, [.int mc, .ref (zk 0), .int 0]))]) hD hS hA [0, 1] rfl
  have hDv := hDc.self (sz := s.heap.size)
  have hpre := zpre (xs' := []) (av := [.ref xo, .int p0]) hPc hK (hDc.weaken (fun _ _ _ h => h)) hZ hS hFc (fun r hr => by cases hr)
  refine vx_callq (vx_runV (As := [.int p0]) (rest := []) ⟨hx, hb, hml, hown, hts⟩ (k_rowX l dC dI cI cB cR cO zk hfl xo al b1 x1 x2 x3 x4 x5 x7 mc p0 s.heap.size ) (cwV 1 hts gX1_fill_X1_rowOf rfl rfl rfl (by decide +kernel) ⟨(Nat.le_of_ble_eq_true rfl), (Nat.le_of_ble_eq_true rfl)⟩) ⟨zblind, (zrecv_6 hK hPc (q0 := 0) rfl), hpre⟩ rfl rfl hl.1 rfl (lv_room (Nat.le_of_ble_eq_true rfl)) dX1_fill_2 ⟨(Nat.le_of_ble_eq_true rfl), (Nat.le_of_ble_eq_true rfl)⟩) hS (fun q _ h => hFc q h) hFc (fun q _ h => hFc q h) (fun E9 ce q9 u t H1 locs ht hvm hu hB hz1 hk1 hS hcell hcv hcl => ?_) (fun _ _ _ _ _ _ _ hw9 _ _ _ _ => hw9.elim)
  obtain ⟨hE9, hP1, hK1, hD1, hz2⟩ := hB
  subst hE9
  rw [ht] at hP1 hz2
  have hPD9 := va_join (wr := []) (w1 := [(xo, .inr (6, [.ref al, x1, x2, x3, x4, x5, .ref b1, x7])), (al, .inr (4, [.int mc, .ref (zk 0), .int 0]))]) hP hD [0, 1] [] rfl rfl (by decide) (by decide) hk1 hFc hP1 hD1
  clear hPc hDc hFc hDv hpre hP hD hP1 hK1 hD1
  obtain ⟨hP, hD⟩ := hPD9
  replace hz : s.heap.size + 0 ≤ H1.size := by omega
  clear hz2
  replace hP : va_P (dC, dI) vwCl [(xo, .inr (6, [.ref al, x1, x2, x3, x4, x5, .ref b1, x7])), (al, .inr (4, [.int mc, .ref (zk 0), .int 0]))] H1 := hP
  replace hD : va_D A [(xo, .inr (6, [.ref al, x1, x2, x3, x4, x5, .ref b1, x7])), (al, .inr (4, [.int mc, .ref (zk 0), .int 0]))] := hD
  have hP9 := hP.sub (ws' := [(xo, .inr (6, [.ref al, x1, x2, x3, x4, x5, .ref b1, x7])), (al, .inr (4, [.int mc, .ref (zk 0), .int 0]))]) [0, 1] rfl
  have hD9 := hD.sub (ws' := [(xo, .inr (6, [.ref al, x1, x2, x3, x4, x5, .ref b1, x7])), (al, .inr (4, [.int mc, .ref (zk 0), .int 0]))]) [0, 1] (by decide) rfl
  exact vx_out (fun x hx9 => (hntab x hx9).elim) hlocks hcell hcv hcl (fun t ht hal => ⟨(), trivial, ⟨rfl, by rw [ht]; exact hP9, va_K.moved hal hK, hD9, by rw [ht]; exact hz⟩, hS.F ht⟩) hS.2.2 (Nat.le_of_ble_eq_true rfl) (Nat.le_of_ble_eq_true rfl)

set_option maxHeartbeats 4000000 in
set_option maxRecDepth 100000 in
theorem k_fillRowX (l : Launch) (dC : Nat → ClassId) (dI : Nat → Nat → Nat) (cI cB cR cO : ClassId) (zk : Nat → Nat) (hfl : l.stackTraces = false) (xo al b1 : Nat) (x1 x2 x3 x4 x5 x7 : Value) (mc : Int32) (p0 p1 : Int32) (sz : Nat)  : vx_Met l yX1_fillRow wsX1_fillRow ({ frames := 7, cells := 1, slots := 6, locals := 111 }) (va_Pc [.ref xo, .int p0, .int p1] (zPre (dC, dI) (zT cI cB cR cO) zk [] [(xo, .inr (6, [.ref al, x1, x2, x3, x4, x5, .ref b1, x7])), (al, .inr (4, [.int mc, .ref (zk 0), .int 0]))] sz)) (va_Qi (fun (_ : Int32) (_ : Unit) => False) (fun _ _ => True) (va_A [(xo, .inr (6, [.ref al, x1, x2, x3, x4, x5, .ref b1, x7])), (al, .inr (4, [.int mc, .ref (zk 0), .int 0]))] sz)) (vx_X (fun _ : Unit => True) (fun E9 _ t => E9 = "java/lang/IndexOutOfBoundsException" ∧ zEnd (dC, dI) (zT cI cB cR cO) (va_A [(xo, .inr (6, [.ref al, x1, x2, x3, x4, x5, .ref b1, x7])), (al, .inr (4, [.int mc, .ref (zk 0), .int 0]))] sz) [(xo, .inr (6, [.ref al, x1, x2, x3, x4, x5, .ref b1, x7])), (al, .inr (4, [.int mc, .ref (zk 0), .int 0]))] sz 0 t) (va_A [(xo, .inr (6, [.ref al, x1, x2, x3, x4, x5, .ref b1, x7])), (al, .inr (4, [.int mc, .ref (zk 0), .int 0]))] sz)) 1 6 (va_A [(xo, .inr (6, [.ref al, x1, x2, x3, x4, x5, .ref b1, x7])), (al, .inr (4, [.int mc, .ref (zk 0), .int 0]))] sz) := by
  refine vx_ofW (cc := cX1_fillRow) (maxL := 7) (ret := (some .int)) (by decide) rfl ?_
  intro p e s mY args below meth c s₁ B hml hntab hv
  obtain ⟨rfl, hsz, hP, hK, hD0, hZ⟩ := hv
  have hx := B.exec
  have hb := B.bytes
  have hr := B.returns
  have hts := atoms_spec (ws := wsX1_fillRow) B.pre
  have hown : s.vm.findClass RX1 = some mY.cls := findClass_of_methodNamed B.named
  have hlocks := B.notSynchronized
  subst hsz
  have hD := hD0.self (sz := s.heap.size)
  generalize hAe : va_A [(xo, .inr (6, [.ref al, x1, x2, x3, x4, x5, .ref b1, x7])), (al, .inr (4, [.int mc, .ref (zk 0), .int 0]))] s.heap.size = A at hD hZ ⊢
  have hA : ∀ q : Nat, s.heap.size ≤ q → A q := fun q h => by rw [← hAe]; exact Or.inr h
  have hS : va_S A s.heap s.heap [] := va_S.rf
  have hz : s.heap.size + 0 ≤ s.heap.size := Nat.le_refl _
  have hl := lv_entry ([.ref xo, .int p0, .int p1]) (n := 7) (Nat.le_of_ble_eq_true rfl)
  rw [lg_entry_eq]
  generalize (lg_sl ([.ref xo, .int p0, .int p1]) ++ List.replicate (7 - (lg_sl ([.ref xo, .int p0, .int p1])).length) Slot.unset).toArray = ls at hl ⊢
  have hl : lv_has ls 7 [(0, .ref xo), (1, .int p0), (2, .int p1)] := hl
  have hP : va_P (dC, dI) vwCl [(xo, .inr (6, [.ref al, x1, x2, x3, x4, x5, .ref b1, x7])), (al, .inr (4, [.int mc, .ref (zk 0), .int 0]))] s.heap := hP
  have hD : va_D A [(xo, .inr (6, [.ref al, x1, x2, x3, x4, x5, .ref b1, x7])), (al, .inr (4, [.int mc, .ref (zk 0), .int 0]))] := hD
  refine lv_aload_n hx hb dX1_fillRow_0 rfl (lv_at hl 0 rfl) ?_
  refine lv_iload_n hx hb dX1_fillRow_1 rfl (lv_at hl 1 rfl) ?_
  have hPc := hP.sub (ws' := [(xo, .inr (6, [.ref al, x1, x2, x3, x4, x5, .ref b1, x7])), (al, .inr (4, [.int mc, .ref (zk 0), .int 0]))]) [0, 1] rfl
  have hDc := hD.sub (ws' := [(xo, .inr (6, [.ref al, x1, x2, x3, x4, x5, .ref b1, x7])), (al, .inr (4, [.int mc, .ref (zk 0), .int 0]))]) [0, 1] (by decide) rfl
  have hFc := va_free (wc := [(xo, .inr (6, [.ref al, x1, x2, x3, x4, x5, .ref b1, x7])), (al, .inr (4, [.int mc, .ref (zk 0), .int 0]))]) hD hS hA [0, 1] rfl
  have hDv := hDc.self (sz := s.heap.size)
  have hpre := zpre (xs' := []) (av := [.ref xo, .int p0]) hPc hK (hDc.weaken (fun _ _ _ h => h)) hZ hS hFc (fun r hr => by cases hr)
  refine vx_callq (vx_runV (As := [.int p0]) (rest := []) ⟨hx, hb, hml, hown, hts⟩ (k_rowX l dC dI cI cB cR cO zk hfl xo al b1 x1 x2 x3 x4 x5 x7 mc p0 s.heap.size ) (cwV 1 hts gX1_fillRow_X1_rowOf rfl rfl rfl (by decide +kernel) ⟨(Nat.le_of_ble_eq_true rfl), (Nat.le_of_ble_eq_true rfl)⟩) ⟨zblind, (zrecv_6 hK hPc (q0 := 0) rfl), hpre⟩ rfl rfl hl.1 rfl (lv_room (Nat.le_of_ble_eq_true rfl)) dX1_fillRow_2 ⟨(Nat.le_of_ble_eq_true rfl), (Nat.le_of_ble_eq_true rfl)⟩) hS (fun q _ h => hFc q h) hFc (fun q _ h => hFc q h) (fun E9 ce q9 u t H1 locs ht hvm hu hB hz1 hk1 hS hcell hcv hcl => ?_) (fun _ _ _ _ _ _ _ hw9 _ _ _ _ => hw9.elim)
  obtain ⟨hE9, hP1, hK1, hD1, hz2⟩ := hB
  subst hE9
  rw [ht] at hP1 hz2
  have hPD9 := va_join (wr := []) (w1 := [(xo, .inr (6, [.ref al, x1, x2, x3, x4, x5, .ref b1, x7])), (al, .inr (4, [.int mc, .ref (zk 0), .int 0]))]) hP hD [0, 1] [] rfl rfl (by decide) (by decide) hk1 hFc hP1 hD1
  clear hPc hDc hFc hDv hpre hP hD hP1 hK1 hD1
  obtain ⟨hP, hD⟩ := hPD9
  replace hz : s.heap.size + 0 ≤ H1.size := by omega
  clear hz2
  replace hP : va_P (dC, dI) vwCl [(xo, .inr (6, [.ref al, x1, x2, x3, x4, x5, .ref b1, x7])), (al, .inr (4, [.int mc, .ref (zk 0), .int 0]))] H1 := hP
  replace hD : va_D A [(xo, .inr (6, [.ref al, x1, x2, x3, x4, x5, .ref b1, x7])), (al, .inr (4, [.int mc, .ref (zk 0), .int 0]))] := hD
  have hP9 := hP.sub (ws' := [(xo, .inr (6, [.ref al, x1, x2, x3, x4, x5, .ref b1, x7])), (al, .inr (4, [.int mc, .ref (zk 0), .int 0]))]) [0, 1] rfl
  have hD9 := hD.sub (ws' := [(xo, .inr (6, [.ref al, x1, x2, x3, x4, x5, .ref b1, x7])), (al, .inr (4, [.int mc, .ref (zk 0), .int 0]))]) [0, 1] (by decide) rfl
  exact vx_out (fun x hx9 => (hntab x hx9).elim) hlocks hcell hcv hcl (fun t ht hal => ⟨(), trivial, ⟨rfl, by rw [ht]; exact hP9, va_K.moved hal hK, hD9, by rw [ht]; exact hz⟩, hS.F ht⟩) hS.2.2 (Nat.le_of_ble_eq_true rfl) (Nat.le_of_ble_eq_true rfl)

set_option maxHeartbeats 4000000 in
set_option maxRecDepth 100000 in
theorem k_setAllX (l : Launch) (dC : Nat → ClassId) (dI : Nat → Nat → Nat) (cI cB cR cO : ClassId) (zk : Nat → Nat) (hfl : l.stackTraces = false) (xo al b1 : Nat) (x1 x2 x3 x4 x5 x7 : Value) (mc : Int32) (p0 p1 p2 p3 : Int32) (sz : Nat)  : vx_Met l yX1_setAll wsX1_setAll ({ frames := 7, cells := 1, slots := 6, locals := 111 }) (va_Pc [.ref xo, .int p0, .int p1, .int p2, .int p3] (zPre (dC, dI) (zT cI cB cR cO) zk [] [(xo, .inr (6, [.ref al, x1, x2, x3, x4, x5, .ref b1, x7])), (al, .inr (4, [.int mc, .ref (zk 0), .int 0]))] sz)) (va_Qi (fun (_ : Int32) (_ : Unit) => False) (fun _ _ => True) (va_A [(xo, .inr (6, [.ref al, x1, x2, x3, x4, x5, .ref b1, x7])), (al, .inr (4, [.int mc, .ref (zk 0), .int 0]))] sz)) (vx_X (fun _ : Unit => True) (fun E9 _ t => E9 = "java/lang/IndexOutOfBoundsException" ∧ zEnd (dC, dI) (zT cI cB cR cO) (va_A [(xo, .inr (6, [.ref al, x1, x2, x3, x4, x5, .ref b1, x7])), (al, .inr (4, [.int mc, .ref (zk 0), .int 0]))] sz) [(xo, .inr (6, [.ref al, x1, x2, x3, x4, x5, .ref b1, x7])), (al, .inr (4, [.int mc, .ref (zk 0), .int 0]))] sz 0 t) (va_A [(xo, .inr (6, [.ref al, x1, x2, x3, x4, x5, .ref b1, x7])), (al, .inr (4, [.int mc, .ref (zk 0), .int 0]))] sz)) 1 6 (va_A [(xo, .inr (6, [.ref al, x1, x2, x3, x4, x5, .ref b1, x7])), (al, .inr (4, [.int mc, .ref (zk 0), .int 0]))] sz) := by
  refine vx_ofW (cc := cX1_setAll) (maxL := 7) (ret := (some .int)) (by decide) rfl ?_
  intro p e s mY args below meth c s₁ B hml hntab hv
  obtain ⟨rfl, hsz, hP, hK, hD0, hZ⟩ := hv
  have hx := B.exec
  have hb := B.bytes
  have hr := B.returns
  have hts := atoms_spec (ws := wsX1_setAll) B.pre
  have hown : s.vm.findClass RX1 = some mY.cls := findClass_of_methodNamed B.named
  have hlocks := B.notSynchronized
  subst hsz
  have hD := hD0.self (sz := s.heap.size)
  generalize hAe : va_A [(xo, .inr (6, [.ref al, x1, x2, x3, x4, x5, .ref b1, x7])), (al, .inr (4, [.int mc, .ref (zk 0), .int 0]))] s.heap.size = A at hD hZ ⊢
  have hA : ∀ q : Nat, s.heap.size ≤ q → A q := fun q h => by rw [← hAe]; exact Or.inr h
  have hS : va_S A s.heap s.heap [] := va_S.rf
  have hz : s.heap.size + 0 ≤ s.heap.size := Nat.le_refl _
  have hl := lv_entry ([.ref xo, .int p0, .int p1, .int p2, .int p3]) (n := 7) (Nat.le_of_ble_eq_true rfl)
  rw [lg_entry_eq]
  generalize (lg_sl ([.ref xo, .int p0, .int p1, .int p2, .int p3]) ++ List.replicate (7 - (lg_sl ([.ref xo, .int p0, .int p1, .int p2, .int p3])).length) Slot.unset).toArray = ls at hl ⊢
  have hl : lv_has ls 7 [(0, .ref xo), (1, .int p0), (2, .int p1), (3, .int p2), (4, .int p3)] := hl
  have hP : va_P (dC, dI) vwCl [(xo, .inr (6, [.ref al, x1, x2, x3, x4, x5, .ref b1, x7])), (al, .inr (4, [.int mc, .ref (zk 0), .int 0]))] s.heap := hP
  have hD : va_D A [(xo, .inr (6, [.ref al, x1, x2, x3, x4, x5, .ref b1, x7])), (al, .inr (4, [.int mc, .ref (zk 0), .int 0]))] := hD
  refine lv_aload_n hx hb dX1_setAll_0 rfl (lv_at hl 0 rfl) ?_
  refine lv_iload_n hx hb dX1_setAll_1 rfl (lv_at hl 1 rfl) ?_
  have hPc := hP.sub (ws' := [(xo, .inr (6, [.ref al, x1, x2, x3, x4, x5, .ref b1, x7])), (al, .inr (4, [.int mc, .ref (zk 0), .int 0]))]) [0, 1] rfl
  have hDc := hD.sub (ws' := [(xo, .inr (6, [.ref al, x1, x2, x3, x4, x5, .ref b1, x7])), (al, .inr (4, [.int mc, .ref (zk 0), .int 0]))]) [0, 1] (by decide) rfl
  have hFc := va_free (wc := [(xo, .inr (6, [.ref al, x1, x2, x3, x4, x5, .ref b1, x7])), (al, .inr (4, [.int mc, .ref (zk 0), .int 0]))]) hD hS hA [0, 1] rfl
  have hDv := hDc.self (sz := s.heap.size)
  have hpre := zpre (xs' := []) (av := [.ref xo, .int p0]) hPc hK (hDc.weaken (fun _ _ _ h => h)) hZ hS hFc (fun r hr => by cases hr)
  refine vx_callq (vx_runV (As := [.int p0]) (rest := []) ⟨hx, hb, hml, hown, hts⟩ (k_rowX l dC dI cI cB cR cO zk hfl xo al b1 x1 x2 x3 x4 x5 x7 mc p0 s.heap.size ) (cwV 1 hts gX1_setAll_X1_rowOf rfl rfl rfl (by decide +kernel) ⟨(Nat.le_of_ble_eq_true rfl), (Nat.le_of_ble_eq_true rfl)⟩) ⟨zblind, (zrecv_6 hK hPc (q0 := 0) rfl), hpre⟩ rfl rfl hl.1 rfl (lv_room (Nat.le_of_ble_eq_true rfl)) dX1_setAll_2 ⟨(Nat.le_of_ble_eq_true rfl), (Nat.le_of_ble_eq_true rfl)⟩) hS (fun q _ h => hFc q h) hFc (fun q _ h => hFc q h) (fun E9 ce q9 u t H1 locs ht hvm hu hB hz1 hk1 hS hcell hcv hcl => ?_) (fun _ _ _ _ _ _ _ hw9 _ _ _ _ => hw9.elim)
  obtain ⟨hE9, hP1, hK1, hD1, hz2⟩ := hB
  subst hE9
  rw [ht] at hP1 hz2
  have hPD9 := va_join (wr := []) (w1 := [(xo, .inr (6, [.ref al, x1, x2, x3, x4, x5, .ref b1, x7])), (al, .inr (4, [.int mc, .ref (zk 0), .int 0]))]) hP hD [0, 1] [] rfl rfl (by decide) (by decide) hk1 hFc hP1 hD1
  clear hPc hDc hFc hDv hpre hP hD hP1 hK1 hD1
  obtain ⟨hP, hD⟩ := hPD9
  replace hz : s.heap.size + 0 ≤ H1.size := by omega
  clear hz2
  replace hP : va_P (dC, dI) vwCl [(xo, .inr (6, [.ref al, x1, x2, x3, x4, x5, .ref b1, x7])), (al, .inr (4, [.int mc, .ref (zk 0), .int 0]))] H1 := hP
  replace hD : va_D A [(xo, .inr (6, [.ref al, x1, x2, x3, x4, x5, .ref b1, x7])), (al, .inr (4, [.int mc, .ref (zk 0), .int 0]))] := hD
  have hP9 := hP.sub (ws' := [(xo, .inr (6, [.ref al, x1, x2, x3, x4, x5, .ref b1, x7])), (al, .inr (4, [.int mc, .ref (zk 0), .int 0]))]) [0, 1] rfl
  have hD9 := hD.sub (ws' := [(xo, .inr (6, [.ref al, x1, x2, x3, x4, x5, .ref b1, x7])), (al, .inr (4, [.int mc, .ref (zk 0), .int 0]))]) [0, 1] (by decide) rfl
  exact vx_out (fun x hx9 => (hntab x hx9).elim) hlocks hcell hcv hcl (fun t ht hal => ⟨(), trivial, ⟨rfl, by rw [ht]; exact hP9, va_K.moved hal hK, hD9, by rw [ht]; exact hz⟩, hS.F ht⟩) hS.2.2 (Nat.le_of_ble_eq_true rfl) (Nat.le_of_ble_eq_true rfl)

set_option maxHeartbeats 4000000 in
set_option maxRecDepth 100000 in
theorem k_setRowsX (l : Launch) (dC : Nat → ClassId) (dI : Nat → Nat → Nat) (cI cB cR cO : ClassId) (zk : Nat → Nat) (hfl : l.stackTraces = false) (xo al b1 : Nat) (x1 x2 x3 x4 x5 x7 : Value) (mc : Int32) (p0 p1 : Int32) (sz : Nat)  : vx_Met l yX1_setRows wsX1_setRows ({ frames := 7, cells := 1, slots := 6, locals := 111 }) (va_Pc [.ref xo, .int p0, .int p1] (zPre (dC, dI) (zT cI cB cR cO) zk [] [(xo, .inr (6, [.ref al, x1, x2, x3, x4, x5, .ref b1, x7])), (al, .inr (4, [.int mc, .ref (zk 0), .int 0]))] sz)) (va_Qi (fun (_ : Int32) (_ : Unit) => False) (fun _ _ => True) (va_A [(xo, .inr (6, [.ref al, x1, x2, x3, x4, x5, .ref b1, x7])), (al, .inr (4, [.int mc, .ref (zk 0), .int 0]))] sz)) (vx_X (fun _ : Unit => True) (fun E9 _ t => E9 = "java/lang/IndexOutOfBoundsException" ∧ zEnd (dC, dI) (zT cI cB cR cO) (va_A [(xo, .inr (6, [.ref al, x1, x2, x3, x4, x5, .ref b1, x7])), (al, .inr (4, [.int mc, .ref (zk 0), .int 0]))] sz) [(xo, .inr (6, [.ref al, x1, x2, x3, x4, x5, .ref b1, x7])), (al, .inr (4, [.int mc, .ref (zk 0), .int 0]))] sz 0 t) (va_A [(xo, .inr (6, [.ref al, x1, x2, x3, x4, x5, .ref b1, x7])), (al, .inr (4, [.int mc, .ref (zk 0), .int 0]))] sz)) 1 6 (va_A [(xo, .inr (6, [.ref al, x1, x2, x3, x4, x5, .ref b1, x7])), (al, .inr (4, [.int mc, .ref (zk 0), .int 0]))] sz) := by
  refine vx_ofW (cc := cX1_setRows) (maxL := 6) (ret := (some .int)) (by decide) rfl ?_
  intro p e s mY args below meth c s₁ B hml hntab hv
  obtain ⟨rfl, hsz, hP, hK, hD0, hZ⟩ := hv
  have hx := B.exec
  have hb := B.bytes
  have hr := B.returns
  have hts := atoms_spec (ws := wsX1_setRows) B.pre
  have hown : s.vm.findClass RX1 = some mY.cls := findClass_of_methodNamed B.named
  have hlocks := B.notSynchronized
  subst hsz
  have hD := hD0.self (sz := s.heap.size)
  generalize hAe : va_A [(xo, .inr (6, [.ref al, x1, x2, x3, x4, x5, .ref b1, x7])), (al, .inr (4, [.int mc, .ref (zk 0), .int 0]))] s.heap.size = A at hD hZ ⊢
  have hA : ∀ q : Nat, s.heap.size ≤ q → A q := fun q h => by rw [← hAe]; exact Or.inr h
  have hS : va_S A s.heap s.heap [] := va_S.rf
  have hz : s.heap.size + 0 ≤ s.heap.size := Nat.le_refl _
  have hl := lv_entry ([.ref xo, .int p0, .int p1]) (n := 6) (Nat.le_of_ble_eq_true rfl)
  rw [lg_entry_eq]
  generalize (lg_sl ([.ref xo, .int p0, .int p1]) ++ List.replicate (6 - (lg_sl ([.ref xo, .int p0, .int p1])).length) Slot.unset).toArray = ls at hl ⊢
  have hl : lv_has ls 6 [(0, .ref xo), (1, .int p0), (2, .int p1)] := hl
  have hP : va_P (dC, dI) vwCl [(xo, .inr (6, [.ref al, x1, x2, x3, x4, x5, .ref b1, x7])), (al, .inr (4, [.int mc, .ref (zk 0), .int 0]))] s.heap := hP
  have hD : va_D A [(xo, .inr (6, [.ref al, x1, x2, x3, x4, x5, .ref b1, x7])), (al, .inr (4, [.int mc, .ref (zk 0), .int 0]))] := hD
  refine lv_aload_n hx hb dX1_setRows_0 rfl (lv_at hl 0 rfl) ?_
  refine lv_iload_n hx hb dX1_setRows_1 rfl (lv_at hl 1 rfl) ?_
  have hPc := hP.sub (ws' := [(xo, .inr (6, [.ref al, x1, x2, x3, x4, x5, .ref b1, x7])), (al, .inr (4, [.int mc, .ref (zk 0), .int 0]))]) [0, 1] rfl
  have hDc := hD.sub (ws' := [(xo, .inr (6, [.ref al, x1, x2, x3, x4, x5, .ref b1, x7])), (al, .inr (4, [.int mc, .ref (zk 0), .int 0]))]) [0, 1] (by decide) rfl
  have hFc := va_free (wc := [(xo, .inr (6, [.ref al, x1, x2, x3, x4, x5, .ref b1, x7])), (al, .inr (4, [.int mc, .ref (zk 0), .int 0]))]) hD hS hA [0, 1] rfl
  have hDv := hDc.self (sz := s.heap.size)
  have hpre := zpre (xs' := []) (av := [.ref xo, .int p0]) hPc hK (hDc.weaken (fun _ _ _ h => h)) hZ hS hFc (fun r hr => by cases hr)
  refine vx_callq (vx_runV (As := [.int p0]) (rest := []) ⟨hx, hb, hml, hown, hts⟩ (k_rowX l dC dI cI cB cR cO zk hfl xo al b1 x1 x2 x3 x4 x5 x7 mc p0 s.heap.size ) (cwV 1 hts gX1_setRows_X1_rowOf rfl rfl rfl (by decide +kernel) ⟨(Nat.le_of_ble_eq_true rfl), (Nat.le_of_ble_eq_true rfl)⟩) ⟨zblind, (zrecv_6 hK hPc (q0 := 0) rfl), hpre⟩ rfl rfl hl.1 rfl (lv_room (Nat.le_of_ble_eq_true rfl)) dX1_setRows_2 ⟨(Nat.le_of_ble_eq_true rfl), (Nat.le_of_ble_eq_true rfl)⟩) hS (fun q _ h => hFc q h) hFc (fun q _ h => hFc q h) (fun E9 ce q9 u t H1 locs ht hvm hu hB hz1 hk1 hS hcell hcv hcl => ?_) (fun _ _ _ _ _ _ _ hw9 _ _ _ _ => hw9.elim)
  obtain ⟨hE9, hP1, hK1, hD1, hz2⟩ := hB
  subst hE9
  rw [ht] at hP1 hz2
  have hPD9 := va_join (wr := []) (w1 := [(xo, .inr (6, [.ref al, x1, x2, x3, x4, x5, .ref b1, x7])), (al, .inr (4, [.int mc, .ref (zk 0), .int 0]))]) hP hD [0, 1] [] rfl rfl (by decide) (by decide) hk1 hFc hP1 hD1
  clear hPc hDc hFc hDv hpre hP hD hP1 hK1 hD1
  obtain ⟨hP, hD⟩ := hPD9
  replace hz : s.heap.size + 0 ≤ H1.size := by omega
  clear hz2
  replace hP : va_P (dC, dI) vwCl [(xo, .inr (6, [.ref al, x1, x2, x3, x4, x5, .ref b1, x7])), (al, .inr (4, [.int mc, .ref (zk 0), .int 0]))] H1 := hP
  replace hD : va_D A [(xo, .inr (6, [.ref al, x1, x2, x3, x4, x5, .ref b1, x7])), (al, .inr (4, [.int mc, .ref (zk 0), .int 0]))] := hD
  have hP9 := hP.sub (ws' := [(xo, .inr (6, [.ref al, x1, x2, x3, x4, x5, .ref b1, x7])), (al, .inr (4, [.int mc, .ref (zk 0), .int 0]))]) [0, 1] rfl
  have hD9 := hD.sub (ws' := [(xo, .inr (6, [.ref al, x1, x2, x3, x4, x5, .ref b1, x7])), (al, .inr (4, [.int mc, .ref (zk 0), .int 0]))]) [0, 1] (by decide) rfl
  exact vx_out (fun x hx9 => (hntab x hx9).elim) hlocks hcell hcv hcl (fun t ht hal => ⟨(), trivial, ⟨rfl, by rw [ht]; exact hP9, va_K.moved hal hK, hD9, by rw [ht]; exact hz⟩, hS.F ht⟩) hS.2.2 (Nat.le_of_ble_eq_true rfl) (Nat.le_of_ble_eq_true rfl)

set_option maxHeartbeats 4000000 in
set_option maxRecDepth 100000 in
theorem k_twinX (l : Launch) (dC : Nat → ClassId) (dI : Nat → Nat → Nat) (cI cB cR cO : ClassId) (zk : Nat → Nat) (hfl : l.stackTraces = false) (xo al b1 : Nat) (x1 x2 x3 x4 x5 x7 : Value) (mc : Int32) (p0 : Int32) (sz : Nat)  : vx_Met l yX1_twin wsX1_twin ({ frames := 7, cells := 1, slots := 6, locals := 111 }) (va_Pc [.ref xo, .int p0] (zPre (dC, dI) (zT cI cB cR cO) zk [] [(xo, .inr (6, [.ref al, x1, x2, x3, x4, x5, .ref b1, x7])), (al, .inr (4, [.int mc, .ref (zk 0), .int 0]))] sz)) (va_Qi (fun (_ : Int32) (_ : Unit) => False) (fun _ _ => True) (va_A [(xo, .inr (6, [.ref al, x1, x2, x3, x4, x5, .ref b1, x7])), (al, .inr (4, [.int mc, .ref (zk 0), .int 0]))] sz)) (vx_X (fun _ : Unit => True) (fun E9 _ t => E9 = "java/lang/IndexOutOfBoundsException" ∧ zEnd (dC, dI) (zT cI cB cR cO) (va_A [(xo, .inr (6, [.ref al, x1, x2, x3, x4, x5, .ref b1, x7])), (al, .inr (4, [.int mc, .ref (zk 0), .int 0]))] sz) [(xo, .inr (6, [.ref al, x1, x2, x3, x4, x5, .ref b1, x7])), (al, .inr (4, [.int mc, .ref (zk 0), .int 0]))] sz 0 t) (va_A [(xo, .inr (6, [.ref al, x1, x2, x3, x4, x5, .ref b1, x7])), (al, .inr (4, [.int mc, .ref (zk 0), .int 0]))] sz)) 1 6 (va_A [(xo, .inr (6, [.ref al, x1, x2, x3, x4, x5, .ref b1, x7])), (al, .inr (4, [.int mc, .ref (zk 0), .int 0]))] sz) := by
  refine vx_ofW (cc := cX1_twin) (maxL := 3) (ret := (some .int)) (by decide) rfl ?_
  intro p e s mY args below meth c s₁ B hml hntab hv
  obtain ⟨rfl, hsz, hP, hK, hD0, hZ⟩ := hv
  have hx := B.exec
  have hb := B.bytes
  have hr := B.returns
  have hts := atoms_spec (ws := wsX1_twin) B.pre
  have hown : s.vm.findClass RX1 = some mY.cls := findClass_of_methodNamed B.named
  have hlocks := B.notSynchronized
  subst hsz
  have hD := hD0.self (sz := s.heap.size)
  generalize hAe : va_A [(xo, .inr (6, [.ref al, x1, x2, x3, x4, x5, .ref b1, x7])), (al, .inr (4, [.int mc, .ref (zk 0), .int 0]))] s.heap.size = A at hD hZ ⊢
  have hA : ∀ q : Nat, s.heap.size ≤ q → A q := fun q h => by rw [← hAe]; exact Or.inr h
  have hS : va_S A s.heap s.heap [] := va_S.rf
  have hz : s.heap.size + 0 ≤ s.heap.size := Nat.le_refl _
  have hl := lv_entry ([.ref xo, .int p0]) (n := 3) (Nat.le_of_ble_eq_true rfl)
  rw [lg_entry_eq]
  generalize (lg_sl ([.ref xo, .int p0]) ++ List.replicate (3 - (lg_sl ([.ref xo, .int p0])).length) Slot.unset).toArray = ls at hl ⊢
  have hl : lv_has ls 3 [(0, .ref xo), (1, .int p0)] := hl
  have hP : va_P (dC, dI) vwCl [(xo, .inr (6, [.ref al, x1, x2, x3, x4, x5, .ref b1, x7])), (al, .inr (4, [.int mc, .ref (zk 0), .int 0]))] s.heap := hP
  have hD : va_D A [(xo, .inr (6, [.ref al, x1, x2, x3, x4, x5, .ref b1, x7])), (al, .inr (4, [.int mc, .ref (zk 0), .int 0]))] := hD
  refine lv_aload_n hx hb dX1_twin_0 rfl (lv_at hl 0 rfl) ?_
  refine lv_iload_n hx hb dX1_twin_1 rfl (lv_at hl 1 rfl) ?_
  have hPc := hP.sub (ws' := [(xo, .inr (6, [.ref al, x1, x2, x3, x4, x5, .ref b1, x7])), (al, .inr (4, [.int mc, .ref (zk 0), .int 0]))]) [0, 1] rfl
  have hDc := hD.sub (ws' := [(xo, .inr (6, [.ref al, x1, x2, x3, x4, x5, .ref b1, x7])), (al, .inr (4, [.int mc, .ref (zk 0), .int 0]))]) [0, 1] (by decide) rfl
  have hFc := va_free (wc := [(xo, .inr (6, [.ref al, x1, x2, x3, x4, x5, .ref b1, x7])), (al, .inr (4, [.int mc, .ref (zk 0), .int 0]))]) hD hS hA [0, 1] rfl
  have hDv := hDc.self (sz := s.heap.size)
  have hpre := zpre (xs' := []) (av := [.ref xo, .int p0]) hPc hK (hDc.weaken (fun _ _ _ h => h)) hZ hS hFc (fun r hr => by cases hr)
  refine vx_callq (vx_runV (As := [.int p0]) (rest := []) ⟨hx, hb, hml, hown, hts⟩ (k_rowX l dC dI cI cB cR cO zk hfl xo al b1 x1 x2 x3 x4 x5 x7 mc p0 s.heap.size ) (cwV 1 hts gX1_twin_X1_rowOf rfl rfl rfl (by decide +kernel) ⟨(Nat.le_of_ble_eq_true rfl), (Nat.le_of_ble_eq_true rfl)⟩) ⟨zblind, (zrecv_6 hK hPc (q0 := 0) rfl), hpre⟩ rfl rfl hl.1 rfl (lv_room (Nat.le_of_ble_eq_true rfl)) dX1_twin_2 ⟨(Nat.le_of_ble_eq_true rfl), (Nat.le_of_ble_eq_true rfl)⟩) hS (fun q _ h => hFc q h) hFc (fun q _ h => hFc q h) (fun E9 ce q9 u t H1 locs ht hvm hu hB hz1 hk1 hS hcell hcv hcl => ?_) (fun _ _ _ _ _ _ _ hw9 _ _ _ _ => hw9.elim)
  obtain ⟨hE9, hP1, hK1, hD1, hz2⟩ := hB
  subst hE9
  rw [ht] at hP1 hz2
  have hPD9 := va_join (wr := []) (w1 := [(xo, .inr (6, [.ref al, x1, x2, x3, x4, x5, .ref b1, x7])), (al, .inr (4, [.int mc, .ref (zk 0), .int 0]))]) hP hD [0, 1] [] rfl rfl (by decide) (by decide) hk1 hFc hP1 hD1
  clear hPc hDc hFc hDv hpre hP hD hP1 hK1 hD1
  obtain ⟨hP, hD⟩ := hPD9
  replace hz : s.heap.size + 0 ≤ H1.size := by omega
  clear hz2
  replace hP : va_P (dC, dI) vwCl [(xo, .inr (6, [.ref al, x1, x2, x3, x4, x5, .ref b1, x7])), (al, .inr (4, [.int mc, .ref (zk 0), .int 0]))] H1 := hP
  replace hD : va_D A [(xo, .inr (6, [.ref al, x1, x2, x3, x4, x5, .ref b1, x7])), (al, .inr (4, [.int mc, .ref (zk 0), .int 0]))] := hD
  have hP9 := hP.sub (ws' := [(xo, .inr (6, [.ref al, x1, x2, x3, x4, x5, .ref b1, x7])), (al, .inr (4, [.int mc, .ref (zk 0), .int 0]))]) [0, 1] rfl
  have hD9 := hD.sub (ws' := [(xo, .inr (6, [.ref al, x1, x2, x3, x4, x5, .ref b1, x7])), (al, .inr (4, [.int mc, .ref (zk 0), .int 0]))]) [0, 1] (by decide) rfl
  exact vx_out (fun x hx9 => (hntab x hx9).elim) hlocks hcell hcv hcl (fun t ht hal => ⟨(), trivial, ⟨rfl, by rw [ht]; exact hP9, va_K.moved hal hK, hD9, by rw [ht]; exact hz⟩, hS.F ht⟩) hS.2.2 (Nat.le_of_ble_eq_true rfl) (Nat.le_of_ble_eq_true rfl)

set_option maxHeartbeats 4000000 in
set_option maxRecDepth 100000 in
theorem k_deepTwinX (l : Launch) (dC : Nat → ClassId) (dI : Nat → Nat → Nat) (cI cB cR cO : ClassId) (zk : Nat → Nat) (hfl : l.stackTraces = false) (xo al b1 : Nat) (x1 x2 x3 x4 x5 x7 : Value) (mc : Int32) (p0 : Int32) (sz : Nat)  : vx_Met l yX1_deepTwin wsX1_deepTwin ({ frames := 7, cells := 1, slots := 6, locals := 111 }) (va_Pc [.ref xo, .int p0] (zPre (dC, dI) (zT cI cB cR cO) zk [] [(xo, .inr (6, [.ref al, x1, x2, x3, x4, x5, .ref b1, x7])), (al, .inr (4, [.int mc, .ref (zk 0), .int 0]))] sz)) (va_Qi (fun (_ : Int32) (_ : Unit) => False) (fun _ _ => True) (va_A [(xo, .inr (6, [.ref al, x1, x2, x3, x4, x5, .ref b1, x7])), (al, .inr (4, [.int mc, .ref (zk 0), .int 0]))] sz)) (vx_X (fun _ : Unit => True) (fun E9 _ t => E9 = "java/lang/IndexOutOfBoundsException" ∧ zEnd (dC, dI) (zT cI cB cR cO) (va_A [(xo, .inr (6, [.ref al, x1, x2, x3, x4, x5, .ref b1, x7])), (al, .inr (4, [.int mc, .ref (zk 0), .int 0]))] sz) [(xo, .inr (6, [.ref al, x1, x2, x3, x4, x5, .ref b1, x7])), (al, .inr (4, [.int mc, .ref (zk 0), .int 0]))] sz 0 t) (va_A [(xo, .inr (6, [.ref al, x1, x2, x3, x4, x5, .ref b1, x7])), (al, .inr (4, [.int mc, .ref (zk 0), .int 0]))] sz)) 1 6 (va_A [(xo, .inr (6, [.ref al, x1, x2, x3, x4, x5, .ref b1, x7])), (al, .inr (4, [.int mc, .ref (zk 0), .int 0]))] sz) := by
  refine vx_ofW (cc := cX1_deepTwin) (maxL := 3) (ret := (some .int)) (by decide) rfl ?_
  intro p e s mY args below meth c s₁ B hml hntab hv
  obtain ⟨rfl, hsz, hP, hK, hD0, hZ⟩ := hv
  have hx := B.exec
  have hb := B.bytes
  have hr := B.returns
  have hts := atoms_spec (ws := wsX1_deepTwin) B.pre
  have hown : s.vm.findClass RX1 = some mY.cls := findClass_of_methodNamed B.named
  have hlocks := B.notSynchronized
  subst hsz
  have hD := hD0.self (sz := s.heap.size)
  generalize hAe : va_A [(xo, .inr (6, [.ref al, x1, x2, x3, x4, x5, .ref b1, x7])), (al, .inr (4, [.int mc, .ref (zk 0), .int 0]))] s.heap.size = A at hD hZ ⊢
  have hA : ∀ q : Nat, s.heap.size ≤ q → A q := fun q h => by rw [← hAe]; exact Or.inr h
  have hS : va_S A s.heap s.heap [] := va_S.rf
  have hz : s.heap.size + 0 ≤ s.heap.size := Nat.le_refl _
  have hl := lv_entry ([.ref xo, .int p0]) (n := 3) (Nat.le_of_ble_eq_true rfl)
  rw [lg_entry_eq]
  generalize (lg_sl ([.ref xo, .int p0]) ++ List.replicate (3 - (lg_sl ([.ref xo, .int p0])).length) Slot.unset).toArray = ls at hl ⊢
  have hl : lv_has ls 3 [(0, .ref xo), (1, .int p0)] := hl
  have hP : va_P (dC, dI) vwCl [(xo, .inr (6, [.ref al, x1, x2, x3, x4, x5, .ref b1, x7])), (al, .inr (4, [.int mc, .ref (zk 0), .int 0]))] s.heap := hP
  have hD : va_D A [(xo, .inr (6, [.ref al, x1, x2, x3, x4, x5, .ref b1, x7])), (al, .inr (4, [.int mc, .ref (zk 0), .int 0]))] := hD
  refine lv_aload_n hx hb dX1_deepTwin_0 rfl (lv_at hl 0 rfl) ?_
  refine lv_iload_n hx hb dX1_deepTwin_1 rfl (lv_at hl 1 rfl) ?_
  have hPc := hP.sub (ws' := [(xo, .inr (6, [.ref al, x1, x2, x3, x4, x5, .ref b1, x7])), (al, .inr (4, [.int mc, .ref (zk 0), .int 0]))]) [0, 1] rfl
  have hDc := hD.sub (ws' := [(xo, .inr (6, [.ref al, x1, x2, x3, x4, x5, .ref b1, x7])), (al, .inr (4, [.int mc, .ref (zk 0), .int 0]))]) [0, 1] (by decide) rfl
  have hFc := va_free (wc := [(xo, .inr (6, [.ref al, x1, x2, x3, x4, x5, .ref b1, x7])), (al, .inr (4, [.int mc, .ref (zk 0), .int 0]))]) hD hS hA [0, 1] rfl
  have hDv := hDc.self (sz := s.heap.size)
  have hpre := zpre (xs' := []) (av := [.ref xo, .int p0]) hPc hK (hDc.weaken (fun _ _ _ h => h)) hZ hS hFc (fun r hr => by cases hr)
  refine vx_callq (vx_runV (As := [.int p0]) (rest := []) ⟨hx, hb, hml, hown, hts⟩ (k_rowX l dC dI cI cB cR cO zk hfl xo al b1 x1 x2 x3 x4 x5 x7 mc p0 s.heap.size ) (cwV 1 hts gX1_deepTwin_X1_rowOf rfl rfl rfl (by decide +kernel) ⟨(Nat.le_of_ble_eq_true rfl), (Nat.le_of_ble_eq_true rfl)⟩) ⟨zblind, (zrecv_6 hK hPc (q0 := 0) rfl), hpre⟩ rfl rfl hl.1 rfl (lv_room (Nat.le_of_ble_eq_true rfl)) dX1_deepTwin_2 ⟨(Nat.le_of_ble_eq_true rfl), (Nat.le_of_ble_eq_true rfl)⟩) hS (fun q _ h => hFc q h) hFc (fun q _ h => hFc q h) (fun E9 ce q9 u t H1 locs ht hvm hu hB hz1 hk1 hS hcell hcv hcl => ?_) (fun _ _ _ _ _ _ _ hw9 _ _ _ _ => hw9.elim)
  obtain ⟨hE9, hP1, hK1, hD1, hz2⟩ := hB
  subst hE9
  rw [ht] at hP1 hz2
  have hPD9 := va_join (wr := []) (w1 := [(xo, .inr (6, [.ref al, x1, x2, x3, x4, x5, .ref b1, x7])), (al, .inr (4, [.int mc, .ref (zk 0), .int 0]))]) hP hD [0, 1] [] rfl rfl (by decide) (by decide) hk1 hFc hP1 hD1
  clear hPc hDc hFc hDv hpre hP hD hP1 hK1 hD1
  obtain ⟨hP, hD⟩ := hPD9
  replace hz : s.heap.size + 0 ≤ H1.size := by omega
  clear hz2
  replace hP : va_P (dC, dI) vwCl [(xo, .inr (6, [.ref al, x1, x2, x3, x4, x5, .ref b1, x7])), (al, .inr (4, [.int mc, .ref (zk 0), .int 0]))] H1 := hP
  replace hD : va_D A [(xo, .inr (6, [.ref al, x1, x2, x3, x4, x5, .ref b1, x7])), (al, .inr (4, [.int mc, .ref (zk 0), .int 0]))] := hD
  have hP9 := hP.sub (ws' := [(xo, .inr (6, [.ref al, x1, x2, x3, x4, x5, .ref b1, x7])), (al, .inr (4, [.int mc, .ref (zk 0), .int 0]))]) [0, 1] rfl
  have hD9 := hD.sub (ws' := [(xo, .inr (6, [.ref al, x1, x2, x3, x4, x5, .ref b1, x7])), (al, .inr (4, [.int mc, .ref (zk 0), .int 0]))]) [0, 1] (by decide) rfl
  exact vx_out (fun x hx9 => (hntab x hx9).elim) hlocks hcell hcv hcl (fun t ht hal => ⟨(), trivial, ⟨rfl, by rw [ht]; exact hP9, va_K.moved hal hK, hD9, by rw [ht]; exact hz⟩, hS.F ht⟩) hS.2.2 (Nat.le_of_ble_eq_true rfl) (Nat.le_of_ble_eq_true rfl)

set_option maxHeartbeats 4000000 in
set_option maxRecDepth 100000 in
theorem k_copyX (l : Launch) (dC : Nat → ClassId) (dI : Nat → Nat → Nat) (cI cB cR cO : ClassId) (zk : Nat → Nat) (hfl : l.stackTraces = false) (xo al b1 : Nat) (x1 x2 x3 x4 x5 x7 : Value) (mc : Int32) (p0 p1 : Int32) (sz : Nat)  : vx_Met l yX1_copy wsX1_copy ({ frames := 7, cells := 1, slots := 6, locals := 111 }) (va_Pc [.ref xo, .int p0, .int p1] (zPre (dC, dI) (zT cI cB cR cO) zk [] [(xo, .inr (6, [.ref al, x1, x2, x3, x4, x5, .ref b1, x7])), (al, .inr (4, [.int mc, .ref (zk 0), .int 0]))] sz)) (va_Qi (fun (_ : Int32) (_ : Unit) => False) (fun _ _ => True) (va_A [(xo, .inr (6, [.ref al, x1, x2, x3, x4, x5, .ref b1, x7])), (al, .inr (4, [.int mc, .ref (zk 0), .int 0]))] sz)) (vx_X (fun _ : Unit => True) (fun E9 _ t => E9 = "java/lang/IndexOutOfBoundsException" ∧ zEnd (dC, dI) (zT cI cB cR cO) (va_A [(xo, .inr (6, [.ref al, x1, x2, x3, x4, x5, .ref b1, x7])), (al, .inr (4, [.int mc, .ref (zk 0), .int 0]))] sz) [(xo, .inr (6, [.ref al, x1, x2, x3, x4, x5, .ref b1, x7])), (al, .inr (4, [.int mc, .ref (zk 0), .int 0]))] sz 0 t) (va_A [(xo, .inr (6, [.ref al, x1, x2, x3, x4, x5, .ref b1, x7])), (al, .inr (4, [.int mc, .ref (zk 0), .int 0]))] sz)) 1 6 (va_A [(xo, .inr (6, [.ref al, x1, x2, x3, x4, x5, .ref b1, x7])), (al, .inr (4, [.int mc, .ref (zk 0), .int 0]))] sz) := by
  refine vx_ofW (cc := cX1_copy) (maxL := 4) (ret := (some .int)) (by decide) rfl ?_
  intro p e s mY args below meth c s₁ B hml hntab hv
  obtain ⟨rfl, hsz, hP, hK, hD0, hZ⟩ := hv
  have hx := B.exec
  have hb := B.bytes
  have hr := B.returns
  have hts := atoms_spec (ws := wsX1_copy) B.pre
  have hown : s.vm.findClass RX1 = some mY.cls := findClass_of_methodNamed B.named
  have hlocks := B.notSynchronized
  subst hsz
  have hD := hD0.self (sz := s.heap.size)
  generalize hAe : va_A [(xo, .inr (6, [.ref al, x1, x2, x3, x4, x5, .ref b1, x7])), (al, .inr (4, [.int mc, .ref (zk 0), .int 0]))] s.heap.size = A at hD hZ ⊢
  have hA : ∀ q : Nat, s.heap.size ≤ q → A q := fun q h => by rw [← hAe]; exact Or.inr h
  have hS : va_S A s.heap s.heap [] := va_S.rf
  have hz : s.heap.size + 0 ≤ s.heap.size := Nat.le_refl _
  have hl := lv_entry ([.ref xo, .int p0, .int p1]) (n := 4) (Nat.le_of_ble_eq_true rfl)
  rw [lg_entry_eq]
  generalize (lg_sl ([.ref xo, .int p0, .int p1]) ++ List.replicate (4 - (lg_sl ([.ref xo, .int p0, .int p1])).length) Slot.unset).toArray = ls at hl ⊢
  have hl : lv_has ls 4 [(0, .ref xo), (1, .int p0), (2, .int p1)] := hl
  have hP : va_P (dC, dI) vwCl [(xo, .inr (6, [.ref al, x1, x2, x3, x4, x5, .ref b1, x7])), (al, .inr (4, [.int mc, .ref (zk 0), .int 0]))] s.heap := hP
  have hD : va_D A [(xo, .inr (6, [.ref al, x1, x2, x3, x4, x5, .ref b1, x7])), (al, .inr (4, [.int mc, .ref (zk 0), .int 0]))] := hD
  refine lv_aload_n hx hb dX1_copy_0 rfl (lv_at hl 0 rfl) ?_
  refine lv_iload_n hx hb dX1_copy_1 rfl (lv_at hl 1 rfl) ?_
  have hPc := hP.sub (ws' := [(xo, .inr (6, [.ref al, x1, x2, x3, x4, x5, .ref b1, x7])), (al, .inr (4, [.int mc, .ref (zk 0), .int 0]))]) [0, 1] rfl
  have hDc := hD.sub (ws' := [(xo, .inr (6, [.ref al, x1, x2, x3, x4, x5, .ref b1, x7])), (al, .inr (4, [.int mc, .ref (zk 0), .int 0]))]) [0, 1] (by decide) rfl
  have hFc := va_free (wc := [(xo, .inr (6, [.ref al, x1, x2, x3, x4, x5, .ref b1, x7])), (al, .inr (4, [.int mc, .ref (zk 0), .int 0]))]) hD hS hA [0, 1] rfl
  have hDv := hDc.self (sz := s.heap.size)
  have hpre := zpre (xs' := []) (av := [.ref xo, .int p0]) hPc hK (hDc.weaken (fun _ _ _ h => h)) hZ hS hFc (fun r hr => by cases hr)
  refine vx_callq (vx_runV (As := [.int p0]) (rest := []) ⟨hx, hb, hml, hown, hts⟩ (k_rowX l dC dI cI cB cR cO zk hfl xo al b1 x1 x2 x3 x4 x5 x7 mc p0 s.heap.size ) (cwV 1 hts gX1_copy_X1_rowOf rfl rfl rfl (by decide +kernel) ⟨(Nat.le_of_ble_eq_true rfl), (Nat.le_of_ble_eq_true rfl)⟩) ⟨zblind, (zrecv_6 hK hPc (q0 := 0) rfl), hpre⟩ rfl rfl hl.1 rfl (lv_room (Nat.le_of_ble_eq_true rfl)) dX1_copy_2 ⟨(Nat.le_of_ble_eq_true rfl), (Nat.le_of_ble_eq_true rfl)⟩) hS (fun q _ h => hFc q h) hFc (fun q _ h => hFc q h) (fun E9 ce q9 u t H1 locs ht hvm hu hB hz1 hk1 hS hcell hcv hcl => ?_) (fun _ _ _ _ _ _ _ hw9 _ _ _ _ => hw9.elim)
  obtain ⟨hE9, hP1, hK1, hD1, hz2⟩ := hB
  subst hE9
  rw [ht] at hP1 hz2
  have hPD9 := va_join (wr := []) (w1 := [(xo, .inr (6, [.ref al, x1, x2, x3, x4, x5, .ref b1, x7])), (al, .inr (4, [.int mc, .ref (zk 0), .int 0]))]) hP hD [0, 1] [] rfl rfl (by decide) (by decide) hk1 hFc hP1 hD1
  clear hPc hDc hFc hDv hpre hP hD hP1 hK1 hD1
  obtain ⟨hP, hD⟩ := hPD9
  replace hz : s.heap.size + 0 ≤ H1.size := by omega
  clear hz2
  replace hP : va_P (dC, dI) vwCl [(xo, .inr (6, [.ref al, x1, x2, x3, x4, x5, .ref b1, x7])), (al, .inr (4, [.int mc, .ref (zk 0), .int 0]))] H1 := hP
  replace hD : va_D A [(xo, .inr (6, [.ref al, x1, x2, x3, x4, x5, .ref b1, x7])), (al, .inr (4, [.int mc, .ref (zk 0), .int 0]))] := hD
  have hP9 := hP.sub (ws' := [(xo, .inr (6, [.ref al, x1, x2, x3, x4, x5, .ref b1, x7])), (al, .inr (4, [.int mc, .ref (zk 0), .int 0]))]) [0, 1] rfl
  have hD9 := hD.sub (ws' := [(xo, .inr (6, [.ref al, x1, x2, x3, x4, x5, .ref b1, x7])), (al, .inr (4, [.int mc, .ref (zk 0), .int 0]))]) [0, 1] (by decide) rfl
  exact vx_out (fun x hx9 => (hntab x hx9).elim) hlocks hcell hcv hcl (fun t ht hal => ⟨(), trivial, ⟨rfl, by rw [ht]; exact hP9, va_K.moved hal hK, hD9, by rw [ht]; exact hz⟩, hS.F ht⟩) hS.2.2 (Nat.le_of_ble_eq_true rfl) (Nat.le_of_ble_eq_true rfl)

set_option maxHeartbeats 4000000 in
set_option maxRecDepth 100000 in
theorem k_kindX (l : Launch) (dC : Nat → ClassId) (dI : Nat → Nat → Nat) (cI cB cR cO : ClassId) (zk : Nat → Nat) (hfl : l.stackTraces = false) (xo al b1 : Nat) (x1 x2 x3 x4 x5 x7 : Value) (mc : Int32) (p0 : Int32) (sz : Nat)  : vx_Met l yX1_kind wsX1_kind ({ frames := 7, cells := 1, slots := 6, locals := 111 }) (va_Pc [.ref xo, .int p0] (zPre (dC, dI) (zT cI cB cR cO) zk [] [(xo, .inr (6, [.ref al, x1, x2, x3, x4, x5, .ref b1, x7])), (al, .inr (4, [.int mc, .ref (zk 0), .int 0]))] sz)) (va_Qi (fun (_ : Int32) (_ : Unit) => False) (fun _ _ => True) (va_A [(xo, .inr (6, [.ref al, x1, x2, x3, x4, x5, .ref b1, x7])), (al, .inr (4, [.int mc, .ref (zk 0), .int 0]))] sz)) (vx_X (fun _ : Unit => True) (fun E9 _ t => E9 = "java/lang/IndexOutOfBoundsException" ∧ zEnd (dC, dI) (zT cI cB cR cO) (va_A [(xo, .inr (6, [.ref al, x1, x2, x3, x4, x5, .ref b1, x7])), (al, .inr (4, [.int mc, .ref (zk 0), .int 0]))] sz) [(xo, .inr (6, [.ref al, x1, x2, x3, x4, x5, .ref b1, x7])), (al, .inr (4, [.int mc, .ref (zk 0), .int 0]))] sz 0 t) (va_A [(xo, .inr (6, [.ref al, x1, x2, x3, x4, x5, .ref b1, x7])), (al, .inr (4, [.int mc, .ref (zk 0), .int 0]))] sz)) 1 6 (va_A [(xo, .inr (6, [.ref al, x1, x2, x3, x4, x5, .ref b1, x7])), (al, .inr (4, [.int mc, .ref (zk 0), .int 0]))] sz) := by
  refine vx_ofW (cc := cX1_kind) (maxL := 2) (ret := (some .int)) (by decide) rfl ?_
  intro p e s mY args below meth c s₁ B hml hntab hv
  obtain ⟨rfl, hsz, hP, hK, hD0, hZ⟩ := hv
  have hx := B.exec
  have hb := B.bytes
  have hr := B.returns
  have hts := atoms_spec (ws := wsX1_kind) B.pre
  have hown : s.vm.findClass RX1 = some mY.cls := findClass_of_methodNamed B.named
  have hlocks := B.notSynchronized
  subst hsz
  have hD := hD0.self (sz := s.heap.size)
  generalize hAe : va_A [(xo, .inr (6, [.ref al, x1, x2, x3, x4, x5, .ref b1, x7])), (al, .inr (4, [.int mc, .ref (zk 0), .int 0]))] s.heap.size = A at hD hZ ⊢
  have hA : ∀ q : Nat, s.heap.size ≤ q → A q := fun q h => by rw [← hAe]; exact Or.inr h
  have hS : va_S A s.heap s.heap [] := va_S.rf
  have hz : s.heap.size + 0 ≤ s.heap.size := Nat.le_refl _
  have hl := lv_entry ([.ref xo, .int p0]) (n := 2) (Nat.le_of_ble_eq_true rfl)
  rw [lg_entry_eq]
  generalize (lg_sl ([.ref xo, .int p0]) ++ List.replicate (2 - (lg_sl ([.ref xo, .int p0])).length) Slot.unset).toArray = ls at hl ⊢
  have hl : lv_has ls 2 [(0, .ref xo), (1, .int p0)] := hl
  have hP : va_P (dC, dI) vwCl [(xo, .inr (6, [.ref al, x1, x2, x3, x4, x5, .ref b1, x7])), (al, .inr (4, [.int mc, .ref (zk 0), .int 0]))] s.heap := hP
  have hD : va_D A [(xo, .inr (6, [.ref al, x1, x2, x3, x4, x5, .ref b1, x7])), (al, .inr (4, [.int mc, .ref (zk 0), .int 0]))] := hD
  refine lv_aload_n hx hb dX1_kind_0 rfl (lv_at hl 0 rfl) ?_
  refine lv_iload_n hx hb dX1_kind_1 rfl (lv_at hl 1 rfl) ?_
  have hPc := hP.sub (ws' := [(xo, .inr (6, [.ref al, x1, x2, x3, x4, x5, .ref b1, x7])), (al, .inr (4, [.int mc, .ref (zk 0), .int 0]))]) [0, 1] rfl
  have hDc := hD.sub (ws' := [(xo, .inr (6, [.ref al, x1, x2, x3, x4, x5, .ref b1, x7])), (al, .inr (4, [.int mc, .ref (zk 0), .int 0]))]) [0, 1] (by decide) rfl
  have hFc := va_free (wc := [(xo, .inr (6, [.ref al, x1, x2, x3, x4, x5, .ref b1, x7])), (al, .inr (4, [.int mc, .ref (zk 0), .int 0]))]) hD hS hA [0, 1] rfl
  have hDv := hDc.self (sz := s.heap.size)
  have hpre := zpre (xs' := []) (av := [.ref xo, .int p0]) hPc hK (hDc.weaken (fun _ _ _ h => h)) hZ hS hFc (fun r hr => by cases hr)
  refine vx_callq (vx_runV (As := [.int p0]) (rest := []) ⟨hx, hb, hml, hown, hts⟩ (k_rowX l dC dI cI cB cR cO zk hfl xo al b1 x1 x2 x3 x4 x5 x7 mc p0 s.heap.size ) (cwV 1 hts gX1_kind_X1_rowOf rfl rfl rfl (by decide +kernel) ⟨(Nat.le_of_ble_eq_true rfl), (Nat.le_of_ble_eq_true rfl)⟩) ⟨zblind, (zrecv_6 hK hPc (q0 := 0) rfl), hpre⟩ rfl rfl hl.1 rfl (lv_room (Nat.le_of_ble_eq_true rfl)) dX1_kind_2 ⟨(Nat.le_of_ble_eq_true rfl), (Nat.le_of_ble_eq_true rfl)⟩) hS (fun q _ h => hFc q h) hFc (fun q _ h => hFc q h) (fun E9 ce q9 u t H1 locs ht hvm hu hB hz1 hk1 hS hcell hcv hcl => ?_) (fun _ _ _ _ _ _ _ hw9 _ _ _ _ => hw9.elim)
  obtain ⟨hE9, hP1, hK1, hD1, hz2⟩ := hB
  subst hE9
  rw [ht] at hP1 hz2
  have hPD9 := va_join (wr := []) (w1 := [(xo, .inr (6, [.ref al, x1, x2, x3, x4, x5, .ref b1, x7])), (al, .inr (4, [.int mc, .ref (zk 0), .int 0]))]) hP hD [0, 1] [] rfl rfl (by decide) (by decide) hk1 hFc hP1 hD1
  clear hPc hDc hFc hDv hpre hP hD hP1 hK1 hD1
  obtain ⟨hP, hD⟩ := hPD9
  replace hz : s.heap.size + 0 ≤ H1.size := by omega
  clear hz2
  replace hP : va_P (dC, dI) vwCl [(xo, .inr (6, [.ref al, x1, x2, x3, x4, x5, .ref b1, x7])), (al, .inr (4, [.int mc, .ref (zk 0), .int 0]))] H1 := hP
  replace hD : va_D A [(xo, .inr (6, [.ref al, x1, x2, x3, x4, x5, .ref b1, x7])), (al, .inr (4, [.int mc, .ref (zk 0), .int 0]))] := hD
  have hP9 := hP.sub (ws' := [(xo, .inr (6, [.ref al, x1, x2, x3, x4, x5, .ref b1, x7])), (al, .inr (4, [.int mc, .ref (zk 0), .int 0]))]) [0, 1] rfl
  have hD9 := hD.sub (ws' := [(xo, .inr (6, [.ref al, x1, x2, x3, x4, x5, .ref b1, x7])), (al, .inr (4, [.int mc, .ref (zk 0), .int 0]))]) [0, 1] (by decide) rfl
  exact vx_out (fun x hx9 => (hntab x hx9).elim) hlocks hcell hcv hcl (fun t ht hal => ⟨(), trivial, ⟨rfl, by rw [ht]; exact hP9, va_K.moved hal hK, hD9, by rw [ht]; exact hz⟩, hS.F ht⟩) hS.2.2 (Nat.le_of_ble_eq_true rfl) (Nat.le_of_ble_eq_true rfl)

set_option maxHeartbeats 4000000 in
set_option maxRecDepth 100000 in
theorem k_lengthX (l : Launch) (dC : Nat → ClassId) (dI : Nat → Nat → Nat) (cI cB cR cO : ClassId) (zk : Nat → Nat) (hfl : l.stackTraces = false) (xo al b1 : Nat) (x1 x2 x3 x4 x5 x7 : Value) (mc : Int32) (p0 : Int32) (sz : Nat)  : vx_Met l yX1_length wsX1_length ({ frames := 7, cells := 1, slots := 6, locals := 111 }) (va_Pc [.ref xo, .int p0] (zPre (dC, dI) (zT cI cB cR cO) zk [] [(xo, .inr (6, [.ref al, x1, x2, x3, x4, x5, .ref b1, x7])), (al, .inr (4, [.int mc, .ref (zk 0), .int 0]))] sz)) (va_Qi (fun (_ : Int32) (_ : Unit) => False) (fun _ _ => True) (va_A [(xo, .inr (6, [.ref al, x1, x2, x3, x4, x5, .ref b1, x7])), (al, .inr (4, [.int mc, .ref (zk 0), .int 0]))] sz)) (vx_X (fun _ : Unit => True) (fun E9 _ t => E9 = "java/lang/IndexOutOfBoundsException" ∧ zEnd (dC, dI) (zT cI cB cR cO) (va_A [(xo, .inr (6, [.ref al, x1, x2, x3, x4, x5, .ref b1, x7])), (al, .inr (4, [.int mc, .ref (zk 0), .int 0]))] sz) [(xo, .inr (6, [.ref al, x1, x2, x3, x4, x5, .ref b1, x7])), (al, .inr (4, [.int mc, .ref (zk 0), .int 0]))] sz 0 t) (va_A [(xo, .inr (6, [.ref al, x1, x2, x3, x4, x5, .ref b1, x7])), (al, .inr (4, [.int mc, .ref (zk 0), .int 0]))] sz)) 1 6 (va_A [(xo, .inr (6, [.ref al, x1, x2, x3, x4, x5, .ref b1, x7])), (al, .inr (4, [.int mc, .ref (zk 0), .int 0]))] sz) := by
  refine vx_ofW (cc := cX1_length) (maxL := 2) (ret := (some .int)) (by decide) rfl ?_
  intro p e s mY args below meth c s₁ B hml hntab hv
  obtain ⟨rfl, hsz, hP, hK, hD0, hZ⟩ := hv
  have hx := B.exec
  have hb := B.bytes
  have hr := B.returns
  have hts := atoms_spec (ws := wsX1_length) B.pre
  have hown : s.vm.findClass RX1 = some mY.cls := findClass_of_methodNamed B.named
  have hlocks := B.notSynchronized
  subst hsz
  have hD := hD0.self (sz := s.heap.size)
  generalize hAe : va_A [(xo, .inr (6, [.ref al, x1, x2, x3, x4, x5, .ref b1, x7])), (al, .inr (4, [.int mc, .ref (zk 0), .int 0]))] s.heap.size = A at hD hZ ⊢
  have hA : ∀ q : Nat, s.heap.size ≤ q → A q := fun q h => by rw [← hAe]; exact Or.inr h
  have hS : va_S A s.heap s.heap [] := va_S.rf
  have hz : s.heap.size + 0 ≤ s.heap.size := Nat.le_refl _
  have hl := lv_entry ([.ref xo, .int p0]) (n := 2) (Nat.le_of_ble_eq_true rfl)
  rw [lg_entry_eq]
  generalize (lg_sl ([.ref xo, .int p0]) ++ List.replicate (2 - (lg_sl ([.ref xo, .int p0])).length) Slot.unset).toArray = ls at hl ⊢
  have hl : lv_has ls 2 [(0, .ref xo), (1, .int p0)] := hl
  have hP : va_P (dC, dI) vwCl [(xo, .inr (6, [.ref al, x1, x2, x3, x4, x5, .ref b1, x7])), (al, .inr (4, [.int mc, .ref (zk 0), .int 0]))] s.heap := hP
  have hD : va_D A [(xo, .inr (6, [.ref al, x1, x2, x3, x4, x5, .ref b1, x7])), (al, .inr (4, [.int mc, .ref (zk 0), .int 0]))] := hD
  refine lv_aload_n hx hb dX1_length_0 rfl (lv_at hl 0 rfl) ?_
  refine lv_iload_n hx hb dX1_length_1 rfl (lv_at hl 1 rfl) ?_
  have hPc := hP.sub (ws' := [(xo, .inr (6, [.ref al, x1, x2, x3, x4, x5, .ref b1, x7])), (al, .inr (4, [.int mc, .ref (zk 0), .int 0]))]) [0, 1] rfl
  have hDc := hD.sub (ws' := [(xo, .inr (6, [.ref al, x1, x2, x3, x4, x5, .ref b1, x7])), (al, .inr (4, [.int mc, .ref (zk 0), .int 0]))]) [0, 1] (by decide) rfl
  have hFc := va_free (wc := [(xo, .inr (6, [.ref al, x1, x2, x3, x4, x5, .ref b1, x7])), (al, .inr (4, [.int mc, .ref (zk 0), .int 0]))]) hD hS hA [0, 1] rfl
  have hDv := hDc.self (sz := s.heap.size)
  have hpre := zpre (xs' := []) (av := [.ref xo, .int p0]) hPc hK (hDc.weaken (fun _ _ _ h => h)) hZ hS hFc (fun r hr => by cases hr)
  refine vx_callq (vx_runV (As := [.int p0]) (rest := []) ⟨hx, hb, hml, hown, hts⟩ (k_rowX l dC dI cI cB cR cO zk hfl xo al b1 x1 x2 x3 x4 x5 x7 mc p0 s.heap.size ) (cwV 1 hts gX1_length_X1_rowOf rfl rfl rfl (by decide +kernel) ⟨(Nat.le_of_ble_eq_true rfl), (Nat.le_of_ble_eq_true rfl)⟩) ⟨zblind, (zrecv_6 hK hPc (q0 := 0) rfl), hpre⟩ rfl rfl hl.1 rfl (lv_room (Nat.le_of_ble_eq_true rfl)) dX1_length_2 ⟨(Nat.le_of_ble_eq_true rfl), (Nat.le_of_ble_eq_true rfl)⟩) hS (fun q _ h => hFc q h) hFc (fun q _ h => hFc q h) (fun E9 ce q9 u t H1 locs ht hvm hu hB hz1 hk1 hS hcell hcv hcl => ?_) (fun _ _ _ _ _ _ _ hw9 _ _ _ _ => hw9.elim)
  obtain ⟨hE9, hP1, hK1, hD1, hz2⟩ := hB
  subst hE9
  rw [ht] at hP1 hz2
  have hPD9 := va_join (wr := []) (w1 := [(xo, .inr (6, [.ref al, x1, x2, x3, x4, x5, .ref b1, x7])), (al, .inr (4, [.int mc, .ref (zk 0), .int 0]))]) hP hD [0, 1] [] rfl rfl (by decide) (by decide) hk1 hFc hP1 hD1
  clear hPc hDc hFc hDv hpre hP hD hP1 hK1 hD1
  obtain ⟨hP, hD⟩ := hPD9
  replace hz : s.heap.size + 0 ≤ H1.size := by omega
  clear hz2
  replace hP : va_P (dC, dI) vwCl [(xo, .inr (6, [.ref al, x1, x2, x3, x4, x5, .ref b1, x7])), (al, .inr (4, [.int mc, .ref (zk 0), .int 0]))] H1 := hP
  replace hD : va_D A [(xo, .inr (6, [.ref al, x1, x2, x3, x4, x5, .ref b1, x7])), (al, .inr (4, [.int mc, .ref (zk 0), .int 0]))] := hD
  have hP9 := hP.sub (ws' := [(xo, .inr (6, [.ref al, x1, x2, x3, x4, x5, .ref b1, x7])), (al, .inr (4, [.int mc, .ref (zk 0), .int 0]))]) [0, 1] rfl
  have hD9 := hD.sub (ws' := [(xo, .inr (6, [.ref al, x1, x2, x3, x4, x5, .ref b1, x7])), (al, .inr (4, [.int mc, .ref (zk 0), .int 0]))]) [0, 1] (by decide) rfl
  exact vx_out (fun x hx9 => (hntab x hx9).elim) hlocks hcell hcv hcl (fun t ht hal => ⟨(), trivial, ⟨rfl, by rw [ht]; exact hP9, va_K.moved hal hK, hD9, by rw [ht]; exact hz⟩, hS.F ht⟩) hS.2.2 (Nat.le_of_ble_eq_true rfl) (Nat.le_of_ble_eq_true rfl)

set_option maxHeartbeats 4000000 in
set_option maxRecDepth 100000 in
theorem k_depthX (l : Launch) (dC : Nat → ClassId) (dI : Nat → Nat → Nat) (cI cB cR cO : ClassId) (zk : Nat → Nat) (hfl : l.stackTraces = false) (xo al b1 : Nat) (x1 x2 x3 x4 x5 x7 : Value) (mc : Int32) (p0 : Int32) (sz : Nat)  : vx_Met l yX1_depth wsX1_depth ({ frames := 7, cells := 1, slots := 6, locals := 111 }) (va_Pc [.ref xo, .int p0] (zPre (dC, dI) (zT cI cB cR cO) zk [] [(xo, .inr (6, [.ref al, x1, x2, x3, x4, x5, .ref b1, x7])), (al, .inr (4, [.int mc, .ref (zk 0), .int 0]))] sz)) (va_Qi (fun (_ : Int32) (_ : Unit) => False) (fun _ _ => True) (va_A [(xo, .inr (6, [.ref al, x1, x2, x3, x4, x5, .ref b1, x7])), (al, .inr (4, [.int mc, .ref (zk 0), .int 0]))] sz)) (vx_X (fun _ : Unit => True) (fun E9 _ t => E9 = "java/lang/IndexOutOfBoundsException" ∧ zEnd (dC, dI) (zT cI cB cR cO) (va_A [(xo, .inr (6, [.ref al, x1, x2, x3, x4, x5, .ref b1, x7])), (al, .inr (4, [.int mc, .ref (zk 0), .int 0]))] sz) [(xo, .inr (6, [.ref al, x1, x2, x3, x4, x5, .ref b1, x7])), (al, .inr (4, [.int mc, .ref (zk 0), .int 0]))] sz 0 t) (va_A [(xo, .inr (6, [.ref al, x1, x2, x3, x4, x5, .ref b1, x7])), (al, .inr (4, [.int mc, .ref (zk 0), .int 0]))] sz)) 1 6 (va_A [(xo, .inr (6, [.ref al, x1, x2, x3, x4, x5, .ref b1, x7])), (al, .inr (4, [.int mc, .ref (zk 0), .int 0]))] sz) := by
  refine vx_ofW (cc := cX1_depth) (maxL := 2) (ret := (some .int)) (by decide) rfl ?_
  intro p e s mY args below meth c s₁ B hml hntab hv
  obtain ⟨rfl, hsz, hP, hK, hD0, hZ⟩ := hv
  have hx := B.exec
  have hb := B.bytes
  have hr := B.returns
  have hts := atoms_spec (ws := wsX1_depth) B.pre
  have hown : s.vm.findClass RX1 = some mY.cls := findClass_of_methodNamed B.named
  have hlocks := B.notSynchronized
  subst hsz
  have hD := hD0.self (sz := s.heap.size)
  generalize hAe : va_A [(xo, .inr (6, [.ref al, x1, x2, x3, x4, x5, .ref b1, x7])), (al, .inr (4, [.int mc, .ref (zk 0), .int 0]))] s.heap.size = A at hD hZ ⊢
  have hA : ∀ q : Nat, s.heap.size ≤ q → A q := fun q h => by rw [← hAe]; exact Or.inr h
  have hS : va_S A s.heap s.heap [] := va_S.rf
  have hz : s.heap.size + 0 ≤ s.heap.size := Nat.le_refl _
  have hl := lv_entry ([.ref xo, .int p0]) (n := 2) (Nat.le_of_ble_eq_true rfl)
  rw [lg_entry_eq]
  generalize (lg_sl ([.ref xo, .int p0]) ++ List.replicate (2 - (lg_sl ([.ref xo, .int p0])).length) Slot.unset).toArray = ls at hl ⊢
  have hl : lv_has ls 2 [(0, .ref xo), (1, .int p0)] := hl
  have hP : va_P (dC, dI) vwCl [(xo, .inr (6, [.ref al, x1, x2, x3, x4, x5, .ref b1, x7])), (al, .inr (4, [.int mc, .ref (zk 0), .int 0]))] s.heap := hP
  have hD : va_D A [(xo, .inr (6, [.ref al, x1, x2, x3, x4, x5, .ref b1, x7])), (al, .inr (4, [.int mc, .ref (zk 0), .int 0]))] := hD
  refine lv_aload_n hx hb dX1_depth_0 rfl (lv_at hl 0 rfl) ?_
  refine lv_iload_n hx hb dX1_depth_1 rfl (lv_at hl 1 rfl) ?_
  have hPc := hP.sub (ws' := [(xo, .inr (6, [.ref al, x1, x2, x3, x4, x5, .ref b1, x7])), (al, .inr (4, [.int mc, .ref (zk 0), .int 0]))]) [0, 1] rfl
  have hDc := hD.sub (ws' := [(xo, .inr (6, [.ref al, x1, x2, x3, x4, x5, .ref b1, x7])), (al, .inr (4, [.int mc, .ref (zk 0), .int 0]))]) [0, 1] (by decide) rfl
  have hFc := va_free (wc := [(xo, .inr (6, [.ref al, x1, x2, x3, x4, x5, .ref b1, x7])), (al, .inr (4, [.int mc, .ref (zk 0), .int 0]))]) hD hS hA [0, 1] rfl
  have hDv := hDc.self (sz := s.heap.size)
  have hpre := zpre (xs' := []) (av := [.ref xo, .int p0]) hPc hK (hDc.weaken (fun _ _ _ h => h)) hZ hS hFc (fun r hr => by cases hr)
  refine vx_callq (vx_runV (As := [.int p0]) (rest := []) ⟨hx, hb, hml, hown, hts⟩ (k_rowX l dC dI cI cB cR cO zk hfl xo al b1 x1 x2 x3 x4 x5 x7 mc p0 s.heap.size ) (cwV 1 hts gX1_depth_X1_rowOf rfl rfl rfl (by decide +kernel) ⟨(Nat.le_of_ble_eq_true rfl), (Nat.le_of_ble_eq_true rfl)⟩) ⟨zblind, (zrecv_6 hK hPc (q0 := 0) rfl), hpre⟩ rfl rfl hl.1 rfl (lv_room (Nat.le_of_ble_eq_true rfl)) dX1_depth_2 ⟨(Nat.le_of_ble_eq_true rfl), (Nat.le_of_ble_eq_true rfl)⟩) hS (fun q _ h => hFc q h) hFc (fun q _ h => hFc q h) (fun E9 ce q9 u t H1 locs ht hvm hu hB hz1 hk1 hS hcell hcv hcl => ?_) (fun _ _ _ _ _ _ _ hw9 _ _ _ _ => hw9.elim)
  obtain ⟨hE9, hP1, hK1, hD1, hz2⟩ := hB
  subst hE9
  rw [ht] at hP1 hz2
  have hPD9 := va_join (wr := []) (w1 := [(xo, .inr (6, [.ref al, x1, x2, x3, x4, x5, .ref b1, x7])), (al, .inr (4, [.int mc, .ref (zk 0), .int 0]))]) hP hD [0, 1] [] rfl rfl (by decide) (by decide) hk1 hFc hP1 hD1
  clear hPc hDc hFc hDv hpre hP hD hP1 hK1 hD1
  obtain ⟨hP, hD⟩ := hPD9
  replace hz : s.heap.size + 0 ≤ H1.size := by omega
  clear hz2
  replace hP : va_P (dC, dI) vwCl [(xo, .inr (6, [.ref al, x1, x2, x3, x4, x5, .ref b1, x7])), (al, .inr (4, [.int mc, .ref (zk 0), .int 0]))] H1 := hP
  replace hD : va_D A [(xo, .inr (6, [.ref al, x1, x2, x3, x4, x5, .ref b1, x7])), (al, .inr (4, [.int mc, .ref (zk 0), .int 0]))] := hD
  have hP9 := hP.sub (ws' := [(xo, .inr (6, [.ref al, x1, x2, x3, x4, x5, .ref b1, x7])), (al, .inr (4, [.int mc, .ref (zk 0), .int 0]))]) [0, 1] rfl
  have hD9 := hD.sub (ws' := [(xo, .inr (6, [.ref al, x1, x2, x3, x4, x5, .ref b1, x7])), (al, .inr (4, [.int mc, .ref (zk 0), .int 0]))]) [0, 1] (by decide) rfl
  exact vx_out (fun x hx9 => (hntab x hx9).elim) hlocks hcell hcv hcl (fun t ht hal => ⟨(), trivial, ⟨rfl, by rw [ht]; exact hP9, va_K.moved hal hK, hD9, by rw [ht]; exact hz⟩, hS.F ht⟩) hS.2.2 (Nat.le_of_ble_eq_true rfl) (Nat.le_of_ble_eq_true rfl)

set_option maxHeartbeats 4000000 in
set_option maxRecDepth 100000 in
theorem k_whatX (l : Launch) (dC : Nat → ClassId) (dI : Nat → Nat → Nat) (cI cB cR cO : ClassId) (zk : Nat → Nat) (hfl : l.stackTraces = false) (xo al b1 : Nat) (x1 x2 x3 x4 x5 x7 : Value) (mc : Int32) (p0 p1 : Int32) (sz : Nat)  : vx_Met l yX1_what wsX1_what ({ frames := 7, cells := 1, slots := 6, locals := 111 }) (va_Pc [.ref xo, .int p0, .int p1] (zPre (dC, dI) (zT cI cB cR cO) zk [] [(xo, .inr (6, [.ref al, x1, x2, x3, x4, x5, .ref b1, x7])), (al, .inr (4, [.int mc, .ref (zk 0), .int 0]))] sz)) (va_Qi (fun (_ : Int32) (_ : Unit) => False) (fun _ _ => True) (va_A [(xo, .inr (6, [.ref al, x1, x2, x3, x4, x5, .ref b1, x7])), (al, .inr (4, [.int mc, .ref (zk 0), .int 0]))] sz)) (vx_X (fun _ : Unit => True) (fun E9 _ t => E9 = "java/lang/IndexOutOfBoundsException" ∧ zEnd (dC, dI) (zT cI cB cR cO) (va_A [(xo, .inr (6, [.ref al, x1, x2, x3, x4, x5, .ref b1, x7])), (al, .inr (4, [.int mc, .ref (zk 0), .int 0]))] sz) [(xo, .inr (6, [.ref al, x1, x2, x3, x4, x5, .ref b1, x7])), (al, .inr (4, [.int mc, .ref (zk 0), .int 0]))] sz 0 t) (va_A [(xo, .inr (6, [.ref al, x1, x2, x3, x4, x5, .ref b1, x7])), (al, .inr (4, [.int mc, .ref (zk 0), .int 0]))] sz)) 1 6 (va_A [(xo, .inr (6, [.ref al, x1, x2, x3, x4, x5, .ref b1, x7])), (al, .inr (4, [.int mc, .ref (zk 0), .int 0]))] sz) := by
  refine vx_ofW (cc := cX1_what) (maxL := 4) (ret := (some .int)) (by decide) rfl ?_
  intro p e s mY args below meth c s₁ B hml hntab hv
  obtain ⟨rfl, hsz, hP, hK, hD0, hZ⟩ := hv
  have hx := B.exec
  have hb := B.bytes
  have hr := B.returns
  have hts := atoms_spec (ws := wsX1_what) B.pre
  have hown : s.vm.findClass RX1 = some mY.cls := findClass_of_methodNamed B.named
  have hlocks := B.notSynchronized
  subst hsz
  have hD := hD0.self (sz := s.heap.size)
  generalize hAe : va_A [(xo, .inr (6, [.ref al, x1, x2, x3, x4, x5, .ref b1, x7])), (al, .inr (4, [.int mc, .ref (zk 0), .int 0]))] s.heap.size = A at hD hZ ⊢
  have hA : ∀ q : Nat, s.heap.size ≤ q → A q := fun q h => by rw [← hAe]; exact Or.inr h
  have hS : va_S A s.heap s.heap [] := va_S.rf
  have hz : s.heap.size + 0 ≤ s.heap.size := Nat.le_refl _
  have hl := lv_entry ([.ref xo, .int p0, .int p1]) (n := 4) (Nat.le_of_ble_eq_true rfl)
  rw [lg_entry_eq]
  generalize (lg_sl ([.ref xo, .int p0, .int p1]) ++ List.replicate (4 - (lg_sl ([.ref xo, .int p0, .int p1])).length) Slot.unset).toArray = ls at hl ⊢
  have hl : lv_has ls 4 [(0, .ref xo), (1, .int p0), (2, .int p1)] := hl
  have hP : va_P (dC, dI) vwCl [(xo, .inr (6, [.ref al, x1, x2, x3, x4, x5, .ref b1, x7])), (al, .inr (4, [.int mc, .ref (zk 0), .int 0]))] s.heap := hP
  have hD : va_D A [(xo, .inr (6, [.ref al, x1, x2, x3, x4, x5, .ref b1, x7])), (al, .inr (4, [.int mc, .ref (zk 0), .int 0]))] := hD
  refine lv_aload_n hx hb dX1_what_0 rfl (lv_at hl 0 rfl) ?_
  refine lv_iload_n hx hb dX1_what_1 rfl (lv_at hl 1 rfl) ?_
  have hPc := hP.sub (ws' := [(xo, .inr (6, [.ref al, x1, x2, x3, x4, x5, .ref b1, x7])), (al, .inr (4, [.int mc, .ref (zk 0), .int 0]))]) [0, 1] rfl
  have hDc := hD.sub (ws' := [(xo, .inr (6, [.ref al, x1, x2, x3, x4, x5, .ref b1, x7])), (al, .inr (4, [.int mc, .ref (zk 0), .int 0]))]) [0, 1] (by decide) rfl
  have hFc := va_free (wc := [(xo, .inr (6, [.ref al, x1, x2, x3, x4, x5, .ref b1, x7])), (al, .inr (4, [.int mc, .ref (zk 0), .int 0]))]) hD hS hA [0, 1] rfl
  have hDv := hDc.self (sz := s.heap.size)
  have hpre := zpre (xs' := []) (av := [.ref xo, .int p0]) hPc hK (hDc.weaken (fun _ _ _ h => h)) hZ hS hFc (fun r hr => by cases hr)
  refine vx_callq (vx_runV (As := [.int p0]) (rest := []) ⟨hx, hb, hml, hown, hts⟩ (k_rowX l dC dI cI cB cR cO zk hfl xo al b1 x1 x2 x3 x4 x5 x7 mc p0 s.heap.size ) (cwV 1 hts gX1_what_X1_rowOf rfl rfl rfl (by decide +kernel) ⟨(Nat.le_of_ble_eq_true rfl), (Nat.le_of_ble_eq_true rfl)⟩) ⟨zblind, (zrecv_6 hK hPc (q0 := 0) rfl), hpre⟩ rfl rfl hl.1 rfl (lv_room (Nat.le_of_ble_eq_true rfl)) dX1_what_2 ⟨(Nat.le_of_ble_eq_true rfl), (Nat.le_of_ble_eq_true rfl)⟩) hS (fun q _ h => hFc q h) hFc (fun q _ h => hFc q h) (fun E9 ce q9 u t H1 locs ht hvm hu hB hz1 hk1 hS hcell hcv hcl => ?_) (fun _ _ _ _ _ _ _ hw9 _ _ _ _ => hw9.elim)
  obtain ⟨hE9, hP1, hK1, hD1, hz2⟩ := hB
  subst hE9
  rw [ht] at hP1 hz2
  have hPD9 := va_join (wr := []) (w1 := [(xo, .inr (6, [.ref al, x1, x2, x3, x4, x5, .ref b1, x7])), (al, .inr (4, [.int mc, .ref (zk 0), .int 0]))]) hP hD [0, 1] [] rfl rfl (by decide) (by decide) hk1 hFc hP1 hD1
  clear hPc hDc hFc hDv hpre hP hD hP1 hK1 hD1
  obtain ⟨hP, hD⟩ := hPD9
  replace hz : s.heap.size + 0 ≤ H1.size := by omega
  clear hz2
  replace hP : va_P (dC, dI) vwCl [(xo, .inr (6, [.ref al, x1, x2, x3, x4, x5, .ref b1, x7])), (al, .inr (4, [.int mc, .ref (zk 0), .int 0]))] H1 := hP
  replace hD : va_D A [(xo, .inr (6, [.ref al, x1, x2, x3, x4, x5, .ref b1, x7])), (al, .inr (4, [.int mc, .ref (zk 0), .int 0]))] := hD
  have hP9 := hP.sub (ws' := [(xo, .inr (6, [.ref al, x1, x2, x3, x4, x5, .ref b1, x7])), (al, .inr (4, [.int mc, .ref (zk 0), .int 0]))]) [0, 1] rfl
  have hD9 := hD.sub (ws' := [(xo, .inr (6, [.ref al, x1, x2, x3, x4, x5, .ref b1, x7])), (al, .inr (4, [.int mc, .ref (zk 0), .int 0]))]) [0, 1] (by decide) rfl
  exact vx_out (fun x hx9 => (hntab x hx9).elim) hlocks hcell hcv hcl (fun t ht hal => ⟨(), trivial, ⟨rfl, by rw [ht]; exact hP9, va_K.moved hal hK, hD9, by rw [ht]; exact hz⟩, hS.F ht⟩) hS.2.2 (Nat.le_of_ble_eq_true rfl) (Nat.le_of_ble_eq_true rfl)

set_option maxHeartbeats 4000000 in
set_option maxRecDepth 100000 in
theorem k_atX (l : Launch) (dC : Nat → ClassId) (dI : Nat → Nat → Nat) (cI cB cR cO : ClassId) (zk : Nat → Nat) (hfl : l.stackTraces = false) (xo al b1 : Nat) (x1 x2 x3 x4 x5 x7 : Value) (mc : Int32) (p0 p1 : Int32) (sz : Nat)  : vx_Met l yX1_at wsX1_at ({ frames := 7, cells := 1, slots := 6, locals := 111 }) (va_Pc [.ref xo, .int p0, .int p1] (zPre (dC, dI) (zT cI cB cR cO) zk [] [(xo, .inr (6, [.ref al, x1, x2, x3, x4, x5, .ref b1, x7])), (al, .inr (4, [.int mc, .ref (zk 0), .int 0]))] sz)) (va_Qi (fun (_ : Int32) (_ : Unit) => False) (fun _ _ => True) (va_A [(xo, .inr (6, [.ref al, x1, x2, x3, x4, x5, .ref b1, x7])), (al, .inr (4, [.int mc, .ref (zk 0), .int 0]))] sz)) (vx_X (fun _ : Unit => True) (fun E9 _ t => E9 = "java/lang/IndexOutOfBoundsException" ∧ zEnd (dC, dI) (zT cI cB cR cO) (va_A [(xo, .inr (6, [.ref al, x1, x2, x3, x4, x5, .ref b1, x7])), (al, .inr (4, [.int mc, .ref (zk 0), .int 0]))] sz) [(xo, .inr (6, [.ref al, x1, x2, x3, x4, x5, .ref b1, x7])), (al, .inr (4, [.int mc, .ref (zk 0), .int 0]))] sz 0 t) (va_A [(xo, .inr (6, [.ref al, x1, x2, x3, x4, x5, .ref b1, x7])), (al, .inr (4, [.int mc, .ref (zk 0), .int 0]))] sz)) 1 6 (va_A [(xo, .inr (6, [.ref al, x1, x2, x3, x4, x5, .ref b1, x7])), (al, .inr (4, [.int mc, .ref (zk 0), .int 0]))] sz) := by
  refine vx_ofW (cc := cX1_at) (maxL := 5) (ret := (some .int)) (by decide) rfl ?_
  intro p e s mY args below meth c s₁ B hml hntab hv
  obtain ⟨rfl, hsz, hP, hK, hD0, hZ⟩ := hv
  have hx := B.exec
  have hb := B.bytes
  have hr := B.returns
  have hts := atoms_spec (ws := wsX1_at) B.pre
  have hown : s.vm.findClass RX1 = some mY.cls := findClass_of_methodNamed B.named
  have hlocks := B.notSynchronized
  subst hsz
  have hD := hD0.self (sz := s.heap.size)
  generalize hAe : va_A [(xo, .inr (6, [.ref al, x1, x2, x3, x4, x5, .ref b1, x7])), (al, .inr (4, [.int mc, .ref (zk 0), .int 0]))] s.heap.size = A at hD hZ ⊢
  have hA : ∀ q : Nat, s.heap.size ≤ q → A q := fun q h => by rw [← hAe]; exact Or.inr h
  have hS : va_S A s.heap s.heap [] := va_S.rf
  have hz : s.heap.size + 0 ≤ s.heap.size := Nat.le_refl _
  have hl := lv_entry ([.ref xo, .int p0, .int p1]) (n := 5) (Nat.le_of_ble_eq_true rfl)
  rw [lg_entry_eq]
  generalize (lg_sl ([.ref xo, .int p0, .int p1]) ++ List.replicate (5 - (lg_sl ([.ref xo, .int p0, .int p1])).length) Slot.unset).toArray = ls at hl ⊢
  have hl : lv_has ls 5 [(0, .ref xo), (1, .int p0), (2, .int p1)] := hl
  have hP : va_P (dC, dI) vwCl [(xo, .inr (6, [.ref al, x1, x2, x3, x4, x5, .ref b1, x7])), (al, .inr (4, [.int mc, .ref (zk 0), .int 0]))] s.heap := hP
  have hD : va_D A [(xo, .inr (6, [.ref al, x1, x2, x3, x4, x5, .ref b1, x7])), (al, .inr (4, [.int mc, .ref (zk 0), .int 0]))] := hD
  refine lv_aload_n hx hb dX1_at_0 rfl (lv_at hl 0 rfl) ?_
  refine lv_iload_n hx hb dX1_at_1 rfl (lv_at hl 1 rfl) ?_
  have hPc := hP.sub (ws' := [(xo, .inr (6, [.ref al, x1, x2, x3, x4, x5, .ref b1, x7])), (al, .inr (4, [.int mc, .ref (zk 0), .int 0]))]) [0, 1] rfl
  have hDc := hD.sub (ws' := [(xo, .inr (6, [.ref al, x1, x2, x3, x4, x5, .ref b1, x7])), (al, .inr (4, [.int mc, .ref (zk 0), .int 0]))]) [0, 1] (by decide) rfl
  have hFc := va_free (wc := [(xo, .inr (6, [.ref al, x1, x2, x3, x4, x5, .ref b1, x7])), (al, .inr (4, [.int mc, .ref (zk 0), .int 0]))]) hD hS hA [0, 1] rfl
  have hDv := hDc.self (sz := s.heap.size)
  have hpre := zpre (xs' := []) (av := [.ref xo, .int p0]) hPc hK (hDc.weaken (fun _ _ _ h => h)) hZ hS hFc (fun r hr => by cases hr)
  refine vx_callq (vx_runV (As := [.int p0]) (rest := []) ⟨hx, hb, hml, hown, hts⟩ (k_rowX l dC dI cI cB cR cO zk hfl xo al b1 x1 x2 x3 x4 x5 x7 mc p0 s.heap.size ) (cwV 1 hts gX1_at_X1_rowOf rfl rfl rfl (by decide +kernel) ⟨(Nat.le_of_ble_eq_true rfl), (Nat.le_of_ble_eq_true rfl)⟩) ⟨zblind, (zrecv_6 hK hPc (q0 := 0) rfl), hpre⟩ rfl rfl hl.1 rfl (lv_room (Nat.le_of_ble_eq_true rfl)) dX1_at_2 ⟨(Nat.le_of_ble_eq_true rfl), (Nat.le_of_ble_eq_true rfl)⟩) hS (fun q _ h => hFc q h) hFc (fun q _ h => hFc q h) (fun E9 ce q9 u t H1 locs ht hvm hu hB hz1 hk1 hS hcell hcv hcl => ?_) (fun _ _ _ _ _ _ _ hw9 _ _ _ _ => hw9.elim)
  obtain ⟨hE9, hP1, hK1, hD1, hz2⟩ := hB
  subst hE9
  rw [ht] at hP1 hz2
  have hPD9 := va_join (wr := []) (w1 := [(xo, .inr (6, [.ref al, x1, x2, x3, x4, x5, .ref b1, x7])), (al, .inr (4, [.int mc, .ref (zk 0), .int 0]))]) hP hD [0, 1] [] rfl rfl (by decide) (by decide) hk1 hFc hP1 hD1
  clear hPc hDc hFc hDv hpre hP hD hP1 hK1 hD1
  obtain ⟨hP, hD⟩ := hPD9
  replace hz : s.heap.size + 0 ≤ H1.size := by omega
  clear hz2
  replace hP : va_P (dC, dI) vwCl [(xo, .inr (6, [.ref al, x1, x2, x3, x4, x5, .ref b1, x7])), (al, .inr (4, [.int mc, .ref (zk 0), .int 0]))] H1 := hP
  replace hD : va_D A [(xo, .inr (6, [.ref al, x1, x2, x3, x4, x5, .ref b1, x7])), (al, .inr (4, [.int mc, .ref (zk 0), .int 0]))] := hD
  have hP9 := hP.sub (ws' := [(xo, .inr (6, [.ref al, x1, x2, x3, x4, x5, .ref b1, x7])), (al, .inr (4, [.int mc, .ref (zk 0), .int 0]))]) [0, 1] rfl
  have hD9 := hD.sub (ws' := [(xo, .inr (6, [.ref al, x1, x2, x3, x4, x5, .ref b1, x7])), (al, .inr (4, [.int mc, .ref (zk 0), .int 0]))]) [0, 1] (by decide) rfl
  exact vx_out (fun x hx9 => (hntab x hx9).elim) hlocks hcell hcv hcl (fun t ht hal => ⟨(), trivial, ⟨rfl, by rw [ht]; exact hP9, va_K.moved hal hK, hD9, by rw [ht]; exact hz⟩, hS.F ht⟩) hS.2.2 (Nat.le_of_ble_eq_true rfl) (Nat.le_of_ble_eq_true rfl)

set_option maxHeartbeats 4000000 in
set_option maxRecDepth 100000 in
theorem k_isDeepX (l : Launch) (dC : Nat → ClassId) (dI : Nat → Nat → Nat) (cI cB cR cO : ClassId) (zk : Nat → Nat) (hfl : l.stackTraces = false) (xo al b1 : Nat) (x1 x2 x3 x4 x5 x7 : Value) (mc : Int32) (p0 p1 : Int32) (sz : Nat)  : vx_Met l yX1_isDeep wsX1_isDeep ({ frames := 7, cells := 1, slots := 6, locals := 111 }) (va_Pc [.ref xo, .int p0, .int p1] (zPre (dC, dI) (zT cI cB cR cO) zk [] [(xo, .inr (6, [.ref al, x1, x2, x3, x4, x5, .ref b1, x7])), (al, .inr (4, [.int mc, .ref (zk 0), .int 0]))] sz)) (va_Qi (fun (_ : Int32) (_ : Unit) => False) (fun _ _ => True) (va_A [(xo, .inr (6, [.ref al, x1, x2, x3, x4, x5, .ref b1, x7])), (al, .inr (4, [.int mc, .ref (zk 0), .int 0]))] sz)) (vx_X (fun _ : Unit => True) (fun E9 _ t => E9 = "java/lang/IndexOutOfBoundsException" ∧ zEnd (dC, dI) (zT cI cB cR cO) (va_A [(xo, .inr (6, [.ref al, x1, x2, x3, x4, x5, .ref b1, x7])), (al, .inr (4, [.int mc, .ref (zk 0), .int 0]))] sz) [(xo, .inr (6, [.ref al, x1, x2, x3, x4, x5, .ref b1, x7])), (al, .inr (4, [.int mc, .ref (zk 0), .int 0]))] sz 0 t) (va_A [(xo, .inr (6, [.ref al, x1, x2, x3, x4, x5, .ref b1, x7])), (al, .inr (4, [.int mc, .ref (zk 0), .int 0]))] sz)) 1 6 (va_A [(xo, .inr (6, [.ref al, x1, x2, x3, x4, x5, .ref b1, x7])), (al, .inr (4, [.int mc, .ref (zk 0), .int 0]))] sz) := by
  refine vx_ofW (cc := cX1_isDeep) (maxL := 3) (ret := (some .boolean)) (by decide) rfl ?_
  intro p e s mY args below meth c s₁ B hml hntab hv
  obtain ⟨rfl, hsz, hP, hK, hD0, hZ⟩ := hv
  have hx := B.exec
  have hb := B.bytes
  have hr := B.returns
  have hts := atoms_spec (ws := wsX1_isDeep) B.pre
  have hown : s.vm.findClass RX1 = some mY.cls := findClass_of_methodNamed B.named
  have hlocks := B.notSynchronized
  subst hsz
  have hD := hD0.self (sz := s.heap.size)
  generalize hAe : va_A [(xo, .inr (6, [.ref al, x1, x2, x3, x4, x5, .ref b1, x7])), (al, .inr (4, [.int mc, .ref (zk 0), .int 0]))] s.heap.size = A at hD hZ ⊢
  have hA : ∀ q : Nat, s.heap.size ≤ q → A q := fun q h => by rw [← hAe]; exact Or.inr h
  have hS : va_S A s.heap s.heap [] := va_S.rf
  have hz : s.heap.size + 0 ≤ s.heap.size := Nat.le_refl _
  have hl := lv_entry ([.ref xo, .int p0, .int p1]) (n := 3) (Nat.le_of_ble_eq_true rfl)
  rw [lg_entry_eq]
  generalize (lg_sl ([.ref xo, .int p0, .int p1]) ++ List.replicate (3 - (lg_sl ([.ref xo, .int p0, .int p1])).length) Slot.unset).toArray = ls at hl ⊢
  have hl : lv_has ls 3 [(0, .ref xo), (1, .int p0), (2, .int p1)] := hl
  have hP : va_P (dC, dI) vwCl [(xo, .inr (6, [.ref al, x1, x2, x3, x4, x5, .ref b1, x7])), (al, .inr (4, [.int mc, .ref (zk 0), .int 0]))] s.heap := hP
  have hD : va_D A [(xo, .inr (6, [.ref al, x1, x2, x3, x4, x5, .ref b1, x7])), (al, .inr (4, [.int mc, .ref (zk 0), .int 0]))] := hD
  refine lv_aload_n hx hb dX1_isDeep_0 rfl (lv_at hl 0 rfl) ?_
  refine lv_iload_n hx hb dX1_isDeep_1 rfl (lv_at hl 1 rfl) ?_
  have hPc := hP.sub (ws' := [(xo, .inr (6, [.ref al, x1, x2, x3, x4, x5, .ref b1, x7])), (al, .inr (4, [.int mc, .ref (zk 0), .int 0]))]) [0, 1] rfl
  have hDc := hD.sub (ws' := [(xo, .inr (6, [.ref al, x1, x2, x3, x4, x5, .ref b1, x7])), (al, .inr (4, [.int mc, .ref (zk 0), .int 0]))]) [0, 1] (by decide) rfl
  have hFc := va_free (wc := [(xo, .inr (6, [.ref al, x1, x2, x3, x4, x5, .ref b1, x7])), (al, .inr (4, [.int mc, .ref (zk 0), .int 0]))]) hD hS hA [0, 1] rfl
  have hDv := hDc.self (sz := s.heap.size)
  have hpre := zpre (xs' := []) (av := [.ref xo, .int p0]) hPc hK (hDc.weaken (fun _ _ _ h => h)) hZ hS hFc (fun r hr => by cases hr)
  refine vx_callq (vx_runV (As := [.int p0]) (rest := []) ⟨hx, hb, hml, hown, hts⟩ (k_rowX l dC dI cI cB cR cO zk hfl xo al b1 x1 x2 x3 x4 x5 x7 mc p0 s.heap.size ) (cwV 1 hts gX1_isDeep_X1_rowOf rfl rfl rfl (by decide +kernel) ⟨(Nat.le_of_ble_eq_true rfl), (Nat.le_of_ble_eq_true rfl)⟩) ⟨zblind, (zrecv_6 hK hPc (q0 := 0) rfl), hpre⟩ rfl rfl hl.1 rfl (lv_room (Nat.le_of_ble_eq_true rfl)) dX1_isDeep_2 ⟨(Nat.le_of_ble_eq_true rfl), (Nat.le_of_ble_eq_true rfl)⟩) hS (fun q _ h => hFc q h) hFc (fun q _ h => hFc q h) (fun E9 ce q9 u t H1 locs ht hvm hu hB hz1 hk1 hS hcell hcv hcl => ?_) (fun _ _ _ _ _ _ _ hw9 _ _ _ _ => hw9.elim)
  obtain ⟨hE9, hP1, hK1, hD1, hz2⟩ := hB
  subst hE9
  rw [ht] at hP1 hz2
  have hPD9 := va_join (wr := []) (w1 := [(xo, .inr (6, [.ref al, x1, x2, x3, x4, x5, .ref b1, x7])), (al, .inr (4, [.int mc, .ref (zk 0), .int 0]))]) hP hD [0, 1] [] rfl rfl (by decide) (by decide) hk1 hFc hP1 hD1
  clear hPc hDc hFc hDv hpre hP hD hP1 hK1 hD1
  obtain ⟨hP, hD⟩ := hPD9
  replace hz : s.heap.size + 0 ≤ H1.size := by omega
  clear hz2
  replace hP : va_P (dC, dI) vwCl [(xo, .inr (6, [.ref al, x1, x2, x3, x4, x5, .ref b1, x7])), (al, .inr (4, [.int mc, .ref (zk 0), .int 0]))] H1 := hP
  replace hD : va_D A [(xo, .inr (6, [.ref al, x1, x2, x3, x4, x5, .ref b1, x7])), (al, .inr (4, [.int mc, .ref (zk 0), .int 0]))] := hD
  have hP9 := hP.sub (ws' := [(xo, .inr (6, [.ref al, x1, x2, x3, x4, x5, .ref b1, x7])), (al, .inr (4, [.int mc, .ref (zk 0), .int 0]))]) [0, 1] rfl
  have hD9 := hD.sub (ws' := [(xo, .inr (6, [.ref al, x1, x2, x3, x4, x5, .ref b1, x7])), (al, .inr (4, [.int mc, .ref (zk 0), .int 0]))]) [0, 1] (by decide) rfl
  exact vx_out (fun x hx9 => (hntab x hx9).elim) hlocks hcell hcv hcl (fun t ht hal => ⟨(), trivial, ⟨rfl, by rw [ht]; exact hP9, va_K.moved hal hK, hD9, by rw [ht]; exact hz⟩, hS.F ht⟩) hS.2.2 (Nat.le_of_ble_eq_true rfl) (Nat.le_of_ble_eq_true rfl)

set_option maxHeartbeats 4000000 in
set_option maxRecDepth 100000 in
theorem k_isFlatX (l : Launch) (dC : Nat → ClassId) (dI : Nat → Nat → Nat) (cI cB cR cO : ClassId) (zk : Nat → Nat) (hfl : l.stackTraces = false) (xo al b1 : Nat) (x1 x2 x3 x4 x5 x7 : Value) (mc : Int32) (p0 p1 : Int32) (sz : Nat)  : vx_Met l yX1_isFlat wsX1_isFlat ({ frames := 7, cells := 1, slots := 6, locals := 111 }) (va_Pc [.ref xo, .int p0, .int p1] (zPre (dC, dI) (zT cI cB cR cO) zk [] [(xo, .inr (6, [.ref al, x1, x2, x3, x4, x5, .ref b1, x7])), (al, .inr (4, [.int mc, .ref (zk 0), .int 0]))] sz)) (va_Qi (fun (_ : Int32) (_ : Unit) => False) (fun _ _ => True) (va_A [(xo, .inr (6, [.ref al, x1, x2, x3, x4, x5, .ref b1, x7])), (al, .inr (4, [.int mc, .ref (zk 0), .int 0]))] sz)) (vx_X (fun _ : Unit => True) (fun E9 _ t => E9 = "java/lang/IndexOutOfBoundsException" ∧ zEnd (dC, dI) (zT cI cB cR cO) (va_A [(xo, .inr (6, [.ref al, x1, x2, x3, x4, x5, .ref b1, x7])), (al, .inr (4, [.int mc, .ref (zk 0), .int 0]))] sz) [(xo, .inr (6, [.ref al, x1, x2, x3, x4, x5, .ref b1, x7])), (al, .inr (4, [.int mc, .ref (zk 0), .int 0]))] sz 0 t) (va_A [(xo, .inr (6, [.ref al, x1, x2, x3, x4, x5, .ref b1, x7])), (al, .inr (4, [.int mc, .ref (zk 0), .int 0]))] sz)) 1 6 (va_A [(xo, .inr (6, [.ref al, x1, x2, x3, x4, x5, .ref b1, x7])), (al, .inr (4, [.int mc, .ref (zk 0), .int 0]))] sz) := by
  refine vx_ofW (cc := cX1_isFlat) (maxL := 5) (ret := (some .boolean)) (by decide) rfl ?_
  intro p e s mY args below meth c s₁ B hml hntab hv
  obtain ⟨rfl, hsz, hP, hK, hD0, hZ⟩ := hv
  have hx := B.exec
  have hb := B.bytes
  have hr := B.returns
  have hts := atoms_spec (ws := wsX1_isFlat) B.pre
  have hown : s.vm.findClass RX1 = some mY.cls := findClass_of_methodNamed B.named
  have hlocks := B.notSynchronized
  subst hsz
  have hD := hD0.self (sz := s.heap.size)
  generalize hAe : va_A [(xo, .inr (6, [.ref al, x1, x2, x3, x4, x5, .ref b1, x7])), (al, .inr (4, [.int mc, .ref (zk 0), .int 0]))] s.heap.size = A at hD hZ ⊢
  have hA : ∀ q : Nat, s.heap.size ≤ q → A q := fun q h => by rw [← hAe]; exact Or.inr h
  have hS : va_S A s.heap s.heap [] := va_S.rf
  have hz : s.heap.size + 0 ≤ s.heap.size := Nat.le_refl _
  have hl := lv_entry ([.ref xo, .int p0, .int p1]) (n := 5) (Nat.le_of_ble_eq_true rfl)
  rw [lg_entry_eq]
  generalize (lg_sl ([.ref xo, .int p0, .int p1]) ++ List.replicate (5 - (lg_sl ([.ref xo, .int p0, .int p1])).length) Slot.unset).toArray = ls at hl ⊢
  have hl : lv_has ls 5 [(0, .ref xo), (1, .int p0), (2, .int p1)] := hl
  have hP : va_P (dC, dI) vwCl [(xo, .inr (6, [.ref al, x1, x2, x3, x4, x5, .ref b1, x7])), (al, .inr (4, [.int mc, .ref (zk 0), .int 0]))] s.heap := hP
  have hD : va_D A [(xo, .inr (6, [.ref al, x1, x2, x3, x4, x5, .ref b1, x7])), (al, .inr (4, [.int mc, .ref (zk 0), .int 0]))] := hD
  refine lv_aload_n hx hb dX1_isFlat_0 rfl (lv_at hl 0 rfl) ?_
  refine lv_iload_n hx hb dX1_isFlat_1 rfl (lv_at hl 1 rfl) ?_
  have hPc := hP.sub (ws' := [(xo, .inr (6, [.ref al, x1, x2, x3, x4, x5, .ref b1, x7])), (al, .inr (4, [.int mc, .ref (zk 0), .int 0]))]) [0, 1] rfl
  have hDc := hD.sub (ws' := [(xo, .inr (6, [.ref al, x1, x2, x3, x4, x5, .ref b1, x7])), (al, .inr (4, [.int mc, .ref (zk 0), .int 0]))]) [0, 1] (by decide) rfl
  have hFc := va_free (wc := [(xo, .inr (6, [.ref al, x1, x2, x3, x4, x5, .ref b1, x7])), (al, .inr (4, [.int mc, .ref (zk 0), .int 0]))]) hD hS hA [0, 1] rfl
  have hDv := hDc.self (sz := s.heap.size)
  have hpre := zpre (xs' := []) (av := [.ref xo, .int p0]) hPc hK (hDc.weaken (fun _ _ _ h => h)) hZ hS hFc (fun r hr => by cases hr)
  refine vx_callq (vx_runV (As := [.int p0]) (rest := []) ⟨hx, hb, hml, hown, hts⟩ (k_rowX l dC dI cI cB cR cO zk hfl xo al b1 x1 x2 x3 x4 x5 x7 mc p0 s.heap.size ) (cwV 1 hts gX1_isFlat_X1_rowOf rfl rfl rfl (by decide +kernel) ⟨(Nat.le_of_ble_eq_true rfl), (Nat.le_of_ble_eq_true rfl)⟩) ⟨zblind, (zrecv_6 hK hPc (q0 := 0) rfl), hpre⟩ rfl rfl hl.1 rfl (lv_room (Nat.le_of_ble_eq_true rfl)) dX1_isFlat_2 ⟨(Nat.le_of_ble_eq_true rfl), (Nat.le_of_ble_eq_true rfl)⟩) hS (fun q _ h => hFc q h) hFc (fun q _ h => hFc q h) (fun E9 ce q9 u t H1 locs ht hvm hu hB hz1 hk1 hS hcell hcv hcl => ?_) (fun _ _ _ _ _ _ _ hw9 _ _ _ _ => hw9.elim)
  obtain ⟨hE9, hP1, hK1, hD1, hz2⟩ := hB
  subst hE9
  rw [ht] at hP1 hz2
  have hPD9 := va_join (wr := []) (w1 := [(xo, .inr (6, [.ref al, x1, x2, x3, x4, x5, .ref b1, x7])), (al, .inr (4, [.int mc, .ref (zk 0), .int 0]))]) hP hD [0, 1] [] rfl rfl (by decide) (by decide) hk1 hFc hP1 hD1
  clear hPc hDc hFc hDv hpre hP hD hP1 hK1 hD1
  obtain ⟨hP, hD⟩ := hPD9
  replace hz : s.heap.size + 0 ≤ H1.size := by omega
  clear hz2
  replace hP : va_P (dC, dI) vwCl [(xo, .inr (6, [.ref al, x1, x2, x3, x4, x5, .ref b1, x7])), (al, .inr (4, [.int mc, .ref (zk 0), .int 0]))] H1 := hP
  replace hD : va_D A [(xo, .inr (6, [.ref al, x1, x2, x3, x4, x5, .ref b1, x7])), (al, .inr (4, [.int mc, .ref (zk 0), .int 0]))] := hD
  have hP9 := hP.sub (ws' := [(xo, .inr (6, [.ref al, x1, x2, x3, x4, x5, .ref b1, x7])), (al, .inr (4, [.int mc, .ref (zk 0), .int 0]))]) [0, 1] rfl
  have hD9 := hD.sub (ws' := [(xo, .inr (6, [.ref al, x1, x2, x3, x4, x5, .ref b1, x7])), (al, .inr (4, [.int mc, .ref (zk 0), .int 0]))]) [0, 1] (by decide) rfl
  exact vx_out (fun x hx9 => (hntab x hx9).elim) hlocks hcell hcv hcl (fun t ht hal => ⟨(), trivial, ⟨rfl, by rw [ht]; exact hP9, va_K.moved hal hK, hD9, by rw [ht]; exact hz⟩, hS.F ht⟩) hS.2.2 (Nat.le_of_ble_eq_true rfl) (Nat.le_of_ble_eq_true rfl)

set_option maxHeartbeats 4000000 in
set_option maxRecDepth 100000 in
theorem k_areDeepX (l : Launch) (dC : Nat → ClassId) (dI : Nat → Nat → Nat) (cI cB cR cO : ClassId) (zk : Nat → Nat) (hfl : l.stackTraces = false) (xo al b1 : Nat) (x1 x2 x3 x4 x5 x7 : Value) (mc : Int32) (p0 p1 p2 p3 : Int32) (sz : Nat)  : vx_Met l yX1_areDeep wsX1_areDeep ({ frames := 7, cells := 1, slots := 6, locals := 111 }) (va_Pc [.ref xo, .int p0, .int p1, .int p2, .int p3] (zPre (dC, dI) (zT cI cB cR cO) zk [] [(xo, .inr (6, [.ref al, x1, x2, x3, x4, x5, .ref b1, x7])), (al, .inr (4, [.int mc, .ref (zk 0), .int 0]))] sz)) (va_Qi (fun (_ : Int32) (_ : Unit) => False) (fun _ _ => True) (va_A [(xo, .inr (6, [.ref al, x1, x2, x3, x4, x5, .ref b1, x7])), (al, .inr (4, [.int mc, .ref (zk 0), .int 0]))] sz)) (vx_X (fun _ : Unit => True) (fun E9 _ t => E9 = "java/lang/IndexOutOfBoundsException" ∧ zEnd (dC, dI) (zT cI cB cR cO) (va_A [(xo, .inr (6, [.ref al, x1, x2, x3, x4, x5, .ref b1, x7])), (al, .inr (4, [.int mc, .ref (zk 0), .int 0]))] sz) [(xo, .inr (6, [.ref al, x1, x2, x3, x4, x5, .ref b1, x7])), (al, .inr (4, [.int mc, .ref (zk 0), .int 0]))] sz 0 t) (va_A [(xo, .inr (6, [.ref al, x1, x2, x3, x4, x5, .ref b1, x7])), (al, .inr (4, [.int mc, .ref (zk 0), .int 0]))] sz)) 1 6 (va_A [(xo, .inr (6, [.ref al, x1, x2, x3, x4, x5, .ref b1, x7])), (al, .inr (4, [.int mc, .ref (zk 0), .int 0]))] sz) := by
  refine vx_ofW (cc := cX1_areDeep) (maxL := 7) (ret := (some .boolean)) (by decide) rfl ?_
  intro p e s mY args below meth c s₁ B hml hntab hv
  obtain ⟨rfl, hsz, hP, hK, hD0, hZ⟩ := hv
  have hx := B.exec
  have hb := B.bytes
  have hr := B.returns
  have hts := atoms_spec (ws := wsX1_areDeep) B.pre
  have hown : s.vm.findClass RX1 = some mY.cls := findClass_of_methodNamed B.named
  have hlocks := B.notSynchronized
  subst hsz
  have hD := hD0.self (sz := s.heap.size)
  generalize hAe : va_A [(xo, .inr (6, [.ref al, x1, x2, x3, x4, x5, .ref b1, x7])), (al, .inr (4, [.int mc, .ref (zk 0), .int 0]))] s.heap.size = A at hD hZ ⊢
  have hA : ∀ q : Nat, s.heap.size ≤ q → A q := fun q h => by rw [← hAe]; exact Or.inr h
  have hS : va_S A s.heap s.heap [] := va_S.rf
  have hz : s.heap.size + 0 ≤ s.heap.size := Nat.le_refl _
  have hl := lv_entry ([.ref xo, .int p0, .int p1, .int p2, .int p3]) (n := 7) (Nat.le_of_ble_eq_true rfl)
  rw [lg_entry_eq]
  generalize (lg_sl ([.ref xo, .int p0, .int p1, .int p2, .int p3]) ++ List.replicate (7 - (lg_sl ([.ref xo, .int p0, .int p1, .int p2, .int p3])).length) Slot.unset).toArray = ls at hl ⊢
  have hl : lv_has ls 7 [(0, .ref xo), (1, .int p0), (2, .int p1), (3, .int p2), (4, .int p3)] := hl
  have hP : va_P (dC, dI) vwCl [(xo, .inr (6, [.ref al, x1, x2, x3, x4, x5, .ref b1, x7])), (al, .inr (4, [.int mc, .ref (zk 0), .int 0]))] s.heap := hP
  have hD : va_D A [(xo, .inr (6, [.ref al, x1, x2, x3, x4, x5, .ref b1, x7])), (al, .inr (4, [.int mc, .ref (zk 0), .int 0]))] := hD
  refine lv_aload_n hx hb dX1_areDeep_0 rfl (lv_at hl 0 rfl) ?_
  refine lv_iload_n hx hb dX1_areDeep_1 rfl (lv_at hl 1 rfl) ?_
  have hPc := hP.sub (ws' := [(xo, .inr (6, [.ref al, x1, x2, x3, x4, x5, .ref b1, x7])), (al, .inr (4, [.int mc, .ref (zk 0), .int 0]))]) [0, 1] rfl
  have hDc := hD.sub (ws' := [(xo, .inr (6, [.ref al, x1, x2, x3, x4, x5, .ref b1, x7])), (al, .inr (4, [.int mc, .ref (zk 0), .int 0]))]) [0, 1] (by decide) rfl
  have hFc := va_free (wc := [(xo, .inr (6, [.ref al, x1, x2, x3, x4, x5, .ref b1, x7])), (al, .inr (4, [.int mc, .ref (zk 0), .int 0]))]) hD hS hA [0, 1] rfl
  have hDv := hDc.self (sz := s.heap.size)
  have hpre := zpre (xs' := []) (av := [.ref xo, .int p0]) hPc hK (hDc.weaken (fun _ _ _ h => h)) hZ hS hFc (fun r hr => by cases hr)
  refine vx_callq (vx_runV (As := [.int p0]) (rest := []) ⟨hx, hb, hml, hown, hts⟩ (k_rowX l dC dI cI cB cR cO zk hfl xo al b1 x1 x2 x3 x4 x5 x7 mc p0 s.heap.size ) (cwV 1 hts gX1_areDeep_X1_rowOf rfl rfl rfl (by decide +kernel) ⟨(Nat.le_of_ble_eq_true rfl), (Nat.le_of_ble_eq_true rfl)⟩) ⟨zblind, (zrecv_6 hK hPc (q0 := 0) rfl), hpre⟩ rfl rfl hl.1 rfl (lv_room (Nat.le_of_ble_eq_true rfl)) dX1_areDeep_2 ⟨(Nat.le_of_ble_eq_true rfl), (Nat.le_of_ble_eq_true rfl)⟩) hS (fun q _ h => hFc q h) hFc (fun q _ h => hFc q h) (fun E9 ce q9 u t H1 locs ht hvm hu hB hz1 hk1 hS hcell hcv hcl => ?_) (fun _ _ _ _ _ _ _ hw9 _ _ _ _ => hw9.elim)
  obtain ⟨hE9, hP1, hK1, hD1, hz2⟩ := hB
  subst hE9
  rw [ht] at hP1 hz2
  have hPD9 := va_join (wr := []) (w1 := [(xo, .inr (6, [.ref al, x1, x2, x3, x4, x5, .ref b1, x7])), (al, .inr (4, [.int mc, .ref (zk 0), .int 0]))]) hP hD [0, 1] [] rfl rfl (by decide) (by decide) hk1 hFc hP1 hD1
  clear hPc hDc hFc hDv hpre hP hD hP1 hK1 hD1
  obtain ⟨hP, hD⟩ := hPD9
  replace hz : s.heap.size + 0 ≤ H1.size := by omega
  clear hz2
  replace hP : va_P (dC, dI) vwCl [(xo, .inr (6, [.ref al, x1, x2, x3, x4, x5, .ref b1, x7])), (al, .inr (4, [.int mc, .ref (zk 0), .int 0]))] H1 := hP
  replace hD : va_D A [(xo, .inr (6, [.ref al, x1, x2, x3, x4, x5, .ref b1, x7])), (al, .inr (4, [.int mc, .ref (zk 0), .int 0]))] := hD
  have hP9 := hP.sub (ws' := [(xo, .inr (6, [.ref al, x1, x2, x3, x4, x5, .ref b1, x7])), (al, .inr (4, [.int mc, .ref (zk 0), .int 0]))]) [0, 1] rfl
  have hD9 := hD.sub (ws' := [(xo, .inr (6, [.ref al, x1, x2, x3, x4, x5, .ref b1, x7])), (al, .inr (4, [.int mc, .ref (zk 0), .int 0]))]) [0, 1] (by decide) rfl
  exact vx_out (fun x hx9 => (hntab x hx9).elim) hlocks hcell hcv hcl (fun t ht hal => ⟨(), trivial, ⟨rfl, by rw [ht]; exact hP9, va_K.moved hal hK, hD9, by rw [ht]; exact hz⟩, hS.F ht⟩) hS.2.2 (Nat.le_of_ble_eq_true rfl) (Nat.le_of_ble_eq_true rfl)

set_option maxHeartbeats 4000000 in
set_option maxRecDepth 100000 in
theorem k_hashX (l : Launch) (dC : Nat → ClassId) (dI : Nat → Nat → Nat) (cI cB cR cO : ClassId) (zk : Nat → Nat) (hfl : l.stackTraces = false) (xo al b1 : Nat) (x1 x2 x3 x4 x5 x7 : Value) (mc : Int32) (p0 : Int32) (sz : Nat)  : vx_Met l yX1_hash wsX1_hash ({ frames := 7, cells := 1, slots := 6, locals := 111 }) (va_Pc [.ref xo, .int p0] (zPre (dC, dI) (zT cI cB cR cO) zk [] [(xo, .inr (6, [.ref al, x1, x2, x3, x4, x5, .ref b1, x7])), (al, .inr (4, [.int mc, .ref (zk 0), .int 0]))] sz)) (va_Qi (fun (_ : Int32) (_ : Unit) => False) (fun _ _ => True) (va_A [(xo, .inr (6, [.ref al, x1, x2, x3, x4, x5, .ref b1, x7])), (al, .inr (4, [.int mc, .ref (zk 0), .int 0]))] sz)) (vx_X (fun _ : Unit => True) (fun E9 _ t => E9 = "java/lang/IndexOutOfBoundsException" ∧ zEnd (dC, dI) (zT cI cB cR cO) (va_A [(xo, .inr (6, [.ref al, x1, x2, x3, x4, x5, .ref b1, x7])), (al, .inr (4, [.int mc, .ref (zk 0), .int 0]))] sz) [(xo, .inr (6, [.ref al, x1, x2, x3, x4, x5, .ref b1, x7])), (al, .inr (4, [.int mc, .ref (zk 0), .int 0]))] sz 0 t) (va_A [(xo, .inr (6, [.ref al, x1, x2, x3, x4, x5, .ref b1, x7])), (al, .inr (4, [.int mc, .ref (zk 0), .int 0]))] sz)) 1 6 (va_A [(xo, .inr (6, [.ref al, x1, x2, x3, x4, x5, .ref b1, x7])), (al, .inr (4, [.int mc, .ref (zk 0), .int 0]))] sz) := by
  refine vx_ofW (cc := cX1_hash) (maxL := 2) (ret := (some .int)) (by decide) rfl ?_
  intro p e s mY args below meth c s₁ B hml hntab hv
  obtain ⟨rfl, hsz, hP, hK, hD0, hZ⟩ := hv
  have hx := B.exec
  have hb := B.bytes
  have hr := B.returns
  have hts := atoms_spec (ws := wsX1_hash) B.pre
  have hown : s.vm.findClass RX1 = some mY.cls := findClass_of_methodNamed B.named
  have hlocks := B.notSynchronized
  subst hsz
  have hD := hD0.self (sz := s.heap.size)
  generalize hAe : va_A [(xo, .inr (6, [.ref al, x1, x2, x3, x4, x5, .ref b1, x7])), (al, .inr (4, [.int mc, .ref (zk 0), .int 0]))] s.heap.size = A at hD hZ ⊢
  have hA : ∀ q : Nat, s.heap.size ≤ q → A q := fun q h => by rw [← hAe]; exact Or.inr h
  have hS : va_S A s.heap s.heap [] := va_S.rf
  have hz : s.heap.size + 0 ≤ s.heap.size := Nat.le_refl _
  have hl := lv_entry ([.ref xo, .int p0]) (n := 2) (Nat.le_of_ble_eq_true rfl)
  rw [lg_entry_eq]
  generalize (lg_sl ([.ref xo, .int p0]) ++ List.replicate (2 - (lg_sl ([.ref xo, .int p0])).length) Slot.unset).toArray = ls at hl ⊢
  have hl : lv_has ls 2 [(0, .ref xo), (1, .int p0)] := hl
  have hP : va_P (dC, dI) vwCl [(xo, .inr (6, [.ref al, x1, x2, x3, x4, x5, .ref b1, x7])), (al, .inr (4, [.int mc, .ref (zk 0), .int 0]))] s.heap := hP
  have hD : va_D A [(xo, .inr (6, [.ref al, x1, x2, x3, x4, x5, .ref b1, x7])), (al, .inr (4, [.int mc, .ref (zk 0), .int 0]))] := hD
  refine lv_aload_n hx hb dX1_hash_0 rfl (lv_at hl 0 rfl) ?_
  refine lv_iload_n hx hb dX1_hash_1 rfl (lv_at hl 1 rfl) ?_
  have hPc := hP.sub (ws' := [(xo, .inr (6, [.ref al, x1, x2, x3, x4, x5, .ref b1, x7])), (al, .inr (4, [.int mc, .ref (zk 0), .int 0]))]) [0, 1] rfl
  have hDc := hD.sub (ws' := [(xo, .inr (6, [.ref al, x1, x2, x3, x4, x5, .ref b1, x7])), (al, .inr (4, [.int mc, .ref (zk 0), .int 0]))]) [0, 1] (by decide) rfl
  have hFc := va_free (wc := [(xo, .inr (6, [.ref al, x1, x2, x3, x4, x5, .ref b1, x7])), (al, .inr (4, [.int mc, .ref (zk 0), .int 0]))]) hD hS hA [0, 1] rfl
  have hDv := hDc.self (sz := s.heap.size)
  have hpre := zpre (xs' := []) (av := [.ref xo, .int p0]) hPc hK (hDc.weaken (fun _ _ _ h => h)) hZ hS hFc (fun r hr => by cases hr)
  refine vx_callq (vx_runV (As := [.int p0]) (rest := []) ⟨hx, hb, hml, hown, hts⟩ (k_rowX l dC dI cI cB cR cO zk hfl xo al b1 x1 x2 x3 x4 x5 x7 mc p0 s.heap.size ) (cwV 1 hts gX1_hash_X1_rowOf rfl rfl rfl (by decide +kernel) ⟨(Nat.le_of_ble_eq_true rfl), (Nat.le_of_ble_eq_true rfl)⟩) ⟨zblind, (zrecv_6 hK hPc (q0 := 0) rfl), hpre⟩ rfl rfl hl.1 rfl (lv_room (Nat.le_of_ble_eq_true rfl)) dX1_hash_2 ⟨(Nat.le_of_ble_eq_true rfl), (Nat.le_of_ble_eq_true rfl)⟩) hS (fun q _ h => hFc q h) hFc (fun q _ h => hFc q h) (fun E9 ce q9 u t H1 locs ht hvm hu hB hz1 hk1 hS hcell hcv hcl => ?_) (fun _ _ _ _ _ _ _ hw9 _ _ _ _ => hw9.elim)
  obtain ⟨hE9, hP1, hK1, hD1, hz2⟩ := hB
  subst hE9
  rw [ht] at hP1 hz2
  have hPD9 := va_join (wr := []) (w1 := [(xo, .inr (6, [.ref al, x1, x2, x3, x4, x5, .ref b1, x7])), (al, .inr (4, [.int mc, .ref (zk 0), .int 0]))]) hP hD [0, 1] [] rfl rfl (by decide) (by decide) hk1 hFc hP1 hD1
  clear hPc hDc hFc hDv hpre hP hD hP1 hK1 hD1
  obtain ⟨hP, hD⟩ := hPD9
  replace hz : s.heap.size + 0 ≤ H1.size := by omega
  clear hz2
  replace hP : va_P (dC, dI) vwCl [(xo, .inr (6, [.ref al, x1, x2, x3, x4, x5, .ref b1, x7])), (al, .inr (4, [.int mc, .ref (zk 0), .int 0]))] H1 := hP
  replace hD : va_D A [(xo, .inr (6, [.ref al, x1, x2, x3, x4, x5, .ref b1, x7])), (al, .inr (4, [.int mc, .ref (zk 0), .int 0]))] := hD
  have hP9 := hP.sub (ws' := [(xo, .inr (6, [.ref al, x1, x2, x3, x4, x5, .ref b1, x7])), (al, .inr (4, [.int mc, .ref (zk 0), .int 0]))]) [0, 1] rfl
  have hD9 := hD.sub (ws' := [(xo, .inr (6, [.ref al, x1, x2, x3, x4, x5, .ref b1, x7])), (al, .inr (4, [.int mc, .ref (zk 0), .int 0]))]) [0, 1] (by decide) rfl
  exact vx_out (fun x hx9 => (hntab x hx9).elim) hlocks hcell hcv hcl (fun t ht hal => ⟨(), trivial, ⟨rfl, by rw [ht]; exact hP9, va_K.moved hal hK, hD9, by rw [ht]; exact hz⟩, hS.F ht⟩) hS.2.2 (Nat.le_of_ble_eq_true rfl) (Nat.le_of_ble_eq_true rfl)

set_option maxHeartbeats 4000000 in
set_option maxRecDepth 100000 in
theorem k_flatHashX (l : Launch) (dC : Nat → ClassId) (dI : Nat → Nat → Nat) (cI cB cR cO : ClassId) (zk : Nat → Nat) (hfl : l.stackTraces = false) (xo al b1 : Nat) (x1 x2 x3 x4 x5 x7 : Value) (mc : Int32) (p0 : Int32) (sz : Nat)  : vx_Met l yX1_flatHash wsX1_flatHash ({ frames := 7, cells := 1, slots := 6, locals := 111 }) (va_Pc [.ref xo, .int p0] (zPre (dC, dI) (zT cI cB cR cO) zk [] [(xo, .inr (6, [.ref al, x1, x2, x3, x4, x5, .ref b1, x7])), (al, .inr (4, [.int mc, .ref (zk 0), .int 0]))] sz)) (va_Qi (fun (_ : Int32) (_ : Unit) => False) (fun _ _ => True) (va_A [(xo, .inr (6, [.ref al, x1, x2, x3, x4, x5, .ref b1, x7])), (al, .inr (4, [.int mc, .ref (zk 0), .int 0]))] sz)) (vx_X (fun _ : Unit => True) (fun E9 _ t => E9 = "java/lang/IndexOutOfBoundsException" ∧ zEnd (dC, dI) (zT cI cB cR cO) (va_A [(xo, .inr (6, [.ref al, x1, x2, x3, x4, x5, .ref b1, x7])), (al, .inr (4, [.int mc, .ref (zk 0), .int 0]))] sz) [(xo, .inr (6, [.ref al, x1, x2, x3, x4, x5, .ref b1, x7])), (al, .inr (4, [.int mc, .ref (zk 0), .int 0]))] sz 0 t) (va_A [(xo, .inr (6, [.ref al, x1, x2, x3, x4, x5, .ref b1, x7])), (al, .inr (4, [.int mc, .ref (zk 0), .int 0]))] sz)) 1 6 (va_A [(xo, .inr (6, [.ref al, x1, x2, x3, x4, x5, .ref b1, x7])), (al, .inr (4, [.int mc, .ref (zk 0), .int 0]))] sz) := by
  refine vx_ofW (cc := cX1_flatHash) (maxL := 4) (ret := (some .int)) (by decide) rfl ?_
  intro p e s mY args below meth c s₁ B hml hntab hv
  obtain ⟨rfl, hsz, hP, hK, hD0, hZ⟩ := hv
  have hx := B.exec
  have hb := B.bytes
  have hr := B.returns
  have hts := atoms_spec (ws := wsX1_flatHash) B.pre
  have hown : s.vm.findClass RX1 = some mY.cls := findClass_of_methodNamed B.named
  have hlocks := B.notSynchronized
  subst hsz
  have hD := hD0.self (sz := s.heap.size)
  generalize hAe : va_A [(xo, .inr (6, [.ref al, x1, x2, x3, x4, x5, .ref b1, x7])), (al, .inr (4, [.int mc, .ref (zk 0), .int 0]))] s.heap.size = A at hD hZ ⊢
  have hA : ∀ q : Nat, s.heap.size ≤ q → A q := fun q h => by rw [← hAe]; exact Or.inr h
  have hS : va_S A s.heap s.heap [] := va_S.rf
  have hz : s.heap.size + 0 ≤ s.heap.size := Nat.le_refl _
  have hl := lv_entry ([.ref xo, .int p0]) (n := 4) (Nat.le_of_ble_eq_true rfl)
  rw [lg_entry_eq]
  generalize (lg_sl ([.ref xo, .int p0]) ++ List.replicate (4 - (lg_sl ([.ref xo, .int p0])).length) Slot.unset).toArray = ls at hl ⊢
  have hl : lv_has ls 4 [(0, .ref xo), (1, .int p0)] := hl
  have hP : va_P (dC, dI) vwCl [(xo, .inr (6, [.ref al, x1, x2, x3, x4, x5, .ref b1, x7])), (al, .inr (4, [.int mc, .ref (zk 0), .int 0]))] s.heap := hP
  have hD : va_D A [(xo, .inr (6, [.ref al, x1, x2, x3, x4, x5, .ref b1, x7])), (al, .inr (4, [.int mc, .ref (zk 0), .int 0]))] := hD
  refine lv_aload_n hx hb dX1_flatHash_0 rfl (lv_at hl 0 rfl) ?_
  refine lv_iload_n hx hb dX1_flatHash_1 rfl (lv_at hl 1 rfl) ?_
  have hPc := hP.sub (ws' := [(xo, .inr (6, [.ref al, x1, x2, x3, x4, x5, .ref b1, x7])), (al, .inr (4, [.int mc, .ref (zk 0), .int 0]))]) [0, 1] rfl
  have hDc := hD.sub (ws' := [(xo, .inr (6, [.ref al, x1, x2, x3, x4, x5, .ref b1, x7])), (al, .inr (4, [.int mc, .ref (zk 0), .int 0]))]) [0, 1] (by decide) rfl
  have hFc := va_free (wc := [(xo, .inr (6, [.ref al, x1, x2, x3, x4, x5, .ref b1, x7])), (al, .inr (4, [.int mc, .ref (zk 0), .int 0]))]) hD hS hA [0, 1] rfl
  have hDv := hDc.self (sz := s.heap.size)
  have hpre := zpre (xs' := []) (av := [.ref xo, .int p0]) hPc hK (hDc.weaken (fun _ _ _ h => h)) hZ hS hFc (fun r hr => by cases hr)
  refine vx_callq (vx_runV (As := [.int p0]) (rest := []) ⟨hx, hb, hml, hown, hts⟩ (k_rowX l dC dI cI cB cR cO zk hfl xo al b1 x1 x2 x3 x4 x5 x7 mc p0 s.heap.size ) (cwV 1 hts gX1_flatHash_X1_rowOf rfl rfl rfl (by decide +kernel) ⟨(Nat.le_of_ble_eq_true rfl), (Nat.le_of_ble_eq_true rfl)⟩) ⟨zblind, (zrecv_6 hK hPc (q0 := 0) rfl), hpre⟩ rfl rfl hl.1 rfl (lv_room (Nat.le_of_ble_eq_true rfl)) dX1_flatHash_2 ⟨(Nat.le_of_ble_eq_true rfl), (Nat.le_of_ble_eq_true rfl)⟩) hS (fun q _ h => hFc q h) hFc (fun q _ h => hFc q h) (fun E9 ce q9 u t H1 locs ht hvm hu hB hz1 hk1 hS hcell hcv hcl => ?_) (fun _ _ _ _ _ _ _ hw9 _ _ _ _ => hw9.elim)
  obtain ⟨hE9, hP1, hK1, hD1, hz2⟩ := hB
  subst hE9
  rw [ht] at hP1 hz2
  have hPD9 := va_join (wr := []) (w1 := [(xo, .inr (6, [.ref al, x1, x2, x3, x4, x5, .ref b1, x7])), (al, .inr (4, [.int mc, .ref (zk 0), .int 0]))]) hP hD [0, 1] [] rfl rfl (by decide) (by decide) hk1 hFc hP1 hD1
  clear hPc hDc hFc hDv hpre hP hD hP1 hK1 hD1
  obtain ⟨hP, hD⟩ := hPD9
  replace hz : s.heap.size + 0 ≤ H1.size := by omega
  clear hz2
  replace hP : va_P (dC, dI) vwCl [(xo, .inr (6, [.ref al, x1, x2, x3, x4, x5, .ref b1, x7])), (al, .inr (4, [.int mc, .ref (zk 0), .int 0]))] H1 := hP
  replace hD : va_D A [(xo, .inr (6, [.ref al, x1, x2, x3, x4, x5, .ref b1, x7])), (al, .inr (4, [.int mc, .ref (zk 0), .int 0]))] := hD
  have hP9 := hP.sub (ws' := [(xo, .inr (6, [.ref al, x1, x2, x3, x4, x5, .ref b1, x7])), (al, .inr (4, [.int mc, .ref (zk 0), .int 0]))]) [0, 1] rfl
  have hD9 := hD.sub (ws' := [(xo, .inr (6, [.ref al, x1, x2, x3, x4, x5, .ref b1, x7])), (al, .inr (4, [.int mc, .ref (zk 0), .int 0]))]) [0, 1] (by decide) rfl
  exact vx_out (fun x hx9 => (hntab x hx9).elim) hlocks hcell hcv hcl (fun t ht hal => ⟨(), trivial, ⟨rfl, by rw [ht]; exact hP9, va_K.moved hal hK, hD9, by rw [ht]; exact hz⟩, hS.F ht⟩) hS.2.2 (Nat.le_of_ble_eq_true rfl) (Nat.le_of_ble_eq_true rfl)

theorem hi_X1_text_X1 : ∀ w ∈ u_ws RX1 TX1 8, w ∈ wsX1_text := fun w h => List.mem_cons_of_mem _ (zhi_X1 w h)
set_option maxHeartbeats 4000000 in
set_option maxRecDepth 100000 in
theorem k_textX (l : Launch) (dC : Nat → ClassId) (dI : Nat → Nat → Nat) (cI cB cR cO : ClassId) (zk : Nat → Nat) (hfl : l.stackTraces = false) (xo al b1 : Nat) (x1 x2 x3 x4 x5 x7 : Value) (mc : Int32) (p0 : Int32) (sz : Nat)  : vx_Met l yX1_text wsX1_text ({ frames := 7, cells := 1, slots := 6, locals := 111 }) (va_Pc [.ref xo, .int p0] (zPre (dC, dI) (zT cI cB cR cO) zk [] [(xo, .inr (6, [.ref al, x1, x2, x3, x4, x5, .ref b1, x7])), (al, .inr (4, [.int mc, .ref (zk 0), .int 0]))] sz)) (va_Qq (fun (_ : Option Nat) (_ : Unit) => False) (fun _ _ => True) (va_A [(xo, .inr (6, [.ref al, x1, x2, x3, x4, x5, .ref b1, x7])), (al, .inr (4, [.int mc, .ref (zk 0), .int 0]))] sz)) (vx_X (fun _ : Unit => True) (fun E9 _ t => E9 = "java/lang/IndexOutOfBoundsException" ∧ zEnd (dC, dI) (zT cI cB cR cO) (va_A [(xo, .inr (6, [.ref al, x1, x2, x3, x4, x5, .ref b1, x7])), (al, .inr (4, [.int mc, .ref (zk 0), .int 0]))] sz) [(xo, .inr (6, [.ref al, x1, x2, x3, x4, x5, .ref b1, x7])), (al, .inr (4, [.int mc, .ref (zk 0), .int 0]))] sz 0 t) (va_A [(xo, .inr (6, [.ref al, x1, x2, x3, x4, x5, .ref b1, x7])), (al, .inr (4, [.int mc, .ref (zk 0), .int 0]))] sz)) 1 6 (va_A [(xo, .inr (6, [.ref al, x1, x2, x3, x4, x5, .ref b1, x7])), (al, .inr (4, [.int mc, .ref (zk 0), .int 0]))] sz) := by
  refine vx_ofW (cc := cX1_text) (maxL := 2) (ret := (some (.object "java/lang/String"))) (by decide) rfl ?_
  intro p e s mY args below meth c s₁ B hml hntab hv
  obtain ⟨rfl, hsz, hP, hK, hD0, hZ⟩ := hv
  have hx := B.exec
  have hb := B.bytes
  have hr := B.returns
  have hts := atoms_spec (ws := wsX1_text) B.pre
  have hown : s.vm.findClass RX1 = some mY.cls := findClass_of_methodNamed B.named
  have hlocks := B.notSynchronized
  subst hsz
  have hD := hD0.self (sz := s.heap.size)
  generalize hAe : va_A [(xo, .inr (6, [.ref al, x1, x2, x3, x4, x5, .ref b1, x7])), (al, .inr (4, [.int mc, .ref (zk 0), .int 0]))] s.heap.size = A at hD hZ ⊢
  have hA : ∀ q : Nat, s.heap.size ≤ q → A q := fun q h => by rw [← hAe]; exact Or.inr h
  have hS : va_S A s.heap s.heap [] := va_S.rf
  have hz : s.heap.size + 0 ≤ s.heap.size := Nat.le_refl _
  have hl := lv_entry ([.ref xo, .int p0]) (n := 2) (Nat.le_of_ble_eq_true rfl)
  rw [lg_entry_eq]
  generalize (lg_sl ([.ref xo, .int p0]) ++ List.replicate (2 - (lg_sl ([.ref xo, .int p0])).length) Slot.unset).toArray = ls at hl ⊢
  have hl : lv_has ls 2 [(0, .ref xo), (1, .int p0)] := hl
  have hP : va_P (dC, dI) vwCl [(xo, .inr (6, [.ref al, x1, x2, x3, x4, x5, .ref b1, x7])), (al, .inr (4, [.int mc, .ref (zk 0), .int 0]))] s.heap := hP
  have hD : va_D A [(xo, .inr (6, [.ref al, x1, x2, x3, x4, x5, .ref b1, x7])), (al, .inr (4, [.int mc, .ref (zk 0), .int 0]))] := hD
  refine lv_aload_n hx hb dX1_text_0 rfl (lv_at hl 0 rfl) ?_
  refine va_get (D := (dC, dI)) (ci := 6) (v := .ref b1) (C := RX1) (T := TX1) (N := 8) hx hb hts hi_X1_text_X1 hown hK hP 0 rfl rfl 6 (by decide) (hts (.fieldLink RX1 41 "Deeprows" "words" "Ljava/lang/StringBuilder;") (List.mem_cons_of_mem _ zw_171)) (fun _ h9 => h9) rfl dX1_text_1 ?_
  refine lv_aload_n hx hb dX1_text_4 rfl (lv_at hl 0 rfl) ?_
  refine lv_iload_n hx hb dX1_text_5 rfl (lv_at hl 1 rfl) ?_
  have hPc := hP.sub (ws' := [(xo, .inr (6, [.ref al, x1, x2, x3, x4, x5, .ref b1, x7])), (al, .inr (4, [.int mc, .ref (zk 0), .int 0]))]) [0, 1] rfl
  have hDc := hD.sub (ws' := [(xo, .inr (6, [.ref al, x1, x2, x3, x4, x5, .ref b1, x7])), (al, .inr (4, [.int mc, .ref (zk 0), .int 0]))]) [0, 1] (by decide) rfl
  have hFc := va_free (wc := [(xo, .inr (6, [.ref al, x1, x2, x3, x4, x5, .ref b1, x7])), (al, .inr (4, [.int mc, .ref (zk 0), .int 0]))]) hD hS hA [0, 1] rfl
  have hDv := hDc.self (sz := s.heap.size)
  have hpre := zpre (xs' := []) (av := [.ref xo, .int p0]) hPc hK (hDc.weaken (fun _ _ _ h => h)) hZ hS hFc (fun r hr => by cases hr)
  refine vx_callq (vx_runV (As := [.int p0]) (rest := [.ref b1]) ⟨hx, hb, hml, hown, hts⟩ (k_rowX l dC dI cI cB cR cO zk hfl xo al b1 x1 x2 x3 x4 x5 x7 mc p0 s.heap.size ) (cwV 1 hts gX1_text_X1_rowOf rfl rfl rfl (by decide +kernel) ⟨(Nat.le_of_ble_eq_true rfl), (Nat.le_of_ble_eq_true rfl)⟩) ⟨zblind, (zrecv_6 hK hPc (q0 := 0) rfl), hpre⟩ rfl rfl hl.1 rfl (lv_room (Nat.le_of_ble_eq_true rfl)) dX1_text_6 ⟨(Nat.le_of_ble_eq_true rfl), (Nat.le_of_ble_eq_true rfl)⟩) hS (fun q _ h => hFc q h) hFc (fun q _ h => hFc q h) (fun E9 ce q9 u t H1 locs ht hvm hu hB hz1 hk1 hS hcell hcv hcl => ?_) (fun _ _ _ _ _ _ _ hw9 _ _ _ _ => hw9.elim)
  obtain ⟨hE9, hP1, hK1, hD1, hz2⟩ := hB
  subst hE9
  rw [ht] at hP1 hz2
  have hPD9 := va_join (wr := []) (w1 := [(xo, .inr (6, [.ref al, x1, x2, x3, x4, x5, .ref b1, x7])), (al, .inr (4, [.int mc, .ref (zk 0), .int 0]))]) hP hD [0, 1] [] rfl rfl (by decide) (by decide) hk1 hFc hP1 hD1
  clear hPc hDc hFc hDv hpre hP hD hP1 hK1 hD1
  obtain ⟨hP, hD⟩ := hPD9
  replace hz : s.heap.size + 0 ≤ H1.size := by omega
  clear hz2
  replace hP : va_P (dC, dI) vwCl [(xo, .inr (6, [.ref al, x1, x2, x3, x4, x5, .ref b1, x7])), (al, .inr (4, [.int mc, .ref (zk 0), .int 0]))] H1 := hP
  replace hD : va_D A [(xo, .inr (6, [.ref al, x1, x2, x3, x4, x5, .ref b1, x7])), (al, .inr (4, [.int mc, .ref (zk 0), .int 0]))] := hD
  have hP9 := hP.sub (ws' := [(xo, .inr (6, [.ref al, x1, x2, x3, x4, x5, .ref b1, x7])), (al, .inr (4, [.int mc, .ref (zk 0), .int 0]))]) [0, 1] rfl
  have hD9 := hD.sub (ws' := [(xo, .inr (6, [.ref al, x1, x2, x3, x4, x5, .ref b1, x7])), (al, .inr (4, [.int mc, .ref (zk 0), .int 0]))]) [0, 1] (by decide) rfl
  exact vx_out (fun x hx9 => (hntab x hx9).elim) hlocks hcell hcv hcl (fun t ht hal => ⟨(), trivial, ⟨rfl, by rw [ht]; exact hP9, va_K.moved hal hK, hD9, by rw [ht]; exact hz⟩, hS.F ht⟩) hS.2.2 (Nat.le_of_ble_eq_true rfl) (Nat.le_of_ble_eq_true rfl)

set_option maxHeartbeats 4000000 in
set_option maxRecDepth 100000 in
theorem k_differX (l : Launch) (dC : Nat → ClassId) (dI : Nat → Nat → Nat) (cI cB cR cO : ClassId) (zk : Nat → Nat) (hfl : l.stackTraces = false) (xo al b1 : Nat) (x1 x2 x3 x4 x5 x7 : Value) (mc : Int32) (p0 p1 : Int32) (sz : Nat)  : vx_Met l yX1_differ wsX1_differ ({ frames := 7, cells := 1, slots := 6, locals := 111 }) (va_Pc [.ref xo, .int p0, .int p1] (zPre (dC, dI) (zT cI cB cR cO) zk [] [(xo, .inr (6, [.ref al, x1, x2, x3, x4, x5, .ref b1, x7])), (al, .inr (4, [.int mc, .ref (zk 0), .int 0]))] sz)) (va_Qi (fun (_ : Int32) (_ : Unit) => False) (fun _ _ => True) (va_A [(xo, .inr (6, [.ref al, x1, x2, x3, x4, x5, .ref b1, x7])), (al, .inr (4, [.int mc, .ref (zk 0), .int 0]))] sz)) (vx_X (fun _ : Unit => True) (fun E9 _ t => E9 = "java/lang/IndexOutOfBoundsException" ∧ zEnd (dC, dI) (zT cI cB cR cO) (va_A [(xo, .inr (6, [.ref al, x1, x2, x3, x4, x5, .ref b1, x7])), (al, .inr (4, [.int mc, .ref (zk 0), .int 0]))] sz) [(xo, .inr (6, [.ref al, x1, x2, x3, x4, x5, .ref b1, x7])), (al, .inr (4, [.int mc, .ref (zk 0), .int 0]))] sz 0 t) (va_A [(xo, .inr (6, [.ref al, x1, x2, x3, x4, x5, .ref b1, x7])), (al, .inr (4, [.int mc, .ref (zk 0), .int 0]))] sz)) 1 6 (va_A [(xo, .inr (6, [.ref al, x1, x2, x3, x4, x5, .ref b1, x7])), (al, .inr (4, [.int mc, .ref (zk 0), .int 0]))] sz) := by
  refine vx_ofW (cc := cX1_differ) (maxL := 5) (ret := (some .int)) (by decide) rfl ?_
  intro p e s mY args below meth c s₁ B hml hntab hv
  obtain ⟨rfl, hsz, hP, hK, hD0, hZ⟩ := hv
  have hx := B.exec
  have hb := B.bytes
  have hr := B.returns
  have hts := atoms_spec (ws := wsX1_differ) B.pre
  have hown : s.vm.findClass RX1 = some mY.cls := findClass_of_methodNamed B.named
  have hlocks := B.notSynchronized
  subst hsz
  have hD := hD0.self (sz := s.heap.size)
  generalize hAe : va_A [(xo, .inr (6, [.ref al, x1, x2, x3, x4, x5, .ref b1, x7])), (al, .inr (4, [.int mc, .ref (zk 0), .int 0]))] s.heap.size = A at hD hZ ⊢
  have hA : ∀ q : Nat, s.heap.size ≤ q → A q := fun q h => by rw [← hAe]; exact Or.inr h
  have hS : va_S A s.heap s.heap [] := va_S.rf
  have hz : s.heap.size + 0 ≤ s.heap.size := Nat.le_refl _
  have hl := lv_entry ([.ref xo, .int p0, .int p1]) (n := 5) (Nat.le_of_ble_eq_true rfl)
  rw [lg_entry_eq]
  generalize (lg_sl ([.ref xo, .int p0, .int p1]) ++ List.replicate (5 - (lg_sl ([.ref xo, .int p0, .int p1])).length) Slot.unset).toArray = ls at hl ⊢
  have hl : lv_has ls 5 [(0, .ref xo), (1, .int p0), (2, .int p1)] := hl
  have hP : va_P (dC, dI) vwCl [(xo, .inr (6, [.ref al, x1, x2, x3, x4, x5, .ref b1, x7])), (al, .inr (4, [.int mc, .ref (zk 0), .int 0]))] s.heap := hP
  have hD : va_D A [(xo, .inr (6, [.ref al, x1, x2, x3, x4, x5, .ref b1, x7])), (al, .inr (4, [.int mc, .ref (zk 0), .int 0]))] := hD
  refine lv_aload_n hx hb dX1_differ_0 rfl (lv_at hl 0 rfl) ?_
  refine lv_iload_n hx hb dX1_differ_1 rfl (lv_at hl 1 rfl) ?_
  have hPc := hP.sub (ws' := [(xo, .inr (6, [.ref al, x1, x2, x3, x4, x5, .ref b1, x7])), (al, .inr (4, [.int mc, .ref (zk 0), .int 0]))]) [0, 1] rfl
  have hDc := hD.sub (ws' := [(xo, .inr (6, [.ref al, x1, x2, x3, x4, x5, .ref b1, x7])), (al, .inr (4, [.int mc, .ref (zk 0), .int 0]))]) [0, 1] (by decide) rfl
  have hFc := va_free (wc := [(xo, .inr (6, [.ref al, x1, x2, x3, x4, x5, .ref b1, x7])), (al, .inr (4, [.int mc, .ref (zk 0), .int 0]))]) hD hS hA [0, 1] rfl
  have hDv := hDc.self (sz := s.heap.size)
  have hpre := zpre (xs' := []) (av := [.ref xo, .int p0]) hPc hK (hDc.weaken (fun _ _ _ h => h)) hZ hS hFc (fun r hr => by cases hr)
  refine vx_callq (vx_runV (As := [.int p0]) (rest := []) ⟨hx, hb, hml, hown, hts⟩ (k_rowX l dC dI cI cB cR cO zk hfl xo al b1 x1 x2 x3 x4 x5 x7 mc p0 s.heap.size ) (cwV 1 hts gX1_differ_X1_rowOf rfl rfl rfl (by decide +kernel) ⟨(Nat.le_of_ble_eq_true rfl), (Nat.le_of_ble_eq_true rfl)⟩) ⟨zblind, (zrecv_6 hK hPc (q0 := 0) rfl), hpre⟩ rfl rfl hl.1 rfl (lv_room (Nat.le_of_ble_eq_true rfl)) dX1_differ_2 ⟨(Nat.le_of_ble_eq_true rfl), (Nat.le_of_ble_eq_true rfl)⟩) hS (fun q _ h => hFc q h) hFc (fun q _ h => hFc q h) (fun E9 ce q9 u t H1 locs ht hvm hu hB hz1 hk1 hS hcell hcv hcl => ?_) (fun _ _ _ _ _ _ _ hw9 _ _ _ _ => hw9.elim)
  obtain ⟨hE9, hP1, hK1, hD1, hz2⟩ := hB
  subst hE9
  rw [ht] at hP1 hz2
  have hPD9 := va_join (wr := []) (w1 := [(xo, .inr (6, [.ref al, x1, x2, x3, x4, x5, .ref b1, x7])), (al, .inr (4, [.int mc, .ref (zk 0), .int 0]))]) hP hD [0, 1] [] rfl rfl (by decide) (by decide) hk1 hFc hP1 hD1
  clear hPc hDc hFc hDv hpre hP hD hP1 hK1 hD1
  obtain ⟨hP, hD⟩ := hPD9
  replace hz : s.heap.size + 0 ≤ H1.size := by omega
  clear hz2
  replace hP : va_P (dC, dI) vwCl [(xo, .inr (6, [.ref al, x1, x2, x3, x4, x5, .ref b1, x7])), (al, .inr (4, [.int mc, .ref (zk 0), .int 0]))] H1 := hP
  replace hD : va_D A [(xo, .inr (6, [.ref al, x1, x2, x3, x4, x5, .ref b1, x7])), (al, .inr (4, [.int mc, .ref (zk 0), .int 0]))] := hD
  have hP9 := hP.sub (ws' := [(xo, .inr (6, [.ref al, x1, x2, x3, x4, x5, .ref b1, x7])), (al, .inr (4, [.int mc, .ref (zk 0), .int 0]))]) [0, 1] rfl
  have hD9 := hD.sub (ws' := [(xo, .inr (6, [.ref al, x1, x2, x3, x4, x5, .ref b1, x7])), (al, .inr (4, [.int mc, .ref (zk 0), .int 0]))]) [0, 1] (by decide) rfl
  exact vx_out (fun x hx9 => (hntab x hx9).elim) hlocks hcell hcv hcl (fun t ht hal => ⟨(), trivial, ⟨rfl, by rw [ht]; exact hP9, va_K.moved hal hK, hD9, by rw [ht]; exact hz⟩, hS.F ht⟩) hS.2.2 (Nat.le_of_ble_eq_true rfl) (Nat.le_of_ble_eq_true rfl)

set_option maxHeartbeats 4000000 in
set_option maxRecDepth 100000 in
theorem k_compareX (l : Launch) (dC : Nat → ClassId) (dI : Nat → Nat → Nat) (cI cB cR cO : ClassId) (zk : Nat → Nat) (hfl : l.stackTraces = false) (xo al b1 : Nat) (x1 x2 x3 x4 x5 x7 : Value) (mc : Int32) (p0 p1 : Int32) (sz : Nat)  : vx_Met l yX1_compare wsX1_compare ({ frames := 7, cells := 1, slots := 6, locals := 111 }) (va_Pc [.ref xo, .int p0, .int p1] (zPre (dC, dI) (zT cI cB cR cO) zk [] [(xo, .inr (6, [.ref al, x1, x2, x3, x4, x5, .ref b1, x7])), (al, .inr (4, [.int mc, .ref (zk 0), .int 0]))] sz)) (va_Qi (fun (_ : Int32) (_ : Unit) => False) (fun _ _ => True) (va_A [(xo, .inr (6, [.ref al, x1, x2, x3, x4, x5, .ref b1, x7])), (al, .inr (4, [.int mc, .ref (zk 0), .int 0]))] sz)) (vx_X (fun _ : Unit => True) (fun E9 _ t => E9 = "java/lang/IndexOutOfBoundsException" ∧ zEnd (dC, dI) (zT cI cB cR cO) (va_A [(xo, .inr (6, [.ref al, x1, x2, x3, x4, x5, .ref b1, x7])), (al, .inr (4, [.int mc, .ref (zk 0), .int 0]))] sz) [(xo, .inr (6, [.ref al, x1, x2, x3, x4, x5, .ref b1, x7])), (al, .inr (4, [.int mc, .ref (zk 0), .int 0]))] sz 0 t) (va_A [(xo, .inr (6, [.ref al, x1, x2, x3, x4, x5, .ref b1, x7])), (al, .inr (4, [.int mc, .ref (zk 0), .int 0]))] sz)) 1 6 (va_A [(xo, .inr (6, [.ref al, x1, x2, x3, x4, x5, .ref b1, x7])), (al, .inr (4, [.int mc, .ref (zk 0), .int 0]))] sz) := by
  refine vx_ofW (cc := cX1_compare) (maxL := 7) (ret := (some .int)) (by decide) rfl ?_
  intro p e s mY args below meth c s₁ B hml hntab hv
  obtain ⟨rfl, hsz, hP, hK, hD0, hZ⟩ := hv
  have hx := B.exec
  have hb := B.bytes
  have hr := B.returns
  have hts := atoms_spec (ws := wsX1_compare) B.pre
  have hown : s.vm.findClass RX1 = some mY.cls := findClass_of_methodNamed B.named
  have hlocks := B.notSynchronized
  subst hsz
  have hD := hD0.self (sz := s.heap.size)
  generalize hAe : va_A [(xo, .inr (6, [.ref al, x1, x2, x3, x4, x5, .ref b1, x7])), (al, .inr (4, [.int mc, .ref (zk 0), .int 0]))] s.heap.size = A at hD hZ ⊢
  have hA : ∀ q : Nat, s.heap.size ≤ q → A q := fun q h => by rw [← hAe]; exact Or.inr h
  have hS : va_S A s.heap s.heap [] := va_S.rf
  have hz : s.heap.size + 0 ≤ s.heap.size := Nat.le_refl _
  have hl := lv_entry ([.ref xo, .int p0, .int p1]) (n := 7) (Nat.le_of_ble_eq_true rfl)
  rw [lg_entry_eq]
  generalize (lg_sl ([.ref xo, .int p0, .int p1]) ++ List.replicate (7 - (lg_sl ([.ref xo, .int p0, .int p1])).length) Slot.unset).toArray = ls at hl ⊢
  have hl : lv_has ls 7 [(0, .ref xo), (1, .int p0), (2, .int p1)] := hl
  have hP : va_P (dC, dI) vwCl [(xo, .inr (6, [.ref al, x1, x2, x3, x4, x5, .ref b1, x7])), (al, .inr (4, [.int mc, .ref (zk 0), .int 0]))] s.heap := hP
  have hD : va_D A [(xo, .inr (6, [.ref al, x1, x2, x3, x4, x5, .ref b1, x7])), (al, .inr (4, [.int mc, .ref (zk 0), .int 0]))] := hD
  refine lv_aload_n hx hb dX1_compare_0 rfl (lv_at hl 0 rfl) ?_
  refine lv_iload_n hx hb dX1_compare_1 rfl (lv_at hl 1 rfl) ?_
  have hPc := hP.sub (ws' := [(xo, .inr (6, [.ref al, x1, x2, x3, x4, x5, .ref b1, x7])), (al, .inr (4, [.int mc, .ref (zk 0), .int 0]))]) [0, 1] rfl
  have hDc := hD.sub (ws' := [(xo, .inr (6, [.ref al, x1, x2, x3, x4, x5, .ref b1, x7])), (al, .inr (4, [.int mc, .ref (zk 0), .int 0]))]) [0, 1] (by decide) rfl
  have hFc := va_free (wc := [(xo, .inr (6, [.ref al, x1, x2, x3, x4, x5, .ref b1, x7])), (al, .inr (4, [.int mc, .ref (zk 0), .int 0]))]) hD hS hA [0, 1] rfl
  have hDv := hDc.self (sz := s.heap.size)
  have hpre := zpre (xs' := []) (av := [.ref xo, .int p0]) hPc hK (hDc.weaken (fun _ _ _ h => h)) hZ hS hFc (fun r hr => by cases hr)
  refine vx_callq (vx_runV (As := [.int p0]) (rest := []) ⟨hx, hb, hml, hown, hts⟩ (k_rowX l dC dI cI cB cR cO zk hfl xo al b1 x1 x2 x3 x4 x5 x7 mc p0 s.heap.size ) (cwV 1 hts gX1_compare_X1_rowOf rfl rfl rfl (by decide +kernel) ⟨(Nat.le_of_ble_eq_true rfl), (Nat.le_of_ble_eq_true rfl)⟩) ⟨zblind, (zrecv_6 hK hPc (q0 := 0) rfl), hpre⟩ rfl rfl hl.1 rfl (lv_room (Nat.le_of_ble_eq_true rfl)) dX1_compare_2 ⟨(Nat.le_of_ble_eq_true rfl), (Nat.le_of_ble_eq_true rfl)⟩) hS (fun q _ h => hFc q h) hFc (fun q _ h => hFc q h) (fun E9 ce q9 u t H1 locs ht hvm hu hB hz1 hk1 hS hcell hcv hcl => ?_) (fun _ _ _ _ _ _ _ hw9 _ _ _ _ => hw9.elim)
  obtain ⟨hE9, hP1, hK1, hD1, hz2⟩ := hB
  subst hE9
  rw [ht] at hP1 hz2
  have hPD9 := va_join (wr := []) (w1 := [(xo, .inr (6, [.ref al, x1, x2, x3, x4, x5, .ref b1, x7])), (al, .inr (4, [.int mc, .ref (zk 0), .int 0]))]) hP hD [0, 1] [] rfl rfl (by decide) (by decide) hk1 hFc hP1 hD1
  clear hPc hDc hFc hDv hpre hP hD hP1 hK1 hD1
  obtain ⟨hP, hD⟩ := hPD9
  replace hz : s.heap.size + 0 ≤ H1.size := by omega
  clear hz2
  replace hP : va_P (dC, dI) vwCl [(xo, .inr (6, [.ref al, x1, x2, x3, x4, x5, .ref b1, x7])), (al, .inr (4, [.int mc, .ref (zk 0), .int 0]))] H1 := hP
  replace hD : va_D A [(xo, .inr (6, [.ref al, x1, x2, x3, x4, x5, .ref b1, x7])), (al, .inr (4, [.int mc, .ref (zk 0), .int 0]))] := hD
  have hP9 := hP.sub (ws' := [(xo, .inr (6, [.ref al, x1, x2, x3, x4, x5, .ref b1, x7])), (al, .inr (4, [.int mc, .ref (zk 0), .int 0]))]) [0, 1] rfl
  have hD9 := hD.sub (ws' := [(xo, .inr (6, [.ref al, x1, x2, x3, x4, x5, .ref b1, x7])), (al, .inr (4, [.int mc, .ref (zk 0), .int 0]))]) [0, 1] (by decide) rfl
  exact vx_out (fun x hx9 => (hntab x hx9).elim) hlocks hcell hcv hcl (fun t ht hal => ⟨(), trivial, ⟨rfl, by rw [ht]; exact hP9, va_K.moved hal hK, hD9, by rw [ht]; exact hz⟩, hS.F ht⟩) hS.2.2 (Nat.le_of_ble_eq_true rfl) (Nat.le_of_ble_eq_true rfl)
