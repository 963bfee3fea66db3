set_option maxHeartbeats 4000000 in
set_option maxRecDepth 100000 in
theorem k_wSig2 (l : Launch) (dC : Nat → ClassId) (dI : Nat → Nat → Nat) (cI cB cR cO : ClassId) (zk : Nat → Nat) (h0 v0 m c0 : Nat) (g : Nat → Int32) (ml : Value) (sz : Nat) (hm : m ≤ 65536) (hcm : c0 ≤ m) (hc0 : c0 + 2 ≤ 2000) (hg : sb_Fit g) : Met l yX1_writeSigns wsX1_writeSigns ({ frames := 6, cells := 2, slots := 131072, locals := 186 }) (va_Pc [.ref h0, .ref (zk 3)] (zPre (dC, dI) (zT cI cB cR cO) zk [((zk 3), (zk 13), 2, (fun j => (zByt.getD 2 []).getD j 0))] [(h0, .inr (1, [.ref v0, .int 0, ml, .int (nI c0)])), (v0, .inl (cB, m, .inl g))] sz)) (va_Qv (fun _ : Unit => True) (fun _ t => ∃ v3, ∃ m3, ∃ (f3 : Nat → Int32), zEnd (dC, dI) (zT cI cB cR cO) (va_A [(h0, .inr (1, [.ref v0, .int 0, ml, .int (nI c0)])), (v0, .inl (cB, m, .inl g))] sz) [(h0, .inr (1, [.ref v3, .int 0, ml, .int (nI (c0 + 2))])), (v3, .inl (cB, m3, .inl f3))] sz 0 t ∧ sb_Fit f3 ∧ c0 + 2 ≤ m3 ∧ m3 ≤ 65536) (va_A [(h0, .inr (1, [.ref v0, .int 0, ml, .int (nI c0)])), (v0, .inl (cB, m, .inl g))] sz)) 2 131072 (va_A [(h0, .inr (1, [.ref v0, .int 0, ml, .int (nI c0)])), (v0, .inl (cB, m, .inl g))] sz) := by
  refine Met.ofW (cc := cX1_writeSigns) (maxL := 3) (ret := none) (by decide) rfl ?_
  intro p e s mY args below meth c s₁ B hml hv
  obtain ⟨rfl, hsz, hP, hK, hD0, hZ⟩ := hv
  have hx := B.exec
  have hb := B.bytes
  have hr := B.returns
  have hts := atoms_spec (ws := wsX1_writeSigns) B.pre
  have hown : s.vm.findClass RX1 = some mY.cls := findClass_of_methodNamed B.named
  have hlocks := B.notSynchronized
  subst hsz
  have hD := hD0.self (sz := s.heap.size)
  generalize hAe : va_A [(h0, .inr (1, [.ref v0, .int 0, ml, .int (nI c0)])), (v0, .inl (cB, m, .inl g))] s.heap.size = A at hD hZ ⊢
  have hA : ∀ q : Nat, s.heap.size ≤ q → A q := fun q h => by rw [← hAe]; exact Or.inr h
  have hS : va_S A s.heap s.heap [] := va_S.rf
  have hz : s.heap.size + 0 ≤ s.heap.size := Nat.le_refl _
  have hl := lv_entry ([.ref h0, .ref (zk 3)]) (n := 3) (Nat.le_of_ble_eq_true rfl)
  rw [lg_entry_eq]
  generalize (lg_sl ([.ref h0, .ref (zk 3)]) ++ List.replicate (3 - (lg_sl ([.ref h0, .ref (zk 3)])).length) Slot.unset).toArray = ls at hl ⊢
  have hl : lv_has ls 3 [(0, .ref h0), (1, .ref (zk 3))] := hl
  have hP : va_P (dC, dI) vwCl [(h0, .inr (1, [.ref v0, .int 0, ml, .int (nI c0)])), (v0, .inl (cB, m, .inl g))] s.heap := hP
  have hD : va_D A [(h0, .inr (1, [.ref v0, .int 0, ml, .int (nI c0)])), (v0, .inl (cB, m, .inl g))] := hD
  refine lv_iconst (v := 0) hx hb dX1_writeSigns_0 (by decide) ?_
  refine lv_istore_n (lv' := [(2, .int 0), (0, .ref h0), (1, .ref (zk 3))]) hx hb dX1_writeSigns_1 rfl hl (by decide) rfl (fun ls hl => ?_)
  refine lv_iload_n hx hb dX1_writeSigns_2 rfl (lv_at hl 0 rfl) ?_
  refine lv_aload_n hx hb dX1_writeSigns_3 rfl (lv_at hl 2 rfl) ?_
  have hPc := hP.sub (ws' := []) [] rfl
  have hDc := hD.sub (ws' := []) [] (by decide) rfl
  have hFc := va_free (wc := []) hD hS hA [] rfl
  have hDv := hDc.self (sz := s.heap.size)
  have hx0 : zS ((zk 3), (zk 13), 2, (fun j => (zByt.getD 2 []).getD j 0)) (va_A [] s.heap.size) s s.heap := zR.x hZ hS hFc List.mem_cons_self
  have hpre := zpre (xs' := [((zk 3), (zk 13), 2, (fun j => (zByt.getD 2 []).getD j 0))]) (av := [.ref (zk 3)]) hPc hK (hDc.weaken (fun _ _ _ h => h)) hZ hS hFc (fun r hr => by cases hr with | head => exact hx0 | tail _ h => cases h)
  refine va_calli (va_runV (As := []) (rest := [.int 0]) ⟨hx, hb, hml, hown, hts⟩ (k_len l dC dI cI cB cR cO zk (zk 3) (zk 13) 2 (fun j => (zByt.getD 2 []).getD j 0) s.heap.size ) (cwV 0 hts gX1_writeSigns_J0_length_8abf5 rfl rfl rfl (by decide +kernel) ⟨Nat.le_of_ble_eq_true rfl, Nat.le_of_ble_eq_true rfl⟩) ⟨zblind, (zS.recv (zR.x (B := A) hZ hS (fun _ h => h) List.mem_cons_self)), hpre⟩ rfl rfl hl.1 rfl (lv_room (Nat.le_of_ble_eq_true rfl)) dX1_writeSigns_4 ⟨Nat.le_of_ble_eq_true rfl, Nat.le_of_ble_eq_true rfl⟩) hS (fun q _ h => hFc q h) hFc (fun r2 u t H1 locs ht hvm hw hB hz1 hk1 hS => ?_)
  obtain rfl : 2 = r2 := (show r2 = 2 from hw).symm
  obtain ⟨hP1, hK1, hD1, hz2⟩ := hB
  rw [ht] at hP1 hz2
  have hPD9 := va_join (wr := [(h0, .inr (1, [.ref v0, .int 0, ml, .int (nI c0)])), (v0, .inl (cB, m, .inl g))]) (w1 := []) hP hD [] [0, 1] rfl rfl (by decide) (by decide) hk1 hFc hP1 hD1
  clear hPc hDc hFc hDv hpre hP hD hP1 hK1 hD1
  obtain ⟨hP, hD⟩ := hPD9
  replace hz : s.heap.size + 0 ≤ H1.size := by omega
  clear hz2
  replace hP : va_P (dC, dI) vwCl [(h0, .inr (1, [.ref v0, .int 0, ml, .int (nI c0)])), (v0, .inl (cB, m, .inl g))] H1 := hP
  replace hD : va_D A [(h0, .inr (1, [.ref v0, .int 0, ml, .int (nI c0)])), (v0, .inl (cB, m, .inl g))] := hD
  refine W.widen (k := 0) (n := 0) (by omega) (by omega) ?_
  refine lv_icmp_ge (tgt := 26) hx hb dX1_writeSigns_7 (by decide) (fun c9 => ?_) (fun c9 => ?_)
  · exact absurd c9 (by decide)
  refine lv_aload_n hx hb dX1_writeSigns_10 rfl (lv_at hl 1 rfl) ?_
  refine lv_aload_n hx hb dX1_writeSigns_11 rfl (lv_at hl 2 rfl) ?_
  refine lv_iload_n hx hb dX1_writeSigns_12 rfl (lv_at hl 0 rfl) ?_
  have hPc := hP.sub (ws' := []) [] rfl
  have hDc := hD.sub (ws' := []) [] (by decide) rfl
  have hFc := va_free (wc := []) hD hS hA [] rfl
  have hDv := hDc.self (sz := H1.size)
  have hx0 : zS ((zk 3), (zk 13), 2, (fun j => (zByt.getD 2 []).getD j 0)) (va_A [] H1.size) s H1 := zR.x hZ hS hFc List.mem_cons_self
  have hpre := zpre (xs' := [((zk 3), (zk 13), 2, (fun j => (zByt.getD 2 []).getD j 0))]) (av := [.ref (zk 3), .int 0]) hPc hK (hDc.weaken (fun _ _ _ h => h)) hZ hS hFc (fun r hr => by cases hr with | head => exact hx0 | tail _ h => cases h)
  refine va_calli (va_runV (As := [.int 0]) (rest := [.ref h0]) ⟨hx, hb, hml, hown, hts⟩ (k_chA l dC dI cI cB cR cO zk (zk 3) (zk 13) 2 0 (fun j => (zByt.getD 2 []).getD j 0) 44 H1.size (by decide) (by decide) (by decide) (by decide +kernel)) (cwV 1 hts gX1_writeSigns_J0_charAt_5068e rfl rfl rfl (by decide +kernel) ⟨Nat.le_of_ble_eq_true rfl, Nat.le_of_ble_eq_true rfl⟩) ⟨zblind, (zS.recv (zR.x (B := A) hZ hS (fun _ h => h) List.mem_cons_self)), hpre⟩ rfl rfl hl.1 rfl (lv_room (Nat.le_of_ble_eq_true rfl)) dX1_writeSigns_13 ⟨Nat.le_of_ble_eq_true rfl, Nat.le_of_ble_eq_true rfl⟩) hS (fun q _ h => hFc q h) hFc (fun r4 u t H3 locs ht hvm hw hB hz1 hk1 hS => ?_)
  obtain rfl : 44 = r4 := (show r4 = 44 from hw).symm
  obtain ⟨hP1, hK1, hD1, hz2⟩ := hB
  rw [ht] at hP1 hz2
  have hPD9 := va_join (wr := [(h0, .inr (1, [.ref v0, .int 0, ml, .int (nI c0)])), (v0, .inl (cB, m, .inl g))]) (w1 := []) hP hD [] [0, 1] rfl rfl (by decide) (by decide) hk1 hFc hP1 hD1
  clear hPc hDc hFc hDv hpre hP hD hP1 hK1 hD1
  obtain ⟨hP, hD⟩ := hPD9
  replace hz : s.heap.size + 0 ≤ H3.size := by omega
  clear hz2
  replace hP : va_P (dC, dI) vwCl [(h0, .inr (1, [.ref v0, .int 0, ml, .int (nI c0)])), (v0, .inl (cB, m, .inl g))] H3 := hP
  replace hD : va_D A [(h0, .inr (1, [.ref v0, .int 0, ml, .int (nI c0)])), (v0, .inl (cB, m, .inl g))] := hD
  refine W.widen (k := 0) (n := 0) (by omega) (by omega) ?_
  have hPc := hP.sub (ws' := [(h0, .inr (1, [.ref v0, .int 0, ml, .int (nI c0)])), (v0, .inl (cB, m, .inl g))]) [0, 1] rfl
  have hDc := hD.sub (ws' := [(h0, .inr (1, [.ref v0, .int 0, ml, .int (nI c0)])), (v0, .inl (cB, m, .inl g))]) [0, 1] (by decide) rfl
  have hFc := va_free (wc := [(h0, .inr (1, [.ref v0, .int 0, ml, .int (nI c0)])), (v0, .inl (cB, m, .inl g))]) hD hS hA [0, 1] rfl
  have hDv := hDc.self (sz := H3.size)
  have hpre := zpre (xs' := []) (av := [.ref h0, .int 44]) hPc hK (hDc.weaken (fun _ _ _ h => h)) hZ hS hFc (fun r hr => by cases hr)
  refine va_callr (va_runV (As := [.int 44]) (rest := []) ⟨hx, hb, hml, hown, hts⟩ (k_apC l dC dI cI cB cR cO zk h0 v0 m c0 g ml 44 H3.size hm hcm (by omega) hg (by decide) (by decide +kernel)) (cwV 1 hts gX1_writeSigns_J4_append_cf468 rfl rfl rfl (by decide +kernel) ⟨Nat.le_of_ble_eq_true rfl, Nat.le_of_ble_eq_true rfl⟩) ⟨zblind, (zrecv_1 hK hPc (q0 := 0) rfl), hpre⟩ rfl rfl hl.1 rfl (lv_room (Nat.le_of_ble_eq_true rfl)) dX1_writeSigns_16 ⟨Nat.le_of_ble_eq_true rfl, Nat.le_of_ble_eq_true rfl⟩) hS (fun q _ h => hFc q h) hFc (fun u r6 t H5 locs ht hvm hw hB hz1 hk1 hS => ?_)
  obtain ⟨v7, m8, f9, ⟨hP1, hK1, hD1, hz2⟩, hff9, hlm8, hmm8, her6⟩ := hB
  rw [ht] at hP1 hz2
  have hPD9 := va_join (wr := []) (w1 := [(h0, .inr (1, [.ref v7, .int 0, ml, .int (nI (c0 + 1))])), (v7, .inl (cB, m8, .inl f9))]) hP hD [0, 1] [] rfl rfl (by decide) (by decide) hk1 hFc hP1 hD1
  clear hPc hDc hFc hDv hpre hP hD hP1 hK1 hD1
  obtain ⟨hP, hD⟩ := hPD9
  replace hz : s.heap.size + 0 ≤ H5.size := by omega
  clear hz2
  replace hP : va_P (dC, dI) vwCl [(h0, .inr (1, [.ref v7, .int 0, ml, .int (nI (c0 + 1))])), (v7, .inl (cB, m8, .inl f9))] H5 := hP
  replace hD : va_D A [(h0, .inr (1, [.ref v7, .int 0, ml, .int (nI (c0 + 1))])), (v7, .inl (cB, m8, .inl f9))] := hD
  refine W.widen (k := 1) (n := 65536) (by omega) (by omega) ?_
  obtain rfl := her6.symm
  refine lv_pop hx hb dX1_writeSigns_19 rfl ?_
  refine lv_iinc (v := 1) (lv' := [(2, .int 1), (0, .ref h0), (1, .ref (zk 3))]) hx hb dX1_writeSigns_20 hl (k := 0) rfl (by decide) (by decide) rfl (fun ls hl => ?_)
  refine lv_goto (tgt := 2) hx hb dX1_writeSigns_23 (by decide) ?_
  refine lv_iload_n hx hb dX1_writeSigns_2 rfl (lv_at hl 0 rfl) ?_
  refine lv_aload_n hx hb dX1_writeSigns_3 rfl (lv_at hl 2 rfl) ?_
  have hPc := hP.sub (ws' := []) [] rfl
  have hDc := hD.sub (ws' := []) [] (by decide) rfl
  have hFc := va_free (wc := []) hD hS hA [] rfl
  have hDv := hDc.self (sz := H5.size)
  have hx0 : zS ((zk 3), (zk 13), 2, (fun j => (zByt.getD 2 []).getD j 0)) (va_A [] H5.size) s H5 := zR.x hZ hS hFc List.mem_cons_self
  have hpre := zpre (xs' := [((zk 3), (zk 13), 2, (fun j => (zByt.getD 2 []).getD j 0))]) (av := [.ref (zk 3)]) hPc hK (hDc.weaken (fun _ _ _ h => h)) hZ hS hFc (fun r hr => by cases hr with | head => exact hx0 | tail _ h => cases h)
  refine va_calli (va_runV (As := []) (rest := [.int 1]) ⟨hx, hb, hml, hown, hts⟩ (k_len l dC dI cI cB cR cO zk (zk 3) (zk 13) 2 (fun j => (zByt.getD 2 []).getD j 0) H5.size ) (cwV 0 hts gX1_writeSigns_J0_length_8abf5 rfl rfl rfl (by decide +kernel) ⟨Nat.le_of_ble_eq_true rfl, Nat.le_of_ble_eq_true rfl⟩) ⟨zblind, (zS.recv (zR.x (B := A) hZ hS (fun _ h => h) List.mem_cons_self)), hpre⟩ rfl rfl hl.1 rfl (lv_room (Nat.le_of_ble_eq_true rfl)) dX1_writeSigns_4 ⟨Nat.le_of_ble_eq_true rfl, Nat.le_of_ble_eq_true rfl⟩) hS (fun q _ h => hFc q h) hFc (fun r11 u t H10 locs ht hvm hw hB hz1 hk1 hS => ?_)
  obtain rfl : 2 = r11 := (show r11 = 2 from hw).symm
  obtain ⟨hP1, hK1, hD1, hz2⟩ := hB
  rw [ht] at hP1 hz2
  have hPD9 := va_join (wr := [(h0, .inr (1, [.ref v7, .int 0, ml, .int (nI (c0 + 1))])), (v7, .inl (cB, m8, .inl f9))]) (w1 := []) hP hD [] [0, 1] rfl rfl (by decide) (by decide) hk1 hFc hP1 hD1
  clear hPc hDc hFc hDv hpre hP hD hP1 hK1 hD1
  obtain ⟨hP, hD⟩ := hPD9
  replace hz : s.heap.size + 0 ≤ H10.size := by omega
  clear hz2
  replace hP : va_P (dC, dI) vwCl [(h0, .inr (1, [.ref v7, .int 0, ml, .int (nI (c0 + 1))])), (v7, .inl (cB, m8, .inl f9))] H10 := hP
  replace hD : va_D A [(h0, .inr (1, [.ref v7, .int 0, ml, .int (nI (c0 + 1))])), (v7, .inl (cB, m8, .inl f9))] := hD
  refine W.widen (k := 1) (n := 65536) (by omega) (by omega) ?_
  refine lv_icmp_ge (tgt := 26) hx hb dX1_writeSigns_7 (by decide) (fun c9 => ?_) (fun c9 => ?_)
  · exact absurd c9 (by decide)
  refine lv_aload_n hx hb dX1_writeSigns_10 rfl (lv_at hl 1 rfl) ?_
  refine lv_aload_n hx hb dX1_writeSigns_11 rfl (lv_at hl 2 rfl) ?_
  refine lv_iload_n hx hb dX1_writeSigns_12 rfl (lv_at hl 0 rfl) ?_
  have hPc := hP.sub (ws' := []) [] rfl
  have hDc := hD.sub (ws' := []) [] (by decide) rfl
  have hFc := va_free (wc := []) hD hS hA [] rfl
  have hDv := hDc.self (sz := H10.size)
  have hx0 : zS ((zk 3), (zk 13), 2, (fun j => (zByt.getD 2 []).getD j 0)) (va_A [] H10.size) s H10 := zR.x hZ hS hFc List.mem_cons_self
  have hpre := zpre (xs' := [((zk 3), (zk 13), 2, (fun j => (zByt.getD 2 []).getD j 0))]) (av := [.ref (zk 3), .int 1]) hPc hK (hDc.weaken (fun _ _ _ h => h)) hZ hS hFc (fun r hr => by cases hr with | head => exact hx0 | tail _ h => cases h)
  refine va_calli (va_runV (As := [.int 1]) (rest := [.ref h0]) ⟨hx, hb, hml, hown, hts⟩ (k_chA l dC dI cI cB cR cO zk (zk 3) (zk 13) 2 1 (fun j => (zByt.getD 2 []).getD j 0) 32 H10.size (by decide) (by decide) (by decide) (by decide +kernel)) (cwV 1 hts gX1_writeSigns_J0_charAt_5068e rfl rfl rfl (by decide +kernel) ⟨Nat.le_of_ble_eq_true rfl, Nat.le_of_ble_eq_true rfl⟩) ⟨zblind, (zS.recv (zR.x (B := A) hZ hS (fun _ h => h) List.mem_cons_self)), hpre⟩ rfl rfl hl.1 rfl (lv_room (Nat.le_of_ble_eq_true rfl)) dX1_writeSigns_13 ⟨Nat.le_of_ble_eq_true rfl, Nat.le_of_ble_eq_true rfl⟩) hS (fun q _ h => hFc q h) hFc (fun r13 u t H12 locs ht hvm hw hB hz1 hk1 hS => ?_)
  obtain rfl : 32 = r13 := (show r13 = 32 from hw).symm
  obtain ⟨hP1, hK1, hD1, hz2⟩ := hB
  rw [ht] at hP1 hz2
  have hPD9 := va_join (wr := [(h0, .inr (1, [.ref v7, .int 0, ml, .int (nI (c0 + 1))])), (v7, .inl (cB, m8, .inl f9))]) (w1 := []) hP hD [] [0, 1] rfl rfl (by decide) (by decide) hk1 hFc hP1 hD1
  clear hPc hDc hFc hDv hpre hP hD hP1 hK1 hD1
  obtain ⟨hP, hD⟩ := hPD9
  replace hz : s.heap.size + 0 ≤ H12.size := by omega
  clear hz2
  replace hP : va_P (dC, dI) vwCl [(h0, .inr (1, [.ref v7, .int 0, ml, .int (nI (c0 + 1))])), (v7, .inl (cB, m8, .inl f9))] H12 := hP
  replace hD : va_D A [(h0, .inr (1, [.ref v7, .int 0, ml, .int (nI (c0 + 1))])), (v7, .inl (cB, m8, .inl f9))] := hD
  refine W.widen (k := 1) (n := 65536) (by omega) (by omega) ?_
  have hPc := hP.sub (ws' := [(h0, .inr (1, [.ref v7, .int 0, ml, .int (nI (c0 + 1))])), (v7, .inl (cB, m8, .inl f9))]) [0, 1] rfl
  have hDc := hD.sub (ws' := [(h0, .inr (1, [.ref v7, .int 0, ml, .int (nI (c0 + 1))])), (v7, .inl (cB, m8, .inl f9))]) [0, 1] (by decide) rfl
  have hFc := va_free (wc := [(h0, .inr (1, [.ref v7, .int 0, ml, .int (nI (c0 + 1))])), (v7, .inl (cB, m8, .inl f9))]) hD hS hA [0, 1] rfl
  have hDv := hDc.self (sz := H12.size)
  have hpre := zpre (xs' := []) (av := [.ref h0, .int 32]) hPc hK (hDc.weaken (fun _ _ _ h => h)) hZ hS hFc (fun r hr => by cases hr)
  refine va_callr (va_runV (As := [.int 32]) (rest := []) ⟨hx, hb, hml, hown, hts⟩ (k_apC l dC dI cI cB cR cO zk h0 v7 m8 (c0 + 1) f9 ml 32 H12.size hmm8 (by omega) (by omega) hff9 (by decide) (by decide +kernel)) (cwV 1 hts gX1_writeSigns_J4_append_cf468 rfl rfl rfl (by decide +kernel) ⟨Nat.le_of_ble_eq_true rfl, Nat.le_of_ble_eq_true rfl⟩) ⟨zblind, (zrecv_1 hK hPc (q0 := 0) rfl), hpre⟩ rfl rfl hl.1 rfl (lv_room (Nat.le_of_ble_eq_true rfl)) dX1_writeSigns_16 ⟨Nat.le_of_ble_eq_true rfl, Nat.le_of_ble_eq_true rfl⟩) hS (fun q _ h => hFc q h) hFc (fun u r15 t H14 locs ht hvm hw hB hz1 hk1 hS => ?_)
  obtain ⟨v16, m17, f18, ⟨hP1, hK1, hD1, hz2⟩, hff18, hlm17, hmm17, her15⟩ := hB
  rw [ht] at hP1 hz2
  have hPD9 := va_join (wr := []) (w1 := [(h0, .inr (1, [.ref v16, .int 0, ml, .int (nI (c0 + 2))])), (v16, .inl (cB, m17, .inl f18))]) hP hD [0, 1] [] rfl rfl (by decide) (by decide) hk1 hFc hP1 hD1
  clear hPc hDc hFc hDv hpre hP hD hP1 hK1 hD1
  obtain ⟨hP, hD⟩ := hPD9
  replace hz : s.heap.size + 0 ≤ H14.size := by omega
  clear hz2
  replace hP : va_P (dC, dI) vwCl [(h0, .inr (1, [.ref v16, .int 0, ml, .int (nI (c0 + 2))])), (v16, .inl (cB, m17, .inl f18))] H14 := hP
  replace hD : va_D A [(h0, .inr (1, [.ref v16, .int 0, ml, .int (nI (c0 + 2))])), (v16, .inl (cB, m17, .inl f18))] := hD
  refine W.widen (k := 2) (n := 131072) (by omega) (by omega) ?_
  obtain rfl := her15.symm
  refine lv_pop hx hb dX1_writeSigns_19 rfl ?_
  refine lv_iinc (v := 2) (lv' := [(2, .int 2), (0, .ref h0), (1, .ref (zk 3))]) hx hb dX1_writeSigns_20 hl (k := 0) rfl (by decide) (by decide) rfl (fun ls hl => ?_)
  refine lv_goto (tgt := 2) hx hb dX1_writeSigns_23 (by decide) ?_
  refine lv_iload_n hx hb dX1_writeSigns_2 rfl (lv_at hl 0 rfl) ?_
  refine lv_aload_n hx hb dX1_writeSigns_3 rfl (lv_at hl 2 rfl) ?_
  have hPc := hP.sub (ws' := []) [] rfl
  have hDc := hD.sub (ws' := []) [] (by decide) rfl
  have hFc := va_free (wc := []) hD hS hA [] rfl
  have hDv := hDc.self (sz := H14.size)
  have hx0 : zS ((zk 3), (zk 13), 2, (fun j => (zByt.getD 2 []).getD j 0)) (va_A [] H14.size) s H14 := zR.x hZ hS hFc List.mem_cons_self
  have hpre := zpre (xs' := [((zk 3), (zk 13), 2, (fun j => (zByt.getD 2 []).getD j 0))]) (av := [.ref (zk 3)]) hPc hK (hDc.weaken (fun _ _ _ h => h)) hZ hS hFc (fun r hr => by cases hr with | head => exact hx0 | tail _ h => cases h)
  refine va_calli (va_runV (As := []) (rest := [.int 2]) ⟨hx, hb, hml, hown, hts⟩ (k_len l dC dI cI cB cR cO zk (zk 3) (zk 13) 2 (fun j => (zByt.getD 2 []).getD j 0) H14.size ) (cwV 0 hts gX1_writeSigns_J0_length_8abf5 rfl rfl rfl (by decide +kernel) ⟨Nat.le_of_ble_eq_true rfl, Nat.le_of_ble_eq_true rfl⟩) ⟨zblind, (zS.recv (zR.x (B := A) hZ hS (fun _ h => h) List.mem_cons_self)), hpre⟩ rfl rfl hl.1 rfl (lv_room (Nat.le_of_ble_eq_true rfl)) dX1_writeSigns_4 ⟨Nat.le_of_ble_eq_true rfl, Nat.le_of_ble_eq_true rfl⟩) hS (fun q _ h => hFc q h) hFc (fun r20 u t H19 locs ht hvm hw hB hz1 hk1 hS => ?_)
  obtain rfl : 2 = r20 := (show r20 = 2 from hw).symm
  obtain ⟨hP1, hK1, hD1, hz2⟩ := hB
  rw [ht] at hP1 hz2
  have hPD9 := va_join (wr := [(h0, .inr (1, [.ref v16, .int 0, ml, .int (nI (c0 + 2))])), (v16, .inl (cB, m17, .inl f18))]) (w1 := []) hP hD [] [0, 1] rfl rfl (by decide) (by decide) hk1 hFc hP1 hD1
  clear hPc hDc hFc hDv hpre hP hD hP1 hK1 hD1
  obtain ⟨hP, hD⟩ := hPD9
  replace hz : s.heap.size + 0 ≤ H19.size := by omega
  clear hz2
  replace hP : va_P (dC, dI) vwCl [(h0, .inr (1, [.ref v16, .int 0, ml, .int (nI (c0 + 2))])), (v16, .inl (cB, m17, .inl f18))] H19 := hP
  replace hD : va_D A [(h0, .inr (1, [.ref v16, .int 0, ml, .int (nI (c0 + 2))])), (v16, .inl (cB, m17, .inl f18))] := hD
  refine W.widen (k := 2) (n := 131072) (by omega) (by omega) ?_
  refine lv_icmp_ge (tgt := 26) hx hb dX1_writeSigns_7 (by decide) (fun c9 => ?_) (fun c9 => ?_)
  rotate_left
  · exact absurd (by decide) c9
  have hP9 := hP.sub (ws' := [(h0, .inr (1, [.ref v16, .int 0, ml, .int (nI (c0 + 2))])), (v16, .inl (cB, m17, .inl f18))]) [0, 1] rfl
  have hD9 := hD.sub (ws' := [(h0, .inr (1, [.ref v16, .int 0, ml, .int (nI (c0 + 2))])), (v16, .inl (cB, m17, .inl f18))]) [0, 1] (by decide) rfl
  exact W.vret hx hb hr (fun t ht hW => ⟨⟨(), rfl, trivial, ⟨_, _, _, ⟨by rw [ht]; exact hP9, va_K.moved hW.alike hK, hD9, by rw [ht]; exact hz⟩, hff18, (by omega), hmm17⟩⟩, hS.F ht⟩) hS.2.2 dX1_writeSigns_26

set_option maxHeartbeats 4000000 in
set_option maxRecDepth 100000 in
theorem k_wSig4 (l : Launch) (dC : Nat → ClassId) (dI : Nat → Nat → Nat) (cI cB cR cO : ClassId) (zk : Nat → Nat) (h0 v0 m c0 : Nat) (g : Nat → Int32) (ml : Value) (sz : Nat) (hm : m ≤ 65536) (hcm : c0 ≤ m) (hc0 : c0 + 4 ≤ 2000) (hg : sb_Fit g) : Met l yX1_writeSigns wsX1_writeSigns ({ frames := 6, cells := 4, slots := 262144, locals := 186 }) (va_Pc [.ref h0, .ref (zk 5)] (zPre (dC, dI) (zT cI cB cR cO) zk [((zk 5), (zk 15), 4, (fun j => (zByt.getD 4 []).getD j 0))] [(h0, .inr (1, [.ref v0, .int 0, ml, .int (nI c0)])), (v0, .inl (cB, m, .inl g))] sz)) (va_Qv (fun _ : Unit => True) (fun _ t => ∃ v3, ∃ m3, ∃ (f3 : Nat → Int32), zEnd (dC, dI) (zT cI cB cR cO) (va_A [(h0, .inr (1, [.ref v0, .int 0, ml, .int (nI c0)])), (v0, .inl (cB, m, .inl g))] sz) [(h0, .inr (1, [.ref v3, .int 0, ml, .int (nI (c0 + 4))])), (v3, .inl (cB, m3, .inl f3))] sz 0 t ∧ sb_Fit f3 ∧ c0 + 4 ≤ m3 ∧ m3 ≤ 65536) (va_A [(h0, .inr (1, [.ref v0, .int 0, ml, .int (nI c0)])), (v0, .inl (cB, m, .inl g))] sz)) 4 262144 (va_A [(h0, .inr (1, [.ref v0, .int 0, ml, .int (nI c0)])), (v0, .inl (cB, m, .inl g))] sz) := by
  refine Met.ofW (cc := cX1_writeSigns) (maxL := 3) (ret := none) (by decide) rfl ?_
  intro p e s mY args below meth c s₁ B hml hv
  obtain ⟨rfl, hsz, hP, hK, hD0, hZ⟩ := hv
  have hx := B.exec
  have hb := B.bytes
  have hr := B.returns
  have hts := atoms_spec (ws := wsX1_writeSigns) B.pre
  have hown : s.vm.findClass RX1 = some mY.cls := findClass_of_methodNamed B.named
  have hlocks := B.notSynchronized
  subst hsz
  have hD := hD0.self (sz := s.heap.size)
  generalize hAe : va_A [(h0, .inr (1, [.ref v0, .int 0, ml, .int (nI c0)])), (v0, .inl (cB, m, .inl g))] s.heap.size = A at hD hZ ⊢
  have hA : ∀ q : Nat, s.heap.size ≤ q → A q := fun q h => by rw [← hAe]; exact Or.inr h
  have hS : va_S A s.heap s.heap [] := va_S.rf
  have hz : s.heap.size + 0 ≤ s.heap.size := Nat.le_refl _
  have hl := lv_entry ([.ref h0, .ref (zk 5)]) (n := 3) (Nat.le_of_ble_eq_true rfl)
  rw [lg_entry_eq]
  generalize (lg_sl ([.ref h0, .ref (zk 5)]) ++ List.replicate (3 - (lg_sl ([.ref h0, .ref (zk 5)])).length) Slot.unset).toArray = ls at hl ⊢
  have hl : lv_has ls 3 [(0, .ref h0), (1, .ref (zk 5))] := hl
  have hP : va_P (dC, dI) vwCl [(h0, .inr (1, [.ref v0, .int 0, ml, .int (nI c0)])), (v0, .inl (cB, m, .inl g))] s.heap := hP
  have hD : va_D A [(h0, .inr (1, [.ref v0, .int 0, ml, .int (nI c0)])), (v0, .inl (cB, m, .inl g))] := hD
  refine lv_iconst (v := 0) hx hb dX1_writeSigns_0 (by decide) ?_
  refine lv_istore_n (lv' := [(2, .int 0), (0, .ref h0), (1, .ref (zk 5))]) hx hb dX1_writeSigns_1 rfl hl (by decide) rfl (fun ls hl => ?_)
  refine lv_iload_n hx hb dX1_writeSigns_2 rfl (lv_at hl 0 rfl) ?_
  refine lv_aload_n hx hb dX1_writeSigns_3 rfl (lv_at hl 2 rfl) ?_
  have hPc := hP.sub (ws' := []) [] rfl
  have hDc := hD.sub (ws' := []) [] (by decide) rfl
  have hFc := va_free (wc := []) hD hS hA [] rfl
  have hDv := hDc.self (sz := s.heap.size)
  have hx0 : zS ((zk 5), (zk 15), 4, (fun j => (zByt.getD 4 []).getD j 0)) (va_A [] s.heap.size) s s.heap := zR.x hZ hS hFc List.mem_cons_self
  have hpre := zpre (xs' := [((zk 5), (zk 15), 4, (fun j => (zByt.getD 4 []).getD j 0))]) (av := [.ref (zk 5)]) hPc hK (hDc.weaken (fun _ _ _ h => h)) hZ hS hFc (fun r hr => by cases hr with | head => exact hx0 | tail _ h => cases h)
  refine va_calli (va_runV (As := []) (rest := [.int 0]) ⟨hx, hb, hml, hown, hts⟩ (k_len l dC dI cI cB cR cO zk (zk 5) (zk 15) 4 (fun j => (zByt.getD 4 []).getD j 0) s.heap.size ) (cwV 0 hts gX1_writeSigns_J0_length_8abf5 rfl rfl rfl (by decide +kernel) ⟨Nat.le_of_ble_eq_true rfl, Nat.le_of_ble_eq_true rfl⟩) ⟨zblind, (zS.recv (zR.x (B := A) hZ hS (fun _ h => h) List.mem_cons_self)), hpre⟩ rfl rfl hl.1 rfl (lv_room (Nat.le_of_ble_eq_true rfl)) dX1_writeSigns_4 ⟨Nat.le_of_ble_eq_true rfl, Nat.le_of_ble_eq_true rfl⟩) hS (fun q _ h => hFc q h) hFc (fun r2 u t H1 locs ht hvm hw hB hz1 hk1 hS => ?_)
  obtain rfl : 4 = r2 := (show r2 = 4 from hw).symm
  obtain ⟨hP1, hK1, hD1, hz2⟩ := hB
  rw [ht] at hP1 hz2
  have hPD9 := va_join (wr := [(h0, .inr (1, [.ref v0, .int 0, ml, .int (nI c0)])), (v0, .inl (cB, m, .inl g))]) (w1 := []) hP hD [] [0, 1] rfl rfl (by decide) (by decide) hk1 hFc hP1 hD1
  clear hPc hDc hFc hDv hpre hP hD hP1 hK1 hD1
  obtain ⟨hP, hD⟩ := hPD9
  replace hz : s.heap.size + 0 ≤ H1.size := by omega
  clear hz2
  replace hP : va_P (dC, dI) vwCl [(h0, .inr (1, [.ref v0, .int 0, ml, .int (nI c0)])), (v0, .inl (cB, m, .inl g))] H1 := hP
  replace hD : va_D A [(h0, .inr (1, [.ref v0, .int 0, ml, .int (nI c0)])), (v0, .inl (cB, m, .inl g))] := hD
  refine W.widen (k := 0) (n := 0) (by omega) (by omega) ?_
  refine lv_icmp_ge (tgt := 26) hx hb dX1_writeSigns_7 (by decide) (fun c9 => ?_) (fun c9 => ?_)
  · exact absurd c9 (by decide)
  refine lv_aload_n hx hb dX1_writeSigns_10 rfl (lv_at hl 1 rfl) ?_
  refine lv_aload_n hx hb dX1_writeSigns_11 rfl (lv_at hl 2 rfl) ?_
  refine lv_iload_n hx hb dX1_writeSigns_12 rfl (lv_at hl 0 rfl) ?_
  have hPc := hP.sub (ws' := []) [] rfl
  have hDc := hD.sub (ws' := []) [] (by decide) rfl
  have hFc := va_free (wc := []) hD hS hA [] rfl
  have hDv := hDc.self (sz := H1.size)
  have hx0 : zS ((zk 5), (zk 15), 4, (fun j => (zByt.getD 4 []).getD j 0)) (va_A [] H1.size) s H1 := zR.x hZ hS hFc List.mem_cons_self
  have hpre := zpre (xs' := [((zk 5), (zk 15), 4, (fun j => (zByt.getD 4 []).getD j 0))]) (av := [.ref (zk 5), .int 0]) hPc hK (hDc.weaken (fun _ _ _ h => h)) hZ hS hFc (fun r hr => by cases hr with | head => exact hx0 | tail _ h => cases h)
  refine va_calli (va_runV (As := [.int 0]) (rest := [.ref h0]) ⟨hx, hb, hml, hown, hts⟩ (k_chA l dC dI cI cB cR cO zk (zk 5) (zk 15) 4 0 (fun j => (zByt.getD 4 []).getD j 0) 110 H1.size (by decide) (by decide) (by decide) (by decide +kernel)) (cwV 1 hts gX1_writeSigns_J0_charAt_5068e rfl rfl rfl (by decide +kernel) ⟨Nat.le_of_ble_eq_true rfl, Nat.le_of_ble_eq_true rfl⟩) ⟨zblind, (zS.recv (zR.x (B := A) hZ hS (fun _ h => h) List.mem_cons_self)), hpre⟩ rfl rfl hl.1 rfl (lv_room (Nat.le_of_ble_eq_true rfl)) dX1_writeSigns_13 ⟨Nat.le_of_ble_eq_true rfl, Nat.le_of_ble_eq_true rfl⟩) hS (fun q _ h => hFc q h) hFc (fun r4 u t H3 locs ht hvm hw hB hz1 hk1 hS => ?_)
  obtain rfl : 110 = r4 := (show r4 = 110 from hw).symm
  obtain ⟨hP1, hK1, hD1, hz2⟩ := hB
  rw [ht] at hP1 hz2
  have hPD9 := va_join (wr := [(h0, .inr (1, [.ref v0, .int 0, ml, .int (nI c0)])), (v0, .inl (cB, m, .inl g))]) (w1 := []) hP hD [] [0, 1] rfl rfl (by decide) (by decide) hk1 hFc hP1 hD1
  clear hPc hDc hFc hDv hpre hP hD hP1 hK1 hD1
  obtain ⟨hP, hD⟩ := hPD9
  replace hz : s.heap.size + 0 ≤ H3.size := by omega
  clear hz2
  replace hP : va_P (dC, dI) vwCl [(h0, .inr (1, [.ref v0, .int 0, ml, .int (nI c0)])), (v0, .inl (cB, m, .inl g))] H3 := hP
  replace hD : va_D A [(h0, .inr (1, [.ref v0, .int 0, ml, .int (nI c0)])), (v0, .inl (cB, m, .inl g))] := hD
  refine W.widen (k := 0) (n := 0) (by omega) (by omega) ?_
  have hPc := hP.sub (ws' := [(h0, .inr (1, [.ref v0, .int 0, ml, .int (nI c0)])), (v0, .inl (cB, m, .inl g))]) [0, 1] rfl
  have hDc := hD.sub (ws' := [(h0, .inr (1, [.ref v0, .int 0, ml, .int (nI c0)])), (v0, .inl (cB, m, .inl g))]) [0, 1] (by decide) rfl
  have hFc := va_free (wc := [(h0, .inr (1, [.ref v0, .int 0, ml, .int (nI c0)])), (v0, .inl (cB, m, .inl g))]) hD hS hA [0, 1] rfl
  have hDv := hDc.self (sz := H3.size)
  have hpre := zpre (xs' := []) (av := [.ref h0, .int 110]) hPc hK (hDc.weaken (fun _ _ _ h => h)) hZ hS hFc (fun r hr => by cases hr)
  refine va_callr (va_runV (As := [.int 110]) (rest := []) ⟨hx, hb, hml, hown, hts⟩ (k_apC l dC dI cI cB cR cO zk h0 v0 m c0 g ml 110 H3.size hm hcm (by omega) hg (by decide) (by decide +kernel)) (cwV 1 hts gX1_writeSigns_J4_append_cf468 rfl rfl rfl (by decide +kernel) ⟨Nat.le_of_ble_eq_true rfl, Nat.le_of_ble_eq_true rfl⟩) ⟨zblind, (zrecv_1 hK hPc (q0 := 0) rfl), hpre⟩ rfl rfl hl.1 rfl (lv_room (Nat.le_of_ble_eq_true rfl)) dX1_writeSigns_16 ⟨Nat.le_of_ble_eq_true rfl, Nat.le_of_ble_eq_true rfl⟩) hS (fun q _ h => hFc q h) hFc (fun u r6 t H5 locs ht hvm hw hB hz1 hk1 hS => ?_)
  obtain ⟨v7, m8, f9, ⟨hP1, hK1, hD1, hz2⟩, hff9, hlm8, hmm8, her6⟩ := hB
  rw [ht] at hP1 hz2
  have hPD9 := va_join (wr := []) (w1 := [(h0, .inr (1, [.ref v7, .int 0, ml, .int (nI (c0 + 1))])), (v7, .inl (cB, m8, .inl f9))]) hP hD [0, 1] [] rfl rfl (by decide) (by decide) hk1 hFc hP1 hD1
  clear hPc hDc hFc hDv hpre hP hD hP1 hK1 hD1
  obtain ⟨hP, hD⟩ := hPD9
  replace hz : s.heap.size + 0 ≤ H5.size := by omega
  clear hz2
  replace hP : va_P (dC, dI) vwCl [(h0, .inr (1, [.ref v7, .int 0, ml, .int (nI (c0 + 1))])), (v7, .inl (cB, m8, .inl f9))] H5 := hP
  replace hD : va_D A [(h0, .inr (1, [.ref v7, .int 0, ml, .int (nI (c0 + 1))])), (v7, .inl (cB, m8, .inl f9))] := hD
  refine W.widen (k := 1) (n := 65536) (by omega) (by omega) ?_
  obtain rfl := her6.symm
  refine lv_pop hx hb dX1_writeSigns_19 rfl ?_
  refine lv_iinc (v := 1) (lv' := [(2, .int 1), (0, .ref h0), (1, .ref (zk 5))]) hx hb dX1_writeSigns_20 hl (k := 0) rfl (by decide) (by decide) rfl (fun ls hl => ?_)
  refine lv_goto (tgt := 2) hx hb dX1_writeSigns_23 (by decide) ?_
  refine lv_iload_n hx hb dX1_writeSigns_2 rfl (lv_at hl 0 rfl) ?_
  refine lv_aload_n hx hb dX1_writeSigns_3 rfl (lv_at hl 2 rfl) ?_
  have hPc := hP.sub (ws' := []) [] rfl
  have hDc := hD.sub (ws' := []) [] (by decide) rfl
  have hFc := va_free (wc := []) hD hS hA [] rfl
  have hDv := hDc.self (sz := H5.size)
  have hx0 : zS ((zk 5), (zk 15), 4, (fun j => (zByt.getD 4 []).getD j 0)) (va_A [] H5.size) s H5 := zR.x hZ hS hFc List.mem_cons_self
  have hpre := zpre (xs' := [((zk 5), (zk 15), 4, (fun j => (zByt.getD 4 []).getD j 0))]) (av := [.ref (zk 5)]) hPc hK (hDc.weaken (fun _ _ _ h => h)) hZ hS hFc (fun r hr => by cases hr with | head => exact hx0 | tail _ h => cases h)
  refine va_calli (va_runV (As := []) (rest := [.int 1]) ⟨hx, hb, hml, hown, hts⟩ (k_len l dC dI cI cB cR cO zk (zk 5) (zk 15) 4 (fun j => (zByt.getD 4 []).getD j 0) H5.size ) (cwV 0 hts gX1_writeSigns_J0_length_8abf5 rfl rfl rfl (by decide +kernel) ⟨Nat.le_of_ble_eq_true rfl, Nat.le_of_ble_eq_true rfl⟩) ⟨zblind, (zS.recv (zR.x (B := A) hZ hS (fun _ h => h) List.mem_cons_self)), hpre⟩ rfl rfl hl.1 rfl (lv_room (Nat.le_of_ble_eq_true rfl)) dX1_writeSigns_4 ⟨Nat.le_of_ble_eq_true rfl, Nat.le_of_ble_eq_true rfl⟩) hS (fun q _ h => hFc q h) hFc (fun r11 u t H10 locs ht hvm hw hB hz1 hk1 hS => ?_)
  obtain rfl : 4 = r11 := (show r11 = 4 from hw).symm
  obtain ⟨hP1, hK1, hD1, hz2⟩ := hB
  rw [ht] at hP1 hz2
  have hPD9 := va_join (wr := [(h0, .inr (1, [.ref v7, .int 0, ml, .int (nI (c0 + 1))])), (v7, .inl (cB, m8, .inl f9))]) (w1 := []) hP hD [] [0, 1] rfl rfl (by decide) (by decide) hk1 hFc hP1 hD1
  clear hPc hDc hFc hDv hpre hP hD hP1 hK1 hD1
  obtain ⟨hP, hD⟩ := hPD9
  replace hz : s.heap.size + 0 ≤ H10.size := by omega
  clear hz2
  replace hP : va_P (dC, dI) vwCl [(h0, .inr (1, [.ref v7, .int 0, ml, .int (nI (c0 + 1))])), (v7, .inl (cB, m8, .inl f9))] H10 := hP
  replace hD : va_D A [(h0, .inr (1, [.ref v7, .int 0, ml, .int (nI (c0 + 1))])), (v7, .inl (cB, m8, .inl f9))] := hD
  refine W.widen (k := 1) (n := 65536) (by omega) (by omega) ?_
  refine lv_icmp_ge (tgt := 26) hx hb dX1_writeSigns_7 (by decide) (fun c9 => ?_) (fun c9 => ?_)
  · exact absurd c9 (by decide)
  refine lv_aload_n hx hb dX1_writeSigns_10 rfl (lv_at hl 1 rfl) ?_
  refine lv_aload_n hx hb dX1_writeSigns_11 rfl (lv_at hl 2 rfl) ?_
  refine lv_iload_n hx hb dX1_writeSigns_12 rfl (lv_at hl 0 rfl) ?_
  have hPc := hP.sub (ws' := []) [] rfl
  have hDc := hD.sub (ws' := []) [] (by decide) rfl
  have hFc := va_free (wc := []) hD hS hA [] rfl
  have hDv := hDc.self (sz := H10.size)
  have hx0 : zS ((zk 5), (zk 15), 4, (fun j => (zByt.getD 4 []).getD j 0)) (va_A [] H10.size) s H10 := zR.x hZ hS hFc List.mem_cons_self
  have hpre := zpre (xs' := [((zk 5), (zk 15), 4, (fun j => (zByt.getD 4 []).getD j 0))]) (av := [.ref (zk 5), .int 1]) hPc hK (hDc.weaken (fun _ _ _ h => h)) hZ hS hFc (fun r hr => by cases hr with | head => exact hx0 | tail _ h => cases h)
  refine va_calli (va_runV (As := [.int 1]) (rest := [.ref h0]) ⟨hx, hb, hml, hown, hts⟩ (k_chA l dC dI cI cB cR cO zk (zk 5) (zk 15) 4 1 (fun j => (zByt.getD 4 []).getD j 0) 117 H10.size (by decide) (by decide) (by decide) (by decide +kernel)) (cwV 1 hts gX1_writeSigns_J0_charAt_5068e rfl rfl rfl (by decide +kernel) ⟨Nat.le_of_ble_eq_true rfl, Nat.le_of_ble_eq_true rfl⟩) ⟨zblind, (zS.recv (zR.x (B := A) hZ hS (fun _ h => h) List.mem_cons_self)), hpre⟩ rfl rfl hl.1 rfl (lv_room (Nat.le_of_ble_eq_true rfl)) dX1_writeSigns_13 ⟨Nat.le_of_ble_eq_true rfl, Nat.le_of_ble_eq_true rfl⟩) hS (fun q _ h => hFc q h) hFc (fun r13 u t H12 locs ht hvm hw hB hz1 hk1 hS => ?_)
  obtain rfl : 117 = r13 := (show r13 = 117 from hw).symm
  obtain ⟨hP1, hK1, hD1, hz2⟩ := hB
  rw [ht] at hP1 hz2
  have hPD9 := va_join (wr := [(h0, .inr (1, [.ref v7, .int 0, ml, .int (nI (c0 + 1))])), (v7, .inl (cB, m8, .inl f9))]) (w1 := []) hP hD [] [0, 1] rfl rfl (by decide) (by decide) hk1 hFc hP1 hD1
  clear hPc hDc hFc hDv hpre hP hD hP1 hK1 hD1
  obtain ⟨hP, hD⟩ := hPD9
  replace hz : s.heap.size + 0 ≤ H12.size := by omega
  clear hz2
  replace hP : va_P (dC, dI) vwCl [(h0, .inr (1, [.ref v7, .int 0, ml, .int (nI (c0 + 1))])), (v7, .inl (cB, m8, .inl f9))] H12 := hP
  replace hD : va_D A [(h0, .inr (1, [.ref v7, .int 0, ml, .int (nI (c0 + 1))])), (v7, .inl (cB, m8, .inl f9))] := hD
  refine W.widen (k := 1) (n := 65536) (by omega) (by omega) ?_
  have hPc := hP.sub (ws' := [(h0, .inr (1, [.ref v7, .int 0, ml, .int (nI (c0 + 1))])), (v7, .inl (cB, m8, .inl f9))]) [0, 1] rfl
  have hDc := hD.sub (ws' := [(h0, .inr (1, [.ref v7, .int 0, ml, .int (nI (c0 + 1))])), (v7, .inl (cB, m8, .inl f9))]) [0, 1] (by decide) rfl
  have hFc := va_free (wc := [(h0, .inr (1, [.ref v7, .int 0, ml, .int (nI (c0 + 1))])), (v7, .inl (cB, m8, .inl f9))]) hD hS hA [0, 1] rfl
  have hDv := hDc.self (sz := H12.size)
  have hpre := zpre (xs' := []) (av := [.ref h0, .int 117]) hPc hK (hDc.weaken (fun _ _ _ h => h)) hZ hS hFc (fun r hr => by cases hr)
  refine va_callr (va_runV (As := [.int 117]) (rest := []) ⟨hx, hb, hml, hown, hts⟩ (k_apC l dC dI cI cB cR cO zk h0 v7 m8 (c0 + 1) f9 ml 117 H12.size hmm8 (by omega) (by omega) hff9 (by decide) (by decide +kernel)) (cwV 1 hts gX1_writeSigns_J4_append_cf468 rfl rfl rfl (by decide +kernel) ⟨Nat.le_of_ble_eq_true rfl, Nat.le_of_ble_eq_true rfl⟩) ⟨zblind, (zrecv_1 hK hPc (q0 := 0) rfl), hpre⟩ rfl rfl hl.1 rfl (lv_room (Nat.le_of_ble_eq_true rfl)) dX1_writeSigns_16 ⟨Nat.le_of_ble_eq_true rfl, Nat.le_of_ble_eq_true rfl⟩) hS (fun q _ h => hFc q h) hFc (fun u r15 t H14 locs ht hvm hw hB hz1 hk1 hS => ?_)
  obtain ⟨v16, m17, f18, ⟨hP1, hK1, hD1, hz2⟩, hff18, hlm17, hmm17, her15⟩ := hB
  rw [ht] at hP1 hz2
  have hPD9 := va_join (wr := []) (w1 := [(h0, .inr (1, [.ref v16, .int 0, ml, .int (nI (c0 + 2))])), (v16, .inl (cB, m17, .inl f18))]) hP hD [0, 1] [] rfl rfl (by decide) (by decide) hk1 hFc hP1 hD1
  clear hPc hDc hFc hDv hpre hP hD hP1 hK1 hD1
  obtain ⟨hP, hD⟩ := hPD9
  replace hz : s.heap.size + 0 ≤ H14.size := by omega
  clear hz2
  replace hP : va_P (dC, dI) vwCl [(h0, .inr (1, [.ref v16, .int 0, ml, .int (nI (c0 + 2))])), (v16, .inl (cB, m17, .inl f18))] H14 := hP
  replace hD : va_D A [(h0, .inr (1, [.ref v16, .int 0, ml, .int (nI (c0 + 2))])), (v16, .inl (cB, m17, .inl f18))] := hD
  refine W.widen (k := 2) (n := 131072) (by omega) (by omega) ?_
  obtain rfl := her15.symm
  refine lv_pop hx hb dX1_writeSigns_19 rfl ?_
  refine lv_iinc (v := 2) (lv' := [(2, .int 2), (0, .ref h0), (1, .ref (zk 5))]) hx hb dX1_writeSigns_20 hl (k := 0) rfl (by decide) (by decide) rfl (fun ls hl => ?_)
  refine lv_goto (tgt := 2) hx hb dX1_writeSigns_23 (by decide) ?_
  refine lv_iload_n hx hb dX1_writeSigns_2 rfl (lv_at hl 0 rfl) ?_
  refine lv_aload_n hx hb dX1_writeSigns_3 rfl (lv_at hl 2 rfl) ?_
  have hPc := hP.sub (ws' := []) [] rfl
  have hDc := hD.sub (ws' := []) [] (by decide) rfl
  have hFc := va_free (wc := []) hD hS hA [] rfl
  have hDv := hDc.self (sz := H14.size)
  have hx0 : zS ((zk 5), (zk 15), 4, (fun j => (zByt.getD 4 []).getD j 0)) (va_A [] H14.size) s H14 := zR.x hZ hS hFc List.mem_cons_self
  have hpre := zpre (xs' := [((zk 5), (zk 15), 4, (fun j => (zByt.getD 4 []).getD j 0))]) (av := [.ref (zk 5)]) hPc hK (hDc.weaken (fun _ _ _ h => h)) hZ hS hFc (fun r hr => by cases hr with | head => exact hx0 | tail _ h => cases h)
  refine va_calli (va_runV (As := []) (rest := [.int 2]) ⟨hx, hb, hml, hown, hts⟩ (k_len l dC dI cI cB cR cO zk (zk 5) (zk 15) 4 (fun j => (zByt.getD 4 []).getD j 0) H14.size ) (cwV 0 hts gX1_writeSigns_J0_length_8abf5 rfl rfl rfl (by decide +kernel) ⟨Nat.le_of_ble_eq_true rfl, Nat.le_of_ble_eq_true rfl⟩) ⟨zblind, (zS.recv (zR.x (B := A) hZ hS (fun _ h => h) List.mem_cons_self)), hpre⟩ rfl rfl hl.1 rfl (lv_room (Nat.le_of_ble_eq_true rfl)) dX1_writeSigns_4 ⟨Nat.le_of_ble_eq_true rfl, Nat.le_of_ble_eq_true rfl⟩) hS (fun q _ h => hFc q h) hFc (fun r20 u t H19 locs ht hvm hw hB hz1 hk1 hS => ?_)
  obtain rfl : 4 = r20 := (show r20 = 4 from hw).symm
  obtain ⟨hP1, hK1, hD1, hz2⟩ := hB
  rw [ht] at hP1 hz2
  have hPD9 := va_join (wr := [(h0, .inr (1, [.ref v16, .int 0, ml, .int (nI (c0 + 2))])), (v16, .inl (cB, m17, .inl f18))]) (w1 := []) hP hD [] [0, 1] rfl rfl (by decide) (by decide) hk1 hFc hP1 hD1
  clear hPc hDc hFc hDv hpre hP hD hP1 hK1 hD1
  obtain ⟨hP, hD⟩ := hPD9
  replace hz : s.heap.size + 0 ≤ H19.size := by omega
  clear hz2
  replace hP : va_P (dC, dI) vwCl [(h0, .inr (1, [.ref v16, .int 0, ml, .int (nI (c0 + 2))])), (v16, .inl (cB, m17, .inl f18))] H19 := hP
  replace hD : va_D A [(h0, .inr (1, [.ref v16, .int 0, ml, .int (nI (c0 + 2))])), (v16, .inl (cB, m17, .inl f18))] := hD
  refine W.widen (k := 2) (n := 131072) (by omega) (by omega) ?_
  refine lv_icmp_ge (tgt := 26) hx hb dX1_writeSigns_7 (by decide) (fun c9 => ?_) (fun c9 => ?_)
  · exact absurd c9 (by decide)
  refine lv_aload_n hx hb dX1_writeSigns_10 rfl (lv_at hl 1 rfl) ?_
  refine lv_aload_n hx hb dX1_writeSigns_11 rfl (lv_at hl 2 rfl) ?_
  refine lv_iload_n hx hb dX1_writeSigns_12 rfl (lv_at hl 0 rfl) ?_
  have hPc := hP.sub (ws' := []) [] rfl
  have hDc := hD.sub (ws' := []) [] (by decide) rfl
  have hFc := va_free (wc := []) hD hS hA [] rfl
  have hDv := hDc.self (sz := H19.size)
  have hx0 : zS ((zk 5), (zk 15), 4, (fun j => (zByt.getD 4 []).getD j 0)) (va_A [] H19.size) s H19 := zR.x hZ hS hFc List.mem_cons_self
  have hpre := zpre (xs' := [((zk 5), (zk 15), 4, (fun j => (zByt.getD 4 []).getD j 0))]) (av := [.ref (zk 5), .int 2]) hPc hK (hDc.weaken (fun _ _ _ h => h)) hZ hS hFc (fun r hr => by cases hr with | head => exact hx0 | tail _ h => cases h)
  refine va_calli (va_runV (As := [.int 2]) (rest := [.ref h0]) ⟨hx, hb, hml, hown, hts⟩ (k_chA l dC dI cI cB cR cO zk (zk 5) (zk 15) 4 2 (fun j => (zByt.getD 4 []).getD j 0) 108 H19.size (by decide) (by decide) (by decide) (by decide +kernel)) (cwV 1 hts gX1_writeSigns_J0_charAt_5068e rfl rfl rfl (by decide +kernel) ⟨Nat.le_of_ble_eq_true rfl, Nat.le_of_ble_eq_true rfl⟩) ⟨zblind, (zS.recv (zR.x (B := A) hZ hS (fun _ h => h) List.mem_cons_self)), hpre⟩ rfl rfl hl.1 rfl (lv_room (Nat.le_of_ble_eq_true rfl)) dX1_writeSigns_13 ⟨Nat.le_of_ble_eq_true rfl, Nat.le_of_ble_eq_true rfl⟩) hS (fun q _ h => hFc q h) hFc (fun r22 u t H21 locs ht hvm hw hB hz1 hk1 hS => ?_)
  obtain rfl : 108 = r22 := (show r22 = 108 from hw).symm
  obtain ⟨hP1, hK1, hD1, hz2⟩ := hB
  rw [ht] at hP1 hz2
  have hPD9 := va_join (wr := [(h0, .inr (1, [.ref v16, .int 0, ml, .int (nI (c0 + 2))])), (v16, .inl (cB, m17, .inl f18))]) (w1 := []) hP hD [] [0, 1] rfl rfl (by decide) (by decide) hk1 hFc hP1 hD1
  clear hPc hDc hFc hDv hpre hP hD hP1 hK1 hD1
  obtain ⟨hP, hD⟩ := hPD9
  replace hz : s.heap.size + 0 ≤ H21.size := by omega
  clear hz2
  replace hP : va_P (dC, dI) vwCl [(h0, .inr (1, [.ref v16, .int 0, ml, .int (nI (c0 + 2))])), (v16, .inl (cB, m17, .inl f18))] H21 := hP
  replace hD : va_D A [(h0, .inr (1, [.ref v16, .int 0, ml, .int (nI (c0 + 2))])), (v16, .inl (cB, m17, .inl f18))] := hD
  refine W.widen (k := 2) (n := 131072) (by omega) (by omega) ?_
  have hPc := hP.sub (ws' := [(h0, .inr (1, [.ref v16, .int 0, ml, .int (nI (c0 + 2))])), (v16, .inl (cB, m17, .inl f18))]) [0, 1] rfl
  have hDc := hD.sub (ws' := [(h0, .inr (1, [.ref v16, .int 0, ml, .int (nI (c0 + 2))])), (v16, .inl (cB, m17, .inl f18))]) [0, 1] (by decide) rfl
  have hFc := va_free (wc := [(h0, .inr (1, [.ref v16, .int 0, ml, .int (nI (c0 + 2))])), (v16, .inl (cB, m17, .inl f18))]) hD hS hA [0, 1] rfl
  have hDv := hDc.self (sz := H21.size)
  have hpre := zpre (xs' := []) (av := [.ref h0, .int 108]) hPc hK (hDc.weaken (fun _ _ _ h => h)) hZ hS hFc (fun r hr => by cases hr)
  refine va_callr (va_runV (As := [.int 108]) (rest := []) ⟨hx, hb, hml, hown, hts⟩ (k_apC l dC dI cI cB cR cO zk h0 v16 m17 (c0 + 2) f18 ml 108 H21.size hmm17 (by omega) (by omega) hff18 (by decide) (by decide +kernel)) (cwV 1 hts gX1_writeSigns_J4_append_cf468 rfl rfl rfl (by decide +kernel) ⟨Nat.le_of_ble_eq_true rfl, Nat.le_of_ble_eq_true rfl⟩) ⟨zblind, (zrecv_1 hK hPc (q0 := 0) rfl), hpre⟩ rfl rfl hl.1 rfl (lv_room (Nat.le_of_ble_eq_true rfl)) dX1_writeSigns_16 ⟨Nat.le_of_ble_eq_true rfl, Nat.le_of_ble_eq_true rfl⟩) hS (fun q _ h => hFc q h) hFc (fun u r24 t H23 locs ht hvm hw hB hz1 hk1 hS => ?_)
  obtain ⟨v25, m26, f27, ⟨hP1, hK1, hD1, hz2⟩, hff27, hlm26, hmm26, her24⟩ := hB
  rw [ht] at hP1 hz2
  have hPD9 := va_join (wr := []) (w1 := [(h0, .inr (1, [.ref v25, .int 0, ml, .int (nI (c0 + 3))])), (v25, .inl (cB, m26, .inl f27))]) hP hD [0, 1] [] rfl rfl (by decide) (by decide) hk1 hFc hP1 hD1
  clear hPc hDc hFc hDv hpre hP hD hP1 hK1 hD1
  obtain ⟨hP, hD⟩ := hPD9
  replace hz : s.heap.size + 0 ≤ H23.size := by omega
  clear hz2
  replace hP : va_P (dC, dI) vwCl [(h0, .inr (1, [.ref v25, .int 0, ml, .int (nI (c0 + 3))])), (v25, .inl (cB, m26, .inl f27))] H23 := hP
  replace hD : va_D A [(h0, .inr (1, [.ref v25, .int 0, ml, .int (nI (c0 + 3))])), (v25, .inl (cB, m26, .inl f27))] := hD
  refine W.widen (k := 3) (n := 196608) (by omega) (by omega) ?_
  obtain rfl := her24.symm
  refine lv_pop hx hb dX1_writeSigns_19 rfl ?_
  refine lv_iinc (v := 3) (lv' := [(2, .int 3), (0, .ref h0), (1, .ref (zk 5))]) hx hb dX1_writeSigns_20 hl (k := 0) rfl (by decide) (by decide) rfl (fun ls hl => ?_)
  refine lv_goto (tgt := 2) hx hb dX1_writeSigns_23 (by decide) ?_
  refine lv_iload_n hx hb dX1_writeSigns_2 rfl (lv_at hl 0 rfl) ?_
  refine lv_aload_n hx hb dX1_writeSigns_3 rfl (lv_at hl 2 rfl) ?_
  have hPc := hP.sub (ws' := []) [] rfl
  have hDc := hD.sub (ws' := []) [] (by decide) rfl
  have hFc := va_free (wc := []) hD hS hA [] rfl
  have hDv := hDc.self (sz := H23.size)
  have hx0 : zS ((zk 5), (zk 15), 4, (fun j => (zByt.getD 4 []).getD j 0)) (va_A [] H23.size) s H23 := zR.x hZ hS hFc List.mem_cons_self
  have hpre := zpre (xs' := [((zk 5), (zk 15), 4, (fun j => (zByt.getD 4 []).getD j 0))]) (av := [.ref (zk 5)]) hPc hK (hDc.weaken (fun _ _ _ h => h)) hZ hS hFc (fun r hr => by cases hr with | head => exact hx0 | tail _ h => cases h)
  refine va_calli (va_runV (As := []) (rest := [.int 3]) ⟨hx, hb, hml, hown, hts⟩ (k_len l dC dI cI cB cR cO zk (zk 5) (zk 15) 4 (fun j => (zByt.getD 4 []).getD j 0) H23.size ) (cwV 0 hts gX1_writeSigns_J0_length_8abf5 rfl rfl rfl (by decide +kernel) ⟨Nat.le_of_ble_eq_true rfl, Nat.le_of_ble_eq_true rfl⟩) ⟨zblind, (zS.recv (zR.x (B := A) hZ hS (fun _ h => h) List.mem_cons_self)), hpre⟩ rfl rfl hl.1 rfl (lv_room (Nat.le_of_ble_eq_true rfl)) dX1_writeSigns_4 ⟨Nat.le_of_ble_eq_true rfl, Nat.le_of_ble_eq_true rfl⟩) hS (fun q _ h => hFc q h) hFc (fun r29 u t H28 locs ht hvm hw hB hz1 hk1 hS => ?_)
  obtain rfl : 4 = r29 := (show r29 = 4 from hw).symm
  obtain ⟨hP1, hK1, hD1, hz2⟩ := hB
  rw [ht] at hP1 hz2
  have hPD9 := va_join (wr := [(h0, .inr (1, [.ref v25, .int 0, ml, .int (nI (c0 + 3))])), (v25, .inl (cB, m26, .inl f27))]) (w1 := []) hP hD [] [0, 1] rfl rfl (by decide) (by decide) hk1 hFc hP1 hD1
  clear hPc hDc hFc hDv hpre hP hD hP1 hK1 hD1
  obtain ⟨hP, hD⟩ := hPD9
  replace hz : s.heap.size + 0 ≤ H28.size := by omega
  clear hz2
  replace hP : va_P (dC, dI) vwCl [(h0, .inr (1, [.ref v25, .int 0, ml, .int (nI (c0 + 3))])), (v25, .inl (cB, m26, .inl f27))] H28 := hP
  replace hD : va_D A [(h0, .inr (1, [.ref v25, .int 0, ml, .int (nI (c0 + 3))])), (v25, .inl (cB, m26, .inl f27))] := hD
  refine W.widen (k := 3) (n := 196608) (by omega) (by omega) ?_
  refine lv_icmp_ge (tgt := 26) hx hb dX1_writeSigns_7 (by decide) (fun c9 => ?_) (fun c9 => ?_)
  · exact absurd c9 (by decide)
  refine lv_aload_n hx hb dX1_writeSigns_10 rfl (lv_at hl 1 rfl) ?_
  refine lv_aload_n hx hb dX1_writeSigns_11 rfl (lv_at hl 2 rfl) ?_
  refine lv_iload_n hx hb dX1_writeSigns_12 rfl (lv_at hl 0 rfl) ?_
  have hPc := hP.sub (ws' := []) [] rfl
  have hDc := hD.sub (ws' := []) [] (by decide) rfl
  have hFc := va_free (wc := []) hD hS hA [] rfl
  have hDv := hDc.self (sz := H28.size)
  have hx0 : zS ((zk 5), (zk 15), 4, (fun j => (zByt.getD 4 []).getD j 0)) (va_A [] H28.size) s H28 := zR.x hZ hS hFc List.mem_cons_self
  have hpre := zpre (xs' := [((zk 5), (zk 15), 4, (fun j => (zByt.getD 4 []).getD j 0))]) (av := [.ref (zk 5), .int 3]) hPc hK (hDc.weaken (fun _ _ _ h => h)) hZ hS hFc (fun r hr => by cases hr with | head => exact hx0 | tail _ h => cases h)
  refine va_calli (va_runV (As := [.int 3]) (rest := [.ref h0]) ⟨hx, hb, hml, hown, hts⟩ (k_chA l dC dI cI cB cR cO zk (zk 5) (zk 15) 4 3 (fun j => (zByt.getD 4 []).getD j 0) 108 H28.size (by decide) (by decide) (by decide) (by decide +kernel)) (cwV 1 hts gX1_writeSigns_J0_charAt_5068e rfl rfl rfl (by decide +kernel) ⟨Nat.le_of_ble_eq_true rfl, Nat.le_of_ble_eq_true rfl⟩) ⟨zblind, (zS.recv (zR.x (B := A) hZ hS (fun _ h => h) List.mem_cons_self)), hpre⟩ rfl rfl hl.1 rfl (lv_room (Nat.le_of_ble_eq_true rfl)) dX1_writeSigns_13 ⟨Nat.le_of_ble_eq_true rfl, Nat.le_of_ble_eq_true rfl⟩) hS (fun q _ h => hFc q h) hFc (fun r31 u t H30 locs ht hvm hw hB hz1 hk1 hS => ?_)
  obtain rfl : 108 = r31 := (show r31 = 108 from hw).symm
  obtain ⟨hP1, hK1, hD1, hz2⟩ := hB
  rw [ht] at hP1 hz2
  have hPD9 := va_join (wr := [(h0, .inr (1, [.ref v25, .int 0, ml, .int (nI (c0 + 3))])), (v25, .inl (cB, m26, .inl f27))]) (w1 := []) hP hD [] [0, 1] rfl rfl (by decide) (by decide) hk1 hFc hP1 hD1
  clear hPc hDc hFc hDv hpre hP hD hP1 hK1 hD1
  obtain ⟨hP, hD⟩ := hPD9
  replace hz : s.heap.size + 0 ≤ H30.size := by omega
  clear hz2
  replace hP : va_P (dC, dI) vwCl [(h0, .inr (1, [.ref v25, .int 0, ml, .int (nI (c0 + 3))])), (v25, .inl (cB, m26, .inl f27))] H30 := hP
  replace hD : va_D A [(h0, .inr (1, [.ref v25, .int 0, ml, .int (nI (c0 + 3))])), (v25, .inl (cB, m26, .inl f27))] := hD
  refine W.widen (k := 3) (n := 196608) (by omega) (by omega) ?_
  have hPc := hP.sub (ws' := [(h0, .inr (1, [.ref v25, .int 0, ml, .int (nI (c0 + 3))])), (v25, .inl (cB, m26, .inl f27))]) [0, 1] rfl
  have hDc := hD.sub (ws' := [(h0, .inr (1, [.ref v25, .int 0, ml, .int (nI (c0 + 3))])), (v25, .inl (cB, m26, .inl f27))]) [0, 1] (by decide) rfl
  have hFc := va_free (wc := [(h0, .inr (1, [.ref v25, .int 0, ml, .int (nI (c0 + 3))])), (v25, .inl (cB, m26, .inl f27))]) hD hS hA [0, 1] rfl
  have hDv := hDc.self (sz := H30.size)
  have hpre := zpre (xs' := []) (av := [.ref h0, .int 108]) hPc hK (hDc.weaken (fun _ _ _ h => h)) hZ hS hFc (fun r hr => by cases hr)
  refine va_callr (va_runV (As := [.int 108]) (rest := []) ⟨hx, hb, hml, hown, hts⟩ (k_apC l dC dI cI cB cR cO zk h0 v25 m26 (c0 + 3) f27 ml 108 H30.size hmm26 (by omega) (by omega) hff27 (by decide) (by decide +kernel)) (cwV 1 hts gX1_writeSigns_J4_append_cf468 rfl rfl rfl (by decide +kernel) ⟨Nat.le_of_ble_eq_true rfl, Nat.le_of_ble_eq_true rfl⟩) ⟨zblind, (zrecv_1 hK hPc (q0 := 0) rfl), hpre⟩ rfl rfl hl.1 rfl (lv_room (Nat.le_of_ble_eq_true rfl)) dX1_writeSigns_16 ⟨Nat.le_of_ble_eq_true rfl, Nat.le_of_ble_eq_true rfl⟩) hS (fun q _ h => hFc q h) hFc (fun u r33 t H32 locs ht hvm hw hB hz1 hk1 hS => ?_)
  obtain ⟨v34, m35, f36, ⟨hP1, hK1, hD1, hz2⟩, hff36, hlm35, hmm35, her33⟩ := hB
  rw [ht] at hP1 hz2
  have hPD9 := va_join (wr := []) (w1 := [(h0, .inr (1, [.ref v34, .int 0, ml, .int (nI (c0 + 4))])), (v34, .inl (cB, m35, .inl f36))]) hP hD [0, 1] [] rfl rfl (by decide) (by decide) hk1 hFc hP1 hD1
  clear hPc hDc hFc hDv hpre hP hD hP1 hK1 hD1
  obtain ⟨hP, hD⟩ := hPD9
  replace hz : s.heap.size + 0 ≤ H32.size := by omega
  clear hz2
  replace hP : va_P (dC, dI) vwCl [(h0, .inr (1, [.ref v34, .int 0, ml, .int (nI (c0 + 4))])), (v34, .inl (cB, m35, .inl f36))] H32 := hP
  replace hD : va_D A [(h0, .inr (1, [.ref v34, .int 0, ml, .int (nI (c0 + 4))])), (v34, .inl (cB, m35, .inl f36))] := hD
  refine W.widen (k := 4) (n := 262144) (by omega) (by omega) ?_
  obtain rfl := her33.symm
  refine lv_pop hx hb dX1_writeSigns_19 rfl ?_
  refine lv_iinc (v := 4) (lv' := [(2, .int 4), (0, .ref h0), (1, .ref (zk 5))]) hx hb dX1_writeSigns_20 hl (k := 0) rfl (by decide) (by decide) rfl (fun ls hl => ?_)
  refine lv_goto (tgt := 2) hx hb dX1_writeSigns_23 (by decide) ?_
  refine lv_iload_n hx hb dX1_writeSigns_2 rfl (lv_at hl 0 rfl) ?_
  refine lv_aload_n hx hb dX1_writeSigns_3 rfl (lv_at hl 2 rfl) ?_
  have hPc := hP.sub (ws' := []) [] rfl
  have hDc := hD.sub (ws' := []) [] (by decide) rfl
  have hFc := va_free (wc := []) hD hS hA [] rfl
  have hDv := hDc.self (sz := H32.size)
  have hx0 : zS ((zk 5), (zk 15), 4, (fun j => (zByt.getD 4 []).getD j 0)) (va_A [] H32.size) s H32 := zR.x hZ hS hFc List.mem_cons_self
  have hpre := zpre (xs' := [((zk 5), (zk 15), 4, (fun j => (zByt.getD 4 []).getD j 0))]) (av := [.ref (zk 5)]) hPc hK (hDc.weaken (fun _ _ _ h => h)) hZ hS hFc (fun r hr => by cases hr with | head => exact hx0 | tail _ h => cases h)
  refine va_calli (va_runV (As := []) (rest := [.int 4]) ⟨hx, hb, hml, hown, hts⟩ (k_len l dC dI cI cB cR cO zk (zk 5) (zk 15) 4 (fun j => (zByt.getD 4 []).getD j 0) H32.size ) (cwV 0 hts gX1_writeSigns_J0_length_8abf5 rfl rfl rfl (by decide +kernel) ⟨Nat.le_of_ble_eq_true rfl, Nat.le_of_ble_eq_true rfl⟩) ⟨zblind, (zS.recv (zR.x (B := A) hZ hS (fun _ h => h) List.mem_cons_self)), hpre⟩ rfl rfl hl.1 rfl (lv_room (Nat.le_of_ble_eq_true rfl)) dX1_writeSigns_4 ⟨Nat.le_of_ble_eq_true rfl, Nat.le_of_ble_eq_true rfl⟩) hS (fun q _ h => hFc q h) hFc (fun r38 u t H37 locs ht hvm hw hB hz1 hk1 hS => ?_)
  obtain rfl : 4 = r38 := (show r38 = 4 from hw).symm
  obtain ⟨hP1, hK1, hD1, hz2⟩ := hB
  rw [ht] at hP1 hz2
  have hPD9 := va_join (wr := [(h0, .inr (1, [.ref v34, .int 0, ml, .int (nI (c0 + 4))])), (v34, .inl (cB, m35, .inl f36))]) (w1 := []) hP hD [] [0, 1] rfl rfl (by decide) (by decide) hk1 hFc hP1 hD1
  clear hPc hDc hFc hDv hpre hP hD hP1 hK1 hD1
  obtain ⟨hP, hD⟩ := hPD9
  replace hz : s.heap.size + 0 ≤ H37.size := by omega
  clear hz2
  replace hP : va_P (dC, dI) vwCl [(h0, .inr (1, [.ref v34, .int 0, ml, .int (nI (c0 + 4))])), (v34, .inl (cB, m35, .inl f36))] H37 := hP
  replace hD : va_D A [(h0, .inr (1, [.ref v34, .int 0, ml, .int (nI (c0 + 4))])), (v34, .inl (cB, m35, .inl f36))] := hD
  refine W.widen (k := 4) (n := 262144) (by omega) (by omega) ?_
  refine lv_icmp_ge (tgt := 26) hx hb dX1_writeSigns_7 (by decide) (fun c9 => ?_) (fun c9 => ?_)
  rotate_left
  · exact absurd (by decide) c9
  have hP9 := hP.sub (ws' := [(h0, .inr (1, [.ref v34, .int 0, ml, .int (nI (c0 + 4))])), (v34, .inl (cB, m35, .inl f36))]) [0, 1] rfl
  have hD9 := hD.sub (ws' := [(h0, .inr (1, [.ref v34, .int 0, ml, .int (nI (c0 + 4))])), (v34, .inl (cB, m35, .inl f36))]) [0, 1] (by decide) rfl
  exact W.vret hx hb hr (fun t ht hW => ⟨⟨(), rfl, trivial, ⟨_, _, _, ⟨by rw [ht]; exact hP9, va_K.moved hW.alike hK, hD9, by rw [ht]; exact hz⟩, hff36, (by omega), hmm35⟩⟩, hS.F ht⟩) hS.2.2 dX1_writeSigns_26
