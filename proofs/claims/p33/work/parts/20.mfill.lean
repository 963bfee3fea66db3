theorem hi_X4_fillRow_X4 : ∀ w ∈ u_ws RX4 TX4 5, w ∈ wsX4_fillRow := fun w h => List.mem_cons_of_mem _ (zhi_X4 w h)
theorem hi_X4_fillRow_X3 : ∀ w ∈ u_ws RX3 TX3 3, w ∈ wsX4_fillRow := fun w h => List.mem_cons_of_mem _ (zhi_X3 w h)
set_option maxHeartbeats 4000000 in
set_option maxRecDepth 100000 in
theorem k_fiM1 (l : Launch) (dC : Nat → ClassId) (dI : Nat → Nat → Nat) (cI cB cR cO : ClassId) (zk : Nat → Nat) (mo al : Nat) (th md rf kn : Value) (ed : Nat) (ee : Nat → Option Nat) (mc : Int32) (a0 wa0 na0 a1 wa1 na1 : Nat) (fw0 fn0 fw1 fn1 : Nat → Int32) (sz : Nat) (hw0 : ∀ i, i < 4 → fw0 i = 0) (hn0 : ∀ i, i < 4 → fn0 i = (-1)) (he0 : ee 0 = some a0) (hw1 : ∀ i, i < 4 → fw1 i = 0) (hn1 : ∀ i, i < 4 → fn1 i = -1) (he1 : ee 1 = some a1) : Met l yX4_fillRow wsX4_fillRow ({ frames := 5, cells := 7, slots := 20, locals := 132 }) (va_Pc [.ref mo, .int 1, .int 0] (zPre (dC, dI) (zT cI cB cR cO) zk [] [(mo, .inr (9, [th, .ref al, md, rf, kn])), (al, .inr (4, [.int mc, .ref ed, .int 2])), (ed, .inl (cO, 10, .inr (.inr (.inr (.inr ee))))), (a0, .inr (8, [.int 4, .ref wa0, .ref na0])), (wa0, .inl (cI, 4, .inl fw0)), (na0, .inl (cI, 4, .inl fn0)), (a1, .inr (8, [.int 4, .ref wa1, .ref na1])), (wa1, .inl (cI, 4, .inl fw1)), (na1, .inl (cI, 4, .inl fn1))] sz)) (va_Qi (fun r (_ : Unit) => r = 2) (fun _ t => ∃ (fwz : Nat → Int32), ∃ (fnz : Nat → Int32), zEnd (dC, dI) (zT cI cB cR cO) (va_A [(mo, .inr (9, [th, .ref al, md, rf, kn])), (al, .inr (4, [.int mc, .ref ed, .int 2])), (ed, .inl (cO, 10, .inr (.inr (.inr (.inr ee))))), (a0, .inr (8, [.int 4, .ref wa0, .ref na0])), (wa0, .inl (cI, 4, .inl fw0)), (na0, .inl (cI, 4, .inl fn0)), (a1, .inr (8, [.int 4, .ref wa1, .ref na1])), (wa1, .inl (cI, 4, .inl fw1)), (na1, .inl (cI, 4, .inl fn1))] sz) [(mo, .inr (9, [.int 0, .ref al, md, rf, kn])), (al, .inr (4, [.int mc, .ref ed, .int 2])), (ed, .inl (cO, 10, .inr (.inr (.inr (.inr ee))))), (a0, .inr (8, [.int 4, .ref wa0, .ref na0])), (wa0, .inl (cI, 4, .inl fw0)), (na0, .inl (cI, 4, .inl fn0)), (a1, .inr (8, [.int 4, .ref wa1, .ref na1])), (wa1, .inl (cI, 4, .inl fwz)), (na1, .inl (cI, 4, .inl fnz))] sz 5 t ∧ (∀ i, i < 4 → fwz i = 3) ∧ (∀ i, i < 4 → fnz i = 0)) (va_A [(mo, .inr (9, [th, .ref al, md, rf, kn])), (al, .inr (4, [.int mc, .ref ed, .int 2])), (ed, .inl (cO, 10, .inr (.inr (.inr (.inr ee))))), (a0, .inr (8, [.int 4, .ref wa0, .ref na0])), (wa0, .inl (cI, 4, .inl fw0)), (na0, .inl (cI, 4, .inl fn0)), (a1, .inr (8, [.int 4, .ref wa1, .ref na1])), (wa1, .inl (cI, 4, .inl fw1)), (na1, .inl (cI, 4, .inl fn1))] sz)) 7 20 (va_A [(mo, .inr (9, [th, .ref al, md, rf, kn])), (al, .inr (4, [.int mc, .ref ed, .int 2])), (ed, .inl (cO, 10, .inr (.inr (.inr (.inr ee))))), (a0, .inr (8, [.int 4, .ref wa0, .ref na0])), (wa0, .inl (cI, 4, .inl fw0)), (na0, .inl (cI, 4, .inl fn0)), (a1, .inr (8, [.int 4, .ref wa1, .ref na1])), (wa1, .inl (cI, 4, .inl fw1)), (na1, .inl (cI, 4, .inl fn1))] sz) := by
  refine Met.ofW (cc := cX4_fillRow) (maxL := 5) (ret := (some .int)) (by decide) rfl ?_
  intro p e s mY args below meth c s₁ B hml hv
  obtain ⟨rfl, hsz, hP, hK, hD0, hZ⟩ := hv
  have hx := B.exec
  have hb := B.bytes
  have hr := B.returns
  have hts := atoms_spec (ws := wsX4_fillRow) B.pre
  have hown : s.vm.findClass RX4 = some mY.cls := findClass_of_methodNamed B.named
  have hlocks := B.notSynchronized
  subst hsz
  have hD := hD0.self (sz := s.heap.size)
  generalize hAe : va_A [(mo, .inr (9, [th, .ref al, md, rf, kn])), (al, .inr (4, [.int mc, .ref ed, .int 2])), (ed, .inl (cO, 10, .inr (.inr (.inr (.inr ee))))), (a0, .inr (8, [.int 4, .ref wa0, .ref na0])), (wa0, .inl (cI, 4, .inl fw0)), (na0, .inl (cI, 4, .inl fn0)), (a1, .inr (8, [.int 4, .ref wa1, .ref na1])), (wa1, .inl (cI, 4, .inl fw1)), (na1, .inl (cI, 4, .inl fn1))] s.heap.size = A at hD hZ ⊢
  have hA : ∀ q : Nat, s.heap.size ≤ q → A q := fun q h => by rw [← hAe]; exact Or.inr h
  have hS : va_S A s.heap s.heap [] := va_S.rf
  have hz : s.heap.size + 0 ≤ s.heap.size := Nat.le_refl _
  have hl := lv_entry ([.ref mo, .int 1, .int 0]) (n := 5) (Nat.le_of_ble_eq_true rfl)
  rw [lg_entry_eq]
  generalize (lg_sl ([.ref mo, .int 1, .int 0]) ++ List.replicate (5 - (lg_sl ([.ref mo, .int 1, .int 0])).length) Slot.unset).toArray = ls at hl ⊢
  have hl : lv_has ls 5 [(0, .ref mo), (1, .int 1), (2, .int 0)] := hl
  have hP : va_P (dC, dI) vwCl [(mo, .inr (9, [th, .ref al, md, rf, kn])), (al, .inr (4, [.int mc, .ref ed, .int 2])), (ed, .inl (cO, 10, .inr (.inr (.inr (.inr ee))))), (a0, .inr (8, [.int 4, .ref wa0, .ref na0])), (wa0, .inl (cI, 4, .inl fw0)), (na0, .inl (cI, 4, .inl fn0)), (a1, .inr (8, [.int 4, .ref wa1, .ref na1])), (wa1, .inl (cI, 4, .inl fw1)), (na1, .inl (cI, 4, .inl fn1))] s.heap := hP
  have hD : va_D A [(mo, .inr (9, [th, .ref al, md, rf, kn])), (al, .inr (4, [.int mc, .ref ed, .int 2])), (ed, .inl (cO, 10, .inr (.inr (.inr (.inr ee))))), (a0, .inr (8, [.int 4, .ref wa0, .ref na0])), (wa0, .inl (cI, 4, .inl fw0)), (na0, .inl (cI, 4, .inl fn0)), (a1, .inr (8, [.int 4, .ref wa1, .ref na1])), (wa1, .inl (cI, 4, .inl fw1)), (na1, .inl (cI, 4, .inl fn1))] := hD
  refine lv_aload_n hx hb dX4_fillRow_0 rfl (lv_at hl 0 rfl) ?_
  refine lv_aload_n hx hb dX4_fillRow_1 rfl (lv_at hl 0 rfl) ?_
  refine lv_iload_n hx hb dX4_fillRow_2 rfl (lv_at hl 1 rfl) ?_
  have hPc := hP.sub (ws' := [(mo, .inr (9, [th, .ref al, md, rf, kn])), (al, .inr (4, [.int mc, .ref ed, .int 2]))]) [0, 1] rfl
  have hDc := hD.sub (ws' := [(mo, .inr (9, [th, .ref al, md, rf, kn])), (al, .inr (4, [.int mc, .ref ed, .int 2]))]) [0, 1] (by decide) rfl
  have hFc := va_free (wc := [(mo, .inr (9, [th, .ref al, md, rf, kn])), (al, .inr (4, [.int mc, .ref ed, .int 2]))]) hD hS hA [0, 1] rfl
  have hDv := hDc.self (sz := s.heap.size)
  have hpre := zpre (xs' := []) (av := [.ref mo, .int 1]) hPc hK (hDc.weaken (fun _ _ _ h => h)) hZ hS hFc (fun r hr => by cases hr)
  refine va_calli (va_runV (As := [.int 1]) (rest := [.ref mo]) ⟨hx, hb, hml, hown, hts⟩ (k_nR1_2 l dC dI cI cB cR cO zk mo al th md rf kn ed ee mc s.heap.size ) (cwV 1 hts gX4_fillRow_X4_isNoRow rfl rfl rfl (by decide +kernel) ⟨Nat.le_of_ble_eq_true rfl, Nat.le_of_ble_eq_true rfl⟩) ⟨zblind, (zrecv_9 hK hPc (q0 := 0) rfl), hpre⟩ rfl rfl hl.1 rfl (lv_room (Nat.le_of_ble_eq_true rfl)) dX4_fillRow_3 ⟨Nat.le_of_ble_eq_true rfl, Nat.le_of_ble_eq_true rfl⟩) hS (fun q _ h => hFc q h) hFc (fun r2 u t H1 locs ht hvm hw hB hz1 hk1 hS => ?_)
  obtain rfl : 0 = r2 := (show r2 = 0 from hw).symm
  obtain ⟨hP1, hK1, hD1, hz2⟩ := hB
  rw [ht] at hP1 hz2
  have hPD9 := va_join (wr := [(ed, .inl (cO, 10, .inr (.inr (.inr (.inr ee))))), (a0, .inr (8, [.int 4, .ref wa0, .ref na0])), (wa0, .inl (cI, 4, .inl fw0)), (na0, .inl (cI, 4, .inl fn0)), (a1, .inr (8, [.int 4, .ref wa1, .ref na1])), (wa1, .inl (cI, 4, .inl fw1)), (na1, .inl (cI, 4, .inl fn1))]) (w1 := [(mo, .inr (9, [th, .ref al, md, rf, kn])), (al, .inr (4, [.int mc, .ref ed, .int 2]))]) hP hD [0, 1] [2, 3, 4, 5, 6, 7, 8] rfl rfl (by decide) (by decide) hk1 hFc hP1 hD1
  clear hPc hDc hFc hDv hpre hP hD hP1 hK1 hD1
  obtain ⟨hP, hD⟩ := hPD9
  replace hz : s.heap.size + 0 ≤ H1.size := by omega
  clear hz2
  replace hP : va_P (dC, dI) vwCl [(ed, .inl (cO, 10, .inr (.inr (.inr (.inr ee))))), (a0, .inr (8, [.int 4, .ref wa0, .ref na0])), (wa0, .inl (cI, 4, .inl fw0)), (na0, .inl (cI, 4, .inl fn0)), (a1, .inr (8, [.int 4, .ref wa1, .ref na1])), (wa1, .inl (cI, 4, .inl fw1)), (na1, .inl (cI, 4, .inl fn1)), (mo, .inr (9, [th, .ref al, md, rf, kn])), (al, .inr (4, [.int mc, .ref ed, .int 2]))] H1 := hP
  replace hD : va_D A [(ed, .inl (cO, 10, .inr (.inr (.inr (.inr ee))))), (a0, .inr (8, [.int 4, .ref wa0, .ref na0])), (wa0, .inl (cI, 4, .inl fw0)), (na0, .inl (cI, 4, .inl fn0)), (a1, .inr (8, [.int 4, .ref wa1, .ref na1])), (wa1, .inl (cI, 4, .inl fw1)), (na1, .inl (cI, 4, .inl fn1)), (mo, .inr (9, [th, .ref al, md, rf, kn])), (al, .inr (4, [.int mc, .ref ed, .int 2]))] := hD
  refine W.widen (k := 0) (n := 0) (by omega) (by omega) ?_
  refine lv_if_ne (tgt := 17) hx hb dX4_fillRow_6 (by decide) (fun c9 => ?_) (fun c9 => ?_)
  · exact absurd (by decide) c9
  refine lv_aload_n hx hb dX4_fillRow_9 rfl (lv_at hl 0 rfl) ?_
  refine lv_iload_n hx hb dX4_fillRow_10 rfl (lv_at hl 2 rfl) ?_
  have hPc := hP.sub (ws' := [(mo, .inr (9, [th, .ref al, md, rf, kn])), (al, .inr (4, [.int mc, .ref ed, .int 2]))]) [7, 8] rfl
  have hDc := hD.sub (ws' := [(mo, .inr (9, [th, .ref al, md, rf, kn])), (al, .inr (4, [.int mc, .ref ed, .int 2]))]) [7, 8] (by decide) rfl
  have hFc := va_free (wc := [(mo, .inr (9, [th, .ref al, md, rf, kn])), (al, .inr (4, [.int mc, .ref ed, .int 2]))]) hD hS hA [7, 8] rfl
  have hDv := hDc.self (sz := H1.size)
  have hpre := zpre (xs' := []) (av := [.ref mo, .int 0]) hPc hK (hDc.weaken (fun _ _ _ h => h)) hZ hS hFc (fun r hr => by cases hr)
  refine va_calli (va_runV (As := [.int 0]) (rest := [.ref mo]) ⟨hx, hb, hml, hown, hts⟩ (k_nR0_2 l dC dI cI cB cR cO zk mo al th md rf kn ed ee mc H1.size ) (cwV 1 hts gX4_fillRow_X4_isNoRow rfl rfl rfl (by decide +kernel) ⟨Nat.le_of_ble_eq_true rfl, Nat.le_of_ble_eq_true rfl⟩) ⟨zblind, (zrecv_9 hK hPc (q0 := 0) rfl), hpre⟩ rfl rfl hl.1 rfl (lv_room (Nat.le_of_ble_eq_true rfl)) dX4_fillRow_11 ⟨Nat.le_of_ble_eq_true rfl, Nat.le_of_ble_eq_true rfl⟩) hS (fun q _ h => hFc q h) hFc (fun r4 u t H3 locs ht hvm hw hB hz1 hk1 hS => ?_)
  obtain rfl : 0 = r4 := (show r4 = 0 from hw).symm
  obtain ⟨hP1, hK1, hD1, hz2⟩ := hB
  rw [ht] at hP1 hz2
  have hPD9 := va_join (wr := [(ed, .inl (cO, 10, .inr (.inr (.inr (.inr ee))))), (a0, .inr (8, [.int 4, .ref wa0, .ref na0])), (wa0, .inl (cI, 4, .inl fw0)), (na0, .inl (cI, 4, .inl fn0)), (a1, .inr (8, [.int 4, .ref wa1, .ref na1])), (wa1, .inl (cI, 4, .inl fw1)), (na1, .inl (cI, 4, .inl fn1))]) (w1 := [(mo, .inr (9, [th, .ref al, md, rf, kn])), (al, .inr (4, [.int mc, .ref ed, .int 2]))]) hP hD [7, 8] [0, 1, 2, 3, 4, 5, 6] rfl rfl (by decide) (by decide) hk1 hFc hP1 hD1
  clear hPc hDc hFc hDv hpre hP hD hP1 hK1 hD1
  obtain ⟨hP, hD⟩ := hPD9
  replace hz : s.heap.size + 0 ≤ H3.size := by omega
  clear hz2
  replace hP : va_P (dC, dI) vwCl [(ed, .inl (cO, 10, .inr (.inr (.inr (.inr ee))))), (a0, .inr (8, [.int 4, .ref wa0, .ref na0])), (wa0, .inl (cI, 4, .inl fw0)), (na0, .inl (cI, 4, .inl fn0)), (a1, .inr (8, [.int 4, .ref wa1, .ref na1])), (wa1, .inl (cI, 4, .inl fw1)), (na1, .inl (cI, 4, .inl fn1)), (mo, .inr (9, [th, .ref al, md, rf, kn])), (al, .inr (4, [.int mc, .ref ed, .int 2]))] H3 := hP
  replace hD : va_D A [(ed, .inl (cO, 10, .inr (.inr (.inr (.inr ee))))), (a0, .inr (8, [.int 4, .ref wa0, .ref na0])), (wa0, .inl (cI, 4, .inl fw0)), (na0, .inl (cI, 4, .inl fn0)), (a1, .inr (8, [.int 4, .ref wa1, .ref na1])), (wa1, .inl (cI, 4, .inl fw1)), (na1, .inl (cI, 4, .inl fn1)), (mo, .inr (9, [th, .ref al, md, rf, kn])), (al, .inr (4, [.int mc, .ref ed, .int 2]))] := hD
  refine W.widen (k := 0) (n := 0) (by omega) (by omega) ?_
  refine lv_if_eq (tgt := 21) hx hb dX4_fillRow_14 (by decide) (fun c9 => ?_) (fun c9 => ?_)
  rotate_left
  · exact absurd (by decide) c9
  refine lv_iconst (v := 0) hx hb dX4_fillRow_21 (by decide) ?_
  refine lv_iconst (v := 1) hx hb dX4_fillRow_22 (by decide) ?_
  have hPc := hP.sub (ws' := [(mo, .inr (9, [th, .ref al, md, rf, kn]))]) [7] rfl
  have hDc := hD.sub (ws' := [(mo, .inr (9, [th, .ref al, md, rf, kn]))]) [7] (by decide) rfl
  have hFc := va_free (wc := [(mo, .inr (9, [th, .ref al, md, rf, kn]))]) hD hS hA [7] rfl
  have hDv := hDc.self (sz := H3.size)
  have hpre := zpre (xs' := []) (av := [.ref mo, .int 0, .int 1]) hPc hK (hDc.weaken (fun _ _ _ h => h)) hZ hS hFc (fun r hr => by cases hr)
  refine va_calli (va_runV (As := [.int 0, .int 1]) (rest := []) ⟨hx, hb, hml, hown, hts⟩ (k_stt l dC dI cI cB cR cO zk mo al th md rf kn 1 H3.size ) (cwV 2 hts gX4_fillRow_X4_start rfl rfl rfl (by decide +kernel) ⟨Nat.le_of_ble_eq_true rfl, Nat.le_of_ble_eq_true rfl⟩) ⟨zblind, (zrecv_9 hK hPc (q0 := 0) rfl), hpre⟩ rfl rfl hl.1 rfl (lv_room (Nat.le_of_ble_eq_true rfl)) dX4_fillRow_23 ⟨Nat.le_of_ble_eq_true rfl, Nat.le_of_ble_eq_true rfl⟩) hS (fun q _ h => hFc q h) hFc (fun r6 u t H5 locs ht hvm hw hB hz1 hk1 hS => ?_)
  obtain rfl : 0 = r6 := (show r6 = 0 from hw).symm
  obtain ⟨hP1, hK1, hD1, hz2⟩ := hB
  rw [ht] at hP1 hz2
  have hPD9 := va_join (wr := [(ed, .inl (cO, 10, .inr (.inr (.inr (.inr ee))))), (a0, .inr (8, [.int 4, .ref wa0, .ref na0])), (wa0, .inl (cI, 4, .inl fw0)), (na0, .inl (cI, 4, .inl fn0)), (a1, .inr (8, [.int 4, .ref wa1, .ref na1])), (wa1, .inl (cI, 4, .inl fw1)), (na1, .inl (cI, 4, .inl fn1)), (al, .inr (4, [.int mc, .ref ed, .int 2]))]) (w1 := [(mo, .inr (9, [.int 0, .ref al, md, rf, kn]))]) hP hD [7] [0, 1, 2, 3, 4, 5, 6, 8] rfl rfl (by decide) (by decide) hk1 hFc hP1 hD1
  clear hPc hDc hFc hDv hpre hP hD hP1 hK1 hD1
  obtain ⟨hP, hD⟩ := hPD9
  replace hz : s.heap.size + 0 ≤ H5.size := by omega
  clear hz2
  replace hP : va_P (dC, dI) vwCl [(ed, .inl (cO, 10, .inr (.inr (.inr (.inr ee))))), (a0, .inr (8, [.int 4, .ref wa0, .ref na0])), (wa0, .inl (cI, 4, .inl fw0)), (na0, .inl (cI, 4, .inl fn0)), (a1, .inr (8, [.int 4, .ref wa1, .ref na1])), (wa1, .inl (cI, 4, .inl fw1)), (na1, .inl (cI, 4, .inl fn1)), (al, .inr (4, [.int mc, .ref ed, .int 2])), (mo, .inr (9, [.int 0, .ref al, md, rf, kn]))] H5 := hP
  replace hD : va_D A [(ed, .inl (cO, 10, .inr (.inr (.inr (.inr ee))))), (a0, .inr (8, [.int 4, .ref wa0, .ref na0])), (wa0, .inl (cI, 4, .inl fw0)), (na0, .inl (cI, 4, .inl fn0)), (a1, .inr (8, [.int 4, .ref wa1, .ref na1])), (wa1, .inl (cI, 4, .inl fw1)), (na1, .inl (cI, 4, .inl fn1)), (al, .inr (4, [.int mc, .ref ed, .int 2])), (mo, .inr (9, [.int 0, .ref al, md, rf, kn]))] := hD
  refine W.widen (k := 0) (n := 0) (by omega) (by omega) ?_
  refine lv_if_ne (tgt := 78) hx hb dX4_fillRow_26 (by decide) (fun c9 => ?_) (fun c9 => ?_)
  · exact absurd (by decide) c9
  refine lv_aload_n hx hb dX4_fillRow_29 rfl (lv_at hl 0 rfl) ?_
  refine lv_aload_n hx hb dX4_fillRow_30 rfl (lv_at hl 0 rfl) ?_
  refine va_get (D := (dC, dI)) (ci := 9) (v := .ref al) (C := RX4) (T := TX4) (N := 5) hx hb hts hi_X4_fillRow_X4 hown hK hP 8 rfl rfl 1 (by decide) (hts (.fieldLink RX4 10 "DeeprowsModel" "rows" "Ljava/util/ArrayList;") (List.mem_cons_of_mem _ zw_1134)) (fun _ h9 => h9) rfl dX4_fillRow_31 ?_
  refine lv_iload_n hx hb dX4_fillRow_34 rfl (lv_at hl 1 rfl) ?_
  have hPc := hP.sub (ws' := [(al, .inr (4, [.int mc, .ref ed, .int 2])), (ed, .inl (cO, 10, .inr (.inr (.inr (.inr ee)))))]) [7, 0] rfl
  have hDc := hD.sub (ws' := [(al, .inr (4, [.int mc, .ref ed, .int 2])), (ed, .inl (cO, 10, .inr (.inr (.inr (.inr ee)))))]) [7, 0] (by decide) rfl
  have hFc := va_free (wc := [(al, .inr (4, [.int mc, .ref ed, .int 2])), (ed, .inl (cO, 10, .inr (.inr (.inr (.inr ee)))))]) hD hS hA [7, 0] rfl
  have hDv := hDc.self (sz := H5.size)
  have hpre := zpre (xs' := []) (av := [.ref al, .int 1]) hPc hK (hDc.weaken (fun _ _ _ h => h)) hZ hS hFc (fun r hr => by cases hr)
  refine va_callr (va_runV (As := [.int 1]) (rest := [.ref mo]) ⟨hx, hb, hml, hown, hts⟩ (k_get l dC dI cI cB cR cO zk al ed 1 2 10 a1 ee (.int mc) H5.size (by decide) (by decide) (by decide) he1) (cwV 1 hts gX4_fillRow_Jx4a65c_get_915e3 rfl rfl rfl (by decide +kernel) ⟨Nat.le_of_ble_eq_true rfl, Nat.le_of_ble_eq_true rfl⟩) ⟨zblind, (zrecv_4 hK hPc (q0 := 0) rfl), hpre⟩ rfl rfl hl.1 rfl (lv_room (Nat.le_of_ble_eq_true rfl)) dX4_fillRow_35 ⟨Nat.le_of_ble_eq_true rfl, Nat.le_of_ble_eq_true rfl⟩) hS (fun q _ h => hFc q h) hFc (fun u r8 t H7 locs ht hvm hw hB hz1 hk1 hS => ?_)
  obtain ⟨⟨hP1, hK1, hD1, hz2⟩, her8⟩ := hB
  rw [ht] at hP1 hz2
  have hPD9 := va_join (wr := [(a0, .inr (8, [.int 4, .ref wa0, .ref na0])), (wa0, .inl (cI, 4, .inl fw0)), (na0, .inl (cI, 4, .inl fn0)), (a1, .inr (8, [.int 4, .ref wa1, .ref na1])), (wa1, .inl (cI, 4, .inl fw1)), (na1, .inl (cI, 4, .inl fn1)), (mo, .inr (9, [.int 0, .ref al, md, rf, kn]))]) (w1 := [(al, .inr (4, [.int mc, .ref ed, .int 2])), (ed, .inl (cO, 10, .inr (.inr (.inr (.inr ee)))))]) hP hD [7, 0] [1, 2, 3, 4, 5, 6, 8] rfl rfl (by decide) (by decide) hk1 hFc hP1 hD1
  clear hPc hDc hFc hDv hpre hP hD hP1 hK1 hD1
  obtain ⟨hP, hD⟩ := hPD9
  replace hz : s.heap.size + 0 ≤ H7.size := by omega
  clear hz2
  replace hP : va_P (dC, dI) vwCl [(a0, .inr (8, [.int 4, .ref wa0, .ref na0])), (wa0, .inl (cI, 4, .inl fw0)), (na0, .inl (cI, 4, .inl fn0)), (a1, .inr (8, [.int 4, .ref wa1, .ref na1])), (wa1, .inl (cI, 4, .inl fw1)), (na1, .inl (cI, 4, .inl fn1)), (mo, .inr (9, [.int 0, .ref al, md, rf, kn])), (al, .inr (4, [.int mc, .ref ed, .int 2])), (ed, .inl (cO, 10, .inr (.inr (.inr (.inr ee)))))] H7 := hP
  replace hD : va_D A [(a0, .inr (8, [.int 4, .ref wa0, .ref na0])), (wa0, .inl (cI, 4, .inl fw0)), (na0, .inl (cI, 4, .inl fn0)), (a1, .inr (8, [.int 4, .ref wa1, .ref na1])), (wa1, .inl (cI, 4, .inl fw1)), (na1, .inl (cI, 4, .inl fn1)), (mo, .inr (9, [.int 0, .ref al, md, rf, kn])), (al, .inr (4, [.int mc, .ref ed, .int 2])), (ed, .inl (cO, 10, .inr (.inr (.inr (.inr ee)))))] := hD
  refine W.widen (k := 0) (n := 0) (by omega) (by omega) ?_
  obtain rfl := her8.symm
  refine va_castE hx hb hown (hts (.classLink RX4 40 "DeeprowsModel$Row") (List.mem_cons_of_mem _ zw_1165)) (zrecv_8 hK hP (q0 := 3) rfl) dX4_fillRow_38 ?_
  refine va_get (D := (dC, dI)) (ci := 8) (v := .int 4) (C := RX3) (T := TX3) (N := 3) hx hb hts hi_X4_fillRow_X3 hown hK hP 3 rfl rfl 0 (by decide) (hts (.fieldLink RX4 103 "DeeprowsModel$Row" "kind" "I") (List.mem_cons_of_mem _ zw_1176)) (fun _ h9 => h9) rfl dX4_fillRow_41 ?_
  refine lv_iconst (v := 4) hx hb dX4_fillRow_44 (by decide) ?_
  refine lv_icmp_eq (tgt := 52) hx hb dX4_fillRow_45 (by decide) (fun c9 => ?_) (fun c9 => ?_)
  rotate_left
  · exact absurd (by decide) c9
  refine lv_iconst (v := 0) hx hb dX4_fillRow_52 (by decide) ?_
  refine lv_iconst (v := 2) hx hb dX4_fillRow_53 (by decide) ?_
  have hPc := hP.sub (ws' := [(mo, .inr (9, [.int 0, .ref al, md, rf, kn]))]) [6] rfl
  have hDc := hD.sub (ws' := [(mo, .inr (9, [.int 0, .ref al, md, rf, kn]))]) [6] (by decide) rfl
  have hFc := va_free (wc := [(mo, .inr (9, [.int 0, .ref al, md, rf, kn]))]) hD hS hA [6] rfl
  have hDv := hDc.self (sz := H7.size)
  have hpre := zpre (xs' := []) (av := [.ref mo, .int 0, .int 2]) hPc hK (hDc.weaken (fun _ _ _ h => h)) hZ hS hFc (fun r hr => by cases hr)
  refine va_calli (va_runV (As := [.int 0, .int 2]) (rest := []) ⟨hx, hb, hml, hown, hts⟩ (k_ref l dC dI cI cB cR cO zk mo al md rf kn 2 H7.size ) (cwV 2 hts gX4_fillRow_X4_refuse rfl rfl rfl (by decide +kernel) ⟨Nat.le_of_ble_eq_true rfl, Nat.le_of_ble_eq_true rfl⟩) ⟨zblind, (zrecv_9 hK hPc (q0 := 0) rfl), hpre⟩ rfl rfl hl.1 rfl (lv_room (Nat.le_of_ble_eq_true rfl)) dX4_fillRow_54 ⟨Nat.le_of_ble_eq_true rfl, Nat.le_of_ble_eq_true rfl⟩) hS (fun q _ h => hFc q h) hFc (fun r10 u t H9 locs ht hvm hw hB hz1 hk1 hS => ?_)
  obtain rfl : 0 = r10 := (show r10 = 0 from hw).symm
  obtain ⟨hP1, hK1, hD1, hz2⟩ := hB
  rw [ht] at hP1 hz2
  have hPD9 := va_join (wr := [(a0, .inr (8, [.int 4, .ref wa0, .ref na0])), (wa0, .inl (cI, 4, .inl fw0)), (na0, .inl (cI, 4, .inl fn0)), (a1, .inr (8, [.int 4, .ref wa1, .ref na1])), (wa1, .inl (cI, 4, .inl fw1)), (na1, .inl (cI, 4, .inl fn1)), (al, .inr (4, [.int mc, .ref ed, .int 2])), (ed, .inl (cO, 10, .inr (.inr (.inr (.inr ee)))))]) (w1 := [(mo, .inr (9, [.int 0, .ref al, md, rf, kn]))]) hP hD [6] [0, 1, 2, 3, 4, 5, 7, 8] rfl rfl (by decide) (by decide) hk1 hFc hP1 hD1
  clear hPc hDc hFc hDv hpre hP hD hP1 hK1 hD1
  obtain ⟨hP, hD⟩ := hPD9
  replace hz : s.heap.size + 0 ≤ H9.size := by omega
  clear hz2
  replace hP : va_P (dC, dI) vwCl [(a0, .inr (8, [.int 4, .ref wa0, .ref na0])), (wa0, .inl (cI, 4, .inl fw0)), (na0, .inl (cI, 4, .inl fn0)), (a1, .inr (8, [.int 4, .ref wa1, .ref na1])), (wa1, .inl (cI, 4, .inl fw1)), (na1, .inl (cI, 4, .inl fn1)), (al, .inr (4, [.int mc, .ref ed, .int 2])), (ed, .inl (cO, 10, .inr (.inr (.inr (.inr ee))))), (mo, .inr (9, [.int 0, .ref al, md, rf, kn]))] H9 := hP
  replace hD : va_D A [(a0, .inr (8, [.int 4, .ref wa0, .ref na0])), (wa0, .inl (cI, 4, .inl fw0)), (na0, .inl (cI, 4, .inl fn0)), (a1, .inr (8, [.int 4, .ref wa1, .ref na1])), (wa1, .inl (cI, 4, .inl fw1)), (na1, .inl (cI, 4, .inl fn1)), (al, .inr (4, [.int mc, .ref ed, .int 2])), (ed, .inl (cO, 10, .inr (.inr (.inr (.inr ee))))), (mo, .inr (9, [.int 0, .ref al, md, rf, kn]))] := hD
  refine W.widen (k := 0) (n := 0) (by omega) (by omega) ?_
  refine lv_if_ne (tgt := 78) hx hb dX4_fillRow_57 (by decide) (fun c9 => ?_) (fun c9 => ?_)
  · exact absurd (by decide) c9
  refine lv_aload_n hx hb dX4_fillRow_60 rfl (lv_at hl 0 rfl) ?_
  refine lv_iload_n hx hb dX4_fillRow_61 rfl (lv_at hl 2 rfl) ?_
  refine lv_iload_n hx hb dX4_fillRow_62 rfl (lv_at hl 1 rfl) ?_
  refine lv_icmp_lt (tgt := 70) hx hb dX4_fillRow_63 (by decide) (fun c9 => ?_) (fun c9 => ?_)
  rotate_left
  · exact absurd (by decide) c9
  refine lv_iconst (v := 0) hx hb dX4_fillRow_70 (by decide) ?_
  refine lv_iconst (v := 3) hx hb dX4_fillRow_71 (by decide) ?_
  have hPc := hP.sub (ws' := [(mo, .inr (9, [.int 0, .ref al, md, rf, kn]))]) [8] rfl
  have hDc := hD.sub (ws' := [(mo, .inr (9, [.int 0, .ref al, md, rf, kn]))]) [8] (by decide) rfl
  have hFc := va_free (wc := [(mo, .inr (9, [.int 0, .ref al, md, rf, kn]))]) hD hS hA [8] rfl
  have hDv := hDc.self (sz := H9.size)
  have hpre := zpre (xs' := []) (av := [.ref mo, .int 0, .int 3]) hPc hK (hDc.weaken (fun _ _ _ h => h)) hZ hS hFc (fun r hr => by cases hr)
  refine va_calli (va_runV (As := [.int 0, .int 3]) (rest := []) ⟨hx, hb, hml, hown, hts⟩ (k_ref l dC dI cI cB cR cO zk mo al md rf kn 3 H9.size ) (cwV 2 hts gX4_fillRow_X4_refuse rfl rfl rfl (by decide +kernel) ⟨Nat.le_of_ble_eq_true rfl, Nat.le_of_ble_eq_true rfl⟩) ⟨zblind, (zrecv_9 hK hPc (q0 := 0) rfl), hpre⟩ rfl rfl hl.1 rfl (lv_room (Nat.le_of_ble_eq_true rfl)) dX4_fillRow_72 ⟨Nat.le_of_ble_eq_true rfl, Nat.le_of_ble_eq_true rfl⟩) hS (fun q _ h => hFc q h) hFc (fun r12 u t H11 locs ht hvm hw hB hz1 hk1 hS => ?_)
  obtain rfl : 0 = r12 := (show r12 = 0 from hw).symm
  obtain ⟨hP1, hK1, hD1, hz2⟩ := hB
  rw [ht] at hP1 hz2
  have hPD9 := va_join (wr := [(a0, .inr (8, [.int 4, .ref wa0, .ref na0])), (wa0, .inl (cI, 4, .inl fw0)), (na0, .inl (cI, 4, .inl fn0)), (a1, .inr (8, [.int 4, .ref wa1, .ref na1])), (wa1, .inl (cI, 4, .inl fw1)), (na1, .inl (cI, 4, .inl fn1)), (al, .inr (4, [.int mc, .ref ed, .int 2])), (ed, .inl (cO, 10, .inr (.inr (.inr (.inr ee)))))]) (w1 := [(mo, .inr (9, [.int 0, .ref al, md, rf, kn]))]) hP hD [8] [0, 1, 2, 3, 4, 5, 6, 7] rfl rfl (by decide) (by decide) hk1 hFc hP1 hD1
  clear hPc hDc hFc hDv hpre hP hD hP1 hK1 hD1
  obtain ⟨hP, hD⟩ := hPD9
  replace hz : s.heap.size + 0 ≤ H11.size := by omega
  clear hz2
  replace hP : va_P (dC, dI) vwCl [(a0, .inr (8, [.int 4, .ref wa0, .ref na0])), (wa0, .inl (cI, 4, .inl fw0)), (na0, .inl (cI, 4, .inl fn0)), (a1, .inr (8, [.int 4, .ref wa1, .ref na1])), (wa1, .inl (cI, 4, .inl fw1)), (na1, .inl (cI, 4, .inl fn1)), (al, .inr (4, [.int mc, .ref ed, .int 2])), (ed, .inl (cO, 10, .inr (.inr (.inr (.inr ee))))), (mo, .inr (9, [.int 0, .ref al, md, rf, kn]))] H11 := hP
  replace hD : va_D A [(a0, .inr (8, [.int 4, .ref wa0, .ref na0])), (wa0, .inl (cI, 4, .inl fw0)), (na0, .inl (cI, 4, .inl fn0)), (a1, .inr (8, [.int 4, .ref wa1, .ref na1])), (wa1, .inl (cI, 4, .inl fw1)), (na1, .inl (cI, 4, .inl fn1)), (al, .inr (4, [.int mc, .ref ed, .int 2])), (ed, .inl (cO, 10, .inr (.inr (.inr (.inr ee))))), (mo, .inr (9, [.int 0, .ref al, md, rf, kn]))] := hD
  refine W.widen (k := 0) (n := 0) (by omega) (by omega) ?_
  refine lv_if_eq (tgt := 80) hx hb dX4_fillRow_75 (by decide) (fun c9 => ?_) (fun c9 => ?_)
  rotate_left
  · exact absurd (by decide) c9
  refine lv_aload_n hx hb dX4_fillRow_80 rfl (lv_at hl 0 rfl) ?_
  refine lv_iload_n hx hb dX4_fillRow_81 rfl (lv_at hl 1 rfl) ?_
  have hPc := hP.sub (ws' := [(mo, .inr (9, [.int 0, .ref al, md, rf, kn])), (al, .inr (4, [.int mc, .ref ed, .int 2])), (ed, .inl (cO, 10, .inr (.inr (.inr (.inr ee))))), (a1, .inr (8, [.int 4, .ref wa1, .ref na1])), (wa1, .inl (cI, 4, .inl fw1))]) [8, 6, 7, 3, 4] rfl
  have hDc := hD.sub (ws' := [(mo, .inr (9, [.int 0, .ref al, md, rf, kn])), (al, .inr (4, [.int mc, .ref ed, .int 2])), (ed, .inl (cO, 10, .inr (.inr (.inr (.inr ee))))), (a1, .inr (8, [.int 4, .ref wa1, .ref na1])), (wa1, .inl (cI, 4, .inl fw1))]) [8, 6, 7, 3, 4] (by decide) rfl
  have hFc := va_free (wc := [(mo, .inr (9, [.int 0, .ref al, md, rf, kn])), (al, .inr (4, [.int mc, .ref ed, .int 2])), (ed, .inl (cO, 10, .inr (.inr (.inr (.inr ee))))), (a1, .inr (8, [.int 4, .ref wa1, .ref na1])), (wa1, .inl (cI, 4, .inl fw1))]) hD hS hA [8, 6, 7, 3, 4] rfl
  have hDv := hDc.self (sz := H11.size)
  have hpre := zpre (xs' := []) (av := [.ref mo, .int 1]) hPc hK (hDc.weaken (fun _ _ _ h => h)) hZ hS hFc (fun r hr => by cases hr)
  refine va_callr (va_runV (As := [.int 1]) (rest := []) ⟨hx, hb, hml, hown, hts⟩ (k_nw1 l dC dI cI cB cR cO zk mo al ed 2 ee (.int 0) md rf kn (.int mc) a1 wa1 na1 fw1 H11.size (by decide) (by decide) he1) (cwV 1 hts gX4_fillRow_X4_nowhere rfl rfl rfl (by decide +kernel) ⟨Nat.le_of_ble_eq_true rfl, Nat.le_of_ble_eq_true rfl⟩) ⟨zblind, (zrecv_9 hK hPc (q0 := 0) rfl), hpre⟩ rfl rfl hl.1 rfl (lv_room (Nat.le_of_ble_eq_true rfl)) dX4_fillRow_82 ⟨Nat.le_of_ble_eq_true rfl, Nat.le_of_ble_eq_true rfl⟩) hS (fun q _ h => hFc q h) hFc (fun u r14 t H13 locs ht hvm hw hB hz1 hk1 hS => ?_)
  obtain ⟨fo15, ⟨hP1, hK1, hD1, hz2⟩⟩ := hB
  rw [ht] at hP1 hz2
  have hPD9 := va_join (wr := [(a0, .inr (8, [.int 4, .ref wa0, .ref na0])), (wa0, .inl (cI, 4, .inl fw0)), (na0, .inl (cI, 4, .inl fn0)), (na1, .inl (cI, 4, .inl fn1))]) (w1 := [(mo, .inr (9, [.int 0, .ref al, md, rf, kn])), (al, .inr (4, [.int mc, .ref ed, .int 2])), (ed, .inl (cO, 10, .inr (.inr (.inr (.inr ee))))), (a1, .inr (8, [.int 4, .ref wa1, .ref na1])), (wa1, .inl (cI, 4, .inl fw1)), (r14, .inl (cI, 4, .inl fo15))]) hP hD [8, 6, 7, 3, 4] [0, 1, 2, 5] rfl rfl (by decide) (by decide) hk1 hFc hP1 hD1
  clear hPc hDc hFc hDv hpre hP hD hP1 hK1 hD1
  obtain ⟨hP, hD⟩ := hPD9
  replace hz : s.heap.size + 1 ≤ H13.size := by omega
  clear hz2
  replace hP : va_P (dC, dI) vwCl [(a0, .inr (8, [.int 4, .ref wa0, .ref na0])), (wa0, .inl (cI, 4, .inl fw0)), (na0, .inl (cI, 4, .inl fn0)), (na1, .inl (cI, 4, .inl fn1)), (mo, .inr (9, [.int 0, .ref al, md, rf, kn])), (al, .inr (4, [.int mc, .ref ed, .int 2])), (ed, .inl (cO, 10, .inr (.inr (.inr (.inr ee))))), (a1, .inr (8, [.int 4, .ref wa1, .ref na1])), (wa1, .inl (cI, 4, .inl fw1)), (r14, .inl (cI, 4, .inl fo15))] H13 := hP
  replace hD : va_D A [(a0, .inr (8, [.int 4, .ref wa0, .ref na0])), (wa0, .inl (cI, 4, .inl fw0)), (na0, .inl (cI, 4, .inl fn0)), (na1, .inl (cI, 4, .inl fn1)), (mo, .inr (9, [.int 0, .ref al, md, rf, kn])), (al, .inr (4, [.int mc, .ref ed, .int 2])), (ed, .inl (cO, 10, .inr (.inr (.inr (.inr ee))))), (a1, .inr (8, [.int 4, .ref wa1, .ref na1])), (wa1, .inl (cI, 4, .inl fw1)), (r14, .inl (cI, 4, .inl fo15))] := hD
  refine W.widen (k := 1) (n := 4) (by omega) (by omega) ?_
  refine lv_astore_n (lv' := [(3, .ref r14), (0, .ref mo), (1, .int 1), (2, .int 0)]) hx hb dX4_fillRow_85 rfl hl (by decide) rfl (fun ls hl => ?_)
  refine lv_iconst (v := 0) hx hb dX4_fillRow_86 (by decide) ?_
  refine lv_istore (lv' := [(4, .int 0), (3, .ref r14), (0, .ref mo), (1, .int 1), (2, .int 0)]) hx hb dX4_fillRow_87 hl (by decide) rfl (fun ls hl => ?_)
  refine lv_iload hx hb dX4_fillRow_89 (lv_at hl 0 rfl) ?_
  refine lv_aload_n hx hb dX4_fillRow_91 rfl (lv_at hl 1 rfl) ?_
  refine va_alen (D := (dC, dI)) (cl := vwCl) (v := 4) hx hb hK hP 9 0 rfl rfl rfl dX4_fillRow_92 ?_
  refine lv_icmp_ge (tgt := 107) hx hb dX4_fillRow_93 (by decide) (fun c9 => ?_) (fun c9 => ?_)
  · exact absurd c9 (by decide)
  refine lv_aload_n hx hb dX4_fillRow_96 rfl (lv_at hl 1 rfl) ?_
  refine lv_iload hx hb dX4_fillRow_97 (lv_at hl 0 rfl) ?_
  refine lv_iload_n hx hb dX4_fillRow_99 rfl (lv_at hl 4 rfl) ?_
  refine va_iast (D := (dC, dI)) (cl := vwCl) hx hb hK hP hD (zS0 hS) 9 0 rfl rfl (by unfold vp_in; decide) dX4_fillRow_100 (fun H16 locs hP hD hS1 => ?_)
  have hz : s.heap.size + 1 ≤ H16.size := Nat.le_trans hz hS1.1
  have hS := zSS hS hS1
  replace hP : va_P (dC, dI) vwCl [(a0, .inr (8, [.int 4, .ref wa0, .ref na0])), (wa0, .inl (cI, 4, .inl fw0)), (na0, .inl (cI, 4, .inl fn0)), (na1, .inl (cI, 4, .inl fn1)), (mo, .inr (9, [.int 0, .ref al, md, rf, kn])), (al, .inr (4, [.int mc, .ref ed, .int 2])), (ed, .inl (cO, 10, .inr (.inr (.inr (.inr ee))))), (a1, .inr (8, [.int 4, .ref wa1, .ref na1])), (wa1, .inl (cI, 4, .inl fw1)), (r14, .inl (cI, 4, .inl (upd fo15 0 0)))] H16 := hP
  replace hD : va_D A [(a0, .inr (8, [.int 4, .ref wa0, .ref na0])), (wa0, .inl (cI, 4, .inl fw0)), (na0, .inl (cI, 4, .inl fn0)), (na1, .inl (cI, 4, .inl fn1)), (mo, .inr (9, [.int 0, .ref al, md, rf, kn])), (al, .inr (4, [.int mc, .ref ed, .int 2])), (ed, .inl (cO, 10, .inr (.inr (.inr (.inr ee))))), (a1, .inr (8, [.int 4, .ref wa1, .ref na1])), (wa1, .inl (cI, 4, .inl fw1)), (r14, .inl (cI, 4, .inl (upd fo15 0 0)))] := hD
  refine lv_iinc (v := 1) (lv' := [(4, .int 1), (3, .ref r14), (0, .ref mo), (1, .int 1), (2, .int 0)]) hx hb dX4_fillRow_101 hl (k := 0) rfl (by decide) (by decide) rfl (fun ls hl => ?_)
  refine lv_goto (tgt := 89) hx hb dX4_fillRow_104 (by decide) ?_
  refine lv_iload hx hb dX4_fillRow_89 (lv_at hl 0 rfl) ?_
  refine lv_aload_n hx hb dX4_fillRow_91 rfl (lv_at hl 1 rfl) ?_
  refine va_alen (D := (dC, dI)) (cl := vwCl) (v := 4) hx hb hK hP 9 0 rfl rfl rfl dX4_fillRow_92 ?_
  refine lv_icmp_ge (tgt := 107) hx hb dX4_fillRow_93 (by decide) (fun c9 => ?_) (fun c9 => ?_)
  · exact absurd c9 (by decide)
  refine lv_aload_n hx hb dX4_fillRow_96 rfl (lv_at hl 1 rfl) ?_
  refine lv_iload hx hb dX4_fillRow_97 (lv_at hl 0 rfl) ?_
  refine lv_iload_n hx hb dX4_fillRow_99 rfl (lv_at hl 4 rfl) ?_
  refine va_iast (D := (dC, dI)) (cl := vwCl) hx hb hK hP hD (zS0 hS) 9 0 rfl rfl (by unfold vp_in; decide) dX4_fillRow_100 (fun H17 locs hP hD hS1 => ?_)
  have hz : s.heap.size + 1 ≤ H17.size := Nat.le_trans hz hS1.1
  have hS := zSS hS hS1
  replace hP : va_P (dC, dI) vwCl [(a0, .inr (8, [.int 4, .ref wa0, .ref na0])), (wa0, .inl (cI, 4, .inl fw0)), (na0, .inl (cI, 4, .inl fn0)), (na1, .inl (cI, 4, .inl fn1)), (mo, .inr (9, [.int 0, .ref al, md, rf, kn])), (al, .inr (4, [.int mc, .ref ed, .int 2])), (ed, .inl (cO, 10, .inr (.inr (.inr (.inr ee))))), (a1, .inr (8, [.int 4, .ref wa1, .ref na1])), (wa1, .inl (cI, 4, .inl fw1)), (r14, .inl (cI, 4, .inl (upd (upd fo15 0 0) 1 0)))] H17 := hP
  replace hD : va_D A [(a0, .inr (8, [.int 4, .ref wa0, .ref na0])), (wa0, .inl (cI, 4, .inl fw0)), (na0, .inl (cI, 4, .inl fn0)), (na1, .inl (cI, 4, .inl fn1)), (mo, .inr (9, [.int 0, .ref al, md, rf, kn])), (al, .inr (4, [.int mc, .ref ed, .int 2])), (ed, .inl (cO, 10, .inr (.inr (.inr (.inr ee))))), (a1, .inr (8, [.int 4, .ref wa1, .ref na1])), (wa1, .inl (cI, 4, .inl fw1)), (r14, .inl (cI, 4, .inl (upd (upd fo15 0 0) 1 0)))] := hD
  refine lv_iinc (v := 2) (lv' := [(4, .int 2), (3, .ref r14), (0, .ref mo), (1, .int 1), (2, .int 0)]) hx hb dX4_fillRow_101 hl (k := 0) rfl (by decide) (by decide) rfl (fun ls hl => ?_)
  refine lv_goto (tgt := 89) hx hb dX4_fillRow_104 (by decide) ?_
  refine lv_iload hx hb dX4_fillRow_89 (lv_at hl 0 rfl) ?_
  refine lv_aload_n hx hb dX4_fillRow_91 rfl (lv_at hl 1 rfl) ?_
  refine va_alen (D := (dC, dI)) (cl := vwCl) (v := 4) hx hb hK hP 9 0 rfl rfl rfl dX4_fillRow_92 ?_
  refine lv_icmp_ge (tgt := 107) hx hb dX4_fillRow_93 (by decide) (fun c9 => ?_) (fun c9 => ?_)
  · exact absurd c9 (by decide)
  refine lv_aload_n hx hb dX4_fillRow_96 rfl (lv_at hl 1 rfl) ?_
  refine lv_iload hx hb dX4_fillRow_97 (lv_at hl 0 rfl) ?_
  refine lv_iload_n hx hb dX4_fillRow_99 rfl (lv_at hl 4 rfl) ?_
  refine va_iast (D := (dC, dI)) (cl := vwCl) hx hb hK hP hD (zS0 hS) 9 0 rfl rfl (by unfold vp_in; decide) dX4_fillRow_100 (fun H18 locs hP hD hS1 => ?_)
  have hz : s.heap.size + 1 ≤ H18.size := Nat.le_trans hz hS1.1
  have hS := zSS hS hS1
  replace hP : va_P (dC, dI) vwCl [(a0, .inr (8, [.int 4, .ref wa0, .ref na0])), (wa0, .inl (cI, 4, .inl fw0)), (na0, .inl (cI, 4, .inl fn0)), (na1, .inl (cI, 4, .inl fn1)), (mo, .inr (9, [.int 0, .ref al, md, rf, kn])), (al, .inr (4, [.int mc, .ref ed, .int 2])), (ed, .inl (cO, 10, .inr (.inr (.inr (.inr ee))))), (a1, .inr (8, [.int 4, .ref wa1, .ref na1])), (wa1, .inl (cI, 4, .inl fw1)), (r14, .inl (cI, 4, .inl (upd (upd (upd fo15 0 0) 1 0) 2 0)))] H18 := hP
  replace hD : va_D A [(a0, .inr (8, [.int 4, .ref wa0, .ref na0])), (wa0, .inl (cI, 4, .inl fw0)), (na0, .inl (cI, 4, .inl fn0)), (na1, .inl (cI, 4, .inl fn1)), (mo, .inr (9, [.int 0, .ref al, md, rf, kn])), (al, .inr (4, [.int mc, .ref ed, .int 2])), (ed, .inl (cO, 10, .inr (.inr (.inr (.inr ee))))), (a1, .inr (8, [.int 4, .ref wa1, .ref na1])), (wa1, .inl (cI, 4, .inl fw1)), (r14, .inl (cI, 4, .inl (upd (upd (upd fo15 0 0) 1 0) 2 0)))] := hD
  refine lv_iinc (v := 3) (lv' := [(4, .int 3), (3, .ref r14), (0, .ref mo), (1, .int 1), (2, .int 0)]) hx hb dX4_fillRow_101 hl (k := 0) rfl (by decide) (by decide) rfl (fun ls hl => ?_)
  refine lv_goto (tgt := 89) hx hb dX4_fillRow_104 (by decide) ?_
  refine lv_iload hx hb dX4_fillRow_89 (lv_at hl 0 rfl) ?_
  refine lv_aload_n hx hb dX4_fillRow_91 rfl (lv_at hl 1 rfl) ?_
  refine va_alen (D := (dC, dI)) (cl := vwCl) (v := 4) hx hb hK hP 9 0 rfl rfl rfl dX4_fillRow_92 ?_
  refine lv_icmp_ge (tgt := 107) hx hb dX4_fillRow_93 (by decide) (fun c9 => ?_) (fun c9 => ?_)
  · exact absurd c9 (by decide)
  refine lv_aload_n hx hb dX4_fillRow_96 rfl (lv_at hl 1 rfl) ?_
  refine lv_iload hx hb dX4_fillRow_97 (lv_at hl 0 rfl) ?_
  refine lv_iload_n hx hb dX4_fillRow_99 rfl (lv_at hl 4 rfl) ?_
  refine va_iast (D := (dC, dI)) (cl := vwCl) hx hb hK hP hD (zS0 hS) 9 0 rfl rfl (by unfold vp_in; decide) dX4_fillRow_100 (fun H19 locs hP hD hS1 => ?_)
  have hz : s.heap.size + 1 ≤ H19.size := Nat.le_trans hz hS1.1
  have hS := zSS hS hS1
  replace hP : va_P (dC, dI) vwCl [(a0, .inr (8, [.int 4, .ref wa0, .ref na0])), (wa0, .inl (cI, 4, .inl fw0)), (na0, .inl (cI, 4, .inl fn0)), (na1, .inl (cI, 4, .inl fn1)), (mo, .inr (9, [.int 0, .ref al, md, rf, kn])), (al, .inr (4, [.int mc, .ref ed, .int 2])), (ed, .inl (cO, 10, .inr (.inr (.inr (.inr ee))))), (a1, .inr (8, [.int 4, .ref wa1, .ref na1])), (wa1, .inl (cI, 4, .inl fw1)), (r14, .inl (cI, 4, .inl (upd (upd (upd (upd fo15 0 0) 1 0) 2 0) 3 0)))] H19 := hP
  replace hD : va_D A [(a0, .inr (8, [.int 4, .ref wa0, .ref na0])), (wa0, .inl (cI, 4, .inl fw0)), (na0, .inl (cI, 4, .inl fn0)), (na1, .inl (cI, 4, .inl fn1)), (mo, .inr (9, [.int 0, .ref al, md, rf, kn])), (al, .inr (4, [.int mc, .ref ed, .int 2])), (ed, .inl (cO, 10, .inr (.inr (.inr (.inr ee))))), (a1, .inr (8, [.int 4, .ref wa1, .ref na1])), (wa1, .inl (cI, 4, .inl fw1)), (r14, .inl (cI, 4, .inl (upd (upd (upd (upd fo15 0 0) 1 0) 2 0) 3 0)))] := hD
  refine lv_iinc (v := 4) (lv' := [(4, .int 4), (3, .ref r14), (0, .ref mo), (1, .int 1), (2, .int 0)]) hx hb dX4_fillRow_101 hl (k := 0) rfl (by decide) (by decide) rfl (fun ls hl => ?_)
  refine lv_goto (tgt := 89) hx hb dX4_fillRow_104 (by decide) ?_
  refine lv_iload hx hb dX4_fillRow_89 (lv_at hl 0 rfl) ?_
  refine lv_aload_n hx hb dX4_fillRow_91 rfl (lv_at hl 1 rfl) ?_
  refine va_alen (D := (dC, dI)) (cl := vwCl) (v := 4) hx hb hK hP 9 0 rfl rfl rfl dX4_fillRow_92 ?_
  refine lv_icmp_ge (tgt := 107) hx hb dX4_fillRow_93 (by decide) (fun c9 => ?_) (fun c9 => ?_)
  rotate_left
  · exact absurd (by decide) c9
  refine lv_aload_n hx hb dX4_fillRow_107 rfl (lv_at hl 2 rfl) ?_
  refine lv_aload_n hx hb dX4_fillRow_108 rfl (lv_at hl 2 rfl) ?_
  refine lv_iload_n hx hb dX4_fillRow_109 rfl (lv_at hl 3 rfl) ?_
  refine lv_aload_n hx hb dX4_fillRow_110 rfl (lv_at hl 1 rfl) ?_
  have hPc := hP.sub (ws' := [(mo, .inr (9, [.int 0, .ref al, md, rf, kn])), (al, .inr (4, [.int mc, .ref ed, .int 2])), (ed, .inl (cO, 10, .inr (.inr (.inr (.inr ee))))), (a0, .inr (8, [.int 4, .ref wa0, .ref na0])), (wa0, .inl (cI, 4, .inl fw0)), (na0, .inl (cI, 4, .inl fn0)), (a1, .inr (8, [.int 4, .ref wa1, .ref na1])), (wa1, .inl (cI, 4, .inl fw1)), (na1, .inl (cI, 4, .inl fn1)), (r14, .inl (cI, 4, .inl (upd (upd (upd (upd fo15 0 0) 1 0) 2 0) 3 0)))]) [4, 5, 6, 0, 1, 2, 7, 8, 3, 9] rfl
  have hDc := hD.sub (ws' := [(mo, .inr (9, [.int 0, .ref al, md, rf, kn])), (al, .inr (4, [.int mc, .ref ed, .int 2])), (ed, .inl (cO, 10, .inr (.inr (.inr (.inr ee))))), (a0, .inr (8, [.int 4, .ref wa0, .ref na0])), (wa0, .inl (cI, 4, .inl fw0)), (na0, .inl (cI, 4, .inl fn0)), (a1, .inr (8, [.int 4, .ref wa1, .ref na1])), (wa1, .inl (cI, 4, .inl fw1)), (na1, .inl (cI, 4, .inl fn1)), (r14, .inl (cI, 4, .inl (upd (upd (upd (upd fo15 0 0) 1 0) 2 0) 3 0)))]) [4, 5, 6, 0, 1, 2, 7, 8, 3, 9] (by decide) rfl
  have hFc := va_free (wc := [(mo, .inr (9, [.int 0, .ref al, md, rf, kn])), (al, .inr (4, [.int mc, .ref ed, .int 2])), (ed, .inl (cO, 10, .inr (.inr (.inr (.inr ee))))), (a0, .inr (8, [.int 4, .ref wa0, .ref na0])), (wa0, .inl (cI, 4, .inl fw0)), (na0, .inl (cI, 4, .inl fn0)), (a1, .inr (8, [.int 4, .ref wa1, .ref na1])), (wa1, .inl (cI, 4, .inl fw1)), (na1, .inl (cI, 4, .inl fn1)), (r14, .inl (cI, 4, .inl (upd (upd (upd (upd fo15 0 0) 1 0) 2 0) 3 0)))]) hD hS hA [4, 5, 6, 0, 1, 2, 7, 8, 3, 9] rfl
  have hDv := hDc.self (sz := H19.size)
  have hpre := zpre (xs' := []) (av := [.ref mo, .int 1, .ref r14]) hPc hK (hDc.weaken (fun _ _ _ h => h)) hZ hS hFc (fun r hr => by cases hr)
  refine va_calli (va_runV (As := [.int 1, .ref r14]) (rest := [.ref mo]) ⟨hx, hb, hml, hown, hts⟩ (k_aH1 l dC dI cI cB cR cO zk mo al ed 2 ee (.int 0) md rf kn (.int mc) a0 wa0 na0 a1 wa1 na1 fw0 fn0 fw1 fn1 r14 (upd (upd (upd (upd fo15 0 0) 1 0) 2 0) 3 0) H19.size (by decide) (by decide) rfl hw0 hn0 he0 hw1 hn1 he1 (fun i hi => by rcases (show i = 0 ∨ i = 1 ∨ i = 2 ∨ i = 3 by omega) with rfl | rfl | rfl | rfl <;> rfl)) (cwV 2 hts gX4_fillRow_X4_areHung rfl rfl rfl (by decide +kernel) ⟨Nat.le_of_ble_eq_true rfl, Nat.le_of_ble_eq_true rfl⟩) ⟨zblind, (zrecv_9 hK hPc (q0 := 0) rfl), hpre⟩ rfl rfl hl.1 rfl (lv_room (Nat.le_of_ble_eq_true rfl)) dX4_fillRow_111 ⟨Nat.le_of_ble_eq_true rfl, Nat.le_of_ble_eq_true rfl⟩) hS (fun q _ h => hFc q h) hFc (fun r21 u t H20 locs ht hvm hw hB hz1 hk1 hS => ?_)
  obtain rfl : 1 = r21 := (show r21 = 1 from hw).symm
  obtain ⟨fz22, gz23, ⟨hP1, hK1, hD1, hz2⟩, hwfz22, hngz23⟩ := hB
  rw [ht] at hP1 hz2
  have hPD9 := va_join (wr := []) (w1 := [(mo, .inr (9, [.int 0, .ref al, md, rf, kn])), (al, .inr (4, [.int mc, .ref ed, .int 2])), (ed, .inl (cO, 10, .inr (.inr (.inr (.inr ee))))), (a0, .inr (8, [.int 4, .ref wa0, .ref na0])), (wa0, .inl (cI, 4, .inl fw0)), (na0, .inl (cI, 4, .inl fn0)), (a1, .inr (8, [.int 4, .ref wa1, .ref na1])), (wa1, .inl (cI, 4, .inl fz22)), (na1, .inl (cI, 4, .inl gz23)), (r14, .inl (cI, 4, .inl (upd (upd (upd (upd fo15 0 0) 1 0) 2 0) 3 0)))]) hP hD [4, 5, 6, 0, 1, 2, 7, 8, 3, 9] [] rfl rfl (by decide) (by decide) hk1 hFc hP1 hD1
  clear hPc hDc hFc hDv hpre hP hD hP1 hK1 hD1
  obtain ⟨hP, hD⟩ := hPD9
  replace hz : s.heap.size + 4 ≤ H20.size := by omega
  clear hz2
  replace hP : va_P (dC, dI) vwCl [(mo, .inr (9, [.int 0, .ref al, md, rf, kn])), (al, .inr (4, [.int mc, .ref ed, .int 2])), (ed, .inl (cO, 10, .inr (.inr (.inr (.inr ee))))), (a0, .inr (8, [.int 4, .ref wa0, .ref na0])), (wa0, .inl (cI, 4, .inl fw0)), (na0, .inl (cI, 4, .inl fn0)), (a1, .inr (8, [.int 4, .ref wa1, .ref na1])), (wa1, .inl (cI, 4, .inl fz22)), (na1, .inl (cI, 4, .inl gz23)), (r14, .inl (cI, 4, .inl (upd (upd (upd (upd fo15 0 0) 1 0) 2 0) 3 0)))] H20 := hP
  replace hD : va_D A [(mo, .inr (9, [.int 0, .ref al, md, rf, kn])), (al, .inr (4, [.int mc, .ref ed, .int 2])), (ed, .inl (cO, 10, .inr (.inr (.inr (.inr ee))))), (a0, .inr (8, [.int 4, .ref wa0, .ref na0])), (wa0, .inl (cI, 4, .inl fw0)), (na0, .inl (cI, 4, .inl fn0)), (a1, .inr (8, [.int 4, .ref wa1, .ref na1])), (wa1, .inl (cI, 4, .inl fz22)), (na1, .inl (cI, 4, .inl gz23)), (r14, .inl (cI, 4, .inl (upd (upd (upd (upd fo15 0 0) 1 0) 2 0) 3 0)))] := hD
  refine W.widen (k := 6) (n := 18) (by omega) (by omega) ?_
  refine lv_if_ne (tgt := 121) hx hb dX4_fillRow_114 (by decide) (fun c9 => ?_) (fun c9 => ?_)
  rotate_left
  · exact absurd c9 (by decide)
  refine lv_iconst (v := 0) hx hb dX4_fillRow_121 (by decide) ?_
  refine lv_iconst (v := 3) hx hb dX4_fillRow_122 (by decide) ?_
  have hPc := hP.sub (ws' := [(mo, .inr (9, [.int 0, .ref al, md, rf, kn]))]) [0] rfl
  have hDc := hD.sub (ws' := [(mo, .inr (9, [.int 0, .ref al, md, rf, kn]))]) [0] (by decide) rfl
  have hFc := va_free (wc := [(mo, .inr (9, [.int 0, .ref al, md, rf, kn]))]) hD hS hA [0] rfl
  have hDv := hDc.self (sz := H20.size)
  have hpre := zpre (xs' := []) (av := [.ref mo, .int 0, .int 3]) hPc hK (hDc.weaken (fun _ _ _ h => h)) hZ hS hFc (fun r hr => by cases hr)
  refine va_calli (va_runV (As := [.int 0, .int 3]) (rest := []) ⟨hx, hb, hml, hown, hts⟩ (k_ref l dC dI cI cB cR cO zk mo al md rf kn 3 H20.size ) (cwV 2 hts gX4_fillRow_X4_refuse rfl rfl rfl (by decide +kernel) ⟨Nat.le_of_ble_eq_true rfl, Nat.le_of_ble_eq_true rfl⟩) ⟨zblind, (zrecv_9 hK hPc (q0 := 0) rfl), hpre⟩ rfl rfl hl.1 rfl (lv_room (Nat.le_of_ble_eq_true rfl)) dX4_fillRow_123 ⟨Nat.le_of_ble_eq_true rfl, Nat.le_of_ble_eq_true rfl⟩) hS (fun q _ h => hFc q h) hFc (fun r25 u t H24 locs ht hvm hw hB hz1 hk1 hS => ?_)
  obtain rfl : 0 = r25 := (show r25 = 0 from hw).symm
  obtain ⟨hP1, hK1, hD1, hz2⟩ := hB
  rw [ht] at hP1 hz2
  have hPD9 := va_join (wr := [(al, .inr (4, [.int mc, .ref ed, .int 2])), (ed, .inl (cO, 10, .inr (.inr (.inr (.inr ee))))), (a0, .inr (8, [.int 4, .ref wa0, .ref na0])), (wa0, .inl (cI, 4, .inl fw0)), (na0, .inl (cI, 4, .inl fn0)), (a1, .inr (8, [.int 4, .ref wa1, .ref na1])), (wa1, .inl (cI, 4, .inl fz22)), (na1, .inl (cI, 4, .inl gz23)), (r14, .inl (cI, 4, .inl (upd (upd (upd (upd fo15 0 0) 1 0) 2 0) 3 0)))]) (w1 := [(mo, .inr (9, [.int 0, .ref al, md, rf, kn]))]) hP hD [0] [1, 2, 3, 4, 5, 6, 7, 8, 9] rfl rfl (by decide) (by decide) hk1 hFc hP1 hD1
  clear hPc hDc hFc hDv hpre hP hD hP1 hK1 hD1
  obtain ⟨hP, hD⟩ := hPD9
  replace hz : s.heap.size + 4 ≤ H24.size := by omega
  clear hz2
  replace hP : va_P (dC, dI) vwCl [(al, .inr (4, [.int mc, .ref ed, .int 2])), (ed, .inl (cO, 10, .inr (.inr (.inr (.inr ee))))), (a0, .inr (8, [.int 4, .ref wa0, .ref na0])), (wa0, .inl (cI, 4, .inl fw0)), (na0, .inl (cI, 4, .inl fn0)), (a1, .inr (8, [.int 4, .ref wa1, .ref na1])), (wa1, .inl (cI, 4, .inl fz22)), (na1, .inl (cI, 4, .inl gz23)), (r14, .inl (cI, 4, .inl (upd (upd (upd (upd fo15 0 0) 1 0) 2 0) 3 0))), (mo, .inr (9, [.int 0, .ref al, md, rf, kn]))] H24 := hP
  replace hD : va_D A [(al, .inr (4, [.int mc, .ref ed, .int 2])), (ed, .inl (cO, 10, .inr (.inr (.inr (.inr ee))))), (a0, .inr (8, [.int 4, .ref wa0, .ref na0])), (wa0, .inl (cI, 4, .inl fw0)), (na0, .inl (cI, 4, .inl fn0)), (a1, .inr (8, [.int 4, .ref wa1, .ref na1])), (wa1, .inl (cI, 4, .inl fz22)), (na1, .inl (cI, 4, .inl gz23)), (r14, .inl (cI, 4, .inl (upd (upd (upd (upd fo15 0 0) 1 0) 2 0) 3 0))), (mo, .inr (9, [.int 0, .ref al, md, rf, kn]))] := hD
  refine W.widen (k := 6) (n := 18) (by omega) (by omega) ?_
  refine lv_if_eq (tgt := 133) hx hb dX4_fillRow_126 (by decide) (fun c9 => ?_) (fun c9 => ?_)
  rotate_left
  · exact absurd (by decide) c9
  refine lv_aload_n hx hb dX4_fillRow_133 rfl (lv_at hl 2 rfl) ?_
  refine lv_iload_n hx hb dX4_fillRow_134 rfl (lv_at hl 3 rfl) ?_
  have hPc := hP.sub (ws' := [(mo, .inr (9, [.int 0, .ref al, md, rf, kn])), (al, .inr (4, [.int mc, .ref ed, .int 2])), (ed, .inl (cO, 10, .inr (.inr (.inr (.inr ee))))), (a0, .inr (8, [.int 4, .ref wa0, .ref na0])), (wa0, .inl (cI, 4, .inl fw0)), (na0, .inl (cI, 4, .inl fn0)), (a1, .inr (8, [.int 4, .ref wa1, .ref na1])), (wa1, .inl (cI, 4, .inl fz22)), (na1, .inl (cI, 4, .inl gz23))]) [9, 0, 1, 2, 3, 4, 5, 6, 7] rfl
  have hDc := hD.sub (ws' := [(mo, .inr (9, [.int 0, .ref al, md, rf, kn])), (al, .inr (4, [.int mc, .ref ed, .int 2])), (ed, .inl (cO, 10, .inr (.inr (.inr (.inr ee))))), (a0, .inr (8, [.int 4, .ref wa0, .ref na0])), (wa0, .inl (cI, 4, .inl fw0)), (na0, .inl (cI, 4, .inl fn0)), (a1, .inr (8, [.int 4, .ref wa1, .ref na1])), (wa1, .inl (cI, 4, .inl fz22)), (na1, .inl (cI, 4, .inl gz23))]) [9, 0, 1, 2, 3, 4, 5, 6, 7] (by decide) rfl
  have hFc := va_free (wc := [(mo, .inr (9, [.int 0, .ref al, md, rf, kn])), (al, .inr (4, [.int mc, .ref ed, .int 2])), (ed, .inl (cO, 10, .inr (.inr (.inr (.inr ee))))), (a0, .inr (8, [.int 4, .ref wa0, .ref na0])), (wa0, .inl (cI, 4, .inl fw0)), (na0, .inl (cI, 4, .inl fn0)), (a1, .inr (8, [.int 4, .ref wa1, .ref na1])), (wa1, .inl (cI, 4, .inl fz22)), (na1, .inl (cI, 4, .inl gz23))]) hD hS hA [9, 0, 1, 2, 3, 4, 5, 6, 7] rfl
  have hDv := hDc.self (sz := H24.size)
  have hpre := zpre (xs' := []) (av := [.ref mo, .int 1]) hPc hK (hDc.weaken (fun _ _ _ h => h)) hZ hS hFc (fun r hr => by cases hr)
  refine va_calli (va_runV (As := [.int 1]) (rest := []) ⟨hx, hb, hml, hown, hts⟩ (k_dO1 l dC dI cI cB cR cO zk mo al ed 2 ee (.int 0) md rf kn (.int mc) a0 wa0 na0 a1 wa1 na1 fw0 fn0 fz22 gz23 H24.size (by decide) (by decide) hw0 hn0 he0 hwfz22 hngz23 he1) (cwV 1 hts gX4_fillRow_X4_depthOf rfl rfl rfl (by decide +kernel) ⟨Nat.le_of_ble_eq_true rfl, Nat.le_of_ble_eq_true rfl⟩) ⟨zblind, (zrecv_9 hK hPc (q0 := 0) rfl), hpre⟩ rfl rfl hl.1 rfl (lv_room (Nat.le_of_ble_eq_true rfl)) dX4_fillRow_135 ⟨Nat.le_of_ble_eq_true rfl, Nat.le_of_ble_eq_true rfl⟩) hS (fun q _ h => hFc q h) hFc (fun r27 u t H26 locs ht hvm hw hB hz1 hk1 hS => ?_)
  obtain rfl : 2 = r27 := (show r27 = 2 from hw).symm
  obtain ⟨hP1, hK1, hD1, hz2⟩ := hB
  rw [ht] at hP1 hz2
  have hPD9 := va_join (wr := [(r14, .inl (cI, 4, .inl (upd (upd (upd (upd fo15 0 0) 1 0) 2 0) 3 0)))]) (w1 := [(mo, .inr (9, [.int 0, .ref al, md, rf, kn])), (al, .inr (4, [.int mc, .ref ed, .int 2])), (ed, .inl (cO, 10, .inr (.inr (.inr (.inr ee))))), (a0, .inr (8, [.int 4, .ref wa0, .ref na0])), (wa0, .inl (cI, 4, .inl fw0)), (na0, .inl (cI, 4, .inl fn0)), (a1, .inr (8, [.int 4, .ref wa1, .ref na1])), (wa1, .inl (cI, 4, .inl fz22)), (na1, .inl (cI, 4, .inl gz23))]) hP hD [9, 0, 1, 2, 3, 4, 5, 6, 7] [8] rfl rfl (by decide) (by decide) hk1 hFc hP1 hD1
  clear hPc hDc hFc hDv hpre hP hD hP1 hK1 hD1
  obtain ⟨hP, hD⟩ := hPD9
  replace hz : s.heap.size + 5 ≤ H26.size := by omega
  clear hz2
  replace hP : va_P (dC, dI) vwCl [(r14, .inl (cI, 4, .inl (upd (upd (upd (upd fo15 0 0) 1 0) 2 0) 3 0))), (mo, .inr (9, [.int 0, .ref al, md, rf, kn])), (al, .inr (4, [.int mc, .ref ed, .int 2])), (ed, .inl (cO, 10, .inr (.inr (.inr (.inr ee))))), (a0, .inr (8, [.int 4, .ref wa0, .ref na0])), (wa0, .inl (cI, 4, .inl fw0)), (na0, .inl (cI, 4, .inl fn0)), (a1, .inr (8, [.int 4, .ref wa1, .ref na1])), (wa1, .inl (cI, 4, .inl fz22)), (na1, .inl (cI, 4, .inl gz23))] H26 := hP
  replace hD : va_D A [(r14, .inl (cI, 4, .inl (upd (upd (upd (upd fo15 0 0) 1 0) 2 0) 3 0))), (mo, .inr (9, [.int 0, .ref al, md, rf, kn])), (al, .inr (4, [.int mc, .ref ed, .int 2])), (ed, .inl (cO, 10, .inr (.inr (.inr (.inr ee))))), (a0, .inr (8, [.int 4, .ref wa0, .ref na0])), (wa0, .inl (cI, 4, .inl fw0)), (na0, .inl (cI, 4, .inl fn0)), (a1, .inr (8, [.int 4, .ref wa1, .ref na1])), (wa1, .inl (cI, 4, .inl fz22)), (na1, .inl (cI, 4, .inl gz23))] := hD
  refine W.widen (k := 7) (n := 20) (by omega) (by omega) ?_
  have hP9 := hP.sub (ws' := [(mo, .inr (9, [.int 0, .ref al, md, rf, kn])), (al, .inr (4, [.int mc, .ref ed, .int 2])), (ed, .inl (cO, 10, .inr (.inr (.inr (.inr ee))))), (a0, .inr (8, [.int 4, .ref wa0, .ref na0])), (wa0, .inl (cI, 4, .inl fw0)), (na0, .inl (cI, 4, .inl fn0)), (a1, .inr (8, [.int 4, .ref wa1, .ref na1])), (wa1, .inl (cI, 4, .inl fz22)), (na1, .inl (cI, 4, .inl gz23))]) [1, 2, 3, 4, 5, 6, 7, 8, 9] rfl
  have hD9 := hD.sub (ws' := [(mo, .inr (9, [.int 0, .ref al, md, rf, kn])), (al, .inr (4, [.int mc, .ref ed, .int 2])), (ed, .inl (cO, 10, .inr (.inr (.inr (.inr ee))))), (a0, .inr (8, [.int 4, .ref wa0, .ref na0])), (wa0, .inl (cI, 4, .inl fw0)), (na0, .inl (cI, 4, .inl fn0)), (a1, .inr (8, [.int 4, .ref wa1, .ref na1])), (wa1, .inl (cI, 4, .inl fz22)), (na1, .inl (cI, 4, .inl gz23))]) [1, 2, 3, 4, 5, 6, 7, 8, 9] (by decide) rfl
  exact W.iret (v := 2) hx hb hr (fun t ht hW => ⟨⟨_, (), rfl, rfl, ⟨_, _, ⟨by rw [ht]; exact hP9, va_K.moved hW.alike hK, hD9, by rw [ht]; exact hz⟩, hwfz22, hngz23⟩⟩, hS.F ht⟩) hS.2.2 dX4_fillRow_138

set_option maxHeartbeats 4000000 in
set_option maxRecDepth 100000 in
theorem k_fiM2 (l : Launch) (dC : Nat → ClassId) (dI : Nat → Nat → Nat) (cI cB cR cO : ClassId) (zk : Nat → Nat) (mo al : Nat) (th md rf kn : Value) (ed : Nat) (ee : Nat → Option Nat) (mc : Int32) (a0 wa0 na0 a1 wa1 na1 a2 wa2 na2 : Nat) (fw0 fn0 fw1 fn1 fw2 fn2 : Nat → Int32) (sz : Nat) (hw0 : ∀ i, i < 4 → fw0 i = 0) (hn0 : ∀ i, i < 4 → fn0 i = (-1)) (he0 : ee 0 = some a0) (hw1 : ∀ i, i < 4 → fw1 i = 3) (hn1 : ∀ i, i < 4 → fn1 i = 0) (he1 : ee 1 = some a1) (hw2 : ∀ i, i < 4 → fw2 i = 0) (hn2 : ∀ i, i < 4 → fn2 i = -1) (he2 : ee 2 = some a2) : Met l yX4_fillRow wsX4_fillRow ({ frames := 5, cells := 8, slots := 24, locals := 132 }) (va_Pc [.ref mo, .int 2, .int 1] (zPre (dC, dI) (zT cI cB cR cO) zk [] [(mo, .inr (9, [th, .ref al, md, rf, kn])), (al, .inr (4, [.int mc, .ref ed, .int 3])), (ed, .inl (cO, 10, .inr (.inr (.inr (.inr ee))))), (a0, .inr (8, [.int 4, .ref wa0, .ref na0])), (wa0, .inl (cI, 4, .inl fw0)), (na0, .inl (cI, 4, .inl fn0)), (a1, .inr (8, [.int 4, .ref wa1, .ref na1])), (wa1, .inl (cI, 4, .inl fw1)), (na1, .inl (cI, 4, .inl fn1)), (a2, .inr (8, [.int 4, .ref wa2, .ref na2])), (wa2, .inl (cI, 4, .inl fw2)), (na2, .inl (cI, 4, .inl fn2))] sz)) (va_Qi (fun r (_ : Unit) => r = 3) (fun _ t => ∃ (fwz : Nat → Int32), ∃ (fnz : Nat → Int32), zEnd (dC, dI) (zT cI cB cR cO) (va_A [(mo, .inr (9, [th, .ref al, md, rf, kn])), (al, .inr (4, [.int mc, .ref ed, .int 3])), (ed, .inl (cO, 10, .inr (.inr (.inr (.inr ee))))), (a0, .inr (8, [.int 4, .ref wa0, .ref na0])), (wa0, .inl (cI, 4, .inl fw0)), (na0, .inl (cI, 4, .inl fn0)), (a1, .inr (8, [.int 4, .ref wa1, .ref na1])), (wa1, .inl (cI, 4, .inl fw1)), (na1, .inl (cI, 4, .inl fn1)), (a2, .inr (8, [.int 4, .ref wa2, .ref na2])), (wa2, .inl (cI, 4, .inl fw2)), (na2, .inl (cI, 4, .inl fn2))] sz) [(mo, .inr (9, [.int 0, .ref al, md, rf, kn])), (al, .inr (4, [.int mc, .ref ed, .int 3])), (ed, .inl (cO, 10, .inr (.inr (.inr (.inr ee))))), (a0, .inr (8, [.int 4, .ref wa0, .ref na0])), (wa0, .inl (cI, 4, .inl fw0)), (na0, .inl (cI, 4, .inl fn0)), (a1, .inr (8, [.int 4, .ref wa1, .ref na1])), (wa1, .inl (cI, 4, .inl fw1)), (na1, .inl (cI, 4, .inl fn1)), (a2, .inr (8, [.int 4, .ref wa2, .ref na2])), (wa2, .inl (cI, 4, .inl fwz)), (na2, .inl (cI, 4, .inl fnz))] sz 5 t ∧ (∀ i, i < 4 → fwz i = 3) ∧ (∀ i, i < 4 → fnz i = 1)) (va_A [(mo, .inr (9, [th, .ref al, md, rf, kn])), (al, .inr (4, [.int mc, .ref ed, .int 3])), (ed, .inl (cO, 10, .inr (.inr (.inr (.inr ee))))), (a0, .inr (8, [.int 4, .ref wa0, .ref na0])), (wa0, .inl (cI, 4, .inl fw0)), (na0, .inl (cI, 4, .inl fn0)), (a1, .inr (8, [.int 4, .ref wa1, .ref na1])), (wa1, .inl (cI, 4, .inl fw1)), (na1, .inl (cI, 4, .inl fn1)), (a2, .inr (8, [.int 4, .ref wa2, .ref na2])), (wa2, .inl (cI, 4, .inl fw2)), (na2, .inl (cI, 4, .inl fn2))] sz)) 8 24 (va_A [(mo, .inr (9, [th, .ref al, md, rf, kn])), (al, .inr (4, [.int mc, .ref ed, .int 3])), (ed, .inl (cO, 10, .inr (.inr (.inr (.inr ee))))), (a0, .inr (8, [.int 4, .ref wa0, .ref na0])), (wa0, .inl (cI, 4, .inl fw0)), (na0, .inl (cI, 4, .inl fn0)), (a1, .inr (8, [.int 4, .ref wa1, .ref na1])), (wa1, .inl (cI, 4, .inl fw1)), (na1, .inl (cI, 4, .inl fn1)), (a2, .inr (8, [.int 4, .ref wa2, .ref na2])), (wa2, .inl (cI, 4, .inl fw2)), (na2, .inl (cI, 4, .inl fn2))] sz) := by
  refine Met.ofW (cc := cX4_fillRow) (maxL := 5) (ret := (some .int)) (by decide) rfl ?_
  intro p e s mY args below meth c s₁ B hml hv
  obtain ⟨rfl, hsz, hP, hK, hD0, hZ⟩ := hv
  have hx := B.exec
  have hb := B.bytes
  have hr := B.returns
  have hts := atoms_spec (ws := wsX4_fillRow) B.pre
  have hown : s.vm.findClass RX4 = some mY.cls := findClass_of_methodNamed B.named
  have hlocks := B.notSynchronized
  subst hsz
  have hD := hD0.self (sz := s.heap.size)
  generalize hAe : va_A [(mo, .inr (9, [th, .ref al, md, rf, kn])), (al, .inr (4, [.int mc, .ref ed, .int 3])), (ed, .inl (cO, 10, .inr (.inr (.inr (.inr ee))))), (a0, .inr (8, [.int 4, .ref wa0, .ref na0])), (wa0, .inl (cI, 4, .inl fw0)), (na0, .inl (cI, 4, .inl fn0)), (a1, .inr (8, [.int 4, .ref wa1, .ref na1])), (wa1, .inl (cI, 4, .inl fw1)), (na1, .inl (cI, 4, .inl fn1)), (a2, .inr (8, [.int 4, .ref wa2, .ref na2])), (wa2, .inl (cI, 4, .inl fw2)), (na2, .inl (cI, 4, .inl fn2))] s.heap.size = A at hD hZ ⊢
  have hA : ∀ q : Nat, s.heap.size ≤ q → A q := fun q h => by rw [← hAe]; exact Or.inr h
  have hS : va_S A s.heap s.heap [] := va_S.rf
  have hz : s.heap.size + 0 ≤ s.heap.size := Nat.le_refl _
  have hl := lv_entry ([.ref mo, .int 2, .int 1]) (n := 5) (Nat.le_of_ble_eq_true rfl)
  rw [lg_entry_eq]
  generalize (lg_sl ([.ref mo, .int 2, .int 1]) ++ List.replicate (5 - (lg_sl ([.ref mo, .int 2, .int 1])).length) Slot.unset).toArray = ls at hl ⊢
  have hl : lv_has ls 5 [(0, .ref mo), (1, .int 2), (2, .int 1)] := hl
  have hP : va_P (dC, dI) vwCl [(mo, .inr (9, [th, .ref al, md, rf, kn])), (al, .inr (4, [.int mc, .ref ed, .int 3])), (ed, .inl (cO, 10, .inr (.inr (.inr (.inr ee))))), (a0, .inr (8, [.int 4, .ref wa0, .ref na0])), (wa0, .inl (cI, 4, .inl fw0)), (na0, .inl (cI, 4, .inl fn0)), (a1, .inr (8, [.int 4, .ref wa1, .ref na1])), (wa1, .inl (cI, 4, .inl fw1)), (na1, .inl (cI, 4, .inl fn1)), (a2, .inr (8, [.int 4, .ref wa2, .ref na2])), (wa2, .inl (cI, 4, .inl fw2)), (na2, .inl (cI, 4, .inl fn2))] s.heap := hP
  have hD : va_D A [(mo, .inr (9, [th, .ref al, md, rf, kn])), (al, .inr (4, [.int mc, .ref ed, .int 3])), (ed, .inl (cO, 10, .inr (.inr (.inr (.inr ee))))), (a0, .inr (8, [.int 4, .ref wa0, .ref na0])), (wa0, .inl (cI, 4, .inl fw0)), (na0, .inl (cI, 4, .inl fn0)), (a1, .inr (8, [.int 4, .ref wa1, .ref na1])), (wa1, .inl (cI, 4, .inl fw1)), (na1, .inl (cI, 4, .inl fn1)), (a2, .inr (8, [.int 4, .ref wa2, .ref na2])), (wa2, .inl (cI, 4, .inl fw2)), (na2, .inl (cI, 4, .inl fn2))] := hD
  refine lv_aload_n hx hb dX4_fillRow_0 rfl (lv_at hl 0 rfl) ?_
  refine lv_aload_n hx hb dX4_fillRow_1 rfl (lv_at hl 0 rfl) ?_
  refine lv_iload_n hx hb dX4_fillRow_2 rfl (lv_at hl 1 rfl) ?_
  have hPc := hP.sub (ws' := [(mo, .inr (9, [th, .ref al, md, rf, kn])), (al, .inr (4, [.int mc, .ref ed, .int 3]))]) [0, 1] rfl
  have hDc := hD.sub (ws' := [(mo, .inr (9, [th, .ref al, md, rf, kn])), (al, .inr (4, [.int mc, .ref ed, .int 3]))]) [0, 1] (by decide) rfl
  have hFc := va_free (wc := [(mo, .inr (9, [th, .ref al, md, rf, kn])), (al, .inr (4, [.int mc, .ref ed, .int 3]))]) hD hS hA [0, 1] rfl
  have hDv := hDc.self (sz := s.heap.size)
  have hpre := zpre (xs' := []) (av := [.ref mo, .int 2]) hPc hK (hDc.weaken (fun _ _ _ h => h)) hZ hS hFc (fun r hr => by cases hr)
  refine va_calli (va_runV (As := [.int 2]) (rest := [.ref mo]) ⟨hx, hb, hml, hown, hts⟩ (k_nR2_3 l dC dI cI cB cR cO zk mo al th md rf kn ed ee mc s.heap.size ) (cwV 1 hts gX4_fillRow_X4_isNoRow rfl rfl rfl (by decide +kernel) ⟨Nat.le_of_ble_eq_true rfl, Nat.le_of_ble_eq_true rfl⟩) ⟨zblind, (zrecv_9 hK hPc (q0 := 0) rfl), hpre⟩ rfl rfl hl.1 rfl (lv_room (Nat.le_of_ble_eq_true rfl)) dX4_fillRow_3 ⟨Nat.le_of_ble_eq_true rfl, Nat.le_of_ble_eq_true rfl⟩) hS (fun q _ h => hFc q h) hFc (fun r2 u t H1 locs ht hvm hw hB hz1 hk1 hS => ?_)
  obtain rfl : 0 = r2 := (show r2 = 0 from hw).symm
  obtain ⟨hP1, hK1, hD1, hz2⟩ := hB
  rw [ht] at hP1 hz2
  have hPD9 := va_join (wr := [(ed, .inl (cO, 10, .inr (.inr (.inr (.inr ee))))), (a0, .inr (8, [.int 4, .ref wa0, .ref na0])), (wa0, .inl (cI, 4, .inl fw0)), (na0, .inl (cI, 4, .inl fn0)), (a1, .inr (8, [.int 4, .ref wa1, .ref na1])), (wa1, .inl (cI, 4, .inl fw1)), (na1, .inl (cI, 4, .inl fn1)), (a2, .inr (8, [.int 4, .ref wa2, .ref na2])), (wa2, .inl (cI, 4, .inl fw2)), (na2, .inl (cI, 4, .inl fn2))]) (w1 := [(mo, .inr (9, [th, .ref al, md, rf, kn])), (al, .inr (4, [.int mc, .ref ed, .int 3]))]) hP hD [0, 1] [2, 3, 4, 5, 6, 7, 8, 9, 10, 11] rfl rfl (by decide) (by decide) hk1 hFc hP1 hD1
  clear hPc hDc hFc hDv hpre hP hD hP1 hK1 hD1
  obtain ⟨hP, hD⟩ := hPD9
  replace hz : s.heap.size + 0 ≤ H1.size := by omega
  clear hz2
  replace hP : va_P (dC, dI) vwCl [(ed, .inl (cO, 10, .inr (.inr (.inr (.inr ee))))), (a0, .inr (8, [.int 4, .ref wa0, .ref na0])), (wa0, .inl (cI, 4, .inl fw0)), (na0, .inl (cI, 4, .inl fn0)), (a1, .inr (8, [.int 4, .ref wa1, .ref na1])), (wa1, .inl (cI, 4, .inl fw1)), (na1, .inl (cI, 4, .inl fn1)), (a2, .inr (8, [.int 4, .ref wa2, .ref na2])), (wa2, .inl (cI, 4, .inl fw2)), (na2, .inl (cI, 4, .inl fn2)), (mo, .inr (9, [th, .ref al, md, rf, kn])), (al, .inr (4, [.int mc, .ref ed, .int 3]))] H1 := hP
  replace hD : va_D A [(ed, .inl (cO, 10, .inr (.inr (.inr (.inr ee))))), (a0, .inr (8, [.int 4, .ref wa0, .ref na0])), (wa0, .inl (cI, 4, .inl fw0)), (na0, .inl (cI, 4, .inl fn0)), (a1, .inr (8, [.int 4, .ref wa1, .ref na1])), (wa1, .inl (cI, 4, .inl fw1)), (na1, .inl (cI, 4, .inl fn1)), (a2, .inr (8, [.int 4, .ref wa2, .ref na2])), (wa2, .inl (cI, 4, .inl fw2)), (na2, .inl (cI, 4, .inl fn2)), (mo, .inr (9, [th, .ref al, md, rf, kn])), (al, .inr (4, [.int mc, .ref ed, .int 3]))] := hD
  refine W.widen (k := 0) (n := 0) (by omega) (by omega) ?_
  refine lv_if_ne (tgt := 17) hx hb dX4_fillRow_6 (by decide) (fun c9 => ?_) (fun c9 => ?_)
  · exact absurd (by decide) c9
  refine lv_aload_n hx hb dX4_fillRow_9 rfl (lv_at hl 0 rfl) ?_
  refine lv_iload_n hx hb dX4_fillRow_10 rfl (lv_at hl 2 rfl) ?_
  have hPc := hP.sub (ws' := [(mo, .inr (9, [th, .ref al, md, rf, kn])), (al, .inr (4, [.int mc, .ref ed, .int 3]))]) [10, 11] rfl
  have hDc := hD.sub (ws' := [(mo, .inr (9, [th, .ref al, md, rf, kn])), (al, .inr (4, [.int mc, .ref ed, .int 3]))]) [10, 11] (by decide) rfl
  have hFc := va_free (wc := [(mo, .inr (9, [th, .ref al, md, rf, kn])), (al, .inr (4, [.int mc, .ref ed, .int 3]))]) hD hS hA [10, 11] rfl
  have hDv := hDc.self (sz := H1.size)
  have hpre := zpre (xs' := []) (av := [.ref mo, .int 1]) hPc hK (hDc.weaken (fun _ _ _ h => h)) hZ hS hFc (fun r hr => by cases hr)
  refine va_calli (va_runV (As := [.int 1]) (rest := [.ref mo]) ⟨hx, hb, hml, hown, hts⟩ (k_nR1_3 l dC dI cI cB cR cO zk mo al th md rf kn ed ee mc H1.size ) (cwV 1 hts gX4_fillRow_X4_isNoRow rfl rfl rfl (by decide +kernel) ⟨Nat.le_of_ble_eq_true rfl, Nat.le_of_ble_eq_true rfl⟩) ⟨zblind, (zrecv_9 hK hPc (q0 := 0) rfl), hpre⟩ rfl rfl hl.1 rfl (lv_room (Nat.le_of_ble_eq_true rfl)) dX4_fillRow_11 ⟨Nat.le_of_ble_eq_true rfl, Nat.le_of_ble_eq_true rfl⟩) hS (fun q _ h => hFc q h) hFc (fun r4 u t H3 locs ht hvm hw hB hz1 hk1 hS => ?_)
  obtain rfl : 0 = r4 := (show r4 = 0 from hw).symm
  obtain ⟨hP1, hK1, hD1, hz2⟩ := hB
  rw [ht] at hP1 hz2
  have hPD9 := va_join (wr := [(ed, .inl (cO, 10, .inr (.inr (.inr (.inr ee))))), (a0, .inr (8, [.int 4, .ref wa0, .ref na0])), (wa0, .inl (cI, 4, .inl fw0)), (na0, .inl (cI, 4, .inl fn0)), (a1, .inr (8, [.int 4, .ref wa1, .ref na1])), (wa1, .inl (cI, 4, .inl fw1)), (na1, .inl (cI, 4, .inl fn1)), (a2, .inr (8, [.int 4, .ref wa2, .ref na2])), (wa2, .inl (cI, 4, .inl fw2)), (na2, .inl (cI, 4, .inl fn2))]) (w1 := [(mo, .inr (9, [th, .ref al, md, rf, kn])), (al, .inr (4, [.int mc, .ref ed, .int 3]))]) hP hD [10, 11] [0, 1, 2, 3, 4, 5, 6, 7, 8, 9] rfl rfl (by decide) (by decide) hk1 hFc hP1 hD1
  clear hPc hDc hFc hDv hpre hP hD hP1 hK1 hD1
  obtain ⟨hP, hD⟩ := hPD9
  replace hz : s.heap.size + 0 ≤ H3.size := by omega
  clear hz2
  replace hP : va_P (dC, dI) vwCl [(ed, .inl (cO, 10, .inr (.inr (.inr (.inr ee))))), (a0, .inr (8, [.int 4, .ref wa0, .ref na0])), (wa0, .inl (cI, 4, .inl fw0)), (na0, .inl (cI, 4, .inl fn0)), (a1, .inr (8, [.int 4, .ref wa1, .ref na1])), (wa1, .inl (cI, 4, .inl fw1)), (na1, .inl (cI, 4, .inl fn1)), (a2, .inr (8, [.int 4, .ref wa2, .ref na2])), (wa2, .inl (cI, 4, .inl fw2)), (na2, .inl (cI, 4, .inl fn2)), (mo, .inr (9, [th, .ref al, md, rf, kn])), (al, .inr (4, [.int mc, .ref ed, .int 3]))] H3 := hP
  replace hD : va_D A [(ed, .inl (cO, 10, .inr (.inr (.inr (.inr ee))))), (a0, .inr (8, [.int 4, .ref wa0, .ref na0])), (wa0, .inl (cI, 4, .inl fw0)), (na0, .inl (cI, 4, .inl fn0)), (a1, .inr (8, [.int 4, .ref wa1, .ref na1])), (wa1, .inl (cI, 4, .inl fw1)), (na1, .inl (cI, 4, .inl fn1)), (a2, .inr (8, [.int 4, .ref wa2, .ref na2])), (wa2, .inl (cI, 4, .inl fw2)), (na2, .inl (cI, 4, .inl fn2)), (mo, .inr (9, [th, .ref al, md, rf, kn])), (al, .inr (4, [.int mc, .ref ed, .int 3]))] := hD
  refine W.widen (k := 0) (n := 0) (by omega) (by omega) ?_
  refine lv_if_eq (tgt := 21) hx hb dX4_fillRow_14 (by decide) (fun c9 => ?_) (fun c9 => ?_)
  rotate_left
  · exact absurd (by decide) c9
  refine lv_iconst (v := 0) hx hb dX4_fillRow_21 (by decide) ?_
  refine lv_iconst (v := 1) hx hb dX4_fillRow_22 (by decide) ?_
  have hPc := hP.sub (ws' := [(mo, .inr (9, [th, .ref al, md, rf, kn]))]) [10] rfl
  have hDc := hD.sub (ws' := [(mo, .inr (9, [th, .ref al, md, rf, kn]))]) [10] (by decide) rfl
  have hFc := va_free (wc := [(mo, .inr (9, [th, .ref al, md, rf, kn]))]) hD hS hA [10] rfl
  have hDv := hDc.self (sz := H3.size)
  have hpre := zpre (xs' := []) (av := [.ref mo, .int 0, .int 1]) hPc hK (hDc.weaken (fun _ _ _ h => h)) hZ hS hFc (fun r hr => by cases hr)
  refine va_calli (va_runV (As := [.int 0, .int 1]) (rest := []) ⟨hx, hb, hml, hown, hts⟩ (k_stt l dC dI cI cB cR cO zk mo al th md rf kn 1 H3.size ) (cwV 2 hts gX4_fillRow_X4_start rfl rfl rfl (by decide +kernel) ⟨Nat.le_of_ble_eq_true rfl, Nat.le_of_ble_eq_true rfl⟩) ⟨zblind, (zrecv_9 hK hPc (q0 := 0) rfl), hpre⟩ rfl rfl hl.1 rfl (lv_room (Nat.le_of_ble_eq_true rfl)) dX4_fillRow_23 ⟨Nat.le_of_ble_eq_true rfl, Nat.le_of_ble_eq_true rfl⟩) hS (fun q _ h => hFc q h) hFc (fun r6 u t H5 locs ht hvm hw hB hz1 hk1 hS => ?_)
  obtain rfl : 0 = r6 := (show r6 = 0 from hw).symm
  obtain ⟨hP1, hK1, hD1, hz2⟩ := hB
  rw [ht] at hP1 hz2
  have hPD9 := va_join (wr := [(ed, .inl (cO, 10, .inr (.inr (.inr (.inr ee))))), (a0, .inr (8, [.int 4, .ref wa0, .ref na0])), (wa0, .inl (cI, 4, .inl fw0)), (na0, .inl (cI, 4, .inl fn0)), (a1, .inr (8, [.int 4, .ref wa1, .ref na1])), (wa1, .inl (cI, 4, .inl fw1)), (na1, .inl (cI, 4, .inl fn1)), (a2, .inr (8, [.int 4, .ref wa2, .ref na2])), (wa2, .inl (cI, 4, .inl fw2)), (na2, .inl (cI, 4, .inl fn2)), (al, .inr (4, [.int mc, .ref ed, .int 3]))]) (w1 := [(mo, .inr (9, [.int 0, .ref al, md, rf, kn]))]) hP hD [10] [0, 1, 2, 3, 4, 5, 6, 7, 8, 9, 11] rfl rfl (by decide) (by decide) hk1 hFc hP1 hD1
  clear hPc hDc hFc hDv hpre hP hD hP1 hK1 hD1
  obtain ⟨hP, hD⟩ := hPD9
  replace hz : s.heap.size + 0 ≤ H5.size := by omega
  clear hz2
  replace hP : va_P (dC, dI) vwCl [(ed, .inl (cO, 10, .inr (.inr (.inr (.inr ee))))), (a0, .inr (8, [.int 4, .ref wa0, .ref na0])), (wa0, .inl (cI, 4, .inl fw0)), (na0, .inl (cI, 4, .inl fn0)), (a1, .inr (8, [.int 4, .ref wa1, .ref na1])), (wa1, .inl (cI, 4, .inl fw1)), (na1, .inl (cI, 4, .inl fn1)), (a2, .inr (8, [.int 4, .ref wa2, .ref na2])), (wa2, .inl (cI, 4, .inl fw2)), (na2, .inl (cI, 4, .inl fn2)), (al, .inr (4, [.int mc, .ref ed, .int 3])), (mo, .inr (9, [.int 0, .ref al, md, rf, kn]))] H5 := hP
  replace hD : va_D A [(ed, .inl (cO, 10, .inr (.inr (.inr (.inr ee))))), (a0, .inr (8, [.int 4, .ref wa0, .ref na0])), (wa0, .inl (cI, 4, .inl fw0)), (na0, .inl (cI, 4, .inl fn0)), (a1, .inr (8, [.int 4, .ref wa1, .ref na1])), (wa1, .inl (cI, 4, .inl fw1)), (na1, .inl (cI, 4, .inl fn1)), (a2, .inr (8, [.int 4, .ref wa2, .ref na2])), (wa2, .inl (cI, 4, .inl fw2)), (na2, .inl (cI, 4, .inl fn2)), (al, .inr (4, [.int mc, .ref ed, .int 3])), (mo, .inr (9, [.int 0, .ref al, md, rf, kn]))] := hD
  refine W.widen (k := 0) (n := 0) (by omega) (by omega) ?_
  refine lv_if_ne (tgt := 78) hx hb dX4_fillRow_26 (by decide) (fun c9 => ?_) (fun c9 => ?_)
  · exact absurd (by decide) c9
  refine lv_aload_n hx hb dX4_fillRow_29 rfl (lv_at hl 0 rfl) ?_
  refine lv_aload_n hx hb dX4_fillRow_30 rfl (lv_at hl 0 rfl) ?_
  refine va_get (D := (dC, dI)) (ci := 9) (v := .ref al) (C := RX4) (T := TX4) (N := 5) hx hb hts hi_X4_fillRow_X4 hown hK hP 11 rfl rfl 1 (by decide) (hts (.fieldLink RX4 10 "DeeprowsModel" "rows" "Ljava/util/ArrayList;") (List.mem_cons_of_mem _ zw_1134)) (fun _ h9 => h9) rfl dX4_fillRow_31 ?_
  refine lv_iload_n hx hb dX4_fillRow_34 rfl (lv_at hl 1 rfl) ?_
  have hPc := hP.sub (ws' := [(al, .inr (4, [.int mc, .ref ed, .int 3])), (ed, .inl (cO, 10, .inr (.inr (.inr (.inr ee)))))]) [10, 0] rfl
  have hDc := hD.sub (ws' := [(al, .inr (4, [.int mc, .ref ed, .int 3])), (ed, .inl (cO, 10, .inr (.inr (.inr (.inr ee)))))]) [10, 0] (by decide) rfl
  have hFc := va_free (wc := [(al, .inr (4, [.int mc, .ref ed, .int 3])), (ed, .inl (cO, 10, .inr (.inr (.inr (.inr ee)))))]) hD hS hA [10, 0] rfl
  have hDv := hDc.self (sz := H5.size)
  have hpre := zpre (xs' := []) (av := [.ref al, .int 2]) hPc hK (hDc.weaken (fun _ _ _ h => h)) hZ hS hFc (fun r hr => by cases hr)
  refine va_callr (va_runV (As := [.int 2]) (rest := [.ref mo]) ⟨hx, hb, hml, hown, hts⟩ (k_get l dC dI cI cB cR cO zk al ed 2 3 10 a2 ee (.int mc) H5.size (by decide) (by decide) (by decide) he2) (cwV 1 hts gX4_fillRow_Jx4a65c_get_915e3 rfl rfl rfl (by decide +kernel) ⟨Nat.le_of_ble_eq_true rfl, Nat.le_of_ble_eq_true rfl⟩) ⟨zblind, (zrecv_4 hK hPc (q0 := 0) rfl), hpre⟩ rfl rfl hl.1 rfl (lv_room (Nat.le_of_ble_eq_true rfl)) dX4_fillRow_35 ⟨Nat.le_of_ble_eq_true rfl, Nat.le_of_ble_eq_true rfl⟩) hS (fun q _ h => hFc q h) hFc (fun u r8 t H7 locs ht hvm hw hB hz1 hk1 hS => ?_)
  obtain ⟨⟨hP1, hK1, hD1, hz2⟩, her8⟩ := hB
  rw [ht] at hP1 hz2
  have hPD9 := va_join (wr := [(a0, .inr (8, [.int 4, .ref wa0, .ref na0])), (wa0, .inl (cI, 4, .inl fw0)), (na0, .inl (cI, 4, .inl fn0)), (a1, .inr (8, [.int 4, .ref wa1, .ref na1])), (wa1, .inl (cI, 4, .inl fw1)), (na1, .inl (cI, 4, .inl fn1)), (a2, .inr (8, [.int 4, .ref wa2, .ref na2])), (wa2, .inl (cI, 4, .inl fw2)), (na2, .inl (cI, 4, .inl fn2)), (mo, .inr (9, [.int 0, .ref al, md, rf, kn]))]) (w1 := [(al, .inr (4, [.int mc, .ref ed, .int 3])), (ed, .inl (cO, 10, .inr (.inr (.inr (.inr ee)))))]) hP hD [10, 0] [1, 2, 3, 4, 5, 6, 7, 8, 9, 11] rfl rfl (by decide) (by decide) hk1 hFc hP1 hD1
  clear hPc hDc hFc hDv hpre hP hD hP1 hK1 hD1
  obtain ⟨hP, hD⟩ := hPD9
  replace hz : s.heap.size + 0 ≤ H7.size := by omega
  clear hz2
  replace hP : va_P (dC, dI) vwCl [(a0, .inr (8, [.int 4, .ref wa0, .ref na0])), (wa0, .inl (cI, 4, .inl fw0)), (na0, .inl (cI, 4, .inl fn0)), (a1, .inr (8, [.int 4, .ref wa1, .ref na1])), (wa1, .inl (cI, 4, .inl fw1)), (na1, .inl (cI, 4, .inl fn1)), (a2, .inr (8, [.int 4, .ref wa2, .ref na2])), (wa2, .inl (cI, 4, .inl fw2)), (na2, .inl (cI, 4, .inl fn2)), (mo, .inr (9, [.int 0, .ref al, md, rf, kn])), (al, .inr (4, [.int mc, .ref ed, .int 3])), (ed, .inl (cO, 10, .inr (.inr (.inr (.inr ee)))))] H7 := hP
  replace hD : va_D A [(a0, .inr (8, [.int 4, .ref wa0, .ref na0])), (wa0, .inl (cI, 4, .inl fw0)), (na0, .inl (cI, 4, .inl fn0)), (a1, .inr (8, [.int 4, .ref wa1, .ref na1])), (wa1, .inl (cI, 4, .inl fw1)), (na1, .inl (cI, 4, .inl fn1)), (a2, .inr (8, [.int 4, .ref wa2, .ref na2])), (wa2, .inl (cI, 4, .inl fw2)), (na2, .inl (cI, 4, .inl fn2)), (mo, .inr (9, [.int 0, .ref al, md, rf, kn])), (al, .inr (4, [.int mc, .ref ed, .int 3])), (ed, .inl (cO, 10, .inr (.inr (.inr (.inr ee)))))] := hD
  refine W.widen (k := 0) (n := 0) (by omega) (by omega) ?_
  obtain rfl := her8.symm
  refine va_castE hx hb hown (hts (.classLink RX4 40 "DeeprowsModel$Row") (List.mem_cons_of_mem _ zw_1165)) (zrecv_8 hK hP (q0 := 6) rfl) dX4_fillRow_38 ?_
  refine va_get (D := (dC, dI)) (ci := 8) (v := .int 4) (C := RX3) (T := TX3) (N := 3) hx hb hts hi_X4_fillRow_X3 hown hK hP 6 rfl rfl 0 (by decide) (hts (.fieldLink RX4 103 "DeeprowsModel$Row" "kind" "I") (List.mem_cons_of_mem _ zw_1176)) (fun _ h9 => h9) rfl dX4_fillRow_41 ?_
  refine lv_iconst (v := 4) hx hb dX4_fillRow_44 (by decide) ?_
  refine lv_icmp_eq (tgt := 52) hx hb dX4_fillRow_45 (by decide) (fun c9 => ?_) (fun c9 => ?_)
  rotate_left
  · exact absurd (by decide) c9
  refine lv_iconst (v := 0) hx hb dX4_fillRow_52 (by decide) ?_
  refine lv_iconst (v := 2) hx hb dX4_fillRow_53 (by decide) ?_
  have hPc := hP.sub (ws' := [(mo, .inr (9, [.int 0, .ref al, md, rf, kn]))]) [9] rfl
  have hDc := hD.sub (ws' := [(mo, .inr (9, [.int 0, .ref al, md, rf, kn]))]) [9] (by decide) rfl
  have hFc := va_free (wc := [(mo, .inr (9, [.int 0, .ref al, md, rf, kn]))]) hD hS hA [9] rfl
  have hDv := hDc.self (sz := H7.size)
  have hpre := zpre (xs' := []) (av := [.ref mo, .int 0, .int 2]) hPc hK (hDc.weaken (fun _ _ _ h => h)) hZ hS hFc (fun r hr => by cases hr)
  refine va_calli (va_runV (As := [.int 0, .int 2]) (rest := []) ⟨hx, hb, hml, hown, hts⟩ (k_ref l dC dI cI cB cR cO zk mo al md rf kn 2 H7.size ) (cwV 2 hts gX4_fillRow_X4_refuse rfl rfl rfl (by decide +kernel) ⟨Nat.le_of_ble_eq_true rfl, Nat.le_of_ble_eq_true rfl⟩) ⟨zblind, (zrecv_9 hK hPc (q0 := 0) rfl), hpre⟩ rfl rfl hl.1 rfl (lv_room (Nat.le_of_ble_eq_true rfl)) dX4_fillRow_54 ⟨Nat.le_of_ble_eq_true rfl, Nat.le_of_ble_eq_true rfl⟩) hS (fun q _ h => hFc q h) hFc (fun r10 u t H9 locs ht hvm hw hB hz1 hk1 hS => ?_)
  obtain rfl : 0 = r10 := (show r10 = 0 from hw).symm
  obtain ⟨hP1, hK1, hD1, hz2⟩ := hB
  rw [ht] at hP1 hz2
  have hPD9 := va_join (wr := [(a0, .inr (8, [.int 4, .ref wa0, .ref na0])), (wa0, .inl (cI, 4, .inl fw0)), (na0, .inl (cI, 4, .inl fn0)), (a1, .inr (8, [.int 4, .ref wa1, .ref na1])), (wa1, .inl (cI, 4, .inl fw1)), (na1, .inl (cI, 4, .inl fn1)), (a2, .inr (8, [.int 4, .ref wa2, .ref na2])), (wa2, .inl (cI, 4, .inl fw2)), (na2, .inl (cI, 4, .inl fn2)), (al, .inr (4, [.int mc, .ref ed, .int 3])), (ed, .inl (cO, 10, .inr (.inr (.inr (.inr ee)))))]) (w1 := [(mo, .inr (9, [.int 0, .ref al, md, rf, kn]))]) hP hD [9] [0, 1, 2, 3, 4, 5, 6, 7, 8, 10, 11] rfl rfl (by decide) (by decide) hk1 hFc hP1 hD1
  clear hPc hDc hFc hDv hpre hP hD hP1 hK1 hD1
  obtain ⟨hP, hD⟩ := hPD9
  replace hz : s.heap.size + 0 ≤ H9.size := by omega
  clear hz2
  replace hP : va_P (dC, dI) vwCl [(a0, .inr (8, [.int 4, .ref wa0, .ref na0])), (wa0, .inl (cI, 4, .inl fw0)), (na0, .inl (cI, 4, .inl fn0)), (a1, .inr (8, [.int 4, .ref wa1, .ref na1])), (wa1, .inl (cI, 4, .inl fw1)), (na1, .inl (cI, 4, .inl fn1)), (a2, .inr (8, [.int 4, .ref wa2, .ref na2])), (wa2, .inl (cI, 4, .inl fw2)), (na2, .inl (cI, 4, .inl fn2)), (al, .inr (4, [.int mc, .ref ed, .int 3])), (ed, .inl (cO, 10, .inr (.inr (.inr (.inr ee))))), (mo, .inr (9, [.int 0, .ref al, md, rf, kn]))] H9 := hP
  replace hD : va_D A [(a0, .inr (8, [.int 4, .ref wa0, .ref na0])), (wa0, .inl (cI, 4, .inl fw0)), (na0, .inl (cI, 4, .inl fn0)), (a1, .inr (8, [.int 4, .ref wa1, .ref na1])), (wa1, .inl (cI, 4, .inl fw1)), (na1, .inl (cI, 4, .inl fn1)), (a2, .inr (8, [.int 4, .ref wa2, .ref na2])), (wa2, .inl (cI, 4, .inl fw2)), (na2, .inl (cI, 4, .inl fn2)), (al, .inr (4, [.int mc, .ref ed, .int 3])), (ed, .inl (cO, 10, .inr (.inr (.inr (.inr ee))))), (mo, .inr (9, [.int 0, .ref al, md, rf, kn]))] := hD
  refine W.widen (k := 0) (n := 0) (by omega) (by omega) ?_
  refine lv_if_ne (tgt := 78) hx hb dX4_fillRow_57 (by decide) (fun c9 => ?_) (fun c9 => ?_)
  · exact absurd (by decide) c9
  refine lv_aload_n hx hb dX4_fillRow_60 rfl (lv_at hl 0 rfl) ?_
  refine lv_iload_n hx hb dX4_fillRow_61 rfl (lv_at hl 2 rfl) ?_
  refine lv_iload_n hx hb dX4_fillRow_62 rfl (lv_at hl 1 rfl) ?_
  refine lv_icmp_lt (tgt := 70) hx hb dX4_fillRow_63 (by decide) (fun c9 => ?_) (fun c9 => ?_)
  rotate_left
  · exact absurd (by decide) c9
  refine lv_iconst (v := 0) hx hb dX4_fillRow_70 (by decide) ?_
  refine lv_iconst (v := 3) hx hb dX4_fillRow_71 (by decide) ?_
  have hPc := hP.sub (ws' := [(mo, .inr (9, [.int 0, .ref al, md, rf, kn]))]) [11] rfl
  have hDc := hD.sub (ws' := [(mo, .inr (9, [.int 0, .ref al, md, rf, kn]))]) [11] (by decide) rfl
  have hFc := va_free (wc := [(mo, .inr (9, [.int 0, .ref al, md, rf, kn]))]) hD hS hA [11] rfl
  have hDv := hDc.self (sz := H9.size)
  have hpre := zpre (xs' := []) (av := [.ref mo, .int 0, .int 3]) hPc hK (hDc.weaken (fun _ _ _ h => h)) hZ hS hFc (fun r hr => by cases hr)
  refine va_calli (va_runV (As := [.int 0, .int 3]) (rest := []) ⟨hx, hb, hml, hown, hts⟩ (k_ref l dC dI cI cB cR cO zk mo al md rf kn 3 H9.size ) (cwV 2 hts gX4_fillRow_X4_refuse rfl rfl rfl (by decide +kernel) ⟨Nat.le_of_ble_eq_true rfl, Nat.le_of_ble_eq_true rfl⟩) ⟨zblind, (zrecv_9 hK hPc (q0 := 0) rfl), hpre⟩ rfl rfl hl.1 rfl (lv_room (Nat.le_of_ble_eq_true rfl)) dX4_fillRow_72 ⟨Nat.le_of_ble_eq_true rfl, Nat.le_of_ble_eq_true rfl⟩) hS (fun q _ h => hFc q h) hFc (fun r12 u t H11 locs ht hvm hw hB hz1 hk1 hS => ?_)
  obtain rfl : 0 = r12 := (show r12 = 0 from hw).symm
  obtain ⟨hP1, hK1, hD1, hz2⟩ := hB
  rw [ht] at hP1 hz2
  have hPD9 := va_join (wr := [(a0, .inr (8, [.int 4, .ref wa0, .ref na0])), (wa0, .inl (cI, 4, .inl fw0)), (na0, .inl (cI, 4, .inl fn0)), (a1, .inr (8, [.int 4, .ref wa1, .ref na1])), (wa1, .inl (cI, 4, .inl fw1)), (na1, .inl (cI, 4, .inl fn1)), (a2, .inr (8, [.int 4, .ref wa2, .ref na2])), (wa2, .inl (cI, 4, .inl fw2)), (na2, .inl (cI, 4, .inl fn2)), (al, .inr (4, [.int mc, .ref ed, .int 3])), (ed, .inl (cO, 10, .inr (.inr (.inr (.inr ee)))))]) (w1 := [(mo, .inr (9, [.int 0, .ref al, md, rf, kn]))]) hP hD [11] [0, 1, 2, 3, 4, 5, 6, 7, 8, 9, 10] rfl rfl (by decide) (by decide) hk1 hFc hP1 hD1
  clear hPc hDc hFc hDv hpre hP hD hP1 hK1 hD1
  obtain ⟨hP, hD⟩ := hPD9
  replace hz : s.heap.size + 0 ≤ H11.size := by omega
  clear hz2
  replace hP : va_P (dC, dI) vwCl [(a0, .inr (8, [.int 4, .ref wa0, .ref na0])), (wa0, .inl (cI, 4, .inl fw0)), (na0, .inl (cI, 4, .inl fn0)), (a1, .inr (8, [.int 4, .ref wa1, .ref na1])), (wa1, .inl (cI, 4, .inl fw1)), (na1, .inl (cI, 4, .inl fn1)), (a2, .inr (8, [.int 4, .ref wa2, .ref na2])), (wa2, .inl (cI, 4, .inl fw2)), (na2, .inl (cI, 4, .inl fn2)), (al, .inr (4, [.int mc, .ref ed, .int 3])), (ed, .inl (cO, 10, .inr (.inr (.inr (.inr ee))))), (mo, .inr (9, [.int 0, .ref al, md, rf, kn]))] H11 := hP
  replace hD : va_D A [(a0, .inr (8, [.int 4, .ref wa0, .ref na0])), (wa0, .inl (cI, 4, .inl fw0)), (na0, .inl (cI, 4, .inl fn0)), (a1, .inr (8, [.int 4, .ref wa1, .ref na1])), (wa1, .inl (cI, 4, .inl fw1)), (na1, .inl (cI, 4, .inl fn1)), (a2, .inr (8, [.int 4, .ref wa2, .ref na2])), (wa2, .inl (cI, 4, .inl fw2)), (na2, .inl (cI, 4, .inl fn2)), (al, .inr (4, [.int mc, .ref ed, .int 3])), (ed, .inl (cO, 10, .inr (.inr (.inr (.inr ee))))), (mo, .inr (9, [.int 0, .ref al, md, rf, kn]))] := hD
  refine W.widen (k := 0) (n := 0) (by omega) (by omega) ?_
  refine lv_if_eq (tgt := 80) hx hb dX4_fillRow_75 (by decide) (fun c9 => ?_) (fun c9 => ?_)
  rotate_left
  · exact absurd (by decide) c9
  refine lv_aload_n hx hb dX4_fillRow_80 rfl (lv_at hl 0 rfl) ?_
  refine lv_iload_n hx hb dX4_fillRow_81 rfl (lv_at hl 1 rfl) ?_
  have hPc := hP.sub (ws' := [(mo, .inr (9, [.int 0, .ref al, md, rf, kn])), (al, .inr (4, [.int mc, .ref ed, .int 3])), (ed, .inl (cO, 10, .inr (.inr (.inr (.inr ee))))), (a2, .inr (8, [.int 4, .ref wa2, .ref na2])), (wa2, .inl (cI, 4, .inl fw2))]) [11, 9, 10, 6, 7] rfl
  have hDc := hD.sub (ws' := [(mo, .inr (9, [.int 0, .ref al, md, rf, kn])), (al, .inr (4, [.int mc, .ref ed, .int 3])), (ed, .inl (cO, 10, .inr (.inr (.inr (.inr ee))))), (a2, .inr (8, [.int 4, .ref wa2, .ref na2])), (wa2, .inl (cI, 4, .inl fw2))]) [11, 9, 10, 6, 7] (by decide) rfl
  have hFc := va_free (wc := [(mo, .inr (9, [.int 0, .ref al, md, rf, kn])), (al, .inr (4, [.int mc, .ref ed, .int 3])), (ed, .inl (cO, 10, .inr (.inr (.inr (.inr ee))))), (a2, .inr (8, [.int 4, .ref wa2, .ref na2])), (wa2, .inl (cI, 4, .inl fw2))]) hD hS hA [11, 9, 10, 6, 7] rfl
  have hDv := hDc.self (sz := H11.size)
  have hpre := zpre (xs' := []) (av := [.ref mo, .int 2]) hPc hK (hDc.weaken (fun _ _ _ h => h)) hZ hS hFc (fun r hr => by cases hr)
  refine va_callr (va_runV (As := [.int 2]) (rest := []) ⟨hx, hb, hml, hown, hts⟩ (k_nw2 l dC dI cI cB cR cO zk mo al ed 3 ee (.int 0) md rf kn (.int mc) a2 wa2 na2 fw2 H11.size (by decide) (by decide) he2) (cwV 1 hts gX4_fillRow_X4_nowhere rfl rfl rfl (by decide +kernel) ⟨Nat.le_of_ble_eq_true rfl, Nat.le_of_ble_eq_true rfl⟩) ⟨zblind, (zrecv_9 hK hPc (q0 := 0) rfl), hpre⟩ rfl rfl hl.1 rfl (lv_room (Nat.le_of_ble_eq_true rfl)) dX4_fillRow_82 ⟨Nat.le_of_ble_eq_true rfl, Nat.le_of_ble_eq_true rfl⟩) hS (fun q _ h => hFc q h) hFc (fun u r14 t H13 locs ht hvm hw hB hz1 hk1 hS => ?_)
  obtain ⟨fo15, ⟨hP1, hK1, hD1, hz2⟩⟩ := hB
  rw [ht] at hP1 hz2
  have hPD9 := va_join (wr := [(a0, .inr (8, [.int 4, .ref wa0, .ref na0])), (wa0, .inl (cI, 4, .inl fw0)), (na0, .inl (cI, 4, .inl fn0)), (a1, .inr (8, [.int 4, .ref wa1, .ref na1])), (wa1, .inl (cI, 4, .inl fw1)), (na1, .inl (cI, 4, .inl fn1)), (na2, .inl (cI, 4, .inl fn2))]) (w1 := [(mo, .inr (9, [.int 0, .ref al, md, rf, kn])), (al, .inr (4, [.int mc, .ref ed, .int 3])), (ed, .inl (cO, 10, .inr (.inr (.inr (.inr ee))))), (a2, .inr (8, [.int 4, .ref wa2, .ref na2])), (wa2, .inl (cI, 4, .inl fw2)), (r14, .inl (cI, 4, .inl fo15))]) hP hD [11, 9, 10, 6, 7] [0, 1, 2, 3, 4, 5, 8] rfl rfl (by decide) (by decide) hk1 hFc hP1 hD1
  clear hPc hDc hFc hDv hpre hP hD hP1 hK1 hD1
  obtain ⟨hP, hD⟩ := hPD9
  replace hz : s.heap.size + 1 ≤ H13.size := by omega
  clear hz2
  replace hP : va_P (dC, dI) vwCl [(a0, .inr (8, [.int 4, .ref wa0, .ref na0])), (wa0, .inl (cI, 4, .inl fw0)), (na0, .inl (cI, 4, .inl fn0)), (a1, .inr (8, [.int 4, .ref wa1, .ref na1])), (wa1, .inl (cI, 4, .inl fw1)), (na1, .inl (cI, 4, .inl fn1)), (na2, .inl (cI, 4, .inl fn2)), (mo, .inr (9, [.int 0, .ref al, md, rf, kn])), (al, .inr (4, [.int mc, .ref ed, .int 3])), (ed, .inl (cO, 10, .inr (.inr (.inr (.inr ee))))), (a2, .inr (8, [.int 4, .ref wa2, .ref na2])), (wa2, .inl (cI, 4, .inl fw2)), (r14, .inl (cI, 4, .inl fo15))] H13 := hP
  replace hD : va_D A [(a0, .inr (8, [.int 4, .ref wa0, .ref na0])), (wa0, .inl (cI, 4, .inl fw0)), (na0, .inl (cI, 4, .inl fn0)), (a1, .inr (8, [.int 4, .ref wa1, .ref na1])), (wa1, .inl (cI, 4, .inl fw1)), (na1, .inl (cI, 4, .inl fn1)), (na2, .inl (cI, 4, .inl fn2)), (mo, .inr (9, [.int 0, .ref al, md, rf, kn])), (al, .inr (4, [.int mc, .ref ed, .int 3])), (ed, .inl (cO, 10, .inr (.inr (.inr (.inr ee))))), (a2, .inr (8, [.int 4, .ref wa2, .ref na2])), (wa2, .inl (cI, 4, .inl fw2)), (r14, .inl (cI, 4, .inl fo15))] := hD
  refine W.widen (k := 1) (n := 4) (by omega) (by omega) ?_
  refine lv_astore_n (lv' := [(3, .ref r14), (0, .ref mo), (1, .int 2), (2, .int 1)]) hx hb dX4_fillRow_85 rfl hl (by decide) rfl (fun ls hl => ?_)
  refine lv_iconst (v := 0) hx hb dX4_fillRow_86 (by decide) ?_
  refine lv_istore (lv' := [(4, .int 0), (3, .ref r14), (0, .ref mo), (1, .int 2), (2, .int 1)]) hx hb dX4_fillRow_87 hl (by decide) rfl (fun ls hl => ?_)
  refine lv_iload hx hb dX4_fillRow_89 (lv_at hl 0 rfl) ?_
  refine lv_aload_n hx hb dX4_fillRow_91 rfl (lv_at hl 1 rfl) ?_
  refine va_alen (D := (dC, dI)) (cl := vwCl) (v := 4) hx hb hK hP 12 0 rfl rfl rfl dX4_fillRow_92 ?_
  refine lv_icmp_ge (tgt := 107) hx hb dX4_fillRow_93 (by decide) (fun c9 => ?_) (fun c9 => ?_)
  · exact absurd c9 (by decide)
  refine lv_aload_n hx hb dX4_fillRow_96 rfl (lv_at hl 1 rfl) ?_
  refine lv_iload hx hb dX4_fillRow_97 (lv_at hl 0 rfl) ?_
  refine lv_iload_n hx hb dX4_fillRow_99 rfl (lv_at hl 4 rfl) ?_
  refine va_iast (D := (dC, dI)) (cl := vwCl) hx hb hK hP hD (zS0 hS) 12 0 rfl rfl (by unfold vp_in; decide) dX4_fillRow_100 (fun H16 locs hP hD hS1 => ?_)
  have hz : s.heap.size + 1 ≤ H16.size := Nat.le_trans hz hS1.1
  have hS := zSS hS hS1
  replace hP : va_P (dC, dI) vwCl [(a0, .inr (8, [.int 4, .ref wa0, .ref na0])), (wa0, .inl (cI, 4, .inl fw0)), (na0, .inl (cI, 4, .inl fn0)), (a1, .inr (8, [.int 4, .ref wa1, .ref na1])), (wa1, .inl (cI, 4, .inl fw1)), (na1, .inl (cI, 4, .inl fn1)), (na2, .inl (cI, 4, .inl fn2)), (mo, .inr (9, [.int 0, .ref al, md, rf, kn])), (al, .inr (4, [.int mc, .ref ed, .int 3])), (ed, .inl (cO, 10, .inr (.inr (.inr (.inr ee))))), (a2, .inr (8, [.int 4, .ref wa2, .ref na2])), (wa2, .inl (cI, 4, .inl fw2)), (r14, .inl (cI, 4, .inl (upd fo15 0 1)))] H16 := hP
  replace hD : va_D A [(a0, .inr (8, [.int 4, .ref wa0, .ref na0])), (wa0, .inl (cI, 4, .inl fw0)), (na0, .inl (cI, 4, .inl fn0)), (a1, .inr (8, [.int 4, .ref wa1, .ref na1])), (wa1, .inl (cI, 4, .inl fw1)), (na1, .inl (cI, 4, .inl fn1)), (na2, .inl (cI, 4, .inl fn2)), (mo, .inr (9, [.int 0, .ref al, md, rf, kn])), (al, .inr (4, [.int mc, .ref ed, .int 3])), (ed, .inl (cO, 10, .inr (.inr (.inr (.inr ee))))), (a2, .inr (8, [.int 4, .ref wa2, .ref na2])), (wa2, .inl (cI, 4, .inl fw2)), (r14, .inl (cI, 4, .inl (upd fo15 0 1)))] := hD
  refine lv_iinc (v := 1) (lv' := [(4, .int 1), (3, .ref r14), (0, .ref mo), (1, .int 2), (2, .int 1)]) hx hb dX4_fillRow_101 hl (k := 0) rfl (by decide) (by decide) rfl (fun ls hl => ?_)
  refine lv_goto (tgt := 89) hx hb dX4_fillRow_104 (by decide) ?_
  refine lv_iload hx hb dX4_fillRow_89 (lv_at hl 0 rfl) ?_
  refine lv_aload_n hx hb dX4_fillRow_91 rfl (lv_at hl 1 rfl) ?_
  refine va_alen (D := (dC, dI)) (cl := vwCl) (v := 4) hx hb hK hP 12 0 rfl rfl rfl dX4_fillRow_92 ?_
  refine lv_icmp_ge (tgt := 107) hx hb dX4_fillRow_93 (by decide) (fun c9 => ?_) (fun c9 => ?_)
  · exact absurd c9 (by decide)
  refine lv_aload_n hx hb dX4_fillRow_96 rfl (lv_at hl 1 rfl) ?_
  refine lv_iload hx hb dX4_fillRow_97 (lv_at hl 0 rfl) ?_
  refine lv_iload_n hx hb dX4_fillRow_99 rfl (lv_at hl 4 rfl) ?_
  refine va_iast (D := (dC, dI)) (cl := vwCl) hx hb hK hP hD (zS0 hS) 12 0 rfl rfl (by unfold vp_in; decide) dX4_fillRow_100 (fun H17 locs hP hD hS1 => ?_)
  have hz : s.heap.size + 1 ≤ H17.size := Nat.le_trans hz hS1.1
  have hS := zSS hS hS1
  replace hP : va_P (dC, dI) vwCl [(a0, .inr (8, [.int 4, .ref wa0, .ref na0])), (wa0, .inl (cI, 4, .inl fw0)), (na0, .inl (cI, 4, .inl fn0)), (a1, .inr (8, [.int 4, .ref wa1, .ref na1])), (wa1, .inl (cI, 4, .inl fw1)), (na1, .inl (cI, 4, .inl fn1)), (na2, .inl (cI, 4, .inl fn2)), (mo, .inr (9, [.int 0, .ref al, md, rf, kn])), (al, .inr (4, [.int mc, .ref ed, .int 3])), (ed, .inl (cO, 10, .inr (.inr (.inr (.inr ee))))), (a2, .inr (8, [.int 4, .ref wa2, .ref na2])), (wa2, .inl (cI, 4, .inl fw2)), (r14, .inl (cI, 4, .inl (upd (upd fo15 0 1) 1 1)))] H17 := hP
  replace hD : va_D A [(a0, .inr (8, [.int 4, .ref wa0, .ref na0])), (wa0, .inl (cI, 4, .inl fw0)), (na0, .inl (cI, 4, .inl fn0)), (a1, .inr (8, [.int 4, .ref wa1, .ref na1])), (wa1, .inl (cI, 4, .inl fw1)), (na1, .inl (cI, 4, .inl fn1)), (na2, .inl (cI, 4, .inl fn2)), (mo, .inr (9, [.int 0, .ref al, md, rf, kn])), (al, .inr (4, [.int mc, .ref ed, .int 3])), (ed, .inl (cO, 10, .inr (.inr (.inr (.inr ee))))), (a2, .inr (8, [.int 4, .ref wa2, .ref na2])), (wa2, .inl (cI, 4, .inl fw2)), (r14, .inl (cI, 4, .inl (upd (upd fo15 0 1) 1 1)))] := hD
  refine lv_iinc (v := 2) (lv' := [(4, .int 2), (3, .ref r14), (0, .ref mo), (1, .int 2), (2, .int 1)]) hx hb dX4_fillRow_101 hl (k := 0) rfl (by decide) (by decide) rfl (fun ls hl => ?_)
  refine lv_goto (tgt := 89) hx hb dX4_fillRow_104 (by decide) ?_
  refine lv_iload hx hb dX4_fillRow_89 (lv_at hl 0 rfl) ?_
  refine lv_aload_n hx hb dX4_fillRow_91 rfl (lv_at hl 1 rfl) ?_
  refine va_alen (D := (dC, dI)) (cl := vwCl) (v := 4) hx hb hK hP 12 0 rfl rfl rfl dX4_fillRow_92 ?_
  refine lv_icmp_ge (tgt := 107) hx hb dX4_fillRow_93 (by decide) (fun c9 => ?_) (fun c9 => ?_)
  · exact absurd c9 (by decide)
  refine lv_aload_n hx hb dX4_fillRow_96 rfl (lv_at hl 1 rfl) ?_
  refine lv_iload hx hb dX4_fillRow_97 (lv_at hl 0 rfl) ?_
  refine lv_iload_n hx hb dX4_fillRow_99 rfl (lv_at hl 4 rfl) ?_
  refine va_iast (D := (dC, dI)) (cl := vwCl) hx hb hK hP hD (zS0 hS) 12 0 rfl rfl (by unfold vp_in; decide) dX4_fillRow_100 (fun H18 locs hP hD hS1 => ?_)
  have hz : s.heap.size + 1 ≤ H18.size := Nat.le_trans hz hS1.1
  have hS := zSS hS hS1
  replace hP : va_P (dC, dI) vwCl [(a0, .inr (8, [.int 4, .ref wa0, .ref na0])), (wa0, .inl (cI, 4, .inl fw0)), (na0, .inl (cI, 4, .inl fn0)), (a1, .inr (8, [.int 4, .ref wa1, .ref na1])), (wa1, .inl (cI, 4, .inl fw1)), (na1, .inl (cI, 4, .inl fn1)), (na2, .inl (cI, 4, .inl fn2)), (mo, .inr (9, [.int 0, .ref al, md, rf, kn])), (al, .inr (4, [.int mc, .ref ed, .int 3])), (ed, .inl (cO, 10, .inr (.inr (.inr (.inr ee))))), (a2, .inr (8, [.int 4, .ref wa2, .ref na2])), (wa2, .inl (cI, 4, .inl fw2)), (r14, .inl (cI, 4, .inl (upd (upd (upd fo15 0 1) 1 1) 2 1)))] H18 := hP
  replace hD : va_D A [(a0, .inr (8, [.int 4, .ref wa0, .ref na0])), (wa0, .inl (cI, 4, .inl fw0)), (na0, .inl (cI, 4, .inl fn0)), (a1, .inr (8, [.int 4, .ref wa1, .ref na1])), (wa1, .inl (cI, 4, .inl fw1)), (na1, .inl (cI, 4, .inl fn1)), (na2, .inl (cI, 4, .inl fn2)), (mo, .inr (9, [.int 0, .ref al, md, rf, kn])), (al, .inr (4, [.int mc, .ref ed, .int 3])), (ed, .inl (cO, 10, .inr (.inr (.inr (.inr ee))))), (a2, .inr (8, [.int 4, .ref wa2, .ref na2])), (wa2, .inl (cI, 4, .inl fw2)), (r14, .inl (cI, 4, .inl (upd (upd (upd fo15 0 1) 1 1) 2 1)))] := hD
  refine lv_iinc (v := 3) (lv' := [(4, .int 3), (3, .ref r14), (0, .ref mo), (1, .int 2), (2, .int 1)]) hx hb dX4_fillRow_101 hl (k := 0) rfl (by decide) (by decide) rfl (fun ls hl => ?_)
  refine lv_goto (tgt := 89) hx hb dX4_fillRow_104 (by decide) ?_
  refine lv_iload hx hb dX4_fillRow_89 (lv_at hl 0 rfl) ?_
  refine lv_aload_n hx hb dX4_fillRow_91 rfl (lv_at hl 1 rfl) ?_
  refine va_alen (D := (dC, dI)) (cl := vwCl) (v := 4) hx hb hK hP 12 0 rfl rfl rfl dX4_fillRow_92 ?_
  refine lv_icmp_ge (tgt := 107) hx hb dX4_fillRow_93 (by decide) (fun c9 => ?_) (fun c9 => ?_)
  · exact absurd c9 (by decide)
  refine lv_aload_n hx hb dX4_fillRow_96 rfl (lv_at hl 1 rfl) ?_
  refine lv_iload hx hb dX4_fillRow_97 (lv_at hl 0 rfl) ?_
  refine lv_iload_n hx hb dX4_fillRow_99 rfl (lv_at hl 4 rfl) ?_
  refine va_iast (D := (dC, dI)) (cl := vwCl) hx hb hK hP hD (zS0 hS) 12 0 rfl rfl (by unfold vp_in; decide) dX4_fillRow_100 (fun H19 locs hP hD hS1 => ?_)
  have hz : s.heap.size + 1 ≤ H19.size := Nat.le_trans hz hS1.1
  have hS := zSS hS hS1
  replace hP : va_P (dC, dI) vwCl [(a0, .inr (8, [.int 4, .ref wa0, .ref na0])), (wa0, .inl (cI, 4, .inl fw0)), (na0, .inl (cI, 4, .inl fn0)), (a1, .inr (8, [.int 4, .ref wa1, .ref na1])), (wa1, .inl (cI, 4, .inl fw1)), (na1, .inl (cI, 4, .inl fn1)), (na2, .inl (cI, 4, .inl fn2)), (mo, .inr (9, [.int 0, .ref al, md, rf, kn])), (al, .inr (4, [.int mc, .ref ed, .int 3])), (ed, .inl (cO, 10, .inr (.inr (.inr (.inr ee))))), (a2, .inr (8, [.int 4, .ref wa2, .ref na2])), (wa2, .inl (cI, 4, .inl fw2)), (r14, .inl (cI, 4, .inl (upd (upd (upd (upd fo15 0 1) 1 1) 2 1) 3 1)))] H19 := hP
  replace hD : va_D A [(a0, .inr (8, [.int 4, .ref wa0, .ref na0])), (wa0, .inl (cI, 4, .inl fw0)), (na0, .inl (cI, 4, .inl fn0)), (a1, .inr (8, [.int 4, .ref wa1, .ref na1])), (wa1, .inl (cI, 4, .inl fw1)), (na1, .inl (cI, 4, .inl fn1)), (na2, .inl (cI, 4, .inl fn2)), (mo, .inr (9, [.int 0, .ref al, md, rf, kn])), (al, .inr (4, [.int mc, .ref ed, .int 3])), (ed, .inl (cO, 10, .inr (.inr (.inr (.inr ee))))), (a2, .inr (8, [.int 4, .ref wa2, .ref na2])), (wa2, .inl (cI, 4, .inl fw2)), (r14, .inl (cI, 4, .inl (upd (upd (upd (upd fo15 0 1) 1 1) 2 1) 3 1)))] := hD
  refine lv_iinc (v := 4) (lv' := [(4, .int 4), (3, .ref r14), (0, .ref mo), (1, .int 2), (2, .int 1)]) hx hb dX4_fillRow_101 hl (k := 0) rfl (by decide) (by decide) rfl (fun ls hl => ?_)
  refine lv_goto (tgt := 89) hx hb dX4_fillRow_104 (by decide) ?_
  refine lv_iload hx hb dX4_fillRow_89 (lv_at hl 0 rfl) ?_
  refine lv_aload_n hx hb dX4_fillRow_91 rfl (lv_at hl 1 rfl) ?_
  refine va_alen (D := (dC, dI)) (cl := vwCl) (v := 4) hx hb hK hP 12 0 rfl rfl rfl dX4_fillRow_92 ?_
  refine lv_icmp_ge (tgt := 107) hx hb dX4_fillRow_93 (by decide) (fun c9 => ?_) (fun c9 => ?_)
  rotate_left
  · exact absurd (by decide) c9
  refine lv_aload_n hx hb dX4_fillRow_107 rfl (lv_at hl 2 rfl) ?_
  refine lv_aload_n hx hb dX4_fillRow_108 rfl (lv_at hl 2 rfl) ?_
  refine lv_iload_n hx hb dX4_fillRow_109 rfl (lv_at hl 3 rfl) ?_
  refine lv_aload_n hx hb dX4_fillRow_110 rfl (lv_at hl 1 rfl) ?_
  have hPc := hP.sub (ws' := [(mo, .inr (9, [.int 0, .ref al, md, rf, kn])), (al, .inr (4, [.int mc, .ref ed, .int 3])), (ed, .inl (cO, 10, .inr (.inr (.inr (.inr ee))))), (a0, .inr (8, [.int 4, .ref wa0, .ref na0])), (wa0, .inl (cI, 4, .inl fw0)), (na0, .inl (cI, 4, .inl fn0)), (a1, .inr (8, [.int 4, .ref wa1, .ref na1])), (wa1, .inl (cI, 4, .inl fw1)), (na1, .inl (cI, 4, .inl fn1)), (a2, .inr (8, [.int 4, .ref wa2, .ref na2])), (wa2, .inl (cI, 4, .inl fw2)), (na2, .inl (cI, 4, .inl fn2)), (r14, .inl (cI, 4, .inl (upd (upd (upd (upd fo15 0 1) 1 1) 2 1) 3 1)))]) [7, 8, 9, 0, 1, 2, 3, 4, 5, 10, 11, 6, 12] rfl
  have hDc := hD.sub (ws' := [(mo, .inr (9, [.int 0, .ref al, md, rf, kn])), (al, .inr (4, [.int mc, .ref ed, .int 3])), (ed, .inl (cO, 10, .inr (.inr (.inr (.inr ee))))), (a0, .inr (8, [.int 4, .ref wa0, .ref na0])), (wa0, .inl (cI, 4, .inl fw0)), (na0, .inl (cI, 4, .inl fn0)), (a1, .inr (8, [.int 4, .ref wa1, .ref na1])), (wa1, .inl (cI, 4, .inl fw1)), (na1, .inl (cI, 4, .inl fn1)), (a2, .inr (8, [.int 4, .ref wa2, .ref na2])), (wa2, .inl (cI, 4, .inl fw2)), (na2, .inl (cI, 4, .inl fn2)), (r14, .inl (cI, 4, .inl (upd (upd (upd (upd fo15 0 1) 1 1) 2 1) 3 1)))]) [7, 8, 9, 0, 1, 2, 3, 4, 5, 10, 11, 6, 12] (by decide) rfl
  have hFc := va_free (wc := [(mo, .inr (9, [.int 0, .ref al, md, rf, kn])), (al, .inr (4, [.int mc, .ref ed, .int 3])), (ed, .inl (cO, 10, .inr (.inr (.inr (.inr ee))))), (a0, .inr (8, [.int 4, .ref wa0, .ref na0])), (wa0, .inl (cI, 4, .inl fw0)), (na0, .inl (cI, 4, .inl fn0)), (a1, .inr (8, [.int 4, .ref wa1, .ref na1])), (wa1, .inl (cI, 4, .inl fw1)), (na1, .inl (cI, 4, .inl fn1)), (a2, .inr (8, [.int 4, .ref wa2, .ref na2])), (wa2, .inl (cI, 4, .inl fw2)), (na2, .inl (cI, 4, .inl fn2)), (r14, .inl (cI, 4, .inl (upd (upd (upd (upd fo15 0 1) 1 1) 2 1) 3 1)))]) hD hS hA [7, 8, 9, 0, 1, 2, 3, 4, 5, 10, 11, 6, 12] rfl
  have hDv := hDc.self (sz := H19.size)
  have hpre := zpre (xs' := []) (av := [.ref mo, .int 2, .ref r14]) hPc hK (hDc.weaken (fun _ _ _ h => h)) hZ hS hFc (fun r hr => by cases hr)
  refine va_calli (va_runV (As := [.int 2, .ref r14]) (rest := [.ref mo]) ⟨hx, hb, hml, hown, hts⟩ (k_aH2 l dC dI cI cB cR cO zk mo al ed 3 ee (.int 0) md rf kn (.int mc) a0 wa0 na0 a1 wa1 na1 a2 wa2 na2 fw0 fn0 fw1 fn1 fw2 fn2 r14 (upd (upd (upd (upd fo15 0 1) 1 1) 2 1) 3 1) H19.size (by decide) (by decide) rfl hw0 hn0 he0 hw1 hn1 he1 hw2 hn2 he2 (fun i hi => by rcases (show i = 0 ∨ i = 1 ∨ i = 2 ∨ i = 3 by omega) with rfl | rfl | rfl | rfl <;> rfl)) (cwV 2 hts gX4_fillRow_X4_areHung rfl rfl rfl (by decide +kernel) ⟨Nat.le_of_ble_eq_true rfl, Nat.le_of_ble_eq_true rfl⟩) ⟨zblind, (zrecv_9 hK hPc (q0 := 0) rfl), hpre⟩ rfl rfl hl.1 rfl (lv_room (Nat.le_of_ble_eq_true rfl)) dX4_fillRow_111 ⟨Nat.le_of_ble_eq_true rfl, Nat.le_of_ble_eq_true rfl⟩) hS (fun q _ h => hFc q h) hFc (fun r21 u t H20 locs ht hvm hw hB hz1 hk1 hS => ?_)
  obtain rfl : 1 = r21 := (show r21 = 1 from hw).symm
  obtain ⟨fz22, gz23, ⟨hP1, hK1, hD1, hz2⟩, hwfz22, hngz23⟩ := hB
  rw [ht] at hP1 hz2
  have hPD9 := va_join (wr := []) (w1 := [(mo, .inr (9, [.int 0, .ref al, md, rf, kn])), (al, .inr (4, [.int mc, .ref ed, .int 3])), (ed, .inl (cO, 10, .inr (.inr (.inr (.inr ee))))), (a0, .inr (8, [.int 4, .ref wa0, .ref na0])), (wa0, .inl (cI, 4, .inl fw0)), (na0, .inl (cI, 4, .inl fn0)), (a1, .inr (8, [.int 4, .ref wa1, .ref na1])), (wa1, .inl (cI, 4, .inl fw1)), (na1, .inl (cI, 4, .inl fn1)), (a2, .inr (8, [.int 4, .ref wa2, .ref na2])), (wa2, .inl (cI, 4, .inl fz22)), (na2, .inl (cI, 4, .inl gz23)), (r14, .inl (cI, 4, .inl (upd (upd (upd (upd fo15 0 1) 1 1) 2 1) 3 1)))]) hP hD [7, 8, 9, 0, 1, 2, 3, 4, 5, 10, 11, 6, 12] [] rfl rfl (by decide) (by decide) hk1 hFc hP1 hD1
  clear hPc hDc hFc hDv hpre hP hD hP1 hK1 hD1
  obtain ⟨hP, hD⟩ := hPD9
  replace hz : s.heap.size + 4 ≤ H20.size := by omega
  clear hz2
  replace hP : va_P (dC, dI) vwCl [(mo, .inr (9, [.int 0, .ref al, md, rf, kn])), (al, .inr (4, [.int mc, .ref ed, .int 3])), (ed, .inl (cO, 10, .inr (.inr (.inr (.inr ee))))), (a0, .inr (8, [.int 4, .ref wa0, .ref na0])), (wa0, .inl (cI, 4, .inl fw0)), (na0, .inl (cI, 4, .inl fn0)), (a1, .inr (8, [.int 4, .ref wa1, .ref na1])), (wa1, .inl (cI, 4, .inl fw1)), (na1, .inl (cI, 4, .inl fn1)), (a2, .inr (8, [.int 4, .ref wa2, .ref na2])), (wa2, .inl (cI, 4, .inl fz22)), (na2, .inl (cI, 4, .inl gz23)), (r14, .inl (cI, 4, .inl (upd (upd (upd (upd fo15 0 1) 1 1) 2 1) 3 1)))] H20 := hP
  replace hD : va_D A [(mo, .inr (9, [.int 0, .ref al, md, rf, kn])), (al, .inr (4, [.int mc, .ref ed, .int 3])), (ed, .inl (cO, 10, .inr (.inr (.inr (.inr ee))))), (a0, .inr (8, [.int 4, .ref wa0, .ref na0])), (wa0, .inl (cI, 4, .inl fw0)), (na0, .inl (cI, 4, .inl fn0)), (a1, .inr (8, [.int 4, .ref wa1, .ref na1])), (wa1, .inl (cI, 4, .inl fw1)), (na1, .inl (cI, 4, .inl fn1)), (a2, .inr (8, [.int 4, .ref wa2, .ref na2])), (wa2, .inl (cI, 4, .inl fz22)), (na2, .inl (cI, 4, .inl gz23)), (r14, .inl (cI, 4, .inl (upd (upd (upd (upd fo15 0 1) 1 1) 2 1) 3 1)))] := hD
  refine W.widen (k := 7) (n := 21) (by omega) (by omega) ?_
  refine lv_if_ne (tgt := 121) hx hb dX4_fillRow_114 (by decide) (fun c9 => ?_) (fun c9 => ?_)
  rotate_left
  · exact absurd c9 (by decide)
  refine lv_iconst (v := 0) hx hb dX4_fillRow_121 (by decide) ?_
  refine lv_iconst (v := 3) hx hb dX4_fillRow_122 (by decide) ?_
  have hPc := hP.sub (ws' := [(mo, .inr (9, [.int 0, .ref al, md, rf, kn]))]) [0] rfl
  have hDc := hD.sub (ws' := [(mo, .inr (9, [.int 0, .ref al, md, rf, kn]))]) [0] (by decide) rfl
  have hFc := va_free (wc := [(mo, .inr (9, [.int 0, .ref al, md, rf, kn]))]) hD hS hA [0] rfl
  have hDv := hDc.self (sz := H20.size)
  have hpre := zpre (xs' := []) (av := [.ref mo, .int 0, .int 3]) hPc hK (hDc.weaken (fun _ _ _ h => h)) hZ hS hFc (fun r hr => by cases hr)
  refine va_calli (va_runV (As := [.int 0, .int 3]) (rest := []) ⟨hx, hb, hml, hown, hts⟩ (k_ref l dC dI cI cB cR cO zk mo al md rf kn 3 H20.size ) (cwV 2 hts gX4_fillRow_X4_refuse rfl rfl rfl (by decide +kernel) ⟨Nat.le_of_ble_eq_true rfl, Nat.le_of_ble_eq_true rfl⟩) ⟨zblind, (zrecv_9 hK hPc (q0 := 0) rfl), hpre⟩ rfl rfl hl.1 rfl (lv_room (Nat.le_of_ble_eq_true rfl)) dX4_fillRow_123 ⟨Nat.le_of_ble_eq_true rfl, Nat.le_of_ble_eq_true rfl⟩) hS (fun q _ h => hFc q h) hFc (fun r25 u t H24 locs ht hvm hw hB hz1 hk1 hS => ?_)
  obtain rfl : 0 = r25 := (show r25 = 0 from hw).symm
  obtain ⟨hP1, hK1, hD1, hz2⟩ := hB
  rw [ht] at hP1 hz2
  have hPD9 := va_join (wr := [(al, .inr (4, [.int mc, .ref ed, .int 3])), (ed, .inl (cO, 10, .inr (.inr (.inr (.inr ee))))), (a0, .inr (8, [.int 4, .ref wa0, .ref na0])), (wa0, .inl (cI, 4, .inl fw0)), (na0, .inl (cI, 4, .inl fn0)), (a1, .inr (8, [.int 4, .ref wa1, .ref na1])), (wa1, .inl (cI, 4, .inl fw1)), (na1, .inl (cI, 4, .inl fn1)), (a2, .inr (8, [.int 4, .ref wa2, .ref na2])), (wa2, .inl (cI, 4, .inl fz22)), (na2, .inl (cI, 4, .inl gz23)), (r14, .inl (cI, 4, .inl (upd (upd (upd (upd fo15 0 1) 1 1) 2 1) 3 1)))]) (w1 := [(mo, .inr (9, [.int 0, .ref al, md, rf, kn]))]) hP hD [0] [1, 2, 3, 4, 5, 6, 7, 8, 9, 10, 11, 12] rfl rfl (by decide) (by decide) hk1 hFc hP1 hD1
  clear hPc hDc hFc hDv hpre hP hD hP1 hK1 hD1
  obtain ⟨hP, hD⟩ := hPD9
  replace hz : s.heap.size + 4 ≤ H24.size := by omega
  clear hz2
  replace hP : va_P (dC, dI) vwCl [(al, .inr (4, [.int mc, .ref ed, .int 3])), (ed, .inl (cO, 10, .inr (.inr (.inr (.inr ee))))), (a0, .inr (8, [.int 4, .ref wa0, .ref na0])), (wa0, .inl (cI, 4, .inl fw0)), (na0, .inl (cI, 4, .inl fn0)), (a1, .inr (8, [.int 4, .ref wa1, .ref na1])), (wa1, .inl (cI, 4, .inl fw1)), (na1, .inl (cI, 4, .inl fn1)), (a2, .inr (8, [.int 4, .ref wa2, .ref na2])), (wa2, .inl (cI, 4, .inl fz22)), (na2, .inl (cI, 4, .inl gz23)), (r14, .inl (cI, 4, .inl (upd (upd (upd (upd fo15 0 1) 1 1) 2 1) 3 1))), (mo, .inr (9, [.int 0, .ref al, md, rf, kn]))] H24 := hP
  replace hD : va_D A [(al, .inr (4, [.int mc, .ref ed, .int 3])), (ed, .inl (cO, 10, .inr (.inr (.inr (.inr ee))))), (a0, .inr (8, [.int 4, .ref wa0, .ref na0])), (wa0, .inl (cI, 4, .inl fw0)), (na0, .inl (cI, 4, .inl fn0)), (a1, .inr (8, [.int 4, .ref wa1, .ref na1])), (wa1, .inl (cI, 4, .inl fw1)), (na1, .inl (cI, 4, .inl fn1)), (a2, .inr (8, [.int 4, .ref wa2, .ref na2])), (wa2, .inl (cI, 4, .inl fz22)), (na2, .inl (cI, 4, .inl gz23)), (r14, .inl (cI, 4, .inl (upd (upd (upd (upd fo15 0 1) 1 1) 2 1) 3 1))), (mo, .inr (9, [.int 0, .ref al, md, rf, kn]))] := hD
  refine W.widen (k := 7) (n := 21) (by omega) (by omega) ?_
  refine lv_if_eq (tgt := 133) hx hb dX4_fillRow_126 (by decide) (fun c9 => ?_) (fun c9 => ?_)
  rotate_left
  · exact absurd (by decide) c9
  refine lv_aload_n hx hb dX4_fillRow_133 rfl (lv_at hl 2 rfl) ?_
  refine lv_iload_n hx hb dX4_fillRow_134 rfl (lv_at hl 3 rfl) ?_
  have hPc := hP.sub (ws' := [(mo, .inr (9, [.int 0, .ref al, md, rf, kn])), (al, .inr (4, [.int mc, .ref ed, .int 3])), (ed, .inl (cO, 10, .inr (.inr (.inr (.inr ee))))), (a0, .inr (8, [.int 4, .ref wa0, .ref na0])), (wa0, .inl (cI, 4, .inl fw0)), (na0, .inl (cI, 4, .inl fn0)), (a1, .inr (8, [.int 4, .ref wa1, .ref na1])), (wa1, .inl (cI, 4, .inl fw1)), (na1, .inl (cI, 4, .inl fn1)), (a2, .inr (8, [.int 4, .ref wa2, .ref na2])), (wa2, .inl (cI, 4, .inl fz22)), (na2, .inl (cI, 4, .inl gz23))]) [12, 0, 1, 2, 3, 4, 5, 6, 7, 8, 9, 10] rfl
  have hDc := hD.sub (ws' := [(mo, .inr (9, [.int 0, .ref al, md, rf, kn])), (al, .inr (4, [.int mc, .ref ed, .int 3])), (ed, .inl (cO, 10, .inr (.inr (.inr (.inr ee))))), (a0, .inr (8, [.int 4, .ref wa0, .ref na0])), (wa0, .inl (cI, 4, .inl fw0)), (na0, .inl (cI, 4, .inl fn0)), (a1, .inr (8, [.int 4, .ref wa1, .ref na1])), (wa1, .inl (cI, 4, .inl fw1)), (na1, .inl (cI, 4, .inl fn1)), (a2, .inr (8, [.int 4, .ref wa2, .ref na2])), (wa2, .inl (cI, 4, .inl fz22)), (na2, .inl (cI, 4, .inl gz23))]) [12, 0, 1, 2, 3, 4, 5, 6, 7, 8, 9, 10] (by decide) rfl
  have hFc := va_free (wc := [(mo, .inr (9, [.int 0, .ref al, md, rf, kn])), (al, .inr (4, [.int mc, .ref ed, .int 3])), (ed, .inl (cO, 10, .inr (.inr (.inr (.inr ee))))), (a0, .inr (8, [.int 4, .ref wa0, .ref na0])), (wa0, .inl (cI, 4, .inl fw0)), (na0, .inl (cI, 4, .inl fn0)), (a1, .inr (8, [.int 4, .ref wa1, .ref na1])), (wa1, .inl (cI, 4, .inl fw1)), (na1, .inl (cI, 4, .inl fn1)), (a2, .inr (8, [.int 4, .ref wa2, .ref na2])), (wa2, .inl (cI, 4, .inl fz22)), (na2, .inl (cI, 4, .inl gz23))]) hD hS hA [12, 0, 1, 2, 3, 4, 5, 6, 7, 8, 9, 10] rfl
  have hDv := hDc.self (sz := H24.size)
  have hpre := zpre (xs' := []) (av := [.ref mo, .int 2]) hPc hK (hDc.weaken (fun _ _ _ h => h)) hZ hS hFc (fun r hr => by cases hr)
  refine va_calli (va_runV (As := [.int 2]) (rest := []) ⟨hx, hb, hml, hown, hts⟩ (k_dO2 l dC dI cI cB cR cO zk mo al ed 3 ee (.int 0) md rf kn (.int mc) a0 wa0 na0 a1 wa1 na1 a2 wa2 na2 fw0 fn0 fw1 fn1 fz22 gz23 H24.size (by decide) (by decide) hw0 hn0 he0 hw1 hn1 he1 hwfz22 hngz23 he2) (cwV 1 hts gX4_fillRow_X4_depthOf rfl rfl rfl (by decide +kernel) ⟨Nat.le_of_ble_eq_true rfl, Nat.le_of_ble_eq_true rfl⟩) ⟨zblind, (zrecv_9 hK hPc (q0 := 0) rfl), hpre⟩ rfl rfl hl.1 rfl (lv_room (Nat.le_of_ble_eq_true rfl)) dX4_fillRow_135 ⟨Nat.le_of_ble_eq_true rfl, Nat.le_of_ble_eq_true rfl⟩) hS (fun q _ h => hFc q h) hFc (fun r27 u t H26 locs ht hvm hw hB hz1 hk1 hS => ?_)
  obtain rfl : 3 = r27 := (show r27 = 3 from hw).symm
  obtain ⟨hP1, hK1, hD1, hz2⟩ := hB
  rw [ht] at hP1 hz2
  have hPD9 := va_join (wr := [(r14, .inl (cI, 4, .inl (upd (upd (upd (upd fo15 0 1) 1 1) 2 1) 3 1)))]) (w1 := [(mo, .inr (9, [.int 0, .ref al, md, rf, kn])), (al, .inr (4, [.int mc, .ref ed, .int 3])), (ed, .inl (cO, 10, .inr (.inr (.inr (.inr ee))))), (a0, .inr (8, [.int 4, .ref wa0, .ref na0])), (wa0, .inl (cI, 4, .inl fw0)), (na0, .inl (cI, 4, .inl fn0)), (a1, .inr (8, [.int 4, .ref wa1, .ref na1])), (wa1, .inl (cI, 4, .inl fw1)), (na1, .inl (cI, 4, .inl fn1)), (a2, .inr (8, [.int 4, .ref wa2, .ref na2])), (wa2, .inl (cI, 4, .inl fz22)), (na2, .inl (cI, 4, .inl gz23))]) hP hD [12, 0, 1, 2, 3, 4, 5, 6, 7, 8, 9, 10] [11] rfl rfl (by decide) (by decide) hk1 hFc hP1 hD1
  clear hPc hDc hFc hDv hpre hP hD hP1 hK1 hD1
  obtain ⟨hP, hD⟩ := hPD9
  replace hz : s.heap.size + 5 ≤ H26.size := by omega
  clear hz2
  replace hP : va_P (dC, dI) vwCl [(r14, .inl (cI, 4, .inl (upd (upd (upd (upd fo15 0 1) 1 1) 2 1) 3 1))), (mo, .inr (9, [.int 0, .ref al, md, rf, kn])), (al, .inr (4, [.int mc, .ref ed, .int 3])), (ed, .inl (cO, 10, .inr (.inr (.inr (.inr ee))))), (a0, .inr (8, [.int 4, .ref wa0, .ref na0])), (wa0, .inl (cI, 4, .inl fw0)), (na0, .inl (cI, 4, .inl fn0)), (a1, .inr (8, [.int 4, .ref wa1, .ref na1])), (wa1, .inl (cI, 4, .inl fw1)), (na1, .inl (cI, 4, .inl fn1)), (a2, .inr (8, [.int 4, .ref wa2, .ref na2])), (wa2, .inl (cI, 4, .inl fz22)), (na2, .inl (cI, 4, .inl gz23))] H26 := hP
  replace hD : va_D A [(r14, .inl (cI, 4, .inl (upd (upd (upd (upd fo15 0 1) 1 1) 2 1) 3 1))), (mo, .inr (9, [.int 0, .ref al, md, rf, kn])), (al, .inr (4, [.int mc, .ref ed, .int 3])), (ed, .inl (cO, 10, .inr (.inr (.inr (.inr ee))))), (a0, .inr (8, [.int 4, .ref wa0, .ref na0])), (wa0, .inl (cI, 4, .inl fw0)), (na0, .inl (cI, 4, .inl fn0)), (a1, .inr (8, [.int 4, .ref wa1, .ref na1])), (wa1, .inl (cI, 4, .inl fw1)), (na1, .inl (cI, 4, .inl fn1)), (a2, .inr (8, [.int 4, .ref wa2, .ref na2])), (wa2, .inl (cI, 4, .inl fz22)), (na2, .inl (cI, 4, .inl gz23))] := hD
  refine W.widen (k := 8) (n := 24) (by omega) (by omega) ?_
  have hP9 := hP.sub (ws' := [(mo, .inr (9, [.int 0, .ref al, md, rf, kn])), (al, .inr (4, [.int mc, .ref ed, .int 3])), (ed, .inl (cO, 10, .inr (.inr (.inr (.inr ee))))), (a0, .inr (8, [.int 4, .ref wa0, .ref na0])), (wa0, .inl (cI, 4, .inl fw0)), (na0, .inl (cI, 4, .inl fn0)), (a1, .inr (8, [.int 4, .ref wa1, .ref na1])), (wa1, .inl (cI, 4, .inl fw1)), (na1, .inl (cI, 4, .inl fn1)), (a2, .inr (8, [.int 4, .ref wa2, .ref na2])), (wa2, .inl (cI, 4, .inl fz22)), (na2, .inl (cI, 4, .inl gz23))]) [1, 2, 3, 4, 5, 6, 7, 8, 9, 10, 11, 12] rfl
  have hD9 := hD.sub (ws' := [(mo, .inr (9, [.int 0, .ref al, md, rf, kn])), (al, .inr (4, [.int mc, .ref ed, .int 3])), (ed, .inl (cO, 10, .inr (.inr (.inr (.inr ee))))), (a0, .inr (8, [.int 4, .ref wa0, .ref na0])), (wa0, .inl (cI, 4, .inl fw0)), (na0, .inl (cI, 4, .inl fn0)), (a1, .inr (8, [.int 4, .ref wa1, .ref na1])), (wa1, .inl (cI, 4, .inl fw1)), (na1, .inl (cI, 4, .inl fn1)), (a2, .inr (8, [.int 4, .ref wa2, .ref na2])), (wa2, .inl (cI, 4, .inl fz22)), (na2, .inl (cI, 4, .inl gz23))]) [1, 2, 3, 4, 5, 6, 7, 8, 9, 10, 11, 12] (by decide) rfl
  exact W.iret (v := 3) hx hb hr (fun t ht hW => ⟨⟨_, (), rfl, rfl, ⟨_, _, ⟨by rw [ht]; exact hP9, va_K.moved hW.alike hK, hD9, by rw [ht]; exact hz⟩, hwfz22, hngz23⟩⟩, hS.F ht⟩) hS.2.2 dX4_fillRow_138

set_option maxHeartbeats 4000000 in
set_option maxRecDepth 100000 in
theorem k_fiM3 (l : Launch) (dC : Nat → ClassId) (dI : Nat → Nat → Nat) (cI cB cR cO : ClassId) (zk : Nat → Nat) (mo al : Nat) (th md rf kn : Value) (ed : Nat) (ee : Nat → Option Nat) (mc : Int32) (a0 wa0 na0 a1 wa1 na1 a2 wa2 na2 a3 wa3 na3 : Nat) (fw0 fn0 fw1 fn1 fw2 fn2 fw3 fn3 : Nat → Int32) (sz : Nat) (hw0 : ∀ i, i < 4 → fw0 i = 0) (hn0 : ∀ i, i < 4 → fn0 i = (-1)) (he0 : ee 0 = some a0) (hw1 : ∀ i, i < 4 → fw1 i = 3) (hn1 : ∀ i, i < 4 → fn1 i = 0) (he1 : ee 1 = some a1) (hw2 : ∀ i, i < 4 → fw2 i = 3) (hn2 : ∀ i, i < 4 → fn2 i = 1) (he2 : ee 2 = some a2) (hw3 : ∀ i, i < 4 → fw3 i = 0) (hn3 : ∀ i, i < 4 → fn3 i = -1) (he3 : ee 3 = some a3) : Met l yX4_fillRow wsX4_fillRow ({ frames := 5, cells := 9, slots := 29, locals := 132 }) (va_Pc [.ref mo, .int 3, .int 2] (zPre (dC, dI) (zT cI cB cR cO) zk [] [(mo, .inr (9, [th, .ref al, md, rf, kn])), (al, .inr (4, [.int mc, .ref ed, .int 4])), (ed, .inl (cO, 10, .inr (.inr (.inr (.inr ee))))), (a0, .inr (8, [.int 4, .ref wa0, .ref na0])), (wa0, .inl (cI, 4, .inl fw0)), (na0, .inl (cI, 4, .inl fn0)), (a1, .inr (8, [.int 4, .ref wa1, .ref na1])), (wa1, .inl (cI, 4, .inl fw1)), (na1, .inl (cI, 4, .inl fn1)), (a2, .inr (8, [.int 4, .ref wa2, .ref na2])), (wa2, .inl (cI, 4, .inl fw2)), (na2, .inl (cI, 4, .inl fn2)), (a3, .inr (8, [.int 4, .ref wa3, .ref na3])), (wa3, .inl (cI, 4, .inl fw3)), (na3, .inl (cI, 4, .inl fn3))] sz)) (va_Qi (fun r (_ : Unit) => r = 4) (fun _ t => ∃ (fwz : Nat → Int32), ∃ (fnz : Nat → Int32), zEnd (dC, dI) (zT cI cB cR cO) (va_A [(mo, .inr (9, [th, .ref al, md, rf, kn])), (al, .inr (4, [.int mc, .ref ed, .int 4])), (ed, .inl (cO, 10, .inr (.inr (.inr (.inr ee))))), (a0, .inr (8, [.int 4, .ref wa0, .ref na0])), (wa0, .inl (cI, 4, .inl fw0)), (na0, .inl (cI, 4, .inl fn0)), (a1, .inr (8, [.int 4, .ref wa1, .ref na1])), (wa1, .inl (cI, 4, .inl fw1)), (na1, .inl (cI, 4, .inl fn1)), (a2, .inr (8, [.int 4, .ref wa2, .ref na2])), (wa2, .inl (cI, 4, .inl fw2)), (na2, .inl (cI, 4, .inl fn2)), (a3, .inr (8, [.int 4, .ref wa3, .ref na3])), (wa3, .inl (cI, 4, .inl fw3)), (na3, .inl (cI, 4, .inl fn3))] sz) [(mo, .inr (9, [.int 0, .ref al, md, rf, kn])), (al, .inr (4, [.int mc, .ref ed, .int 4])), (ed, .inl (cO, 10, .inr (.inr (.inr (.inr ee))))), (a0, .inr (8, [.int 4, .ref wa0, .ref na0])), (wa0, .inl (cI, 4, .inl fw0)), (na0, .inl (cI, 4, .inl fn0)), (a1, .inr (8, [.int 4, .ref wa1, .ref na1])), (wa1, .inl (cI, 4, .inl fw1)), (na1, .inl (cI, 4, .inl fn1)), (a2, .inr (8, [.int 4, .ref wa2, .ref na2])), (wa2, .inl (cI, 4, .inl fw2)), (na2, .inl (cI, 4, .inl fn2)), (a3, .inr (8, [.int 4, .ref wa3, .ref na3])), (wa3, .inl (cI, 4, .inl fwz)), (na3, .inl (cI, 4, .inl fnz))] sz 5 t ∧ (∀ i, i < 4 → fwz i = 3) ∧ (∀ i, i < 4 → fnz i = 2)) (va_A [(mo, .inr (9, [th, .ref al, md, rf, kn])), (al, .inr (4, [.int mc, .ref ed, .int 4])), (ed, .inl (cO, 10, .inr (.inr (.inr (.inr ee))))), (a0, .inr (8, [.int 4, .ref wa0, .ref na0])), (wa0, .inl (cI, 4, .inl fw0)), (na0, .inl (cI, 4, .inl fn0)), (a1, .inr (8, [.int 4, .ref wa1, .ref na1])), (wa1, .inl (cI, 4, .inl fw1)), (na1, .inl (cI, 4, .inl fn1)), (a2, .inr (8, [.int 4, .ref wa2, .ref na2])), (wa2, .inl (cI, 4, .inl fw2)), (na2, .inl (cI, 4, .inl fn2)), (a3, .inr (8, [.int 4, .ref wa3, .ref na3])), (wa3, .inl (cI, 4, .inl fw3)), (na3, .inl (cI, 4, .inl fn3))] sz)) 9 29 (va_A [(mo, .inr (9, [th, .ref al, md, rf, kn])), (al, .inr (4, [.int mc, .ref ed, .int 4])), (ed, .inl (cO, 10, .inr (.inr (.inr (.inr ee))))), (a0, .inr (8, [.int 4, .ref wa0, .ref na0])), (wa0, .inl (cI, 4, .inl fw0)), (na0, .inl (cI, 4, .inl fn0)), (a1, .inr (8, [.int 4, .ref wa1, .ref na1])), (wa1, .inl (cI, 4, .inl fw1)), (na1, .inl (cI, 4, .inl fn1)), (a2, .inr (8, [.int 4, .ref wa2, .ref na2])), (wa2, .inl (cI, 4, .inl fw2)), (na2, .inl (cI, 4, .inl fn2)), (a3, .inr (8, [.int 4, .ref wa3, .ref na3])), (wa3, .inl (cI, 4, .inl fw3)), (na3, .inl (cI, 4, .inl fn3))] sz) := by
  refine Met.ofW (cc := cX4_fillRow) (maxL := 5) (ret := (some .int)) (by decide) rfl ?_
  intro p e s mY args below meth c s₁ B hml hv
  obtain ⟨rfl, hsz, hP, hK, hD0, hZ⟩ := hv
  have hx := B.exec
  have hb := B.bytes
  have hr := B.returns
  have hts := atoms_spec (ws := wsX4_fillRow) B.pre
  have hown : s.vm.findClass RX4 = some mY.cls := findClass_of_methodNamed B.named
  have hlocks := B.notSynchronized
  subst hsz
  have hD := hD0.self (sz := s.heap.size)
  generalize hAe : va_A [(mo, .inr (9, [th, .ref al, md, rf, kn])), (al, .inr (4, [.int mc, .ref ed, .int 4])), (ed, .inl (cO, 10, .inr (.inr (.inr (.inr ee))))), (a0, .inr (8, [.int 4, .ref wa0, .ref na0])), (wa0, .inl (cI, 4, .inl fw0)), (na0, .inl (cI, 4, .inl fn0)), (a1, .inr (8, [.int 4, .ref wa1, .ref na1])), (wa1, .inl (cI, 4, .inl fw1)), (na1, .inl (cI, 4, .inl fn1)), (a2, .inr (8, [.int 4, .ref wa2, .ref na2])), (wa2, .inl (cI, 4, .inl fw2)), (na2, .inl (cI, 4, .inl fn2)), (a3, .inr (8, [.int 4, .ref wa3, .ref na3])), (wa3, .inl (cI, 4, .inl fw3)), (na3, .inl (cI, 4, .inl fn3))] s.heap.size = A at hD hZ ⊢
  have hA : ∀ q : Nat, s.heap.size ≤ q → A q := fun q h => by rw [← hAe]; exact Or.inr h
  have hS : va_S A s.heap s.heap [] := va_S.rf
  have hz : s.heap.size + 0 ≤ s.heap.size := Nat.le_refl _
  have hl := lv_entry ([.ref mo, .int 3, .int 2]) (n := 5) (Nat.le_of_ble_eq_true rfl)
  rw [lg_entry_eq]
  generalize (lg_sl ([.ref mo, .int 3, .int 2]) ++ List.replicate (5 - (lg_sl ([.ref mo, .int 3, .int 2])).length) Slot.unset).toArray = ls at hl ⊢
  have hl : lv_has ls 5 [(0, .ref mo), (1, .int 3), (2, .int 2)] := hl
  have hP : va_P (dC, dI) vwCl [(mo, .inr (9, [th, .ref al, md, rf, kn])), (al, .inr (4, [.int mc, .ref ed, .int 4])), (ed, .inl (cO, 10, .inr (.inr (.inr (.inr ee))))), (a0, .inr (8, [.int 4, .ref wa0, .ref na0])), (wa0, .inl (cI, 4, .inl fw0)), (na0, .inl (cI, 4, .inl fn0)), (a1, .inr (8, [.int 4, .ref wa1, .ref na1])), (wa1, .inl (cI, 4, .inl fw1)), (na1, .inl (cI, 4, .inl fn1)), (a2, .inr (8, [.int 4, .ref wa2, .ref na2])), (wa2, .inl (cI, 4, .inl fw2)), (na2, .inl (cI, 4, .inl fn2)), (a3, .inr (8, [.int 4, .ref wa3, .ref na3])), (wa3, .inl (cI, 4, .inl fw3)), (na3, .inl (cI, 4, .inl fn3))] s.heap := hP
  have hD : va_D A [(mo, .inr (9, [th, .ref al, md, rf, kn])), (al, .inr (4, [.int mc, .ref ed, .int 4])), (ed, .inl (cO, 10, .inr (.inr (.inr (.inr ee))))), (a0, .inr (8, [.int 4, .ref wa0, .ref na0])), (wa0, .inl (cI, 4, .inl fw0)), (na0, .inl (cI, 4, .inl fn0)), (a1, .inr (8, [.int 4, .ref wa1, .ref na1])), (wa1, .inl (cI, 4, .inl fw1)), (na1, .inl (cI, 4, .inl fn1)), (a2, .inr (8, [.int 4, .ref wa2, .ref na2])), (wa2, .inl (cI, 4, .inl fw2)), (na2, .inl (cI, 4, .inl fn2)), (a3, .inr (8, [.int 4, .ref wa3, .ref na3])), (wa3, .inl (cI, 4, .inl fw3)), (na3, .inl (cI, 4, .inl fn3))] := hD
  refine lv_aload_n hx hb dX4_fillRow_0 rfl (lv_at hl 0 rfl) ?_
  refine lv_aload_n hx hb dX4_fillRow_1 rfl (lv_at hl 0 rfl) ?_
  refine lv_iload_n hx hb dX4_fillRow_2 rfl (lv_at hl 1 rfl) ?_
  have hPc := hP.sub (ws' := [(mo, .inr (9, [th, .ref al, md, rf, kn])), (al, .inr (4, [.int mc, .ref ed, .int 4]))]) [0, 1] rfl
  have hDc := hD.sub (ws' := [(mo, .inr (9, [th, .ref al, md, rf, kn])), (al, .inr (4, [.int mc, .ref ed, .int 4]))]) [0, 1] (by decide) rfl
  have hFc := va_free (wc := [(mo, .inr (9, [th, .ref al, md, rf, kn])), (al, .inr (4, [.int mc, .ref ed, .int 4]))]) hD hS hA [0, 1] rfl
  have hDv := hDc.self (sz := s.heap.size)
  have hpre := zpre (xs' := []) (av := [.ref mo, .int 3]) hPc hK (hDc.weaken (fun _ _ _ h => h)) hZ hS hFc (fun r hr => by cases hr)
  refine va_calli (va_runV (As := [.int 3]) (rest := [.ref mo]) ⟨hx, hb, hml, hown, hts⟩ (k_nR3_4 l dC dI cI cB cR cO zk mo al th md rf kn ed ee mc s.heap.size ) (cwV 1 hts gX4_fillRow_X4_isNoRow rfl rfl rfl (by decide +kernel) ⟨Nat.le_of_ble_eq_true rfl, Nat.le_of_ble_eq_true rfl⟩) ⟨zblind, (zrecv_9 hK hPc (q0 := 0) rfl), hpre⟩ rfl rfl hl.1 rfl (lv_room (Nat.le_of_ble_eq_true rfl)) dX4_fillRow_3 ⟨Nat.le_of_ble_eq_true rfl, Nat.le_of_ble_eq_true rfl⟩) hS (fun q _ h => hFc q h) hFc (fun r2 u t H1 locs ht hvm hw hB hz1 hk1 hS => ?_)
  obtain rfl : 0 = r2 := (show r2 = 0 from hw).symm
  obtain ⟨hP1, hK1, hD1, hz2⟩ := hB
  rw [ht] at hP1 hz2
  have hPD9 := va_join (wr := [(ed, .inl (cO, 10, .inr (.inr (.inr (.inr ee))))), (a0, .inr (8, [.int 4, .ref wa0, .ref na0])), (wa0, .inl (cI, 4, .inl fw0)), (na0, .inl (cI, 4, .inl fn0)), (a1, .inr (8, [.int 4, .ref wa1, .ref na1])), (wa1, .inl (cI, 4, .inl fw1)), (na1, .inl (cI, 4, .inl fn1)), (a2, .inr (8, [.int 4, .ref wa2, .ref na2])), (wa2, .inl (cI, 4, .inl fw2)), (na2, .inl (cI, 4, .inl fn2)), (a3, .inr (8, [.int 4, .ref wa3, .ref na3])), (wa3, .inl (cI, 4, .inl fw3)), (na3, .inl (cI, 4, .inl fn3))]) (w1 := [(mo, .inr (9, [th, .ref al, md, rf, kn])), (al, .inr (4, [.int mc, .ref ed, .int 4]))]) hP hD [0, 1] [2, 3, 4, 5, 6, 7, 8, 9, 10, 11, 12, 13, 14] rfl rfl (by decide) (by decide) hk1 hFc hP1 hD1
  clear hPc hDc hFc hDv hpre hP hD hP1 hK1 hD1
  obtain ⟨hP, hD⟩ := hPD9
  replace hz : s.heap.size + 0 ≤ H1.size := by omega
  clear hz2
  replace hP : va_P (dC, dI) vwCl [(ed, .inl (cO, 10, .inr (.inr (.inr (.inr ee))))), (a0, .inr (8, [.int 4, .ref wa0, .ref na0])), (wa0, .inl (cI, 4, .inl fw0)), (na0, .inl (cI, 4, .inl fn0)), (a1, .inr (8, [.int 4, .ref wa1, .ref na1])), (wa1, .inl (cI, 4, .inl fw1)), (na1, .inl (cI, 4, .inl fn1)), (a2, .inr (8, [.int 4, .ref wa2, .ref na2])), (wa2, .inl (cI, 4, .inl fw2)), (na2, .inl (cI, 4, .inl fn2)), (a3, .inr (8, [.int 4, .ref wa3, .ref na3])), (wa3, .inl (cI, 4, .inl fw3)), (na3, .inl (cI, 4, .inl fn3)), (mo, .inr (9, [th, .ref al, md, rf, kn])), (al, .inr (4, [.int mc, .ref ed, .int 4]))] H1 := hP
  replace hD : va_D A [(ed, .inl (cO, 10, .inr (.inr (.inr (.inr ee))))), (a0, .inr (8, [.int 4, .ref wa0, .ref na0])), (wa0, .inl (cI, 4, .inl fw0)), (na0, .inl (cI, 4, .inl fn0)), (a1, .inr (8, [.int 4, .ref wa1, .ref na1])), (wa1, .inl (cI, 4, .inl fw1)), (na1, .inl (cI, 4, .inl fn1)), (a2, .inr (8, [.int 4, .ref wa2, .ref na2])), (wa2, .inl (cI, 4, .inl fw2)), (na2, .inl (cI, 4, .inl fn2)), (a3, .inr (8, [.int 4, .ref wa3, .ref na3])), (wa3, .inl (cI, 4, .inl fw3)), (na3, .inl (cI, 4, .inl fn3)), (mo, .inr (9, [th, .ref al, md, rf, kn])), (al, .inr (4, [.int mc, .ref ed, .int 4]))] := hD
  refine W.widen (k := 0) (n := 0) (by omega) (by omega) ?_
  refine lv_if_ne (tgt := 17) hx hb dX4_fillRow_6 (by decide) (fun c9 => ?_) (fun c9 => ?_)
  · exact absurd (by decide) c9
  refine lv_aload_n hx hb dX4_fillRow_9 rfl (lv_at hl 0 rfl) ?_
  refine lv_iload_n hx hb dX4_fillRow_10 rfl (lv_at hl 2 rfl) ?_
  have hPc := hP.sub (ws' := [(mo, .inr (9, [th, .ref al, md, rf, kn])), (al, .inr (4, [.int mc, .ref ed, .int 4]))]) [13, 14] rfl
  have hDc := hD.sub (ws' := [(mo, .inr (9, [th, .ref al, md, rf, kn])), (al, .inr (4, [.int mc, .ref ed, .int 4]))]) [13, 14] (by decide) rfl
  have hFc := va_free (wc := [(mo, .inr (9, [th, .ref al, md, rf, kn])), (al, .inr (4, [.int mc, .ref ed, .int 4]))]) hD hS hA [13, 14] rfl
  have hDv := hDc.self (sz := H1.size)
  have hpre := zpre (xs' := []) (av := [.ref mo, .int 2]) hPc hK (hDc.weaken (fun _ _ _ h => h)) hZ hS hFc (fun r hr => by cases hr)
  refine va_calli (va_runV (As := [.int 2]) (rest := [.ref mo]) ⟨hx, hb, hml, hown, hts⟩ (k_nR2_4 l dC dI cI cB cR cO zk mo al th md rf kn ed ee mc H1.size ) (cwV 1 hts gX4_fillRow_X4_isNoRow rfl rfl rfl (by decide +kernel) ⟨Nat.le_of_ble_eq_true rfl, Nat.le_of_ble_eq_true rfl⟩) ⟨zblind, (zrecv_9 hK hPc (q0 := 0) rfl), hpre⟩ rfl rfl hl.1 rfl (lv_room (Nat.le_of_ble_eq_true rfl)) dX4_fillRow_11 ⟨Nat.le_of_ble_eq_true rfl, Nat.le_of_ble_eq_true rfl⟩) hS (fun q _ h => hFc q h) hFc (fun r4 u t H3 locs ht hvm hw hB hz1 hk1 hS => ?_)
  obtain rfl : 0 = r4 := (show r4 = 0 from hw).symm
  obtain ⟨hP1, hK1, hD1, hz2⟩ := hB
  rw [ht] at hP1 hz2
  have hPD9 := va_join (wr := [(ed, .inl (cO, 10, .inr (.inr (.inr (.inr ee))))), (a0, .inr (8, [.int 4, .ref wa0, .ref na0])), (wa0, .inl (cI, 4, .inl fw0)), (na0, .inl (cI, 4, .inl fn0)), (a1, .inr (8, [.int 4, .ref wa1, .ref na1])), (wa1, .inl (cI, 4, .inl fw1)), (na1, .inl (cI, 4, .inl fn1)), (a2, .inr (8, [.int 4, .ref wa2, .ref na2])), (wa2, .inl (cI, 4, .inl fw2)), (na2, .inl (cI, 4, .inl fn2)), (a3, .inr (8, [.int 4, .ref wa3, .ref na3])), (wa3, .inl (cI, 4, .inl fw3)), (na3, .inl (cI, 4, .inl fn3))]) (w1 := [(mo, .inr (9, [th, .ref al, md, rf, kn])), (al, .inr (4, [.int mc, .ref ed, .int 4]))]) hP hD [13, 14] [0, 1, 2, 3, 4, 5, 6, 7, 8, 9, 10, 11, 12] rfl rfl (by decide) (by decide) hk1 hFc hP1 hD1
  clear hPc hDc hFc hDv hpre hP hD hP1 hK1 hD1
  obtain ⟨hP, hD⟩ := hPD9
  replace hz : s.heap.size + 0 ≤ H3.size := by omega
  clear hz2
  replace hP : va_P (dC, dI) vwCl [(ed, .inl (cO, 10, .inr (.inr (.inr (.inr ee))))), (a0, .inr (8, [.int 4, .ref wa0, .ref na0])), (wa0, .inl (cI, 4, .inl fw0)), (na0, .inl (cI, 4, .inl fn0)), (a1, .inr (8, [.int 4, .ref wa1, .ref na1])), (wa1, .inl (cI, 4, .inl fw1)), (na1, .inl (cI, 4, .inl fn1)), (a2, .inr (8, [.int 4, .ref wa2, .ref na2])), (wa2, .inl (cI, 4, .inl fw2)), (na2, .inl (cI, 4, .inl fn2)), (a3, .inr (8, [.int 4, .ref wa3, .ref na3])), (wa3, .inl (cI, 4, .inl fw3)), (na3, .inl (cI, 4, .inl fn3)), (mo, .inr (9, [th, .ref al, md, rf, kn])), (al, .inr (4, [.int mc, .ref ed, .int 4]))] H3 := hP
  replace hD : va_D A [(ed, .inl (cO, 10, .inr (.inr (.inr (.inr ee))))), (a0, .inr (8, [.int 4, .ref wa0, .ref na0])), (wa0, .inl (cI, 4, .inl fw0)), (na0, .inl (cI, 4, .inl fn0)), (a1, .inr (8, [.int 4, .ref wa1, .ref na1])), (wa1, .inl (cI, 4, .inl fw1)), (na1, .inl (cI, 4, .inl fn1)), (a2, .inr (8, [.int 4, .ref wa2, .ref na2])), (wa2, .inl (cI, 4, .inl fw2)), (na2, .inl (cI, 4, .inl fn2)), (a3, .inr (8, [.int 4, .ref wa3, .ref na3])), (wa3, .inl (cI, 4, .inl fw3)), (na3, .inl (cI, 4, .inl fn3)), (mo, .inr (9, [th, .ref al, md, rf, kn])), (al, .inr (4, [.int mc, .ref ed, .int 4]))] := hD
  refine W.widen (k := 0) (n := 0) (by omega) (by omega) ?_
  refine lv_if_eq (tgt := 21) hx hb dX4_fillRow_14 (by decide) (fun c9 => ?_) (fun c9 => ?_)
  rotate_left
  · exact absurd (by decide) c9
  refine lv_iconst (v := 0) hx hb dX4_fillRow_21 (by decide) ?_
  refine lv_iconst (v := 1) hx hb dX4_fillRow_22 (by decide) ?_
  have hPc := hP.sub (ws' := [(mo, .inr (9, [th, .ref al, md, rf, kn]))]) [13] rfl
  have hDc := hD.sub (ws' := [(mo, .inr (9, [th, .ref al, md, rf, kn]))]) [13] (by decide) rfl
  have hFc := va_free (wc := [(mo, .inr (9, [th, .ref al, md, rf, kn]))]) hD hS hA [13] rfl
  have hDv := hDc.self (sz := H3.size)
  have hpre := zpre (xs' := []) (av := [.ref mo, .int 0, .int 1]) hPc hK (hDc.weaken (fun _ _ _ h => h)) hZ hS hFc (fun r hr => by cases hr)
  refine va_calli (va_runV (As := [.int 0, .int 1]) (rest := []) ⟨hx, hb, hml, hown, hts⟩ (k_stt l dC dI cI cB cR cO zk mo al th md rf kn 1 H3.size ) (cwV 2 hts gX4_fillRow_X4_start rfl rfl rfl (by decide +kernel) ⟨Nat.le_of_ble_eq_true rfl, Nat.le_of_ble_eq_true rfl⟩) ⟨zblind, (zrecv_9 hK hPc (q0 := 0) rfl), hpre⟩ rfl rfl hl.1 rfl (lv_room (Nat.le_of_ble_eq_true rfl)) dX4_fillRow_23 ⟨Nat.le_of_ble_eq_true rfl, Nat.le_of_ble_eq_true rfl⟩) hS (fun q _ h => hFc q h) hFc (fun r6 u t H5 locs ht hvm hw hB hz1 hk1 hS => ?_)
  obtain rfl : 0 = r6 := (show r6 = 0 from hw).symm
  obtain ⟨hP1, hK1, hD1, hz2⟩ := hB
  rw [ht] at hP1 hz2
  have hPD9 := va_join (wr := [(ed, .inl (cO, 10, .inr (.inr (.inr (.inr ee))))), (a0, .inr (8, [.int 4, .ref wa0, .ref na0])), (wa0, .inl (cI, 4, .inl fw0)), (na0, .inl (cI, 4, .inl fn0)), (a1, .inr (8, [.int 4, .ref wa1, .ref na1])), (wa1, .inl (cI, 4, .inl fw1)), (na1, .inl (cI, 4, .inl fn1)), (a2, .inr (8, [.int 4, .ref wa2, .ref na2])), (wa2, .inl (cI, 4, .inl fw2)), (na2, .inl (cI, 4, .inl fn2)), (a3, .inr (8, [.int 4, .ref wa3, .ref na3])), (wa3, .inl (cI, 4, .inl fw3)), (na3, .inl (cI, 4, .inl fn3)), (al, .inr (4, [.int mc, .ref ed, .int 4]))]) (w1 := [(mo, .inr (9, [.int 0, .ref al, md, rf, kn]))]) hP hD [13] [0, 1, 2, 3, 4, 5, 6, 7, 8, 9, 10, 11, 12, 14] rfl rfl (by decide) (by decide) hk1 hFc hP1 hD1
  clear hPc hDc hFc hDv hpre hP hD hP1 hK1 hD1
  obtain ⟨hP, hD⟩ := hPD9
  replace hz : s.heap.size + 0 ≤ H5.size := by omega
  clear hz2
  replace hP : va_P (dC, dI) vwCl [(ed, .inl (cO, 10, .inr (.inr (.inr (.inr ee))))), (a0, .inr (8, [.int 4, .ref wa0, .ref na0])), (wa0, .inl (cI, 4, .inl fw0)), (na0, .inl (cI, 4, .inl fn0)), (a1, .inr (8, [.int 4, .ref wa1, .ref na1])), (wa1, .inl (cI, 4, .inl fw1)), (na1, .inl (cI, 4, .inl fn1)), (a2, .inr (8, [.int 4, .ref wa2, .ref na2])), (wa2, .inl (cI, 4, .inl fw2)), (na2, .inl (cI, 4, .inl fn2)), (a3, .inr (8, [.int 4, .ref wa3, .ref na3])), (wa3, .inl (cI, 4, .inl fw3)), (na3, .inl (cI, 4, .inl fn3)), (al, .inr (4, [.int mc, .ref ed, .int 4])), (mo, .inr (9, [.int 0, .ref al, md, rf, kn]))] H5 := hP
  replace hD : va_D A [(ed, .inl (cO, 10, .inr (.inr (.inr (.inr ee))))), (a0, .inr (8, [.int 4, .ref wa0, .ref na0])), (wa0, .inl (cI, 4, .inl fw0)), (na0, .inl (cI, 4, .inl fn0)), (a1, .inr (8, [.int 4, .ref wa1, .ref na1])), (wa1, .inl (cI, 4, .inl fw1)), (na1, .inl (cI, 4, .inl fn1)), (a2, .inr (8, [.int 4, .ref wa2, .ref na2])), (wa2, .inl (cI, 4, .inl fw2)), (na2, .inl (cI, 4, .inl fn2)), (a3, .inr (8, [.int 4, .ref wa3, .ref na3])), (wa3, .inl (cI, 4, .inl fw3)), (na3, .inl (cI, 4, .inl fn3)), (al, .inr (4, [.int mc, .ref ed, .int 4])), (mo, .inr (9, [.int 0, .ref al, md, rf, kn]))] := hD
  refine W.widen (k := 0) (n := 0) (by omega) (by omega) ?_
  refine lv_if_ne (tgt := 78) hx hb dX4_fillRow_26 (by decide) (fun c9 => ?_) (fun c9 => ?_)
  · exact absurd (by decide) c9
  refine lv_aload_n hx hb dX4_fillRow_29 rfl (lv_at hl 0 rfl) ?_
  refine lv_aload_n hx hb dX4_fillRow_30 rfl (lv_at hl 0 rfl) ?_
  refine va_get (D := (dC, dI)) (ci := 9) (v := .ref al) (C := RX4) (T := TX4) (N := 5) hx hb hts hi_X4_fillRow_X4 hown hK hP 14 rfl rfl 1 (by decide) (hts (.fieldLink RX4 10 "DeeprowsModel" "rows" "Ljava/util/ArrayList;") (List.mem_cons_of_mem _ zw_1134)) (fun _ h9 => h9) rfl dX4_fillRow_31 ?_
  refine lv_iload_n hx hb dX4_fillRow_34 rfl (lv_at hl 1 rfl) ?_
  have hPc := hP.sub (ws' := [(al, .inr (4, [.int mc, .ref ed, .int 4])), (ed, .inl (cO, 10, .inr (.inr (.inr (.inr ee)))))]) [13, 0] rfl
  have hDc := hD.sub (ws' := [(al, .inr (4, [.int mc, .ref ed, .int 4])), (ed, .inl (cO, 10, .inr (.inr (.inr (.inr ee)))))]) [13, 0] (by decide) rfl
  have hFc := va_free (wc := [(al, .inr (4, [.int mc, .ref ed, .int 4])), (ed, .inl (cO, 10, .inr (.inr (.inr (.inr ee)))))]) hD hS hA [13, 0] rfl
  have hDv := hDc.self (sz := H5.size)
  have hpre := zpre (xs' := []) (av := [.ref al, .int 3]) hPc hK (hDc.weaken (fun _ _ _ h => h)) hZ hS hFc (fun r hr => by cases hr)
  refine va_callr (va_runV (As := [.int 3]) (rest := [.ref mo]) ⟨hx, hb, hml, hown, hts⟩ (k_get l dC dI cI cB cR cO zk al ed 3 4 10 a3 ee (.int mc) H5.size (by decide) (by decide) (by decide) he3) (cwV 1 hts gX4_fillRow_Jx4a65c_get_915e3 rfl rfl rfl (by decide +kernel) ⟨Nat.le_of_ble_eq_true rfl, Nat.le_of_ble_eq_true rfl⟩) ⟨zblind, (zrecv_4 hK hPc (q0 := 0) rfl), hpre⟩ rfl rfl hl.1 rfl (lv_room (Nat.le_of_ble_eq_true rfl)) dX4_fillRow_35 ⟨Nat.le_of_ble_eq_true rfl, Nat.le_of_ble_eq_true rfl⟩) hS (fun q _ h => hFc q h) hFc (fun u r8 t H7 locs ht hvm hw hB hz1 hk1 hS => ?_)
  obtain ⟨⟨hP1, hK1, hD1, hz2⟩, her8⟩ := hB
  rw [ht] at hP1 hz2
  have hPD9 := va_join (wr := [(a0, .inr (8, [.int 4, .ref wa0, .ref na0])), (wa0, .inl (cI, 4, .inl fw0)), (na0, .inl (cI, 4, .inl fn0)), (a1, .inr (8, [.int 4, .ref wa1, .ref na1])), (wa1, .inl (cI, 4, .inl fw1)), (na1, .inl (cI, 4, .inl fn1)), (a2, .inr (8, [.int 4, .ref wa2, .ref na2])), (wa2, .inl (cI, 4, .inl fw2)), (na2, .inl (cI, 4, .inl fn2)), (a3, .inr (8, [.int 4, .ref wa3, .ref na3])), (wa3, .inl (cI, 4, .inl fw3)), (na3, .inl (cI, 4, .inl fn3)), (mo, .inr (9, [.int 0, .ref al, md, rf, kn]))]) (w1 := [(al, .inr (4, [.int mc, .ref ed, .int 4])), (ed, .inl (cO, 10, .inr (.inr (.inr (.inr ee)))))]) hP hD [13, 0] [1, 2, 3, 4, 5, 6, 7, 8, 9, 10, 11, 12, 14] rfl rfl (by decide) (by decide) hk1 hFc hP1 hD1
  clear hPc hDc hFc hDv hpre hP hD hP1 hK1 hD1
  obtain ⟨hP, hD⟩ := hPD9
  replace hz : s.heap.size + 0 ≤ H7.size := by omega
  clear hz2
  replace hP : va_P (dC, dI) vwCl [(a0, .inr (8, [.int 4, .ref wa0, .ref na0])), (wa0, .inl (cI, 4, .inl fw0)), (na0, .inl (cI, 4, .inl fn0)), (a1, .inr (8, [.int 4, .ref wa1, .ref na1])), (wa1, .inl (cI, 4, .inl fw1)), (na1, .inl (cI, 4, .inl fn1)), (a2, .inr (8, [.int 4, .ref wa2, .ref na2])), (wa2, .inl (cI, 4, .inl fw2)), (na2, .inl (cI, 4, .inl fn2)), (a3, .inr (8, [.int 4, .ref wa3, .ref na3])), (wa3, .inl (cI, 4, .inl fw3)), (na3, .inl (cI, 4, .inl fn3)), (mo, .inr (9, [.int 0, .ref al, md, rf, kn])), (al, .inr (4, [.int mc, .ref ed, .int 4])), (ed, .inl (cO, 10, .inr (.inr (.inr (.inr ee)))))] H7 := hP
  replace hD : va_D A [(a0, .inr (8, [.int 4, .ref wa0, .ref na0])), (wa0, .inl (cI, 4, .inl fw0)), (na0, .inl (cI, 4, .inl fn0)), (a1, .inr (8, [.int 4, .ref wa1, .ref na1])), (wa1, .inl (cI, 4, .inl fw1)), (na1, .inl (cI, 4, .inl fn1)), (a2, .inr (8, [.int 4, .ref wa2, .ref na2])), (wa2, .inl (cI, 4, .inl fw2)), (na2, .inl (cI, 4, .inl fn2)), (a3, .inr (8, [.int 4, .ref wa3, .ref na3])), (wa3, .inl (cI, 4, .inl fw3)), (na3, .inl (cI, 4, .inl fn3)), (mo, .inr (9, [.int 0, .ref al, md, rf, kn])), (al, .inr (4, [.int mc, .ref ed, .int 4])), (ed, .inl (cO, 10, .inr (.inr (.inr (.inr ee)))))] := hD
  refine W.widen (k := 0) (n := 0) (by omega) (by omega) ?_
  obtain rfl := her8.symm
  refine va_castE hx hb hown (hts (.classLink RX4 40 "DeeprowsModel$Row") (List.mem_cons_of_mem _ zw_1165)) (zrecv_8 hK hP (q0 := 9) rfl) dX4_fillRow_38 ?_
  refine va_get (D := (dC, dI)) (ci := 8) (v := .int 4) (C := RX3) (T := TX3) (N := 3) hx hb hts hi_X4_fillRow_X3 hown hK hP 9 rfl rfl 0 (by decide) (hts (.fieldLink RX4 103 "DeeprowsModel$Row" "kind" "I") (List.mem_cons_of_mem _ zw_1176)) (fun _ h9 => h9) rfl dX4_fillRow_41 ?_
  refine lv_iconst (v := 4) hx hb dX4_fillRow_44 (by decide) ?_
  refine lv_icmp_eq (tgt := 52) hx hb dX4_fillRow_45 (by decide) (fun c9 => ?_) (fun c9 => ?_)
  rotate_left
  · exact absurd (by decide) c9
  refine lv_iconst (v := 0) hx hb dX4_fillRow_52 (by decide) ?_
  refine lv_iconst (v := 2) hx hb dX4_fillRow_53 (by decide) ?_
  have hPc := hP.sub (ws' := [(mo, .inr (9, [.int 0, .ref al, md, rf, kn]))]) [12] rfl
  have hDc := hD.sub (ws' := [(mo, .inr (9, [.int 0, .ref al, md, rf, kn]))]) [12] (by decide) rfl
  have hFc := va_free (wc := [(mo, .inr (9, [.int 0, .ref al, md, rf, kn]))]) hD hS hA [12] rfl
  have hDv := hDc.self (sz := H7.size)
  have hpre := zpre (xs' := []) (av := [.ref mo, .int 0, .int 2]) hPc hK (hDc.weaken (fun _ _ _ h => h)) hZ hS hFc (fun r hr => by cases hr)
  refine va_calli (va_runV (As := [.int 0, .int 2]) (rest := []) ⟨hx, hb, hml, hown, hts⟩ (k_ref l dC dI cI cB cR cO zk mo al md rf kn 2 H7.size ) (cwV 2 hts gX4_fillRow_X4_refuse rfl rfl rfl (by decide +kernel) ⟨Nat.le_of_ble_eq_true rfl, Nat.le_of_ble_eq_true rfl⟩) ⟨zblind, (zrecv_9 hK hPc (q0 := 0) rfl), hpre⟩ rfl rfl hl.1 rfl (lv_room (Nat.le_of_ble_eq_true rfl)) dX4_fillRow_54 ⟨Nat.le_of_ble_eq_true rfl, Nat.le_of_ble_eq_true rfl⟩) hS (fun q _ h => hFc q h) hFc (fun r10 u t H9 locs ht hvm hw hB hz1 hk1 hS => ?_)
  obtain rfl : 0 = r10 := (show r10 = 0 from hw).symm
  obtain ⟨hP1, hK1, hD1, hz2⟩ := hB
  rw [ht] at hP1 hz2
  have hPD9 := va_join (wr := [(a0, .inr (8, [.int 4, .ref wa0, .ref na0])), (wa0, .inl (cI, 4, .inl fw0)), (na0, .inl (cI, 4, .inl fn0)), (a1, .inr (8, [.int 4, .ref wa1, .ref na1])), (wa1, .inl (cI, 4, .inl fw1)), (na1, .inl (cI, 4, .inl fn1)), (a2, .inr (8, [.int 4, .ref wa2, .ref na2])), (wa2, .inl (cI, 4, .inl fw2)), (na2, .inl (cI, 4, .inl fn2)), (a3, .inr (8, [.int 4, .ref wa3, .ref na3])), (wa3, .inl (cI, 4, .inl fw3)), (na3, .inl (cI, 4, .inl fn3)), (al, .inr (4, [.int mc, .ref ed, .int 4])), (ed, .inl (cO, 10, .inr (.inr (.inr (.inr ee)))))]) (w1 := [(mo, .inr (9, [.int 0, .ref al, md, rf, kn]))]) hP hD [12] [0, 1, 2, 3, 4, 5, 6, 7, 8, 9, 10, 11, 13, 14] rfl rfl (by decide) (by decide) hk1 hFc hP1 hD1
  clear hPc hDc hFc hDv hpre hP hD hP1 hK1 hD1
  obtain ⟨hP, hD⟩ := hPD9
  replace hz : s.heap.size + 0 ≤ H9.size := by omega
  clear hz2
  replace hP : va_P (dC, dI) vwCl [(a0, .inr (8, [.int 4, .ref wa0, .ref na0])), (wa0, .inl (cI, 4, .inl fw0)), (na0, .inl (cI, 4, .inl fn0)), (a1, .inr (8, [.int 4, .ref wa1, .ref na1])), (wa1, .inl (cI, 4, .inl fw1)), (na1, .inl (cI, 4, .inl fn1)), (a2, .inr (8, [.int 4, .ref wa2, .ref na2])), (wa2, .inl (cI, 4, .inl fw2)), (na2, .inl (cI, 4, .inl fn2)), (a3, .inr (8, [.int 4, .ref wa3, .ref na3])), (wa3, .inl (cI, 4, .inl fw3)), (na3, .inl (cI, 4, .inl fn3)), (al, .inr (4, [.int mc, .ref ed, .int 4])), (ed, .inl (cO, 10, .inr (.inr (.inr (.inr ee))))), (mo, .inr (9, [.int 0, .ref al, md, rf, kn]))] H9 := hP
  replace hD : va_D A [(a0, .inr (8, [.int 4, .ref wa0, .ref na0])), (wa0, .inl (cI, 4, .inl fw0)), (na0, .inl (cI, 4, .inl fn0)), (a1, .inr (8, [.int 4, .ref wa1, .ref na1])), (wa1, .inl (cI, 4, .inl fw1)), (na1, .inl (cI, 4, .inl fn1)), (a2, .inr (8, [.int 4, .ref wa2, .ref na2])), (wa2, .inl (cI, 4, .inl fw2)), (na2, .inl (cI, 4, .inl fn2)), (a3, .inr (8, [.int 4, .ref wa3, .ref na3])), (wa3, .inl (cI, 4, .inl fw3)), (na3, .inl (cI, 4, .inl fn3)), (al, .inr (4, [.int mc, .ref ed, .int 4])), (ed, .inl (cO, 10, .inr (.inr (.inr (.inr ee))))), (mo, .inr (9, [.int 0, .ref al, md, rf, kn]))] := hD
  refine W.widen (k := 0) (n := 0) (by omega) (by omega) ?_
  refine lv_if_ne (tgt := 78) hx hb dX4_fillRow_57 (by decide) (fun c9 => ?_) (fun c9 => ?_)
  · exact absurd (by decide) c9
  refine lv_aload_n hx hb dX4_fillRow_60 rfl (lv_at hl 0 rfl) ?_
  refine lv_iload_n hx hb dX4_fillRow_61 rfl (lv_at hl 2 rfl) ?_
  refine lv_iload_n hx hb dX4_fillRow_62 rfl (lv_at hl 1 rfl) ?_
  refine lv_icmp_lt (tgt := 70) hx hb dX4_fillRow_63 (by decide) (fun c9 => ?_) (fun c9 => ?_)
  rotate_left
  · exact absurd (by decide) c9
  refine lv_iconst (v := 0) hx hb dX4_fillRow_70 (by decide) ?_
  refine lv_iconst (v := 3) hx hb dX4_fillRow_71 (by decide) ?_
  have hPc := hP.sub (ws' := [(mo, .inr (9, [.int 0, .ref al, md, rf, kn]))]) [14] rfl
  have hDc := hD.sub (ws' := [(mo, .inr (9, [.int 0, .ref al, md, rf, kn]))]) [14] (by decide) rfl
  have hFc := va_free (wc := [(mo, .inr (9, [.int 0, .ref al, md, rf, kn]))]) hD hS hA [14] rfl
  have hDv := hDc.self (sz := H9.size)
  have hpre := zpre (xs' := []) (av := [.ref mo, .int 0, .int 3]) hPc hK (hDc.weaken (fun _ _ _ h => h)) hZ hS hFc (fun r hr => by cases hr)
  refine va_calli (va_runV (As := [.int 0, .int 3]) (rest := []) ⟨hx, hb, hml, hown, hts⟩ (k_ref l dC dI cI cB cR cO zk mo al md rf kn 3 H9.size ) (cwV 2 hts gX4_fillRow_X4_refuse rfl rfl rfl (by decide +kernel) ⟨Nat.le_of_ble_eq_true rfl, Nat.le_of_ble_eq_true rfl⟩) ⟨zblind, (zrecv_9 hK hPc (q0 := 0) rfl), hpre⟩ rfl rfl hl.1 rfl (lv_room (Nat.le_of_ble_eq_true rfl)) dX4_fillRow_72 ⟨Nat.le_of_ble_eq_true rfl, Nat.le_of_ble_eq_true rfl⟩) hS (fun q _ h => hFc q h) hFc (fun r12 u t H11 locs ht hvm hw hB hz1 hk1 hS => ?_)
  obtain rfl : 0 = r12 := (show r12 = 0 from hw).symm
  obtain ⟨hP1, hK1, hD1, hz2⟩ := hB
  rw [ht] at hP1 hz2
  have hPD9 := va_join (wr := [(a0, .inr (8, [.int 4, .ref wa0, .ref na0])), (wa0, .inl (cI, 4, .inl fw0)), (na0, .inl (cI, 4, .inl fn0)), (a1, .inr (8, [.int 4, .ref wa1, .ref na1])), (wa1, .inl (cI, 4, .inl fw1)), (na1, .inl (cI, 4, .inl fn1)), (a2, .inr (8, [.int 4, .ref wa2, .ref na2])), (wa2, .inl (cI, 4, .inl fw2)), (na2, .inl (cI, 4, .inl fn2)), (a3, .inr (8, [.int 4, .ref wa3, .ref na3])), (wa3, .inl (cI, 4, .inl fw3)), (na3, .inl (cI, 4, .inl fn3)), (al, .inr (4, [.int mc, .ref ed, .int 4])), (ed, .inl (cO, 10, .inr (.inr (.inr (.inr ee)))))]) (w1 := [(mo, .inr (9, [.int 0, .ref al, md, rf, kn]))]) hP hD [14] [0, 1, 2, 3, 4, 5, 6, 7, 8, 9, 10, 11, 12, 13] rfl rfl (by decide) (by decide) hk1 hFc hP1 hD1
  clear hPc hDc hFc hDv hpre hP hD hP1 hK1 hD1
  obtain ⟨hP, hD⟩ := hPD9
  replace hz : s.heap.size + 0 ≤ H11.size := by omega
  clear hz2
  replace hP : va_P (dC, dI) vwCl [(a0, .inr (8, [.int 4, .ref wa0, .ref na0])), (wa0, .inl (cI, 4, .inl fw0)), (na0, .inl (cI, 4, .inl fn0)), (a1, .inr (8, [.int 4, .ref wa1, .ref na1])), (wa1, .inl (cI, 4, .inl fw1)), (na1, .inl (cI, 4, .inl fn1)), (a2, .inr (8, [.int 4, .ref wa2, .ref na2])), (wa2, .inl (cI, 4, .inl fw2)), (na2, .inl (cI, 4, .inl fn2)), (a3, .inr (8, [.int 4, .ref wa3, .ref na3])), (wa3, .inl (cI, 4, .inl fw3)), (na3, .inl (cI, 4, .inl fn3)), (al, .inr (4, [.int mc, .ref ed, .int 4])), (ed, .inl (cO, 10, .inr (.inr (.inr (.inr ee))))), (mo, .inr (9, [.int 0, .ref al, md, rf, kn]))] H11 := hP
  replace hD : va_D A [(a0, .inr (8, [.int 4, .ref wa0, .ref na0])), (wa0, .inl (cI, 4, .inl fw0)), (na0, .inl (cI, 4, .inl fn0)), (a1, .inr (8, [.int 4, .ref wa1, .ref na1])), (wa1, .inl (cI, 4, .inl fw1)), (na1, .inl (cI, 4, .inl fn1)), (a2, .inr (8, [.int 4, .ref wa2, .ref na2])), (wa2, .inl (cI, 4, .inl fw2)), (na2, .inl (cI, 4, .inl fn2)), (a3, .inr (8, [.int 4, .ref wa3, .ref na3])), (wa3, .inl (cI, 4, .inl fw3)), (na3, .inl (cI, 4, .inl fn3)), (al, .inr (4, [.int mc, .ref ed, .int 4])), (ed, .inl (cO, 10, .inr (.inr (.inr (.inr ee))))), (mo, .inr (9, [.int 0, .ref al, md, rf, kn]))] := hD
  refine W.widen (k := 0) (n := 0) (by omega) (by omega) ?_
  refine lv_if_eq (tgt := 80) hx hb dX4_fillRow_75 (by decide) (fun c9 => ?_) (fun c9 => ?_)
  rotate_left
  · exact absurd (by decide) c9
  refine lv_aload_n hx hb dX4_fillRow_80 rfl (lv_at hl 0 rfl) ?_
  refine lv_iload_n hx hb dX4_fillRow_81 rfl (lv_at hl 1 rfl) ?_
  have hPc := hP.sub (ws' := [(mo, .inr (9, [.int 0, .ref al, md, rf, kn])), (al, .inr (4, [.int mc, .ref ed, .int 4])), (ed, .inl (cO, 10, .inr (.inr (.inr (.inr ee))))), (a3, .inr (8, [.int 4, .ref wa3, .ref na3])), (wa3, .inl (cI, 4, .inl fw3))]) [14, 12, 13, 9, 10] rfl
  have hDc := hD.sub (ws' := [(mo, .inr (9, [.int 0, .ref al, md, rf, kn])), (al, .inr (4, [.int mc, .ref ed, .int 4])), (ed, .inl (cO, 10, .inr (.inr (.inr (.inr ee))))), (a3, .inr (8, [.int 4, .ref wa3, .ref na3])), (wa3, .inl (cI, 4, .inl fw3))]) [14, 12, 13, 9, 10] (by decide) rfl
  have hFc := va_free (wc := [(mo, .inr (9, [.int 0, .ref al, md, rf, kn])), (al, .inr (4, [.int mc, .ref ed, .int 4])), (ed, .inl (cO, 10, .inr (.inr (.inr (.inr ee))))), (a3, .inr (8, [.int 4, .ref wa3, .ref na3])), (wa3, .inl (cI, 4, .inl fw3))]) hD hS hA [14, 12, 13, 9, 10] rfl
  have hDv := hDc.self (sz := H11.size)
  have hpre := zpre (xs' := []) (av := [.ref mo, .int 3]) hPc hK (hDc.weaken (fun _ _ _ h => h)) hZ hS hFc (fun r hr => by cases hr)
  refine va_callr (va_runV (As := [.int 3]) (rest := []) ⟨hx, hb, hml, hown, hts⟩ (k_nw3 l dC dI cI cB cR cO zk mo al ed 4 ee (.int 0) md rf kn (.int mc) a3 wa3 na3 fw3 H11.size (by decide) (by decide) he3) (cwV 1 hts gX4_fillRow_X4_nowhere rfl rfl rfl (by decide +kernel) ⟨Nat.le_of_ble_eq_true rfl, Nat.le_of_ble_eq_true rfl⟩) ⟨zblind, (zrecv_9 hK hPc (q0 := 0) rfl), hpre⟩ rfl rfl hl.1 rfl (lv_room (Nat.le_of_ble_eq_true rfl)) dX4_fillRow_82 ⟨Nat.le_of_ble_eq_true rfl, Nat.le_of_ble_eq_true rfl⟩) hS (fun q _ h => hFc q h) hFc (fun u r14 t H13 locs ht hvm hw hB hz1 hk1 hS => ?_)
  obtain ⟨fo15, ⟨hP1, hK1, hD1, hz2⟩⟩ := hB
  rw [ht] at hP1 hz2
  have hPD9 := va_join (wr := [(a0, .inr (8, [.int 4, .ref wa0, .ref na0])), (wa0, .inl (cI, 4, .inl fw0)), (na0, .inl (cI, 4, .inl fn0)), (a1, .inr (8, [.int 4, .ref wa1, .ref na1])), (wa1, .inl (cI, 4, .inl fw1)), (na1, .inl (cI, 4, .inl fn1)), (a2, .inr (8, [.int 4, .ref wa2, .ref na2])), (wa2, .inl (cI, 4, .inl fw2)), (na2, .inl (cI, 4, .inl fn2)), (na3, .inl (cI, 4, .inl fn3))]) (w1 := [(mo, .inr (9, [.int 0, .ref al, md, rf, kn])), (al, .inr (4, [.int mc, .ref ed, .int 4])), (ed, .inl (cO, 10, .inr (.inr (.inr (.inr ee))))), (a3, .inr (8, [.int 4, .ref wa3, .ref na3])), (wa3, .inl (cI, 4, .inl fw3)), (r14, .inl (cI, 4, .inl fo15))]) hP hD [14, 12, 13, 9, 10] [0, 1, 2, 3, 4, 5, 6, 7, 8, 11] rfl rfl (by decide) (by decide) hk1 hFc hP1 hD1
  clear hPc hDc hFc hDv hpre hP hD hP1 hK1 hD1
  obtain ⟨hP, hD⟩ := hPD9
  replace hz : s.heap.size + 1 ≤ H13.size := by omega
  clear hz2
  replace hP : va_P (dC, dI) vwCl [(a0, .inr (8, [.int 4, .ref wa0, .ref na0])), (wa0, .inl (cI, 4, .inl fw0)), (na0, .inl (cI, 4, .inl fn0)), (a1, .inr (8, [.int 4, .ref wa1, .ref na1])), (wa1, .inl (cI, 4, .inl fw1)), (na1, .inl (cI, 4, .inl fn1)), (a2, .inr (8, [.int 4, .ref wa2, .ref na2])), (wa2, .inl (cI, 4, .inl fw2)), (na2, .inl (cI, 4, .inl fn2)), (na3, .inl (cI, 4, .inl fn3)), (mo, .inr (9, [.int 0, .ref al, md, rf, kn])), (al, .inr (4, [.int mc, .ref ed, .int 4])), (ed, .inl (cO, 10, .inr (.inr (.inr (.inr ee))))), (a3, .inr (8, [.int 4, .ref wa3, .ref na3])), (wa3, .inl (cI, 4, .inl fw3)), (r14, .inl (cI, 4, .inl fo15))] H13 := hP
  replace hD : va_D A [(a0, .inr (8, [.int 4, .ref wa0, .ref na0])), (wa0, .inl (cI, 4, .inl fw0)), (na0, .inl (cI, 4, .inl fn0)), (a1, .inr (8, [.int 4, .ref wa1, .ref na1])), (wa1, .inl (cI, 4, .inl fw1)), (na1, .inl (cI, 4, .inl fn1)), (a2, .inr (8, [.int 4, .ref wa2, .ref na2])), (wa2, .inl (cI, 4, .inl fw2)), (na2, .inl (cI, 4, .inl fn2)), (na3, .inl (cI, 4, .inl fn3)), (mo, .inr (9, [.int 0, .ref al, md, rf, kn])), (al, .inr (4, [.int mc, .ref ed, .int 4])), (ed, .inl (cO, 10, .inr (.inr (.inr (.inr ee))))), (a3, .inr (8, [.int 4, .ref wa3, .ref na3])), (wa3, .inl (cI, 4, .inl fw3)), (r14, .inl (cI, 4, .inl fo15))] := hD
  refine W.widen (k := 1) (n := 4) (by omega) (by omega) ?_
  refine lv_astore_n (lv' := [(3, .ref r14), (0, .ref mo), (1, .int 3), (2, .int 2)]) hx hb dX4_fillRow_85 rfl hl (by decide) rfl (fun ls hl => ?_)
  refine lv_iconst (v := 0) hx hb dX4_fillRow_86 (by decide) ?_
  refine lv_istore (lv' := [(4, .int 0), (3, .ref r14), (0, .ref mo), (1, .int 3), (2, .int 2)]) hx hb dX4_fillRow_87 hl (by decide) rfl (fun ls hl => ?_)
  refine lv_iload hx hb dX4_fillRow_89 (lv_at hl 0 rfl) ?_
  refine lv_aload_n hx hb dX4_fillRow_91 rfl (lv_at hl 1 rfl) ?_
  refine va_alen (D := (dC, dI)) (cl := vwCl) (v := 4) hx hb hK hP 15 0 rfl rfl rfl dX4_fillRow_92 ?_
  refine lv_icmp_ge (tgt := 107) hx hb dX4_fillRow_93 (by decide) (fun c9 => ?_) (fun c9 => ?_)
  · exact absurd c9 (by decide)
  refine lv_aload_n hx hb dX4_fillRow_96 rfl (lv_at hl 1 rfl) ?_
  refine lv_iload hx hb dX4_fillRow_97 (lv_at hl 0 rfl) ?_
  refine lv_iload_n hx hb dX4_fillRow_99 rfl (lv_at hl 4 rfl) ?_
  refine va_iast (D := (dC, dI)) (cl := vwCl) hx hb hK hP hD (zS0 hS) 15 0 rfl rfl (by unfold vp_in; decide) dX4_fillRow_100 (fun H16 locs hP hD hS1 => ?_)
  have hz : s.heap.size + 1 ≤ H16.size := Nat.le_trans hz hS1.1
  have hS := zSS hS hS1
  replace hP : va_P (dC, dI) vwCl [(a0, .inr (8, [.int 4, .ref wa0, .ref na0])), (wa0, .inl (cI, 4, .inl fw0)), (na0, .inl (cI, 4, .inl fn0)), (a1, .inr (8, [.int 4, .ref wa1, .ref na1])), (wa1, .inl (cI, 4, .inl fw1)), (na1, .inl (cI, 4, .inl fn1)), (a2, .inr (8, [.int 4, .ref wa2, .ref na2])), (wa2, .inl (cI, 4, .inl fw2)), (na2, .inl (cI, 4, .inl fn2)), (na3, .inl (cI, 4, .inl fn3)), (mo, .inr (9, [.int 0, .ref al, md, rf, kn])), (al, .inr (4, [.int mc, .ref ed, .int 4])), (ed, .inl (cO, 10, .inr (.inr (.inr (.inr ee))))), (a3, .inr (8, [.int 4, .ref wa3, .ref na3])), (wa3, .inl (cI, 4, .inl fw3)), (r14, .inl (cI, 4, .inl (upd fo15 0 2)))] H16 := hP
  replace hD : va_D A [(a0, .inr (8, [.int 4, .ref wa0, .ref na0])), (wa0, .inl (cI, 4, .inl fw0)), (na0, .inl (cI, 4, .inl fn0)), (a1, .inr (8, [.int 4, .ref wa1, .ref na1])), (wa1, .inl (cI, 4, .inl fw1)), (na1, .inl (cI, 4, .inl fn1)), (a2, .inr (8, [.int 4, .ref wa2, .ref na2])), (wa2, .inl (cI, 4, .inl fw2)), (na2, .inl (cI, 4, .inl fn2)), (na3, .inl (cI, 4, .inl fn3)), (mo, .inr (9, [.int 0, .ref al, md, rf, kn])), (al, .inr (4, [.int mc, .ref ed, .int 4])), (ed, .inl (cO, 10, .inr (.inr (.inr (.inr ee))))), (a3, .inr (8, [.int 4, .ref wa3, .ref na3])), (wa3, .inl (cI, 4, .inl fw3)), (r14, .inl (cI, 4, .inl (upd fo15 0 2)))] := hD
  refine lv_iinc (v := 1) (lv' := [(4, .int 1), (3, .ref r14), (0, .ref mo), (1, .int 3), (2, .int 2)]) hx hb dX4_fillRow_101 hl (k := 0) rfl (by decide) (by decide) rfl (fun ls hl => ?_)
  refine lv_goto (tgt := 89) hx hb dX4_fillRow_104 (by decide) ?_
  refine lv_iload hx hb dX4_fillRow_89 (lv_at hl 0 rfl) ?_
  refine lv_aload_n hx hb dX4_fillRow_91 rfl (lv_at hl 1 rfl) ?_
  refine va_alen (D := (dC, dI)) (cl := vwCl) (v := 4) hx hb hK hP 15 0 rfl rfl rfl dX4_fillRow_92 ?_
  refine lv_icmp_ge (tgt := 107) hx hb dX4_fillRow_93 (by decide) (fun c9 => ?_) (fun c9 => ?_)
  · exact absurd c9 (by decide)
  refine lv_aload_n hx hb dX4_fillRow_96 rfl (lv_at hl 1 rfl) ?_
  refine lv_iload hx hb dX4_fillRow_97 (lv_at hl 0 rfl) ?_
  refine lv_iload_n hx hb dX4_fillRow_99 rfl (lv_at hl 4 rfl) ?_
  refine va_iast (D := (dC, dI)) (cl := vwCl) hx hb hK hP hD (zS0 hS) 15 0 rfl rfl (by unfold vp_in; decide) dX4_fillRow_100 (fun H17 locs hP hD hS1 => ?_)
  have hz : s.heap.size + 1 ≤ H17.size := Nat.le_trans hz hS1.1
  have hS := zSS hS hS1
  replace hP : va_P (dC, dI) vwCl [(a0, .inr (8, [.int 4, .ref wa0, .ref na0])), (wa0, .inl (cI, 4, .inl fw0)), (na0, .inl (cI, 4, .inl fn0)), (a1, .inr (8, [.int 4, .ref wa1, .ref na1])), (wa1, .inl (cI, 4, .inl fw1)), (na1, .inl (cI, 4, .inl fn1)), (a2, .inr (8, [.int 4, .ref wa2, .ref na2])), (wa2, .inl (cI, 4, .inl fw2)), (na2, .inl (cI, 4, .inl fn2)), (na3, .inl (cI, 4, .inl fn3)), (mo, .inr (9, [.int 0, .ref al, md, rf, kn])), (al, .inr (4, [.int mc, .ref ed, .int 4])), (ed, .inl (cO, 10, .inr (.inr (.inr (.inr ee))))), (a3, .inr (8, [.int 4, .ref wa3, .ref na3])), (wa3, .inl (cI, 4, .inl fw3)), (r14, .inl (cI, 4, .inl (upd (upd fo15 0 2) 1 2)))] H17 := hP
  replace hD : va_D A [(a0, .inr (8, [.int 4, .ref wa0, .ref na0])), (wa0, .inl (cI, 4, .inl fw0)), (na0, .inl (cI, 4, .inl fn0)), (a1, .inr (8, [.int 4, .ref wa1, .ref na1])), (wa1, .inl (cI, 4, .inl fw1)), (na1, .inl (cI, 4, .inl fn1)), (a2, .inr (8, [.int 4, .ref wa2, .ref na2])), (wa2, .inl (cI, 4, .inl fw2)), (na2, .inl (cI, 4, .inl fn2)), (na3, .inl (cI, 4, .inl fn3)), (mo, .inr (9, [.int 0, .ref al, md, rf, kn])), (al, .inr (4, [.int mc, .ref ed, .int 4])), (ed, .inl (cO, 10, .inr (.inr (.inr (.inr ee))))), (a3, .inr (8, [.int 4, .ref wa3, .ref na3])), (wa3, .inl (cI, 4, .inl fw3)), (r14, .inl (cI, 4, .inl (upd (upd fo15 0 2) 1 2)))] := hD
  refine lv_iinc (v := 2) (lv' := [(4, .int 2), (3, .ref r14), (0, .ref mo), (1, .int 3), (2, .int 2)]) hx hb dX4_fillRow_101 hl (k := 0) rfl (by decide) (by decide) rfl (fun ls hl => ?_)
  refine lv_goto (tgt := 89) hx hb dX4_fillRow_104 (by decide) ?_
  refine lv_iload hx hb dX4_fillRow_89 (lv_at hl 0 rfl) ?_
  refine lv_aload_n hx hb dX4_fillRow_91 rfl (lv_at hl 1 rfl) ?_
  refine va_alen (D := (dC, dI)) (cl := vwCl) (v := 4) hx hb hK hP 15 0 rfl rfl rfl dX4_fillRow_92 ?_
  refine lv_icmp_ge (tgt := 107) hx hb dX4_fillRow_93 (by decide) (fun c9 => ?_) (fun c9 => ?_)
  · exact absurd c9 (by decide)
  refine lv_aload_n hx hb dX4_fillRow_96 rfl (lv_at hl 1 rfl) ?_
  refine lv_iload hx hb dX4_fillRow_97 (lv_at hl 0 rfl) ?_
  refine lv_iload_n hx hb dX4_fillRow_99 rfl (lv_at hl 4 rfl) ?_
  refine va_iast (D := (dC, dI)) (cl := vwCl) hx hb hK hP hD (zS0 hS) 15 0 rfl rfl (by unfold vp_in; decide) dX4_fillRow_100 (fun H18 locs hP hD hS1 => ?_)
  have hz : s.heap.size + 1 ≤ H18.size := Nat.le_trans hz hS1.1
  have hS := zSS hS hS1
  replace hP : va_P (dC, dI) vwCl [(a0, .inr (8, [.int 4, .ref wa0, .ref na0])), (wa0, .inl (cI, 4, .inl fw0)), (na0, .inl (cI, 4, .inl fn0)), (a1, .inr (8, [.int 4, .ref wa1, .ref na1])), (wa1, .inl (cI, 4, .inl fw1)), (na1, .inl (cI, 4, .inl fn1)), (a2, .inr (8, [.int 4, .ref wa2, .ref na2])), (wa2, .inl (cI, 4, .inl fw2)), (na2, .inl (cI, 4, .inl fn2)), (na3, .inl (cI, 4, .inl fn3)), (mo, .inr (9, [.int 0, .ref al, md, rf, kn])), (al, .inr (4, [.int mc, .ref ed, .int 4])), (ed, .inl (cO, 10, .inr (.inr (.inr (.inr ee))))), (a3, .inr (8, [.int 4, .ref wa3, .ref na3])), (wa3, .inl (cI, 4, .inl fw3)), (r14, .inl (cI, 4, .inl (upd (upd (upd fo15 0 2) 1 2) 2 2)))] H18 := hP
  replace hD : va_D A [(a0, .inr (8, [.int 4, .ref wa0, .ref na0])), (wa0, .inl (cI, 4, .inl fw0)), (na0, .inl (cI, 4, .inl fn0)), (a1, .inr (8, [.int 4, .ref wa1, .ref na1])), (wa1, .inl (cI, 4, .inl fw1)), (na1, .inl (cI, 4, .inl fn1)), (a2, .inr (8, [.int 4, .ref wa2, .ref na2])), (wa2, .inl (cI, 4, .inl fw2)), (na2, .inl (cI, 4, .inl fn2)), (na3, .inl (cI, 4, .inl fn3)), (mo, .inr (9, [.int 0, .ref al, md, rf, kn])), (al, .inr (4, [.int mc, .ref ed, .int 4])), (ed, .inl (cO, 10, .inr (.inr (.inr (.inr ee))))), (a3, .inr (8, [.int 4, .ref wa3, .ref na3])), (wa3, .inl (cI, 4, .inl fw3)), (r14, .inl (cI, 4, .inl (upd (upd (upd fo15 0 2) 1 2) 2 2)))] := hD
  refine lv_iinc (v := 3) (lv' := [(4, .int 3), (3, .ref r14), (0, .ref mo), (1, .int 3), (2, .int 2)]) hx hb dX4_fillRow_101 hl (k := 0) rfl (by decide) (by decide) rfl (fun ls hl => ?_)
  refine lv_goto (tgt := 89) hx hb dX4_fillRow_104 (by decide) ?_
  refine lv_iload hx hb dX4_fillRow_89 (lv_at hl 0 rfl) ?_
  refine lv_aload_n hx hb dX4_fillRow_91 rfl (lv_at hl 1 rfl) ?_
  refine va_alen (D := (dC, dI)) (cl := vwCl) (v := 4) hx hb hK hP 15 0 rfl rfl rfl dX4_fillRow_92 ?_
  refine lv_icmp_ge (tgt := 107) hx hb dX4_fillRow_93 (by decide) (fun c9 => ?_) (fun c9 => ?_)
  · exact absurd c9 (by decide)
  refine lv_aload_n hx hb dX4_fillRow_96 rfl (lv_at hl 1 rfl) ?_
  refine lv_iload hx hb dX4_fillRow_97 (lv_at hl 0 rfl) ?_
  refine lv_iload_n hx hb dX4_fillRow_99 rfl (lv_at hl 4 rfl) ?_
  refine va_iast (D := (dC, dI)) (cl := vwCl) hx hb hK hP hD (zS0 hS) 15 0 rfl rfl (by unfold vp_in; decide) dX4_fillRow_100 (fun H19 locs hP hD hS1 => ?_)
  have hz : s.heap.size + 1 ≤ H19.size := Nat.le_trans hz hS1.1
  have hS := zSS hS hS1
  replace hP : va_P (dC, dI) vwCl [(a0, .inr (8, [.int 4, .ref wa0, .ref na0])), (wa0, .inl (cI, 4, .inl fw0)), (na0, .inl (cI, 4, .inl fn0)), (a1, .inr (8, [.int 4, .ref wa1, .ref na1])), (wa1, .inl (cI, 4, .inl fw1)), (na1, .inl (cI, 4, .inl fn1)), (a2, .inr (8, [.int 4, .ref wa2, .ref na2])), (wa2, .inl (cI, 4, .inl fw2)), (na2, .inl (cI, 4, .inl fn2)), (na3, .inl (cI, 4, .inl fn3)), (mo, .inr (9, [.int 0, .ref al, md, rf, kn])), (al, .inr (4, [.int mc, .ref ed, .int 4])), (ed, .inl (cO, 10, .inr (.inr (.inr (.inr ee))))), (a3, .inr (8, [.int 4, .ref wa3, .ref na3])), (wa3, .inl (cI, 4, .inl fw3)), (r14, .inl (cI, 4, .inl (upd (upd (upd (upd fo15 0 2) 1 2) 2 2) 3 2)))] H19 := hP
  replace hD : va_D A [(a0, .inr (8, [.int 4, .ref wa0, .ref na0])), (wa0, .inl (cI, 4, .inl fw0)), (na0, .inl (cI, 4, .inl fn0)), (a1, .inr (8, [.int 4, .ref wa1, .ref na1])), (wa1, .inl (cI, 4, .inl fw1)), (na1, .inl (cI, 4, .inl fn1)), (a2, .inr (8, [.int 4, .ref wa2, .ref na2])), (wa2, .inl (cI, 4, .inl fw2)), (na2, .inl (cI, 4, .inl fn2)), (na3, .inl (cI, 4, .inl fn3)), (mo, .inr (9, [.int 0, .ref al, md, rf, kn])), (al, .inr (4, [.int mc, .ref ed, .int 4])), (ed, .inl (cO, 10, .inr (.inr (.inr (.inr ee))))), (a3, .inr (8, [.int 4, .ref wa3, .ref na3])), (wa3, .inl (cI, 4, .inl fw3)), (r14, .inl (cI, 4, .inl (upd (upd (upd (upd fo15 0 2) 1 2) 2 2) 3 2)))] := hD
  refine lv_iinc (v := 4) (lv' := [(4, .int 4), (3, .ref r14), (0, .ref mo), (1, .int 3), (2, .int 2)]) hx hb dX4_fillRow_101 hl (k := 0) rfl (by decide) (by decide) rfl (fun ls hl => ?_)
  refine lv_goto (tgt := 89) hx hb dX4_fillRow_104 (by decide) ?_
  refine lv_iload hx hb dX4_fillRow_89 (lv_at hl 0 rfl) ?_
  refine lv_aload_n hx hb dX4_fillRow_91 rfl (lv_at hl 1 rfl) ?_
  refine va_alen (D := (dC, dI)) (cl := vwCl) (v := 4) hx hb hK hP 15 0 rfl rfl rfl dX4_fillRow_92 ?_
  refine lv_icmp_ge (tgt := 107) hx hb dX4_fillRow_93 (by decide) (fun c9 => ?_) (fun c9 => ?_)
  rotate_left
  · exact absurd (by decide) c9
  refine lv_aload_n hx hb dX4_fillRow_107 rfl (lv_at hl 2 rfl) ?_
  refine lv_aload_n hx hb dX4_fillRow_108 rfl (lv_at hl 2 rfl) ?_
  refine lv_iload_n hx hb dX4_fillRow_109 rfl (lv_at hl 3 rfl) ?_
  refine lv_aload_n hx hb dX4_fillRow_110 rfl (lv_at hl 1 rfl) ?_
  have hPc := hP.sub (ws' := [(mo, .inr (9, [.int 0, .ref al, md, rf, kn])), (al, .inr (4, [.int mc, .ref ed, .int 4])), (ed, .inl (cO, 10, .inr (.inr (.inr (.inr ee))))), (a0, .inr (8, [.int 4, .ref wa0, .ref na0])), (wa0, .inl (cI, 4, .inl fw0)), (na0, .inl (cI, 4, .inl fn0)), (a1, .inr (8, [.int 4, .ref wa1, .ref na1])), (wa1, .inl (cI, 4, .inl fw1)), (na1, .inl (cI, 4, .inl fn1)), (a2, .inr (8, [.int 4, .ref wa2, .ref na2])), (wa2, .inl (cI, 4, .inl fw2)), (na2, .inl (cI, 4, .inl fn2)), (a3, .inr (8, [.int 4, .ref wa3, .ref na3])), (wa3, .inl (cI, 4, .inl fw3)), (na3, .inl (cI, 4, .inl fn3)), (r14, .inl (cI, 4, .inl (upd (upd (upd (upd fo15 0 2) 1 2) 2 2) 3 2)))]) [10, 11, 12, 0, 1, 2, 3, 4, 5, 6, 7, 8, 13, 14, 9, 15] rfl
  have hDc := hD.sub (ws' := [(mo, .inr (9, [.int 0, .ref al, md, rf, kn])), (al, .inr (4, [.int mc, .ref ed, .int 4])), (ed, .inl (cO, 10, .inr (.inr (.inr (.inr ee))))), (a0, .inr (8, [.int 4, .ref wa0, .ref na0])), (wa0, .inl (cI, 4, .inl fw0)), (na0, .inl (cI, 4, .inl fn0)), (a1, .inr (8, [.int 4, .ref wa1, .ref na1])), (wa1, .inl (cI, 4, .inl fw1)), (na1, .inl (cI, 4, .inl fn1)), (a2, .inr (8, [.int 4, .ref wa2, .ref na2])), (wa2, .inl (cI, 4, .inl fw2)), (na2, .inl (cI, 4, .inl fn2)), (a3, .inr (8, [.int 4, .ref wa3, .ref na3])), (wa3, .inl (cI, 4, .inl fw3)), (na3, .inl (cI, 4, .inl fn3)), (r14, .inl (cI, 4, .inl (upd (upd (upd (upd fo15 0 2) 1 2) 2 2) 3 2)))]) [10, 11, 12, 0, 1, 2, 3, 4, 5, 6, 7, 8, 13, 14, 9, 15] (by decide) rfl
  have hFc := va_free (wc := [(mo, .inr (9, [.int 0, .ref al, md, rf, kn])), (al, .inr (4, [.int mc, .ref ed, .int 4])), (ed, .inl (cO, 10, .inr (.inr (.inr (.inr ee))))), (a0, .inr (8, [.int 4, .ref wa0, .ref na0])), (wa0, .inl (cI, 4, .inl fw0)), (na0, .inl (cI, 4, .inl fn0)), (a1, .inr (8, [.int 4, .ref wa1, .ref na1])), (wa1, .inl (cI, 4, .inl fw1)), (na1, .inl (cI, 4, .inl fn1)), (a2, .inr (8, [.int 4, .ref wa2, .ref na2])), (wa2, .inl (cI, 4, .inl fw2)), (na2, .inl (cI, 4, .inl fn2)), (a3, .inr (8, [.int 4, .ref wa3, .ref na3])), (wa3, .inl (cI, 4, .inl fw3)), (na3, .inl (cI, 4, .inl fn3)), (r14, .inl (cI, 4, .inl (upd (upd (upd (upd fo15 0 2) 1 2) 2 2) 3 2)))]) hD hS hA [10, 11, 12, 0, 1, 2, 3, 4, 5, 6, 7, 8, 13, 14, 9, 15] rfl
  have hDv := hDc.self (sz := H19.size)
  have hpre := zpre (xs' := []) (av := [.ref mo, .int 3, .ref r14]) hPc hK (hDc.weaken (fun _ _ _ h => h)) hZ hS hFc (fun r hr => by cases hr)
  refine va_calli (va_runV (As := [.int 3, .ref r14]) (rest := [.ref mo]) ⟨hx, hb, hml, hown, hts⟩ (k_aH3 l dC dI cI cB cR cO zk mo al ed 4 ee (.int 0) md rf kn (.int mc) a0 wa0 na0 a1 wa1 na1 a2 wa2 na2 a3 wa3 na3 fw0 fn0 fw1 fn1 fw2 fn2 fw3 fn3 r14 (upd (upd (upd (upd fo15 0 2) 1 2) 2 2) 3 2) H19.size (by decide) (by decide) rfl hw0 hn0 he0 hw1 hn1 he1 hw2 hn2 he2 hw3 hn3 he3 (fun i hi => by rcases (show i = 0 ∨ i = 1 ∨ i = 2 ∨ i = 3 by omega) with rfl | rfl | rfl | rfl <;> rfl)) (cwV 2 hts gX4_fillRow_X4_areHung rfl rfl rfl (by decide +kernel) ⟨Nat.le_of_ble_eq_true rfl, Nat.le_of_ble_eq_true rfl⟩) ⟨zblind, (zrecv_9 hK hPc (q0 := 0) rfl), hpre⟩ rfl rfl hl.1 rfl (lv_room (Nat.le_of_ble_eq_true rfl)) dX4_fillRow_111 ⟨Nat.le_of_ble_eq_true rfl, Nat.le_of_ble_eq_true rfl⟩) hS (fun q _ h => hFc q h) hFc (fun r21 u t H20 locs ht hvm hw hB hz1 hk1 hS => ?_)
  obtain rfl : 1 = r21 := (show r21 = 1 from hw).symm
  obtain ⟨fz22, gz23, ⟨hP1, hK1, hD1, hz2⟩, hwfz22, hngz23⟩ := hB
  rw [ht] at hP1 hz2
  have hPD9 := va_join (wr := []) (w1 := [(mo, .inr (9, [.int 0, .ref al, md, rf, kn])), (al, .inr (4, [.int mc, .ref ed, .int 4])), (ed, .inl (cO, 10, .inr (.inr (.inr (.inr ee))))), (a0, .inr (8, [.int 4, .ref wa0, .ref na0])), (wa0, .inl (cI, 4, .inl fw0)), (na0, .inl (cI, 4, .inl fn0)), (a1, .inr (8, [.int 4, .ref wa1, .ref na1])), (wa1, .inl (cI, 4, .inl fw1)), (na1, .inl (cI, 4, .inl fn1)), (a2, .inr (8, [.int 4, .ref wa2, .ref na2])), (wa2, .inl (cI, 4, .inl fw2)), (na2, .inl (cI, 4, .inl fn2)), (a3, .inr (8, [.int 4, .ref wa3, .ref na3])), (wa3, .inl (cI, 4, .inl fz22)), (na3, .inl (cI, 4, .inl gz23)), (r14, .inl (cI, 4, .inl (upd (upd (upd (upd fo15 0 2) 1 2) 2 2) 3 2)))]) hP hD [10, 11, 12, 0, 1, 2, 3, 4, 5, 6, 7, 8, 13, 14, 9, 15] [] rfl rfl (by decide) (by decide) hk1 hFc hP1 hD1
  clear hPc hDc hFc hDv hpre hP hD hP1 hK1 hD1
  obtain ⟨hP, hD⟩ := hPD9
  replace hz : s.heap.size + 4 ≤ H20.size := by omega
  clear hz2
  replace hP : va_P (dC, dI) vwCl [(mo, .inr (9, [.int 0, .ref al, md, rf, kn])), (al, .inr (4, [.int mc, .ref ed, .int 4])), (ed, .inl (cO, 10, .inr (.inr (.inr (.inr ee))))), (a0, .inr (8, [.int 4, .ref wa0, .ref na0])), (wa0, .inl (cI, 4, .inl fw0)), (na0, .inl (cI, 4, .inl fn0)), (a1, .inr (8, [.int 4, .ref wa1, .ref na1])), (wa1, .inl (cI, 4, .inl fw1)), (na1, .inl (cI, 4, .inl fn1)), (a2, .inr (8, [.int 4, .ref wa2, .ref na2])), (wa2, .inl (cI, 4, .inl fw2)), (na2, .inl (cI, 4, .inl fn2)), (a3, .inr (8, [.int 4, .ref wa3, .ref na3])), (wa3, .inl (cI, 4, .inl fz22)), (na3, .inl (cI, 4, .inl gz23)), (r14, .inl (cI, 4, .inl (upd (upd (upd (upd fo15 0 2) 1 2) 2 2) 3 2)))] H20 := hP
  replace hD : va_D A [(mo, .inr (9, [.int 0, .ref al, md, rf, kn])), (al, .inr (4, [.int mc, .ref ed, .int 4])), (ed, .inl (cO, 10, .inr (.inr (.inr (.inr ee))))), (a0, .inr (8, [.int 4, .ref wa0, .ref na0])), (wa0, .inl (cI, 4, .inl fw0)), (na0, .inl (cI, 4, .inl fn0)), (a1, .inr (8, [.int 4, .ref wa1, .ref na1])), (wa1, .inl (cI, 4, .inl fw1)), (na1, .inl (cI, 4, .inl fn1)), (a2, .inr (8, [.int 4, .ref wa2, .ref na2])), (wa2, .inl (cI, 4, .inl fw2)), (na2, .inl (cI, 4, .inl fn2)), (a3, .inr (8, [.int 4, .ref wa3, .ref na3])), (wa3, .inl (cI, 4, .inl fz22)), (na3, .inl (cI, 4, .inl gz23)), (r14, .inl (cI, 4, .inl (upd (upd (upd (upd fo15 0 2) 1 2) 2 2) 3 2)))] := hD
  refine W.widen (k := 8) (n := 25) (by omega) (by omega) ?_
  refine lv_if_ne (tgt := 121) hx hb dX4_fillRow_114 (by decide) (fun c9 => ?_) (fun c9 => ?_)
  rotate_left
  · exact absurd c9 (by decide)
  refine lv_iconst (v := 0) hx hb dX4_fillRow_121 (by decide) ?_
  refine lv_iconst (v := 3) hx hb dX4_fillRow_122 (by decide) ?_
  have hPc := hP.sub (ws' := [(mo, .inr (9, [.int 0, .ref al, md, rf, kn]))]) [0] rfl
  have hDc := hD.sub (ws' := [(mo, .inr (9, [.int 0, .ref al, md, rf, kn]))]) [0] (by decide) rfl
  have hFc := va_free (wc := [(mo, .inr (9, [.int 0, .ref al, md, rf, kn]))]) hD hS hA [0] rfl
  have hDv := hDc.self (sz := H20.size)
  have hpre := zpre (xs' := []) (av := [.ref mo, .int 0, .int 3]) hPc hK (hDc.weaken (fun _ _ _ h => h)) hZ hS hFc (fun r hr => by cases hr)
  refine va_calli (va_runV (As := [.int 0, .int 3]) (rest := []) ⟨hx, hb, hml, hown, hts⟩ (k_ref l dC dI cI cB cR cO zk mo al md rf kn 3 H20.size ) (cwV 2 hts gX4_fillRow_X4_refuse rfl rfl rfl (by decide +kernel) ⟨Nat.le_of_ble_eq_true rfl, Nat.le_of_ble_eq_true rfl⟩) ⟨zblind, (zrecv_9 hK hPc (q0 := 0) rfl), hpre⟩ rfl rfl hl.1 rfl (lv_room (Nat.le_of_ble_eq_true rfl)) dX4_fillRow_123 ⟨Nat.le_of_ble_eq_true rfl, Nat.le_of_ble_eq_true rfl⟩) hS (fun q _ h => hFc q h) hFc (fun r25 u t H24 locs ht hvm hw hB hz1 hk1 hS => ?_)
  obtain rfl : 0 = r25 := (show r25 = 0 from hw).symm
  obtain ⟨hP1, hK1, hD1, hz2⟩ := hB
  rw [ht] at hP1 hz2
  have hPD9 := va_join (wr := [(al, .inr (4, [.int mc, .ref ed, .int 4])), (ed, .inl (cO, 10, .inr (.inr (.inr (.inr ee))))), (a0, .inr (8, [.int 4, .ref wa0, .ref na0])), (wa0, .inl (cI, 4, .inl fw0)), (na0, .inl (cI, 4, .inl fn0)), (a1, .inr (8, [.int 4, .ref wa1, .ref na1])), (wa1, .inl (cI, 4, .inl fw1)), (na1, .inl (cI, 4, .inl fn1)), (a2, .inr (8, [.int 4, .ref wa2, .ref na2])), (wa2, .inl (cI, 4, .inl fw2)), (na2, .inl (cI, 4, .inl fn2)), (a3, .inr (8, [.int 4, .ref wa3, .ref na3])), (wa3, .inl (cI, 4, .inl fz22)), (na3, .inl (cI, 4, .inl gz23)), (r14, .inl (cI, 4, .inl (upd (upd (upd (upd fo15 0 2) 1 2) 2 2) 3 2)))]) (w1 := [(mo, .inr (9, [.int 0, .ref al, md, rf, kn]))]) hP hD [0] [1, 2, 3, 4, 5, 6, 7, 8, 9, 10, 11, 12, 13, 14, 15] rfl rfl (by decide) (by decide) hk1 hFc hP1 hD1
  clear hPc hDc hFc hDv hpre hP hD hP1 hK1 hD1
  obtain ⟨hP, hD⟩ := hPD9
  replace hz : s.heap.size + 4 ≤ H24.size := by omega
  clear hz2
  replace hP : va_P (dC, dI) vwCl [(al, .inr (4, [.int mc, .ref ed, .int 4])), (ed, .inl (cO, 10, .inr (.inr (.inr (.inr ee))))), (a0, .inr (8, [.int 4, .ref wa0, .ref na0])), (wa0, .inl (cI, 4, .inl fw0)), (na0, .inl (cI, 4, .inl fn0)), (a1, .inr (8, [.int 4, .ref wa1, .ref na1])), (wa1, .inl (cI, 4, .inl fw1)), (na1, .inl (cI, 4, .inl fn1)), (a2, .inr (8, [.int 4, .ref wa2, .ref na2])), (wa2, .inl (cI, 4, .inl fw2)), (na2, .inl (cI, 4, .inl fn2)), (a3, .inr (8, [.int 4, .ref wa3, .ref na3])), (wa3, .inl (cI, 4, .inl fz22)), (na3, .inl (cI, 4, .inl gz23)), (r14, .inl (cI, 4, .inl (upd (upd (upd (upd fo15 0 2) 1 2) 2 2) 3 2))), (mo, .inr (9, [.int 0, .ref al, md, rf, kn]))] H24 := hP
  replace hD : va_D A [(al, .inr (4, [.int mc, .ref ed, .int 4])), (ed, .inl (cO, 10, .inr (.inr (.inr (.inr ee))))), (a0, .inr (8, [.int 4, .ref wa0, .ref na0])), (wa0, .inl (cI, 4, .inl fw0)), (na0, .inl (cI, 4, .inl fn0)), (a1, .inr (8, [.int 4, .ref wa1, .ref na1])), (wa1, .inl (cI, 4, .inl fw1)), (na1, .inl (cI, 4, .inl fn1)), (a2, .inr (8, [.int 4, .ref wa2, .ref na2])), (wa2, .inl (cI, 4, .inl fw2)), (na2, .inl (cI, 4, .inl fn2)), (a3, .inr (8, [.int 4, .ref wa3, .ref na3])), (wa3, .inl (cI, 4, .inl fz22)), (na3, .inl (cI, 4, .inl gz23)), (r14, .inl (cI, 4, .inl (upd (upd (upd (upd fo15 0 2) 1 2) 2 2) 3 2))), (mo, .inr (9, [.int 0, .ref al, md, rf, kn]))] := hD
  refine W.widen (k := 8) (n := 25) (by omega) (by omega) ?_
  refine lv_if_eq (tgt := 133) hx hb dX4_fillRow_126 (by decide) (fun c9 => ?_) (fun c9 => ?_)
  rotate_left
  · exact absurd (by decide) c9
  refine lv_aload_n hx hb dX4_fillRow_133 rfl (lv_at hl 2 rfl) ?_
  refine lv_iload_n hx hb dX4_fillRow_134 rfl (lv_at hl 3 rfl) ?_
  have hPc := hP.sub (ws' := [(mo, .inr (9, [.int 0, .ref al, md, rf, kn])), (al, .inr (4, [.int mc, .ref ed, .int 4])), (ed, .inl (cO, 10, .inr (.inr (.inr (.inr ee))))), (a0, .inr (8, [.int 4, .ref wa0, .ref na0])), (wa0, .inl (cI, 4, .inl fw0)), (na0, .inl (cI, 4, .inl fn0)), (a1, .inr (8, [.int 4, .ref wa1, .ref na1])), (wa1, .inl (cI, 4, .inl fw1)), (na1, .inl (cI, 4, .inl fn1)), (a2, .inr (8, [.int 4, .ref wa2, .ref na2])), (wa2, .inl (cI, 4, .inl fw2)), (na2, .inl (cI, 4, .inl fn2)), (a3, .inr (8, [.int 4, .ref wa3, .ref na3])), (wa3, .inl (cI, 4, .inl fz22)), (na3, .inl (cI, 4, .inl gz23))]) [15, 0, 1, 2, 3, 4, 5, 6, 7, 8, 9, 10, 11, 12, 13] rfl
  have hDc := hD.sub (ws' := [(mo, .inr (9, [.int 0, .ref al, md, rf, kn])), (al, .inr (4, [.int mc, .ref ed, .int 4])), (ed, .inl (cO, 10, .inr (.inr (.inr (.inr ee))))), (a0, .inr (8, [.int 4, .ref wa0, .ref na0])), (wa0, .inl (cI, 4, .inl fw0)), (na0, .inl (cI, 4, .inl fn0)), (a1, .inr (8, [.int 4, .ref wa1, .ref na1])), (wa1, .inl (cI, 4, .inl fw1)), (na1, .inl (cI, 4, .inl fn1)), (a2, .inr (8, [.int 4, .ref wa2, .ref na2])), (wa2, .inl (cI, 4, .inl fw2)), (na2, .inl (cI, 4, .inl fn2)), (a3, .inr (8, [.int 4, .ref wa3, .ref na3])), (wa3, .inl (cI, 4, .inl fz22)), (na3, .inl (cI, 4, .inl gz23))]) [15, 0, 1, 2, 3, 4, 5, 6, 7, 8, 9, 10, 11, 12, 13] (by decide) rfl
  have hFc := va_free (wc := [(mo, .inr (9, [.int 0, .ref al, md, rf, kn])), (al, .inr (4, [.int mc, .ref ed, .int 4])), (ed, .inl (cO, 10, .inr (.inr (.inr (.inr ee))))), (a0, .inr (8, [.int 4, .ref wa0, .ref na0])), (wa0, .inl (cI, 4, .inl fw0)), (na0, .inl (cI, 4, .inl fn0)), (a1, .inr (8, [.int 4, .ref wa1, .ref na1])), (wa1, .inl (cI, 4, .inl fw1)), (na1, .inl (cI, 4, .inl fn1)), (a2, .inr (8, [.int 4, .ref wa2, .ref na2])), (wa2, .inl (cI, 4, .inl fw2)), (na2, .inl (cI, 4, .inl fn2)), (a3, .inr (8, [.int 4, .ref wa3, .ref na3])), (wa3, .inl (cI, 4, .inl fz22)), (na3, .inl (cI, 4, .inl gz23))]) hD hS hA [15, 0, 1, 2, 3, 4, 5, 6, 7, 8, 9, 10, 11, 12, 13] rfl
  have hDv := hDc.self (sz := H24.size)
  have hpre := zpre (xs' := []) (av := [.ref mo, .int 3]) hPc hK (hDc.weaken (fun _ _ _ h => h)) hZ hS hFc (fun r hr => by cases hr)
  refine va_calli (va_runV (As := [.int 3]) (rest := []) ⟨hx, hb, hml, hown, hts⟩ (k_dO3 l dC dI cI cB cR cO zk mo al ed 4 ee (.int 0) md rf kn (.int mc) a0 wa0 na0 a1 wa1 na1 a2 wa2 na2 a3 wa3 na3 fw0 fn0 fw1 fn1 fw2 fn2 fz22 gz23 H24.size (by decide) (by decide) hw0 hn0 he0 hw1 hn1 he1 hw2 hn2 he2 hwfz22 hngz23 he3) (cwV 1 hts gX4_fillRow_X4_depthOf rfl rfl rfl (by decide +kernel) ⟨Nat.le_of_ble_eq_true rfl, Nat.le_of_ble_eq_true rfl⟩) ⟨zblind, (zrecv_9 hK hPc (q0 := 0) rfl), hpre⟩ rfl rfl hl.1 rfl (lv_room (Nat.le_of_ble_eq_true rfl)) dX4_fillRow_135 ⟨Nat.le_of_ble_eq_true rfl, Nat.le_of_ble_eq_true rfl⟩) hS (fun q _ h => hFc q h) hFc (fun r27 u t H26 locs ht hvm hw hB hz1 hk1 hS => ?_)
  obtain rfl : 4 = r27 := (show r27 = 4 from hw).symm
  obtain ⟨hP1, hK1, hD1, hz2⟩ := hB
  rw [ht] at hP1 hz2
  have hPD9 := va_join (wr := [(r14, .inl (cI, 4, .inl (upd (upd (upd (upd fo15 0 2) 1 2) 2 2) 3 2)))]) (w1 := [(mo, .inr (9, [.int 0, .ref al, md, rf, kn])), (al, .inr (4, [.int mc, .ref ed, .int 4])), (ed, .inl (cO, 10, .inr (.inr (.inr (.inr ee))))), (a0, .inr (8, [.int 4, .ref wa0, .ref na0])), (wa0, .inl (cI, 4, .inl fw0)), (na0, .inl (cI, 4, .inl fn0)), (a1, .inr (8, [.int 4, .ref wa1, .ref na1])), (wa1, .inl (cI, 4, .inl fw1)), (na1, .inl (cI, 4, .inl fn1)), (a2, .inr (8, [.int 4, .ref wa2, .ref na2])), (wa2, .inl (cI, 4, .inl fw2)), (na2, .inl (cI, 4, .inl fn2)), (a3, .inr (8, [.int 4, .ref wa3, .ref na3])), (wa3, .inl (cI, 4, .inl fz22)), (na3, .inl (cI, 4, .inl gz23))]) hP hD [15, 0, 1, 2, 3, 4, 5, 6, 7, 8, 9, 10, 11, 12, 13] [14] rfl rfl (by decide) (by decide) hk1 hFc hP1 hD1
  clear hPc hDc hFc hDv hpre hP hD hP1 hK1 hD1
  obtain ⟨hP, hD⟩ := hPD9
  replace hz : s.heap.size + 5 ≤ H26.size := by omega
  clear hz2
  replace hP : va_P (dC, dI) vwCl [(r14, .inl (cI, 4, .inl (upd (upd (upd (upd fo15 0 2) 1 2) 2 2) 3 2))), (mo, .inr (9, [.int 0, .ref al, md, rf, kn])), (al, .inr (4, [.int mc, .ref ed, .int 4])), (ed, .inl (cO, 10, .inr (.inr (.inr (.inr ee))))), (a0, .inr (8, [.int 4, .ref wa0, .ref na0])), (wa0, .inl (cI, 4, .inl fw0)), (na0, .inl (cI, 4, .inl fn0)), (a1, .inr (8, [.int 4, .ref wa1, .ref na1])), (wa1, .inl (cI, 4, .inl fw1)), (na1, .inl (cI, 4, .inl fn1)), (a2, .inr (8, [.int 4, .ref wa2, .ref na2])), (wa2, .inl (cI, 4, .inl fw2)), (na2, .inl (cI, 4, .inl fn2)), (a3, .inr (8, [.int 4, .ref wa3, .ref na3])), (wa3, .inl (cI, 4, .inl fz22)), (na3, .inl (cI, 4, .inl gz23))] H26 := hP
  replace hD : va_D A [(r14, .inl (cI, 4, .inl (upd (upd (upd (upd fo15 0 2) 1 2) 2 2) 3 2))), (mo, .inr (9, [.int 0, .ref al, md, rf, kn])), (al, .inr (4, [.int mc, .ref ed, .int 4])), (ed, .inl (cO, 10, .inr (.inr (.inr (.inr ee))))), (a0, .inr (8, [.int 4, .ref wa0, .ref na0])), (wa0, .inl (cI, 4, .inl fw0)), (na0, .inl (cI, 4, .inl fn0)), (a1, .inr (8, [.int 4, .ref wa1, .ref na1])), (wa1, .inl (cI, 4, .inl fw1)), (na1, .inl (cI, 4, .inl fn1)), (a2, .inr (8, [.int 4, .ref wa2, .ref na2])), (wa2, .inl (cI, 4, .inl fw2)), (na2, .inl (cI, 4, .inl fn2)), (a3, .inr (8, [.int 4, .ref wa3, .ref na3])), (wa3, .inl (cI, 4, .inl fz22)), (na3, .inl (cI, 4, .inl gz23))] := hD
  refine W.widen (k := 9) (n := 29) (by omega) (by omega) ?_
  have hP9 := hP.sub (ws' := [(mo, .inr (9, [.int 0, .ref al, md, rf, kn])), (al, .inr (4, [.int mc, .ref ed, .int 4])), (ed, .inl (cO, 10, .inr (.inr (.inr (.inr ee))))), (a0, .inr (8, [.int 4, .ref wa0, .ref na0])), (wa0, .inl (cI, 4, .inl fw0)), (na0, .inl (cI, 4, .inl fn0)), (a1, .inr (8, [.int 4, .ref wa1, .ref na1])), (wa1, .inl (cI, 4, .inl fw1)), (na1, .inl (cI, 4, .inl fn1)), (a2, .inr (8, [.int 4, .ref wa2, .ref na2])), (wa2, .inl (cI, 4, .inl fw2)), (na2, .inl (cI, 4, .inl fn2)), (a3, .inr (8, [.int 4, .ref wa3, .ref na3])), (wa3, .inl (cI, 4, .inl fz22)), (na3, .inl (cI, 4, .inl gz23))]) [1, 2, 3, 4, 5, 6, 7, 8, 9, 10, 11, 12, 13, 14, 15] rfl
  have hD9 := hD.sub (ws' := [(mo, .inr (9, [.int 0, .ref al, md, rf, kn])), (al, .inr (4, [.int mc, .ref ed, .int 4])), (ed, .inl (cO, 10, .inr (.inr (.inr (.inr ee))))), (a0, .inr (8, [.int 4, .ref wa0, .ref na0])), (wa0, .inl (cI, 4, .inl fw0)), (na0, .inl (cI, 4, .inl fn0)), (a1, .inr (8, [.int 4, .ref wa1, .ref na1])), (wa1, .inl (cI, 4, .inl fw1)), (na1, .inl (cI, 4, .inl fn1)), (a2, .inr (8, [.int 4, .ref wa2, .ref na2])), (wa2, .inl (cI, 4, .inl fw2)), (na2, .inl (cI, 4, .inl fn2)), (a3, .inr (8, [.int 4, .ref wa3, .ref na3])), (wa3, .inl (cI, 4, .inl fz22)), (na3, .inl (cI, 4, .inl gz23))]) [1, 2, 3, 4, 5, 6, 7, 8, 9, 10, 11, 12, 13, 14, 15] (by decide) rfl
  exact W.iret (v := 4) hx hb hr (fun t ht hW => ⟨⟨_, (), rfl, rfl, ⟨_, _, ⟨by rw [ht]; exact hP9, va_K.moved hW.alike hK, hD9, by rw [ht]; exact hz⟩, hwfz22, hngz23⟩⟩, hS.F ht⟩) hS.2.2 dX4_fillRow_138

set_option maxHeartbeats 4000000 in
set_option maxRecDepth 100000 in
theorem k_txM (l : Launch) (dC : Nat → ClassId) (dI : Nat → Nat → Nat) (cI cB cR cO : ClassId) (zk : Nat → Nat) (mo al : Nat) (th md rf kn : Value) (ed : Nat) (ee : Nat → Option Nat) (mc : Int32) (a0 wa0 na0 a1 wa1 na1 a2 wa2 na2 a3 wa3 na3 : Nat) (fw0 fn0 fw1 fn1 fw2 fn2 fw3 fn3 : Nat → Int32) (sz : Nat) (hw0 : ∀ i, i < 4 → fw0 i = 0) (hn0 : ∀ i, i < 4 → fn0 i = (-1)) (he0 : ee 0 = some a0) (hw1 : ∀ i, i < 4 → fw1 i = 3) (hn1 : ∀ i, i < 4 → fn1 i = 0) (he1 : ee 1 = some a1) (hw2 : ∀ i, i < 4 → fw2 i = 3) (hn2 : ∀ i, i < 4 → fn2 i = 1) (he2 : ee 2 = some a2) (hw3 : ∀ i, i < 4 → fw3 i = 3) (hn3 : ∀ i, i < 4 → fn3 i = 2) (he3 : ee 3 = some a3) : Met l yX4_text wsX4_text ({ frames := 13, cells := 2081, slots := 52832216, locals := 376 }) (va_Pc [.ref mo, .int 3] (zPre (dC, dI) (zT cI cB cR cO) zk [] [(mo, .inr (9, [th, .ref al, md, rf, kn])), (al, .inr (4, [.int mc, .ref ed, .int 4])), (ed, .inl (cO, 10, .inr (.inr (.inr (.inr ee))))), (a0, .inr (8, [.int 4, .ref wa0, .ref na0])), (wa0, .inl (cI, 4, .inl fw0)), (na0, .inl (cI, 4, .inl fn0)), (a1, .inr (8, [.int 4, .ref wa1, .ref na1])), (wa1, .inl (cI, 4, .inl fw1)), (na1, .inl (cI, 4, .inl fn1)), (a2, .inr (8, [.int 4, .ref wa2, .ref na2])), (wa2, .inl (cI, 4, .inl fw2)), (na2, .inl (cI, 4, .inl fn2)), (a3, .inr (8, [.int 4, .ref wa3, .ref na3])), (wa3, .inl (cI, 4, .inl fw3)), (na3, .inl (cI, 4, .inl fn3))] sz)) (va_Qr (fun _ : Unit => True) (fun _ ra t => zEnd (dC, dI) (zT cI cB cR cO) (va_A [(mo, .inr (9, [th, .ref al, md, rf, kn])), (al, .inr (4, [.int mc, .ref ed, .int 4])), (ed, .inl (cO, 10, .inr (.inr (.inr (.inr ee))))), (a0, .inr (8, [.int 4, .ref wa0, .ref na0])), (wa0, .inl (cI, 4, .inl fw0)), (na0, .inl (cI, 4, .inl fn0)), (a1, .inr (8, [.int 4, .ref wa1, .ref na1])), (wa1, .inl (cI, 4, .inl fw1)), (na1, .inl (cI, 4, .inl fn1)), (a2, .inr (8, [.int 4, .ref wa2, .ref na2])), (wa2, .inl (cI, 4, .inl fw2)), (na2, .inl (cI, 4, .inl fn2)), (a3, .inr (8, [.int 4, .ref wa3, .ref na3])), (wa3, .inl (cI, 4, .inl fw3)), (na3, .inl (cI, 4, .inl fn3))] sz) [(mo, .inr (9, [.int 0, .ref al, md, rf, kn])), (al, .inr (4, [.int mc, .ref ed, .int 4])), (ed, .inl (cO, 10, .inr (.inr (.inr (.inr ee))))), (a0, .inr (8, [.int 4, .ref wa0, .ref na0])), (wa0, .inl (cI, 4, .inl fw0)), (na0, .inl (cI, 4, .inl fn0)), (a1, .inr (8, [.int 4, .ref wa1, .ref na1])), (wa1, .inl (cI, 4, .inl fw1)), (na1, .inl (cI, 4, .inl fn1)), (a2, .inr (8, [.int 4, .ref wa2, .ref na2])), (wa2, .inl (cI, 4, .inl fw2)), (na2, .inl (cI, 4, .inl fn2)), (a3, .inr (8, [.int 4, .ref wa3, .ref na3])), (wa3, .inl (cI, 4, .inl fw3)), (na3, .inl (cI, 4, .inl fn3))] sz 1700 t) (va_A [(mo, .inr (9, [th, .ref al, md, rf, kn])), (al, .inr (4, [.int mc, .ref ed, .int 4])), (ed, .inl (cO, 10, .inr (.inr (.inr (.inr ee))))), (a0, .inr (8, [.int 4, .ref wa0, .ref na0])), (wa0, .inl (cI, 4, .inl fw0)), (na0, .inl (cI, 4, .inl fn0)), (a1, .inr (8, [.int 4, .ref wa1, .ref na1])), (wa1, .inl (cI, 4, .inl fw1)), (na1, .inl (cI, 4, .inl fn1)), (a2, .inr (8, [.int 4, .ref wa2, .ref na2])), (wa2, .inl (cI, 4, .inl fw2)), (na2, .inl (cI, 4, .inl fn2)), (a3, .inr (8, [.int 4, .ref wa3, .ref na3])), (wa3, .inl (cI, 4, .inl fw3)), (na3, .inl (cI, 4, .inl fn3))] sz)) 2081 52832216 (va_A [(mo, .inr (9, [th, .ref al, md, rf, kn])), (al, .inr (4, [.int mc, .ref ed, .int 4])), (ed, .inl (cO, 10, .inr (.inr (.inr (.inr ee))))), (a0, .inr (8, [.int 4, .ref wa0, .ref na0])), (wa0, .inl (cI, 4, .inl fw0)), (na0, .inl (cI, 4, .inl fn0)), (a1, .inr (8, [.int 4, .ref wa1, .ref na1])), (wa1, .inl (cI, 4, .inl fw1)), (na1, .inl (cI, 4, .inl fn1)), (a2, .inr (8, [.int 4, .ref wa2, .ref na2])), (wa2, .inl (cI, 4, .inl fw2)), (na2, .inl (cI, 4, .inl fn2)), (a3, .inr (8, [.int 4, .ref wa3, .ref na3])), (wa3, .inl (cI, 4, .inl fw3)), (na3, .inl (cI, 4, .inl fn3))] sz) := by
  refine Met.ofW (cc := cX4_text) (maxL := 2) (ret := (some (.object "java/lang/String"))) (by decide) rfl ?_
  intro p e s mY args below meth c s₁ B hml hv
  obtain ⟨rfl, hsz, hP, hK, hD0, hZ⟩ := hv
  have hx := B.exec
  have hb := B.bytes
  have hr := B.returns
  have hts := atoms_spec (ws := wsX4_text) B.pre
  have hown : s.vm.findClass RX4 = some mY.cls := findClass_of_methodNamed B.named
  have hlocks := B.notSynchronized
  subst hsz
  have hD := hD0.self (sz := s.heap.size)
  generalize hAe : va_A [(mo, .inr (9, [th, .ref al, md, rf, kn])), (al, .inr (4, [.int mc, .ref ed, .int 4])), (ed, .inl (cO, 10, .inr (.inr (.inr (.inr ee))))), (a0, .inr (8, [.int 4, .ref wa0, .ref na0])), (wa0, .inl (cI, 4, .inl fw0)), (na0, .inl (cI, 4, .inl fn0)), (a1, .inr (8, [.int 4, .ref wa1, .ref na1])), (wa1, .inl (cI, 4, .inl fw1)), (na1, .inl (cI, 4, .inl fn1)), (a2, .inr (8, [.int 4, .ref wa2, .ref na2])), (wa2, .inl (cI, 4, .inl fw2)), (na2, .inl (cI, 4, .inl fn2)), (a3, .inr (8, [.int 4, .ref wa3, .ref na3])), (wa3, .inl (cI, 4, .inl fw3)), (na3, .inl (cI, 4, .inl fn3))] s.heap.size = A at hD hZ ⊢
  have hA : ∀ q : Nat, s.heap.size ≤ q → A q := fun q h => by rw [← hAe]; exact Or.inr h
  have hS : va_S A s.heap s.heap [] := va_S.rf
  have hz : s.heap.size + 0 ≤ s.heap.size := Nat.le_refl _
  have hl := lv_entry ([.ref mo, .int 3]) (n := 2) (Nat.le_of_ble_eq_true rfl)
  rw [lg_entry_eq]
  generalize (lg_sl ([.ref mo, .int 3]) ++ List.replicate (2 - (lg_sl ([.ref mo, .int 3])).length) Slot.unset).toArray = ls at hl ⊢
  have hl : lv_has ls 2 [(0, .ref mo), (1, .int 3)] := hl
  have hP : va_P (dC, dI) vwCl [(mo, .inr (9, [th, .ref al, md, rf, kn])), (al, .inr (4, [.int mc, .ref ed, .int 4])), (ed, .inl (cO, 10, .inr (.inr (.inr (.inr ee))))), (a0, .inr (8, [.int 4, .ref wa0, .ref na0])), (wa0, .inl (cI, 4, .inl fw0)), (na0, .inl (cI, 4, .inl fn0)), (a1, .inr (8, [.int 4, .ref wa1, .ref na1])), (wa1, .inl (cI, 4, .inl fw1)), (na1, .inl (cI, 4, .inl fn1)), (a2, .inr (8, [.int 4, .ref wa2, .ref na2])), (wa2, .inl (cI, 4, .inl fw2)), (na2, .inl (cI, 4, .inl fn2)), (a3, .inr (8, [.int 4, .ref wa3, .ref na3])), (wa3, .inl (cI, 4, .inl fw3)), (na3, .inl (cI, 4, .inl fn3))] s.heap := hP
  have hD : va_D A [(mo, .inr (9, [th, .ref al, md, rf, kn])), (al, .inr (4, [.int mc, .ref ed, .int 4])), (ed, .inl (cO, 10, .inr (.inr (.inr (.inr ee))))), (a0, .inr (8, [.int 4, .ref wa0, .ref na0])), (wa0, .inl (cI, 4, .inl fw0)), (na0, .inl (cI, 4, .inl fn0)), (a1, .inr (8, [.int 4, .ref wa1, .ref na1])), (wa1, .inl (cI, 4, .inl fw1)), (na1, .inl (cI, 4, .inl fn1)), (a2, .inr (8, [.int 4, .ref wa2, .ref na2])), (wa2, .inl (cI, 4, .inl fw2)), (na2, .inl (cI, 4, .inl fn2)), (a3, .inr (8, [.int 4, .ref wa3, .ref na3])), (wa3, .inl (cI, 4, .inl fw3)), (na3, .inl (cI, 4, .inl fn3))] := hD
  refine lv_aload_n hx hb dX4_text_0 rfl (lv_at hl 0 rfl) ?_
  refine lv_aload_n hx hb dX4_text_1 rfl (lv_at hl 0 rfl) ?_
  refine lv_iload_n hx hb dX4_text_2 rfl (lv_at hl 1 rfl) ?_
  have hPc := hP.sub (ws' := [(mo, .inr (9, [th, .ref al, md, rf, kn])), (al, .inr (4, [.int mc, .ref ed, .int 4]))]) [0, 1] rfl
  have hDc := hD.sub (ws' := [(mo, .inr (9, [th, .ref al, md, rf, kn])), (al, .inr (4, [.int mc, .ref ed, .int 4]))]) [0, 1] (by decide) rfl
  have hFc := va_free (wc := [(mo, .inr (9, [th, .ref al, md, rf, kn])), (al, .inr (4, [.int mc, .ref ed, .int 4]))]) hD hS hA [0, 1] rfl
  have hDv := hDc.self (sz := s.heap.size)
  have hpre := zpre (xs' := []) (av := [.ref mo, .int 3]) hPc hK (hDc.weaken (fun _ _ _ h => h)) hZ hS hFc (fun r hr => by cases hr)
  refine va_calli (va_runV (As := [.int 3]) (rest := [.ref mo]) ⟨hx, hb, hml, hown, hts⟩ (k_nR3_4 l dC dI cI cB cR cO zk mo al th md rf kn ed ee mc s.heap.size ) (cwV 1 hts gX4_text_X4_isNoRow rfl rfl rfl (by decide +kernel) ⟨Nat.le_of_ble_eq_true rfl, Nat.le_of_ble_eq_true rfl⟩) ⟨zblind, (zrecv_9 hK hPc (q0 := 0) rfl), hpre⟩ rfl rfl hl.1 rfl (lv_room (Nat.le_of_ble_eq_true rfl)) dX4_text_3 ⟨Nat.le_of_ble_eq_true rfl, Nat.le_of_ble_eq_true rfl⟩) hS (fun q _ h => hFc q h) hFc (fun r2 u t H1 locs ht hvm hw hB hz1 hk1 hS => ?_)
  obtain rfl : 0 = r2 := (show r2 = 0 from hw).symm
  obtain ⟨hP1, hK1, hD1, hz2⟩ := hB
  rw [ht] at hP1 hz2
  have hPD9 := va_join (wr := [(ed, .inl (cO, 10, .inr (.inr (.inr (.inr ee))))), (a0, .inr (8, [.int 4, .ref wa0, .ref na0])), (wa0, .inl (cI, 4, .inl fw0)), (na0, .inl (cI, 4, .inl fn0)), (a1, .inr (8, [.int 4, .ref wa1, .ref na1])), (wa1, .inl (cI, 4, .inl fw1)), (na1, .inl (cI, 4, .inl fn1)), (a2, .inr (8, [.int 4, .ref wa2, .ref na2])), (wa2, .inl (cI, 4, .inl fw2)), (na2, .inl (cI, 4, .inl fn2)), (a3, .inr (8, [.int 4, .ref wa3, .ref na3])), (wa3, .inl (cI, 4, .inl fw3)), (na3, .inl (cI, 4, .inl fn3))]) (w1 := [(mo, .inr (9, [th, .ref al, md, rf, kn])), (al, .inr (4, [.int mc, .ref ed, .int 4]))]) hP hD [0, 1] [2, 3, 4, 5, 6, 7, 8, 9, 10, 11, 12, 13, 14] rfl rfl (by decide) (by decide) hk1 hFc hP1 hD1
  clear hPc hDc hFc hDv hpre hP hD hP1 hK1 hD1
  obtain ⟨hP, hD⟩ := hPD9
  replace hz : s.heap.size + 0 ≤ H1.size := by omega
  clear hz2
  replace hP : va_P (dC, dI) vwCl [(ed, .inl (cO, 10, .inr (.inr (.inr (.inr ee))))), (a0, .inr (8, [.int 4, .ref wa0, .ref na0])), (wa0, .inl (cI, 4, .inl fw0)), (na0, .inl (cI, 4, .inl fn0)), (a1, .inr (8, [.int 4, .ref wa1, .ref na1])), (wa1, .inl (cI, 4, .inl fw1)), (na1, .inl (cI, 4, .inl fn1)), (a2, .inr (8, [.int 4, .ref wa2, .ref na2])), (wa2, .inl (cI, 4, .inl fw2)), (na2, .inl (cI, 4, .inl fn2)), (a3, .inr (8, [.int 4, .ref wa3, .ref na3])), (wa3, .inl (cI, 4, .inl fw3)), (na3, .inl (cI, 4, .inl fn3)), (mo, .inr (9, [th, .ref al, md, rf, kn])), (al, .inr (4, [.int mc, .ref ed, .int 4]))] H1 := hP
  replace hD : va_D A [(ed, .inl (cO, 10, .inr (.inr (.inr (.inr ee))))), (a0, .inr (8, [.int 4, .ref wa0, .ref na0])), (wa0, .inl (cI, 4, .inl fw0)), (na0, .inl (cI, 4, .inl fn0)), (a1, .inr (8, [.int 4, .ref wa1, .ref na1])), (wa1, .inl (cI, 4, .inl fw1)), (na1, .inl (cI, 4, .inl fn1)), (a2, .inr (8, [.int 4, .ref wa2, .ref na2])), (wa2, .inl (cI, 4, .inl fw2)), (na2, .inl (cI, 4, .inl fn2)), (a3, .inr (8, [.int 4, .ref wa3, .ref na3])), (wa3, .inl (cI, 4, .inl fw3)), (na3, .inl (cI, 4, .inl fn3)), (mo, .inr (9, [th, .ref al, md, rf, kn])), (al, .inr (4, [.int mc, .ref ed, .int 4]))] := hD
  refine W.widen (k := 0) (n := 0) (by omega) (by omega) ?_
  refine lv_iconst (v := 1) hx hb dX4_text_6 (by decide) ?_
  have hPc := hP.sub (ws' := [(mo, .inr (9, [th, .ref al, md, rf, kn]))]) [13] rfl
  have hDc := hD.sub (ws' := [(mo, .inr (9, [th, .ref al, md, rf, kn]))]) [13] (by decide) rfl
  have hFc := va_free (wc := [(mo, .inr (9, [th, .ref al, md, rf, kn]))]) hD hS hA [13] rfl
  have hDv := hDc.self (sz := H1.size)
  have hpre := zpre (xs' := []) (av := [.ref mo, .int 0, .int 1]) hPc hK (hDc.weaken (fun _ _ _ h => h)) hZ hS hFc (fun r hr => by cases hr)
  refine va_calli (va_runV (As := [.int 0, .int 1]) (rest := []) ⟨hx, hb, hml, hown, hts⟩ (k_stt l dC dI cI cB cR cO zk mo al th md rf kn 1 H1.size ) (cwV 2 hts gX4_text_X4_start rfl rfl rfl (by decide +kernel) ⟨Nat.le_of_ble_eq_true rfl, Nat.le_of_ble_eq_true rfl⟩) ⟨zblind, (zrecv_9 hK hPc (q0 := 0) rfl), hpre⟩ rfl rfl hl.1 rfl (lv_room (Nat.le_of_ble_eq_true rfl)) dX4_text_7 ⟨Nat.le_of_ble_eq_true rfl, Nat.le_of_ble_eq_true rfl⟩) hS (fun q _ h => hFc q h) hFc (fun r4 u t H3 locs ht hvm hw hB hz1 hk1 hS => ?_)
  obtain rfl : 0 = r4 := (show r4 = 0 from hw).symm
  obtain ⟨hP1, hK1, hD1, hz2⟩ := hB
  rw [ht] at hP1 hz2
  have hPD9 := va_join (wr := [(ed, .inl (cO, 10, .inr (.inr (.inr (.inr ee))))), (a0, .inr (8, [.int 4, .ref wa0, .ref na0])), (wa0, .inl (cI, 4, .inl fw0)), (na0, .inl (cI, 4, .inl fn0)), (a1, .inr (8, [.int 4, .ref wa1, .ref na1])), (wa1, .inl (cI, 4, .inl fw1)), (na1, .inl (cI, 4, .inl fn1)), (a2, .inr (8, [.int 4, .ref wa2, .ref na2])), (wa2, .inl (cI, 4, .inl fw2)), (na2, .inl (cI, 4, .inl fn2)), (a3, .inr (8, [.int 4, .ref wa3, .ref na3])), (wa3, .inl (cI, 4, .inl fw3)), (na3, .inl (cI, 4, .inl fn3)), (al, .inr (4, [.int mc, .ref ed, .int 4]))]) (w1 := [(mo, .inr (9, [.int 0, .ref al, md, rf, kn]))]) hP hD [13] [0, 1, 2, 3, 4, 5, 6, 7, 8, 9, 10, 11, 12, 14] rfl rfl (by decide) (by decide) hk1 hFc hP1 hD1
  clear hPc hDc hFc hDv hpre hP hD hP1 hK1 hD1
  obtain ⟨hP, hD⟩ := hPD9
  replace hz : s.heap.size + 0 ≤ H3.size := by omega
  clear hz2
  replace hP : va_P (dC, dI) vwCl [(ed, .inl (cO, 10, .inr (.inr (.inr (.inr ee))))), (a0, .inr (8, [.int 4, .ref wa0, .ref na0])), (wa0, .inl (cI, 4, .inl fw0)), (na0, .inl (cI, 4, .inl fn0)), (a1, .inr (8, [.int 4, .ref wa1, .ref na1])), (wa1, .inl (cI, 4, .inl fw1)), (na1, .inl (cI, 4, .inl fn1)), (a2, .inr (8, [.int 4, .ref wa2, .ref na2])), (wa2, .inl (cI, 4, .inl fw2)), (na2, .inl (cI, 4, .inl fn2)), (a3, .inr (8, [.int 4, .ref wa3, .ref na3])), (wa3, .inl (cI, 4, .inl fw3)), (na3, .inl (cI, 4, .inl fn3)), (al, .inr (4, [.int mc, .ref ed, .int 4])), (mo, .inr (9, [.int 0, .ref al, md, rf, kn]))] H3 := hP
  replace hD : va_D A [(ed, .inl (cO, 10, .inr (.inr (.inr (.inr ee))))), (a0, .inr (8, [.int 4, .ref wa0, .ref na0])), (wa0, .inl (cI, 4, .inl fw0)), (na0, .inl (cI, 4, .inl fn0)), (a1, .inr (8, [.int 4, .ref wa1, .ref na1])), (wa1, .inl (cI, 4, .inl fw1)), (na1, .inl (cI, 4, .inl fn1)), (a2, .inr (8, [.int 4, .ref wa2, .ref na2])), (wa2, .inl (cI, 4, .inl fw2)), (na2, .inl (cI, 4, .inl fn2)), (a3, .inr (8, [.int 4, .ref wa3, .ref na3])), (wa3, .inl (cI, 4, .inl fw3)), (na3, .inl (cI, 4, .inl fn3)), (al, .inr (4, [.int mc, .ref ed, .int 4])), (mo, .inr (9, [.int 0, .ref al, md, rf, kn]))] := hD
  refine W.widen (k := 0) (n := 0) (by omega) (by omega) ?_
  refine lv_if_eq (tgt := 18) hx hb dX4_text_10 (by decide) (fun c9 => ?_) (fun c9 => ?_)
  rotate_left
  · exact absurd (by decide) c9
  refine lv_aload_n hx hb dX4_text_18 rfl (lv_at hl 0 rfl) ?_
  refine lv_iload_n hx hb dX4_text_19 rfl (lv_at hl 1 rfl) ?_
  have hPc := hP.sub (ws' := [(mo, .inr (9, [.int 0, .ref al, md, rf, kn])), (al, .inr (4, [.int mc, .ref ed, .int 4])), (ed, .inl (cO, 10, .inr (.inr (.inr (.inr ee))))), (a0, .inr (8, [.int 4, .ref wa0, .ref na0])), (wa0, .inl (cI, 4, .inl fw0)), (na0, .inl (cI, 4, .inl fn0)), (a1, .inr (8, [.int 4, .ref wa1, .ref na1])), (wa1, .inl (cI, 4, .inl fw1)), (na1, .inl (cI, 4, .inl fn1)), (a2, .inr (8, [.int 4, .ref wa2, .ref na2])), (wa2, .inl (cI, 4, .inl fw2)), (na2, .inl (cI, 4, .inl fn2)), (a3, .inr (8, [.int 4, .ref wa3, .ref na3])), (wa3, .inl (cI, 4, .inl fw3)), (na3, .inl (cI, 4, .inl fn3))]) [14, 13, 0, 1, 2, 3, 4, 5, 6, 7, 8, 9, 10, 11, 12] rfl
  have hDc := hD.sub (ws' := [(mo, .inr (9, [.int 0, .ref al, md, rf, kn])), (al, .inr (4, [.int mc, .ref ed, .int 4])), (ed, .inl (cO, 10, .inr (.inr (.inr (.inr ee))))), (a0, .inr (8, [.int 4, .ref wa0, .ref na0])), (wa0, .inl (cI, 4, .inl fw0)), (na0, .inl (cI, 4, .inl fn0)), (a1, .inr (8, [.int 4, .ref wa1, .ref na1])), (wa1, .inl (cI, 4, .inl fw1)), (na1, .inl (cI, 4, .inl fn1)), (a2, .inr (8, [.int 4, .ref wa2, .ref na2])), (wa2, .inl (cI, 4, .inl fw2)), (na2, .inl (cI, 4, .inl fn2)), (a3, .inr (8, [.int 4, .ref wa3, .ref na3])), (wa3, .inl (cI, 4, .inl fw3)), (na3, .inl (cI, 4, .inl fn3))]) [14, 13, 0, 1, 2, 3, 4, 5, 6, 7, 8, 9, 10, 11, 12] (by decide) rfl
  have hFc := va_free (wc := [(mo, .inr (9, [.int 0, .ref al, md, rf, kn])), (al, .inr (4, [.int mc, .ref ed, .int 4])), (ed, .inl (cO, 10, .inr (.inr (.inr (.inr ee))))), (a0, .inr (8, [.int 4, .ref wa0, .ref na0])), (wa0, .inl (cI, 4, .inl fw0)), (na0, .inl (cI, 4, .inl fn0)), (a1, .inr (8, [.int 4, .ref wa1, .ref na1])), (wa1, .inl (cI, 4, .inl fw1)), (na1, .inl (cI, 4, .inl fn1)), (a2, .inr (8, [.int 4, .ref wa2, .ref na2])), (wa2, .inl (cI, 4, .inl fw2)), (na2, .inl (cI, 4, .inl fn2)), (a3, .inr (8, [.int 4, .ref wa3, .ref na3])), (wa3, .inl (cI, 4, .inl fw3)), (na3, .inl (cI, 4, .inl fn3))]) hD hS hA [14, 13, 0, 1, 2, 3, 4, 5, 6, 7, 8, 9, 10, 11, 12] rfl
  have hDv := hDc.self (sz := H3.size)
  have hpre := zpre (xs' := []) (av := [.ref mo, .int 3]) hPc hK (hDc.weaken (fun _ _ _ h => h)) hZ hS hFc (fun r hr => by cases hr)
  refine va_callr (va_runV (As := [.int 3]) (rest := []) ⟨hx, hb, hml, hown, hts⟩ (k_tOf3 l dC dI cI cB cR cO zk mo al ed 4 ee (.int 0) md rf kn (.int mc) a0 wa0 na0 a1 wa1 na1 a2 wa2 na2 a3 wa3 na3 fw0 fn0 fw1 fn1 fw2 fn2 fw3 fn3 H3.size (by decide) (by decide) hw0 hn0 he0 hw1 hn1 he1 hw2 hn2 he2 hw3 hn3 he3) (cwV 1 hts gX4_text_X4_textOf rfl rfl rfl (by decide +kernel) ⟨Nat.le_of_ble_eq_true rfl, Nat.le_of_ble_eq_true rfl⟩) ⟨zblind, (zrecv_9 hK hPc (q0 := 0) rfl), hpre⟩ rfl rfl hl.1 rfl (lv_room (Nat.le_of_ble_eq_true rfl)) dX4_text_20 ⟨Nat.le_of_ble_eq_true rfl, Nat.le_of_ble_eq_true rfl⟩) hS (fun q _ h => hFc q h) hFc (fun u r6 t H5 locs ht hvm hw hB hz1 hk1 hS => ?_)
  obtain ⟨b7, g8, ⟨hP1, hK1, hD1, hz2⟩, hfg8⟩ := hB
  rw [ht] at hP1 hz2
  have hPD9 := va_join (wr := []) (w1 := [(r6, .inr (0, [.ref b7, .int 0, .int 0, .int 0])), (b7, .inl (cB, 1704, .inl g8)), (mo, .inr (9, [.int 0, .ref al, md, rf, kn])), (al, .inr (4, [.int mc, .ref ed, .int 4])), (ed, .inl (cO, 10, .inr (.inr (.inr (.inr ee))))), (a0, .inr (8, [.int 4, .ref wa0, .ref na0])), (wa0, .inl (cI, 4, .inl fw0)), (na0, .inl (cI, 4, .inl fn0)), (a1, .inr (8, [.int 4, .ref wa1, .ref na1])), (wa1, .inl (cI, 4, .inl fw1)), (na1, .inl (cI, 4, .inl fn1)), (a2, .inr (8, [.int 4, .ref wa2, .ref na2])), (wa2, .inl (cI, 4, .inl fw2)), (na2, .inl (cI, 4, .inl fn2)), (a3, .inr (8, [.int 4, .ref wa3, .ref na3])), (wa3, .inl (cI, 4, .inl fw3)), (na3, .inl (cI, 4, .inl fn3))]) hP hD [14, 13, 0, 1, 2, 3, 4, 5, 6, 7, 8, 9, 10, 11, 12] [] rfl rfl (by decide) (by decide) hk1 hFc hP1 hD1
  clear hPc hDc hFc hDv hpre hP hD hP1 hK1 hD1
  obtain ⟨hP, hD⟩ := hPD9
  replace hz : s.heap.size + 1700 ≤ H5.size := by omega
  clear hz2
  replace hP : va_P (dC, dI) vwCl [(r6, .inr (0, [.ref b7, .int 0, .int 0, .int 0])), (b7, .inl (cB, 1704, .inl g8)), (mo, .inr (9, [.int 0, .ref al, md, rf, kn])), (al, .inr (4, [.int mc, .ref ed, .int 4])), (ed, .inl (cO, 10, .inr (.inr (.inr (.inr ee))))), (a0, .inr (8, [.int 4, .ref wa0, .ref na0])), (wa0, .inl (cI, 4, .inl fw0)), (na0, .inl (cI, 4, .inl fn0)), (a1, .inr (8, [.int 4, .ref wa1, .ref na1])), (wa1, .inl (cI, 4, .inl fw1)), (na1, .inl (cI, 4, .inl fn1)), (a2, .inr (8, [.int 4, .ref wa2, .ref na2])), (wa2, .inl (cI, 4, .inl fw2)), (na2, .inl (cI, 4, .inl fn2)), (a3, .inr (8, [.int 4, .ref wa3, .ref na3])), (wa3, .inl (cI, 4, .inl fw3)), (na3, .inl (cI, 4, .inl fn3))] H5 := hP
  replace hD : va_D A [(r6, .inr (0, [.ref b7, .int 0, .int 0, .int 0])), (b7, .inl (cB, 1704, .inl g8)), (mo, .inr (9, [.int 0, .ref al, md, rf, kn])), (al, .inr (4, [.int mc, .ref ed, .int 4])), (ed, .inl (cO, 10, .inr (.inr (.inr (.inr ee))))), (a0, .inr (8, [.int 4, .ref wa0, .ref na0])), (wa0, .inl (cI, 4, .inl fw0)), (na0, .inl (cI, 4, .inl fn0)), (a1, .inr (8, [.int 4, .ref wa1, .ref na1])), (wa1, .inl (cI, 4, .inl fw1)), (na1, .inl (cI, 4, .inl fn1)), (a2, .inr (8, [.int 4, .ref wa2, .ref na2])), (wa2, .inl (cI, 4, .inl fw2)), (na2, .inl (cI, 4, .inl fn2)), (a3, .inr (8, [.int 4, .ref wa3, .ref na3])), (wa3, .inl (cI, 4, .inl fw3)), (na3, .inl (cI, 4, .inl fn3))] := hD
  refine W.widen (k := 2081) (n := 52832216) (by omega) (by omega) ?_
  have hP9 := hP.sub (ws' := [(mo, .inr (9, [.int 0, .ref al, md, rf, kn])), (al, .inr (4, [.int mc, .ref ed, .int 4])), (ed, .inl (cO, 10, .inr (.inr (.inr (.inr ee))))), (a0, .inr (8, [.int 4, .ref wa0, .ref na0])), (wa0, .inl (cI, 4, .inl fw0)), (na0, .inl (cI, 4, .inl fn0)), (a1, .inr (8, [.int 4, .ref wa1, .ref na1])), (wa1, .inl (cI, 4, .inl fw1)), (na1, .inl (cI, 4, .inl fn1)), (a2, .inr (8, [.int 4, .ref wa2, .ref na2])), (wa2, .inl (cI, 4, .inl fw2)), (na2, .inl (cI, 4, .inl fn2)), (a3, .inr (8, [.int 4, .ref wa3, .ref na3])), (wa3, .inl (cI, 4, .inl fw3)), (na3, .inl (cI, 4, .inl fn3))]) [2, 3, 4, 5, 6, 7, 8, 9, 10, 11, 12, 13, 14, 15, 16] rfl
  have hD9 := hD.sub (ws' := [(mo, .inr (9, [.int 0, .ref al, md, rf, kn])), (al, .inr (4, [.int mc, .ref ed, .int 4])), (ed, .inl (cO, 10, .inr (.inr (.inr (.inr ee))))), (a0, .inr (8, [.int 4, .ref wa0, .ref na0])), (wa0, .inl (cI, 4, .inl fw0)), (na0, .inl (cI, 4, .inl fn0)), (a1, .inr (8, [.int 4, .ref wa1, .ref na1])), (wa1, .inl (cI, 4, .inl fw1)), (na1, .inl (cI, 4, .inl fn1)), (a2, .inr (8, [.int 4, .ref wa2, .ref na2])), (wa2, .inl (cI, 4, .inl fw2)), (na2, .inl (cI, 4, .inl fn2)), (a3, .inr (8, [.int 4, .ref wa3, .ref na3])), (wa3, .inl (cI, 4, .inl fw3)), (na3, .inl (cI, 4, .inl fn3))]) [2, 3, 4, 5, 6, 7, 8, 9, 10, 11, 12, 13, 14, 15, 16] (by decide) rfl
  exact W.aret hx hb hr (by first | exact Or.inl ⟨_, rfl⟩ | exact Or.inr ⟨_, rfl⟩) (Or.inr ⟨_, rfl⟩) (fun t ht hW => ⟨⟨(), _, rfl, trivial, ⟨by rw [ht]; exact hP9, va_K.moved hW.alike hK, hD9, by rw [ht]; exact hz⟩⟩, hS.F ht⟩) hS.2.2 dX4_text_23
