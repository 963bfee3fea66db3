theorem hi_X4_nowhere_X4 : ∀ w ∈ u_ws RX4 TX4 5, w ∈ wsX4_nowhere := fun w h => List.mem_cons_of_mem _ (zhi_X4 w h)
set_option maxHeartbeats 4000000 in
set_option maxRecDepth 100000 in
theorem k_nw1 (l : Launch) (dC : Nat → ClassId) (dI : Nat → Nat → Nat) (cI cB cR cO : ClassId) (zk : Nat → Nat) (mo al ed cc : Nat) (ee : Nat → Option Nat) (th md rf kn mc : Value) (a1 wa1 na1 : Nat) (fw1 : Nat → Int32) (sz : Nat) (hcc : 1 < cc) (hcc2 : cc ≤ 10) (he1 : ee 1 = some a1) : Met l yX4_nowhere wsX4_nowhere ({ frames := 3, cells := 1, slots := 4, locals := 64 }) (va_Pc [.ref mo, .int 1] (zPre (dC, dI) (zT cI cB cR cO) zk [] [(mo, .inr (9, [th, .ref al, md, rf, kn])), (al, .inr (4, [mc, .ref ed, .int (nI cc)])), (ed, .inl (cO, 10, .inr (.inr (.inr (.inr ee))))), (a1, .inr (8, [.int 4, .ref wa1, .ref na1])), (wa1, .inl (cI, 4, .inl fw1))] sz)) (va_Qr (fun _ : Unit => True) (fun _ ra t => ∃ (fo : Nat → Int32), zEnd (dC, dI) (zT cI cB cR cO) (va_A [(mo, .inr (9, [th, .ref al, md, rf, kn])), (al, .inr (4, [mc, .ref ed, .int (nI cc)])), (ed, .inl (cO, 10, .inr (.inr (.inr (.inr ee))))), (a1, .inr (8, [.int 4, .ref wa1, .ref na1])), (wa1, .inl (cI, 4, .inl fw1))] sz) [(mo, .inr (9, [th, .ref al, md, rf, kn])), (al, .inr (4, [mc, .ref ed, .int (nI cc)])), (ed, .inl (cO, 10, .inr (.inr (.inr (.inr ee))))), (a1, .inr (8, [.int 4, .ref wa1, .ref na1])), (wa1, .inl (cI, 4, .inl fw1)), (ra, .inl (cI, 4, .inl fo))] sz 1 t) (va_A [(mo, .inr (9, [th, .ref al, md, rf, kn])), (al, .inr (4, [mc, .ref ed, .int (nI cc)])), (ed, .inl (cO, 10, .inr (.inr (.inr (.inr ee))))), (a1, .inr (8, [.int 4, .ref wa1, .ref na1])), (wa1, .inl (cI, 4, .inl fw1))] sz)) 1 4 (va_A [(mo, .inr (9, [th, .ref al, md, rf, kn])), (al, .inr (4, [mc, .ref ed, .int (nI cc)])), (ed, .inl (cO, 10, .inr (.inr (.inr (.inr ee))))), (a1, .inr (8, [.int 4, .ref wa1, .ref na1])), (wa1, .inl (cI, 4, .inl fw1))] sz) := by
  refine Met.ofW (cc := cX4_nowhere) (maxL := 4) (ret := (some (.array .int))) (by decide) rfl ?_
  intro p e s mY args below meth c s₁ B hml hv
  obtain ⟨rfl, hsz, hP, hK, hD0, hZ⟩ := hv
  have hx := B.exec
  have hb := B.bytes
  have hr := B.returns
  have hts := atoms_spec (ws := wsX4_nowhere) B.pre
  have hown : s.vm.findClass RX4 = some mY.cls := findClass_of_methodNamed B.named
  have hlocks := B.notSynchronized
  subst hsz
  have hD := hD0.self (sz := s.heap.size)
  generalize hAe : va_A [(mo, .inr (9, [th, .ref al, md, rf, kn])), (al, .inr (4, [mc, .ref ed, .int (nI cc)])), (ed, .inl (cO, 10, .inr (.inr (.inr (.inr ee))))), (a1, .inr (8, [.int 4, .ref wa1, .ref na1])), (wa1, .inl (cI, 4, .inl fw1))] s.heap.size = A at hD hZ ⊢
  have hA : ∀ q : Nat, s.heap.size ≤ q → A q := fun q h => by rw [← hAe]; exact Or.inr h
  have hS : va_S A s.heap s.heap [] := va_S.rf
  have hz : s.heap.size + 0 ≤ s.heap.size := Nat.le_refl _
  have hl := lv_entry ([.ref mo, .int 1]) (n := 4) (Nat.le_of_ble_eq_true rfl)
  rw [lg_entry_eq]
  generalize (lg_sl ([.ref mo, .int 1]) ++ List.replicate (4 - (lg_sl ([.ref mo, .int 1])).length) Slot.unset).toArray = ls at hl ⊢
  have hl : lv_has ls 4 [(0, .ref mo), (1, .int 1)] := hl
  have hP : va_P (dC, dI) vwCl [(mo, .inr (9, [th, .ref al, md, rf, kn])), (al, .inr (4, [mc, .ref ed, .int (nI cc)])), (ed, .inl (cO, 10, .inr (.inr (.inr (.inr ee))))), (a1, .inr (8, [.int 4, .ref wa1, .ref na1])), (wa1, .inl (cI, 4, .inl fw1))] s.heap := hP
  have hD : va_D A [(mo, .inr (9, [th, .ref al, md, rf, kn])), (al, .inr (4, [mc, .ref ed, .int (nI cc)])), (ed, .inl (cO, 10, .inr (.inr (.inr (.inr ee))))), (a1, .inr (8, [.int 4, .ref wa1, .ref na1])), (wa1, .inl (cI, 4, .inl fw1))] := hD
  refine lv_aload_n hx hb dX4_nowhere_0 rfl (lv_at hl 0 rfl) ?_
  refine va_get (D := (dC, dI)) (ci := 9) (v := .ref al) (C := RX4) (T := TX4) (N := 5) hx hb hts hi_X4_nowhere_X4 hown hK hP 0 rfl rfl 1 (by decide) (hts (.fieldLink RX4 10 "DeeprowsModel" "rows" "Ljava/util/ArrayList;") (List.mem_cons_of_mem _ zw_1134)) (fun _ h9 => h9) rfl dX4_nowhere_1 ?_
  refine lv_iload_n hx hb dX4_nowhere_4 rfl (lv_at hl 1 rfl) ?_
  have hPc := hP.sub (ws' := [(al, .inr (4, [mc, .ref ed, .int (nI cc)])), (ed, .inl (cO, 10, .inr (.inr (.inr (.inr ee)))))]) [1, 2] rfl
  have hDc := hD.sub (ws' := [(al, .inr (4, [mc, .ref ed, .int (nI cc)])), (ed, .inl (cO, 10, .inr (.inr (.inr (.inr ee)))))]) [1, 2] (by decide) rfl
  have hFc := va_free (wc := [(al, .inr (4, [mc, .ref ed, .int (nI cc)])), (ed, .inl (cO, 10, .inr (.inr (.inr (.inr ee)))))]) hD hS hA [1, 2] rfl
  have hDv := hDc.self (sz := s.heap.size)
  have hpre := zpre (xs' := []) (av := [.ref al, .int 1]) hPc hK (hDc.weaken (fun _ _ _ h => h)) hZ hS hFc (fun r hr => by cases hr)
  refine va_callr (va_runV (As := [.int 1]) (rest := []) ⟨hx, hb, hml, hown, hts⟩ (k_get l dC dI cI cB cR cO zk al ed 1 cc 10 a1 ee mc s.heap.size (by omega) hcc2 (by decide) he1) (cwV 1 hts gX4_nowhere_Jx4a65c_get_915e3 rfl rfl rfl (by decide +kernel) ⟨Nat.le_of_ble_eq_true rfl, Nat.le_of_ble_eq_true rfl⟩) ⟨zblind, (zrecv_4 hK hPc (q0 := 0) rfl), hpre⟩ rfl rfl hl.1 rfl (lv_room (Nat.le_of_ble_eq_true rfl)) dX4_nowhere_5 ⟨Nat.le_of_ble_eq_true rfl, Nat.le_of_ble_eq_true rfl⟩) hS (fun q _ h => hFc q h) hFc (fun u r2 t H1 locs ht hvm hw hB hz1 hk1 hS => ?_)
  obtain ⟨⟨hP1, hK1, hD1, hz2⟩, her2⟩ := hB
  rw [ht] at hP1 hz2
  have hPD9 := va_join (wr := [(mo, .inr (9, [th, .ref al, md, rf, kn])), (a1, .inr (8, [.int 4, .ref wa1, .ref na1])), (wa1, .inl (cI, 4, .inl fw1))]) (w1 := [(al, .inr (4, [mc, .ref ed, .int (nI cc)])), (ed, .inl (cO, 10, .inr (.inr (.inr (.inr ee)))))]) hP hD [1, 2] [0, 3, 4] rfl rfl (by decide) (by decide) hk1 hFc hP1 hD1
  clear hPc hDc hFc hDv hpre hP hD hP1 hK1 hD1
  obtain ⟨hP, hD⟩ := hPD9
  replace hz : s.heap.size + 0 ≤ H1.size := by omega
  clear hz2
  replace hP : va_P (dC, dI) vwCl [(mo, .inr (9, [th, .ref al, md, rf, kn])), (a1, .inr (8, [.int 4, .ref wa1, .ref na1])), (wa1, .inl (cI, 4, .inl fw1)), (al, .inr (4, [mc, .ref ed, .int (nI cc)])), (ed, .inl (cO, 10, .inr (.inr (.inr (.inr ee)))))] H1 := hP
  replace hD : va_D A [(mo, .inr (9, [th, .ref al, md, rf, kn])), (a1, .inr (8, [.int 4, .ref wa1, .ref na1])), (wa1, .inl (cI, 4, .inl fw1)), (al, .inr (4, [mc, .ref ed, .int (nI cc)])), (ed, .inl (cO, 10, .inr (.inr (.inr (.inr ee)))))] := hD
  refine W.widen (k := 0) (n := 0) (by omega) (by omega) ?_
  obtain rfl := her2.symm
  refine va_castE hx hb hown (hts (.classLink RX4 40 "DeeprowsModel$Row") (List.mem_cons_of_mem _ zw_1165)) (zrecv_8 hK hP (q0 := 1) rfl) dX4_nowhere_8 ?_
  have hPc := hP.sub (ws' := [(a1, .inr (8, [.int 4, .ref wa1, .ref na1])), (wa1, .inl (cI, 4, .inl fw1))]) [1, 2] rfl
  have hDc := hD.sub (ws' := [(a1, .inr (8, [.int 4, .ref wa1, .ref na1])), (wa1, .inl (cI, 4, .inl fw1))]) [1, 2] (by decide) rfl
  have hFc := va_free (wc := [(a1, .inr (8, [.int 4, .ref wa1, .ref na1])), (wa1, .inl (cI, 4, .inl fw1))]) hD hS hA [1, 2] rfl
  have hDv := hDc.self (sz := H1.size)
  have hpre := zpre (xs' := []) (av := [.ref a1]) hPc hK (hDc.weaken (fun _ _ _ h => h)) hZ hS hFc (fun r hr => by cases hr)
  refine va_calli (va_runV (As := []) (rest := []) ⟨hx, hb, hml, hown, hts⟩ (k_rlen l dC dI cI cB cR cO zk a1 wa1 na1 fw1 H1.size ) (cwV 0 hts gX4_nowhere_X3_length rfl rfl rfl (by decide +kernel) ⟨Nat.le_of_ble_eq_true rfl, Nat.le_of_ble_eq_true rfl⟩) ⟨zblind, (zrecv_8 hK hPc (q0 := 0) rfl), hpre⟩ rfl rfl hl.1 rfl (lv_room (Nat.le_of_ble_eq_true rfl)) dX4_nowhere_11 ⟨Nat.le_of_ble_eq_true rfl, Nat.le_of_ble_eq_true rfl⟩) hS (fun q _ h => hFc q h) hFc (fun r4 u t H3 locs ht hvm hw hB hz1 hk1 hS => ?_)
  obtain rfl : 4 = r4 := (show r4 = 4 from hw).symm
  obtain ⟨hP1, hK1, hD1, hz2⟩ := hB
  rw [ht] at hP1 hz2
  have hPD9 := va_join (wr := [(mo, .inr (9, [th, .ref al, md, rf, kn])), (al, .inr (4, [mc, .ref ed, .int (nI cc)])), (ed, .inl (cO, 10, .inr (.inr (.inr (.inr ee)))))]) (w1 := [(a1, .inr (8, [.int 4, .ref wa1, .ref na1])), (wa1, .inl (cI, 4, .inl fw1))]) hP hD [1, 2] [0, 3, 4] rfl rfl (by decide) (by decide) hk1 hFc hP1 hD1
  clear hPc hDc hFc hDv hpre hP hD hP1 hK1 hD1
  obtain ⟨hP, hD⟩ := hPD9
  replace hz : s.heap.size + 0 ≤ H3.size := by omega
  clear hz2
  replace hP : va_P (dC, dI) vwCl [(mo, .inr (9, [th, .ref al, md, rf, kn])), (al, .inr (4, [mc, .ref ed, .int (nI cc)])), (ed, .inl (cO, 10, .inr (.inr (.inr (.inr ee))))), (a1, .inr (8, [.int 4, .ref wa1, .ref na1])), (wa1, .inl (cI, 4, .inl fw1))] H3 := hP
  replace hD : va_D A [(mo, .inr (9, [th, .ref al, md, rf, kn])), (al, .inr (4, [mc, .ref ed, .int (nI cc)])), (ed, .inl (cO, 10, .inr (.inr (.inr (.inr ee))))), (a1, .inr (8, [.int 4, .ref wa1, .ref na1])), (wa1, .inl (cI, 4, .inl fw1))] := hD
  refine W.widen (k := 0) (n := 0) (by omega) (by omega) ?_
  refine zw_newa (atype := .int) (ty := .int) (N' := 4) hx hb (hts (.arrayClass .int) (List.mem_cons_of_mem _ zw_137)) rfl (by first | exact Or.inl rfl | exact Or.inr rfl) hK hP hD hS hA 0 rfl (by decide) (by decide) (Nat.le_of_ble_eq_true rfl) (Nat.le_of_ble_eq_true rfl) (Nat.le_of_ble_eq_true rfl) dX4_nowhere_14 hz (fun q5 H6 hP hD hS hz => ?_)
  replace hP : va_P (dC, dI) vwCl [(mo, .inr (9, [th, .ref al, md, rf, kn])), (al, .inr (4, [mc, .ref ed, .int (nI cc)])), (ed, .inl (cO, 10, .inr (.inr (.inr (.inr ee))))), (a1, .inr (8, [.int 4, .ref wa1, .ref na1])), (wa1, .inl (cI, 4, .inl fw1)), (q5, .inl (cI, 4, .inl (fun _ => 0)))] H6 := hP
  replace hD : va_D A [(mo, .inr (9, [th, .ref al, md, rf, kn])), (al, .inr (4, [mc, .ref ed, .int (nI cc)])), (ed, .inl (cO, 10, .inr (.inr (.inr (.inr ee))))), (a1, .inr (8, [.int 4, .ref wa1, .ref na1])), (wa1, .inl (cI, 4, .inl fw1)), (q5, .inl (cI, 4, .inl (fun _ => 0)))] := hD
  refine W.widen (k := 1) (n := 4) (by omega) (by omega) ?_
  refine lv_astore_n (lv' := [(2, .ref q5), (0, .ref mo), (1, .int 1)]) hx hb dX4_nowhere_16 rfl hl (by decide) rfl (fun ls hl => ?_)
  refine lv_iconst (v := 0) hx hb dX4_nowhere_17 (by decide) ?_
  refine lv_istore_n (lv' := [(3, .int 0), (2, .ref q5), (0, .ref mo), (1, .int 1)]) hx hb dX4_nowhere_18 rfl hl (by decide) rfl (fun ls hl => ?_)
  refine lv_iload_n hx hb dX4_nowhere_19 rfl (lv_at hl 0 rfl) ?_
  refine lv_aload_n hx hb dX4_nowhere_20 rfl (lv_at hl 1 rfl) ?_
  refine va_alen (D := (dC, dI)) (cl := vwCl) (v := 4) hx hb hK hP 5 0 rfl rfl rfl dX4_nowhere_21 ?_
  refine lv_icmp_ge (tgt := 35) hx hb dX4_nowhere_22 (by decide) (fun c9 => ?_) (fun c9 => ?_)
  · exact absurd c9 (by decide)
  refine lv_aload_n hx hb dX4_nowhere_25 rfl (lv_at hl 1 rfl) ?_
  refine lv_iload_n hx hb dX4_nowhere_26 rfl (lv_at hl 0 rfl) ?_
  refine lv_iconst (v := (-1)) hx hb dX4_nowhere_27 (by decide) ?_
  refine va_iast (D := (dC, dI)) (cl := vwCl) hx hb hK hP hD (zS0 hS) 5 0 rfl rfl (by unfold vp_in; decide) dX4_nowhere_28 (fun H7 locs hP hD hS1 => ?_)
  have hz : s.heap.size + 1 ≤ H7.size := Nat.le_trans hz hS1.1
  have hS := zSS hS hS1
  replace hP : va_P (dC, dI) vwCl [(mo, .inr (9, [th, .ref al, md, rf, kn])), (al, .inr (4, [mc, .ref ed, .int (nI cc)])), (ed, .inl (cO, 10, .inr (.inr (.inr (.inr ee))))), (a1, .inr (8, [.int 4, .ref wa1, .ref na1])), (wa1, .inl (cI, 4, .inl fw1)), (q5, .inl (cI, 4, .inl (upd (fun _ => 0) 0 (-1))))] H7 := hP
  replace hD : va_D A [(mo, .inr (9, [th, .ref al, md, rf, kn])), (al, .inr (4, [mc, .ref ed, .int (nI cc)])), (ed, .inl (cO, 10, .inr (.inr (.inr (.inr ee))))), (a1, .inr (8, [.int 4, .ref wa1, .ref na1])), (wa1, .inl (cI, 4, .inl fw1)), (q5, .inl (cI, 4, .inl (upd (fun _ => 0) 0 (-1))))] := hD
  refine lv_iinc (v := 1) (lv' := [(3, .int 1), (2, .ref q5), (0, .ref mo), (1, .int 1)]) hx hb dX4_nowhere_29 hl (k := 0) rfl (by decide) (by decide) rfl (fun ls hl => ?_)
  refine lv_goto (tgt := 19) hx hb dX4_nowhere_32 (by decide) ?_
  refine lv_iload_n hx hb dX4_nowhere_19 rfl (lv_at hl 0 rfl) ?_
  refine lv_aload_n hx hb dX4_nowhere_20 rfl (lv_at hl 1 rfl) ?_
  refine va_alen (D := (dC, dI)) (cl := vwCl) (v := 4) hx hb hK hP 5 0 rfl rfl rfl dX4_nowhere_21 ?_
  refine lv_icmp_ge (tgt := 35) hx hb dX4_nowhere_22 (by decide) (fun c9 => ?_) (fun c9 => ?_)
  · exact absurd c9 (by decide)
  refine lv_aload_n hx hb dX4_nowhere_25 rfl (lv_at hl 1 rfl) ?_
  refine lv_iload_n hx hb dX4_nowhere_26 rfl (lv_at hl 0 rfl) ?_
  refine lv_iconst (v := (-1)) hx hb dX4_nowhere_27 (by decide) ?_
  refine va_iast (D := (dC, dI)) (cl := vwCl) hx hb hK hP hD (zS0 hS) 5 0 rfl rfl (by unfold vp_in; decide) dX4_nowhere_28 (fun H8 locs hP hD hS1 => ?_)
  have hz : s.heap.size + 1 ≤ H8.size := Nat.le_trans hz hS1.1
  have hS := zSS hS hS1
  replace hP : va_P (dC, dI) vwCl [(mo, .inr (9, [th, .ref al, md, rf, kn])), (al, .inr (4, [mc, .ref ed, .int (nI cc)])), (ed, .inl (cO, 10, .inr (.inr (.inr (.inr ee))))), (a1, .inr (8, [.int 4, .ref wa1, .ref na1])), (wa1, .inl (cI, 4, .inl fw1)), (q5, .inl (cI, 4, .inl (upd (upd (fun _ => 0) 0 (-1)) 1 (-1))))] H8 := hP
  replace hD : va_D A [(mo, .inr (9, [th, .ref al, md, rf, kn])), (al, .inr (4, [mc, .ref ed, .int (nI cc)])), (ed, .inl (cO, 10, .inr (.inr (.inr (.inr ee))))), (a1, .inr (8, [.int 4, .ref wa1, .ref na1])), (wa1, .inl (cI, 4, .inl fw1)), (q5, .inl (cI, 4, .inl (upd (upd (fun _ => 0) 0 (-1)) 1 (-1))))] := hD
  refine lv_iinc (v := 2) (lv' := [(3, .int 2), (2, .ref q5), (0, .ref mo), (1, .int 1)]) hx hb dX4_nowhere_29 hl (k := 0) rfl (by decide) (by decide) rfl (fun ls hl => ?_)
  refine lv_goto (tgt := 19) hx hb dX4_nowhere_32 (by decide) ?_
  refine lv_iload_n hx hb dX4_nowhere_19 rfl (lv_at hl 0 rfl) ?_
  refine lv_aload_n hx hb dX4_nowhere_20 rfl (lv_at hl 1 rfl) ?_
  refine va_alen (D := (dC, dI)) (cl := vwCl) (v := 4) hx hb hK hP 5 0 rfl rfl rfl dX4_nowhere_21 ?_
  refine lv_icmp_ge (tgt := 35) hx hb dX4_nowhere_22 (by decide) (fun c9 => ?_) (fun c9 => ?_)
  · exact absurd c9 (by decide)
  refine lv_aload_n hx hb dX4_nowhere_25 rfl (lv_at hl 1 rfl) ?_
  refine lv_iload_n hx hb dX4_nowhere_26 rfl (lv_at hl 0 rfl) ?_
  refine lv_iconst (v := (-1)) hx hb dX4_nowhere_27 (by decide) ?_
  refine va_iast (D := (dC, dI)) (cl := vwCl) hx hb hK hP hD (zS0 hS) 5 0 rfl rfl (by unfold vp_in; decide) dX4_nowhere_28 (fun H9 locs hP hD hS1 => ?_)
  have hz : s.heap.size + 1 ≤ H9.size := Nat.le_trans hz hS1.1
  have hS := zSS hS hS1
  replace hP : va_P (dC, dI) vwCl [(mo, .inr (9, [th, .ref al, md, rf, kn])), (al, .inr (4, [mc, .ref ed, .int (nI cc)])), (ed, .inl (cO, 10, .inr (.inr (.inr (.inr ee))))), (a1, .inr (8, [.int 4, .ref wa1, .ref na1])), (wa1, .inl (cI, 4, .inl fw1)), (q5, .inl (cI, 4, .inl (upd (upd (upd (fun _ => 0) 0 (-1)) 1 (-1)) 2 (-1))))] H9 := hP
  replace hD : va_D A [(mo, .inr (9, [th, .ref al, md, rf, kn])), (al, .inr (4, [mc, .ref ed, .int (nI cc)])), (ed, .inl (cO, 10, .inr (.inr (.inr (.inr ee))))), (a1, .inr (8, [.int 4, .ref wa1, .ref na1])), (wa1, .inl (cI, 4, .inl fw1)), (q5, .inl (cI, 4, .inl (upd (upd (upd (fun _ => 0) 0 (-1)) 1 (-1)) 2 (-1))))] := hD
  refine lv_iinc (v := 3) (lv' := [(3, .int 3), (2, .ref q5), (0, .ref mo), (1, .int 1)]) hx hb dX4_nowhere_29 hl (k := 0) rfl (by decide) (by decide) rfl (fun ls hl => ?_)
  refine lv_goto (tgt := 19) hx hb dX4_nowhere_32 (by decide) ?_
  refine lv_iload_n hx hb dX4_nowhere_19 rfl (lv_at hl 0 rfl) ?_
  refine lv_aload_n hx hb dX4_nowhere_20 rfl (lv_at hl 1 rfl) ?_
  refine va_alen (D := (dC, dI)) (cl := vwCl) (v := 4) hx hb hK hP 5 0 rfl rfl rfl dX4_nowhere_21 ?_
  refine lv_icmp_ge (tgt := 35) hx hb dX4_nowhere_22 (by decide) (fun c9 => ?_) (fun c9 => ?_)
  · exact absurd c9 (by decide)
  refine lv_aload_n hx hb dX4_nowhere_25 rfl (lv_at hl 1 rfl) ?_
  refine lv_iload_n hx hb dX4_nowhere_26 rfl (lv_at hl 0 rfl) ?_
  refine lv_iconst (v := (-1)) hx hb dX4_nowhere_27 (by decide) ?_
  refine va_iast (D := (dC, dI)) (cl := vwCl) hx hb hK hP hD (zS0 hS) 5 0 rfl rfl (by unfold vp_in; decide) dX4_nowhere_28 (fun H10 locs hP hD hS1 => ?_)
  have hz : s.heap.size + 1 ≤ H10.size := Nat.le_trans hz hS1.1
  have hS := zSS hS hS1
  replace hP : va_P (dC, dI) vwCl [(mo, .inr (9, [th, .ref al, md, rf, kn])), (al, .inr (4, [mc, .ref ed, .int (nI cc)])), (ed, .inl (cO, 10, .inr (.inr (.inr (.inr ee))))), (a1, .inr (8, [.int 4, .ref wa1, .ref na1])), (wa1, .inl (cI, 4, .inl fw1)), (q5, .inl (cI, 4, .inl (upd (upd (upd (upd (fun _ => 0) 0 (-1)) 1 (-1)) 2 (-1)) 3 (-1))))] H10 := hP
  replace hD : va_D A [(mo, .inr (9, [th, .ref al, md, rf, kn])), (al, .inr (4, [mc, .ref ed, .int (nI cc)])), (ed, .inl (cO, 10, .inr (.inr (.inr (.inr ee))))), (a1, .inr (8, [.int 4, .ref wa1, .ref na1])), (wa1, .inl (cI, 4, .inl fw1)), (q5, .inl (cI, 4, .inl (upd (upd (upd (upd (fun _ => 0) 0 (-1)) 1 (-1)) 2 (-1)) 3 (-1))))] := hD
  refine lv_iinc (v := 4) (lv' := [(3, .int 4), (2, .ref q5), (0, .ref mo), (1, .int 1)]) hx hb dX4_nowhere_29 hl (k := 0) rfl (by decide) (by decide) rfl (fun ls hl => ?_)
  refine lv_goto (tgt := 19) hx hb dX4_nowhere_32 (by decide) ?_
  refine lv_iload_n hx hb dX4_nowhere_19 rfl (lv_at hl 0 rfl) ?_
  refine lv_aload_n hx hb dX4_nowhere_20 rfl (lv_at hl 1 rfl) ?_
  refine va_alen (D := (dC, dI)) (cl := vwCl) (v := 4) hx hb hK hP 5 0 rfl rfl rfl dX4_nowhere_21 ?_
  refine lv_icmp_ge (tgt := 35) hx hb dX4_nowhere_22 (by decide) (fun c9 => ?_) (fun c9 => ?_)
  rotate_left
  · exact absurd (by decide) c9
  refine lv_aload_n hx hb dX4_nowhere_35 rfl (lv_at hl 1 rfl) ?_
  have hP9 := hP.sub (ws' := [(mo, .inr (9, [th, .ref al, md, rf, kn])), (al, .inr (4, [mc, .ref ed, .int (nI cc)])), (ed, .inl (cO, 10, .inr (.inr (.inr (.inr ee))))), (a1, .inr (8, [.int 4, .ref wa1, .ref na1])), (wa1, .inl (cI, 4, .inl fw1)), (q5, .inl (cI, 4, .inl (upd (upd (upd (upd (fun _ => 0) 0 (-1)) 1 (-1)) 2 (-1)) 3 (-1))))]) [0, 1, 2, 3, 4, 5] rfl
  have hD9 := hD.sub (ws' := [(mo, .inr (9, [th, .ref al, md, rf, kn])), (al, .inr (4, [mc, .ref ed, .int (nI cc)])), (ed, .inl (cO, 10, .inr (.inr (.inr (.inr ee))))), (a1, .inr (8, [.int 4, .ref wa1, .ref na1])), (wa1, .inl (cI, 4, .inl fw1)), (q5, .inl (cI, 4, .inl (upd (upd (upd (upd (fun _ => 0) 0 (-1)) 1 (-1)) 2 (-1)) 3 (-1))))]) [0, 1, 2, 3, 4, 5] (by decide) rfl
  exact W.aret hx hb hr (by first | exact Or.inl ⟨_, rfl⟩ | exact Or.inr ⟨_, rfl⟩) (Or.inr ⟨_, rfl⟩) (fun t ht hW => ⟨⟨(), _, rfl, trivial, ⟨_, ⟨by rw [ht]; exact hP9, va_K.moved hW.alike hK, hD9, by rw [ht]; exact hz⟩⟩⟩, hS.F ht⟩) hS.2.2 dX4_nowhere_36

theorem hi_X4_areHung_X4 : ∀ w ∈ u_ws RX4 TX4 5, w ∈ wsX4_areHung := fun w h => List.mem_cons_of_mem _ (zhi_X4 w h)
set_option maxHeartbeats 4000000 in
set_option maxRecDepth 100000 in
theorem k_aH1 (l : Launch) (dC : Nat → ClassId) (dI : Nat → Nat → Nat) (cI cB cR cO : ClassId) (zk : Nat → Nat) (mo al ed cc : Nat) (ee : Nat → Option Nat) (th md rf kn mc : Value) (a0 wa0 na0 a1 wa1 na1 : Nat) (fw0 fn0 fw1 fn1 : Nat → Int32) (ot : Nat) (fo : Nat → Int32) (sz : Nat) (hcc : 1 < cc) (hcc2 : cc ≤ 10) (hcc3 : cc = 2) (hw0 : ∀ i, i < 4 → fw0 i = 0) (hn0 : ∀ i, i < 4 → fn0 i = (-1)) (he0 : ee 0 = some a0) (hw1 : ∀ i, i < 4 → fw1 i = 0) (hn1 : ∀ i, i < 4 → fn1 i = -1) (he1 : ee 1 = some a1) (ho : ∀ i, i < 4 → fo i = 0) : Met l yX4_areHung wsX4_areHung ({ frames := 4, cells := 5, slots := 14, locals := 106 }) (va_Pc [.ref mo, .int 1, .ref ot] (zPre (dC, dI) (zT cI cB cR cO) zk [] [(mo, .inr (9, [th, .ref al, md, rf, kn])), (al, .inr (4, [mc, .ref ed, .int (nI cc)])), (ed, .inl (cO, 10, .inr (.inr (.inr (.inr ee))))), (a0, .inr (8, [.int 4, .ref wa0, .ref na0])), (wa0, .inl (cI, 4, .inl fw0)), (na0, .inl (cI, 4, .inl fn0)), (a1, .inr (8, [.int 4, .ref wa1, .ref na1])), (wa1, .inl (cI, 4, .inl fw1)), (na1, .inl (cI, 4, .inl fn1)), (ot, .inl (cI, 4, .inl fo))] sz)) (va_Qi (fun r (_ : Unit) => r = 1) (fun _ t => ∃ (fwz : Nat → Int32), ∃ (fnz : Nat → Int32), zEnd (dC, dI) (zT cI cB cR cO) (va_A [(mo, .inr (9, [th, .ref al, md, rf, kn])), (al, .inr (4, [mc, .ref ed, .int (nI cc)])), (ed, .inl (cO, 10, .inr (.inr (.inr (.inr ee))))), (a0, .inr (8, [.int 4, .ref wa0, .ref na0])), (wa0, .inl (cI, 4, .inl fw0)), (na0, .inl (cI, 4, .inl fn0)), (a1, .inr (8, [.int 4, .ref wa1, .ref na1])), (wa1, .inl (cI, 4, .inl fw1)), (na1, .inl (cI, 4, .inl fn1)), (ot, .inl (cI, 4, .inl fo))] sz) [(mo, .inr (9, [th, .ref al, md, rf, kn])), (al, .inr (4, [mc, .ref ed, .int (nI cc)])), (ed, .inl (cO, 10, .inr (.inr (.inr (.inr ee))))), (a0, .inr (8, [.int 4, .ref wa0, .ref na0])), (wa0, .inl (cI, 4, .inl fw0)), (na0, .inl (cI, 4, .inl fn0)), (a1, .inr (8, [.int 4, .ref wa1, .ref na1])), (wa1, .inl (cI, 4, .inl fwz)), (na1, .inl (cI, 4, .inl fnz)), (ot, .inl (cI, 4, .inl fo))] sz 3 t ∧ (∀ i, i < 4 → fwz i = 3) ∧ (∀ i, i < 4 → fnz i = 0)) (va_A [(mo, .inr (9, [th, .ref al, md, rf, kn])), (al, .inr (4, [mc, .ref ed, .int (nI cc)])), (ed, .inl (cO, 10, .inr (.inr (.inr (.inr ee))))), (a0, .inr (8, [.int 4, .ref wa0, .ref na0])), (wa0, .inl (cI, 4, .inl fw0)), (na0, .inl (cI, 4, .inl fn0)), (a1, .inr (8, [.int 4, .ref wa1, .ref na1])), (wa1, .inl (cI, 4, .inl fw1)), (na1, .inl (cI, 4, .inl fn1)), (ot, .inl (cI, 4, .inl fo))] sz)) 5 14 (va_A [(mo, .inr (9, [th, .ref al, md, rf, kn])), (al, .inr (4, [mc, .ref ed, .int (nI cc)])), (ed, .inl (cO, 10, .inr (.inr (.inr (.inr ee))))), (a0, .inr (8, [.int 4, .ref wa0, .ref na0])), (wa0, .inl (cI, 4, .inl fw0)), (na0, .inl (cI, 4, .inl fn0)), (a1, .inr (8, [.int 4, .ref wa1, .ref na1])), (wa1, .inl (cI, 4, .inl fw1)), (na1, .inl (cI, 4, .inl fn1)), (ot, .inl (cI, 4, .inl fo))] sz) := by
  refine Met.ofW (cc := cX4_areHung) (maxL := 7) (ret := (some .boolean)) (by decide) rfl ?_
  intro p e s mY args below meth c s₁ B hml hv
  obtain ⟨rfl, hsz, hP, hK, hD0, hZ⟩ := hv
  have hx := B.exec
  have hb := B.bytes
  have hr := B.returns
  have hts := atoms_spec (ws := wsX4_areHung) B.pre
  have hown : s.vm.findClass RX4 = some mY.cls := findClass_of_methodNamed B.named
  have hlocks := B.notSynchronized
  subst hsz
  have hD := hD0.self (sz := s.heap.size)
  generalize hAe : va_A [(mo, .inr (9, [th, .ref al, md, rf, kn])), (al, .inr (4, [mc, .ref ed, .int (nI cc)])), (ed, .inl (cO, 10, .inr (.inr (.inr (.inr ee))))), (a0, .inr (8, [.int 4, .ref wa0, .ref na0])), (wa0, .inl (cI, 4, .inl fw0)), (na0, .inl (cI, 4, .inl fn0)), (a1, .inr (8, [.int 4, .ref wa1, .ref na1])), (wa1, .inl (cI, 4, .inl fw1)), (na1, .inl (cI, 4, .inl fn1)), (ot, .inl (cI, 4, .inl fo))] s.heap.size = A at hD hZ ⊢
  have hA : ∀ q : Nat, s.heap.size ≤ q → A q := fun q h => by rw [← hAe]; exact Or.inr h
  have hS : va_S A s.heap s.heap [] := va_S.rf
  have hz : s.heap.size + 0 ≤ s.heap.size := Nat.le_refl _
  have hl := lv_entry ([.ref mo, .int 1, .ref ot]) (n := 7) (Nat.le_of_ble_eq_true rfl)
  rw [lg_entry_eq]
  generalize (lg_sl ([.ref mo, .int 1, .ref ot]) ++ List.replicate (7 - (lg_sl ([.ref mo, .int 1, .ref ot])).length) Slot.unset).toArray = ls at hl ⊢
  have hl : lv_has ls 7 [(0, .ref mo), (1, .int 1), (2, .ref ot)] := hl
  have hP : va_P (dC, dI) vwCl [(mo, .inr (9, [th, .ref al, md, rf, kn])), (al, .inr (4, [mc, .ref ed, .int (nI cc)])), (ed, .inl (cO, 10, .inr (.inr (.inr (.inr ee))))), (a0, .inr (8, [.int 4, .ref wa0, .ref na0])), (wa0, .inl (cI, 4, .inl fw0)), (na0, .inl (cI, 4, .inl fn0)), (a1, .inr (8, [.int 4, .ref wa1, .ref na1])), (wa1, .inl (cI, 4, .inl fw1)), (na1, .inl (cI, 4, .inl fn1)), (ot, .inl (cI, 4, .inl fo))] s.heap := hP
  have hD : va_D A [(mo, .inr (9, [th, .ref al, md, rf, kn])), (al, .inr (4, [mc, .ref ed, .int (nI cc)])), (ed, .inl (cO, 10, .inr (.inr (.inr (.inr ee))))), (a0, .inr (8, [.int 4, .ref wa0, .ref na0])), (wa0, .inl (cI, 4, .inl fw0)), (na0, .inl (cI, 4, .inl fn0)), (a1, .inr (8, [.int 4, .ref wa1, .ref na1])), (wa1, .inl (cI, 4, .inl fw1)), (na1, .inl (cI, 4, .inl fn1)), (ot, .inl (cI, 4, .inl fo))] := hD
  refine lv_aload_n hx hb dX4_areHung_0 rfl (lv_at hl 0 rfl) ?_
  refine va_get (D := (dC, dI)) (ci := 9) (v := .ref al) (C := RX4) (T := TX4) (N := 5) hx hb hts hi_X4_areHung_X4 hown hK hP 0 rfl rfl 1 (by decide) (hts (.fieldLink RX4 10 "DeeprowsModel" "rows" "Ljava/util/ArrayList;") (List.mem_cons_of_mem _ zw_1134)) (fun _ h9 => h9) rfl dX4_areHung_1 ?_
  refine lv_iload_n hx hb dX4_areHung_4 rfl (lv_at hl 1 rfl) ?_
  have hPc := hP.sub (ws' := [(al, .inr (4, [mc, .ref ed, .int (nI cc)])), (ed, .inl (cO, 10, .inr (.inr (.inr (.inr ee)))))]) [1, 2] rfl
  have hDc := hD.sub (ws' := [(al, .inr (4, [mc, .ref ed, .int (nI cc)])), (ed, .inl (cO, 10, .inr (.inr (.inr (.inr ee)))))]) [1, 2] (by decide) rfl
  have hFc := va_free (wc := [(al, .inr (4, [mc, .ref ed, .int (nI cc)])), (ed, .inl (cO, 10, .inr (.inr (.inr (.inr ee)))))]) hD hS hA [1, 2] rfl
  have hDv := hDc.self (sz := s.heap.size)
  have hpre := zpre (xs' := []) (av := [.ref al, .int 1]) hPc hK (hDc.weaken (fun _ _ _ h => h)) hZ hS hFc (fun r hr => by cases hr)
  refine va_callr (va_runV (As := [.int 1]) (rest := []) ⟨hx, hb, hml, hown, hts⟩ (k_get l dC dI cI cB cR cO zk al ed 1 cc 10 a1 ee mc s.heap.size (by omega) hcc2 (by decide) he1) (cwV 1 hts gX4_areHung_Jx4a65c_get_915e3 rfl rfl rfl (by decide +kernel) ⟨Nat.le_of_ble_eq_true rfl, Nat.le_of_ble_eq_true rfl⟩) ⟨zblind, (zrecv_4 hK hPc (q0 := 0) rfl), hpre⟩ rfl rfl hl.1 rfl (lv_room (Nat.le_of_ble_eq_true rfl)) dX4_areHung_5 ⟨Nat.le_of_ble_eq_true rfl, Nat.le_of_ble_eq_true rfl⟩) hS (fun q _ h => hFc q h) hFc (fun u r2 t H1 locs ht hvm hw hB hz1 hk1 hS => ?_)
  obtain ⟨⟨hP1, hK1, hD1, hz2⟩, her2⟩ := hB
  rw [ht] at hP1 hz2
  have hPD9 := va_join (wr := [(mo, .inr (9, [th, .ref al, md, rf, kn])), (a0, .inr (8, [.int 4, .ref wa0, .ref na0])), (wa0, .inl (cI, 4, .inl fw0)), (na0, .inl (cI, 4, .inl fn0)), (a1, .inr (8, [.int 4, .ref wa1, .ref na1])), (wa1, .inl (cI, 4, .inl fw1)), (na1, .inl (cI, 4, .inl fn1)), (ot, .inl (cI, 4, .inl fo))]) (w1 := [(al, .inr (4, [mc, .ref ed, .int (nI cc)])), (ed, .inl (cO, 10, .inr (.inr (.inr (.inr ee)))))]) hP hD [1, 2] [0, 3, 4, 5, 6, 7, 8, 9] rfl rfl (by decide) (by decide) hk1 hFc hP1 hD1
  clear hPc hDc hFc hDv hpre hP hD hP1 hK1 hD1
  obtain ⟨hP, hD⟩ := hPD9
  replace hz : s.heap.size + 0 ≤ H1.size := by omega
  clear hz2
  replace hP : va_P (dC, dI) vwCl [(mo, .inr (9, [th, .ref al, md, rf, kn])), (a0, .inr (8, [.int 4, .ref wa0, .ref na0])), (wa0, .inl (cI, 4, .inl fw0)), (na0, .inl (cI, 4, .inl fn0)), (a1, .inr (8, [.int 4, .ref wa1, .ref na1])), (wa1, .inl (cI, 4, .inl fw1)), (na1, .inl (cI, 4, .inl fn1)), (ot, .inl (cI, 4, .inl fo)), (al, .inr (4, [mc, .ref ed, .int (nI cc)])), (ed, .inl (cO, 10, .inr (.inr (.inr (.inr ee)))))] H1 := hP
  replace hD : va_D A [(mo, .inr (9, [th, .ref al, md, rf, kn])), (a0, .inr (8, [.int 4, .ref wa0, .ref na0])), (wa0, .inl (cI, 4, .inl fw0)), (na0, .inl (cI, 4, .inl fn0)), (a1, .inr (8, [.int 4, .ref wa1, .ref na1])), (wa1, .inl (cI, 4, .inl fw1)), (na1, .inl (cI, 4, .inl fn1)), (ot, .inl (cI, 4, .inl fo)), (al, .inr (4, [mc, .ref ed, .int (nI cc)])), (ed, .inl (cO, 10, .inr (.inr (.inr (.inr ee)))))] := hD
  refine W.widen (k := 0) (n := 0) (by omega) (by omega) ?_
  obtain rfl := her2.symm
  refine va_castE hx hb hown (hts (.classLink RX4 40 "DeeprowsModel$Row") (List.mem_cons_of_mem _ zw_1165)) (zrecv_8 hK hP (q0 := 4) rfl) dX4_areHung_8 ?_
  refine lv_astore_n (lv' := [(3, .ref a1), (0, .ref mo), (1, .int 1), (2, .ref ot)]) hx hb dX4_areHung_11 rfl hl (by decide) rfl (fun ls hl => ?_)
  refine lv_aload_n hx hb dX4_areHung_12 rfl (lv_at hl 0 rfl) ?_
  refine lv_aload_n hx hb dX4_areHung_13 rfl (lv_at hl 0 rfl) ?_
  have hPc := hP.sub (ws' := [(a1, .inr (8, [.int 4, .ref wa1, .ref na1])), (wa1, .inl (cI, 4, .inl fw1))]) [4, 5] rfl
  have hDc := hD.sub (ws' := [(a1, .inr (8, [.int 4, .ref wa1, .ref na1])), (wa1, .inl (cI, 4, .inl fw1))]) [4, 5] (by decide) rfl
  have hFc := va_free (wc := [(a1, .inr (8, [.int 4, .ref wa1, .ref na1])), (wa1, .inl (cI, 4, .inl fw1))]) hD hS hA [4, 5] rfl
  have hDv := hDc.self (sz := H1.size)
  have hpre := zpre (xs' := []) (av := [.ref a1]) hPc hK (hDc.weaken (fun _ _ _ h => h)) hZ hS hFc (fun r hr => by cases hr)
  refine va_calli (va_runV (As := []) (rest := [.ref a1]) ⟨hx, hb, hml, hown, hts⟩ (k_rlen l dC dI cI cB cR cO zk a1 wa1 na1 fw1 H1.size ) (cwV 0 hts gX4_areHung_X3_length rfl rfl rfl (by decide +kernel) ⟨Nat.le_of_ble_eq_true rfl, Nat.le_of_ble_eq_true rfl⟩) ⟨zblind, (zrecv_8 hK hPc (q0 := 0) rfl), hpre⟩ rfl rfl hl.1 rfl (lv_room (Nat.le_of_ble_eq_true rfl)) dX4_areHung_14 ⟨Nat.le_of_ble_eq_true rfl, Nat.le_of_ble_eq_true rfl⟩) hS (fun q _ h => hFc q h) hFc (fun r4 u t H3 locs ht hvm hw hB hz1 hk1 hS => ?_)
  obtain rfl : 4 = r4 := (show r4 = 4 from hw).symm
  obtain ⟨hP1, hK1, hD1, hz2⟩ := hB
  rw [ht] at hP1 hz2
  have hPD9 := va_join (wr := [(mo, .inr (9, [th, .ref al, md, rf, kn])), (a0, .inr (8, [.int 4, .ref wa0, .ref na0])), (wa0, .inl (cI, 4, .inl fw0)), (na0, .inl (cI, 4, .inl fn0)), (na1, .inl (cI, 4, .inl fn1)), (ot, .inl (cI, 4, .inl fo)), (al, .inr (4, [mc, .ref ed, .int (nI cc)])), (ed, .inl (cO, 10, .inr (.inr (.inr (.inr ee)))))]) (w1 := [(a1, .inr (8, [.int 4, .ref wa1, .ref na1])), (wa1, .inl (cI, 4, .inl fw1))]) hP hD [4, 5] [0, 1, 2, 3, 6, 7, 8, 9] rfl rfl (by decide) (by decide) hk1 hFc hP1 hD1
  clear hPc hDc hFc hDv hpre hP hD hP1 hK1 hD1
  obtain ⟨hP, hD⟩ := hPD9
  replace hz : s.heap.size + 0 ≤ H3.size := by omega
  clear hz2
  replace hP : va_P (dC, dI) vwCl [(mo, .inr (9, [th, .ref al, md, rf, kn])), (a0, .inr (8, [.int 4, .ref wa0, .ref na0])), (wa0, .inl (cI, 4, .inl fw0)), (na0, .inl (cI, 4, .inl fn0)), (na1, .inl (cI, 4, .inl fn1)), (ot, .inl (cI, 4, .inl fo)), (al, .inr (4, [mc, .ref ed, .int (nI cc)])), (ed, .inl (cO, 10, .inr (.inr (.inr (.inr ee))))), (a1, .inr (8, [.int 4, .ref wa1, .ref na1])), (wa1, .inl (cI, 4, .inl fw1))] H3 := hP
  replace hD : va_D A [(mo, .inr (9, [th, .ref al, md, rf, kn])), (a0, .inr (8, [.int 4, .ref wa0, .ref na0])), (wa0, .inl (cI, 4, .inl fw0)), (na0, .inl (cI, 4, .inl fn0)), (na1, .inl (cI, 4, .inl fn1)), (ot, .inl (cI, 4, .inl fo)), (al, .inr (4, [mc, .ref ed, .int (nI cc)])), (ed, .inl (cO, 10, .inr (.inr (.inr (.inr ee))))), (a1, .inr (8, [.int 4, .ref wa1, .ref na1])), (wa1, .inl (cI, 4, .inl fw1))] := hD
  refine W.widen (k := 0) (n := 0) (by omega) (by omega) ?_
  have hPc := hP.sub (ws' := [(a1, .inr (8, [.int 4, .ref wa1, .ref na1])), (wa1, .inl (cI, 4, .inl fw1)), (na1, .inl (cI, 4, .inl fn1))]) [8, 9, 4] rfl
  have hDc := hD.sub (ws' := [(a1, .inr (8, [.int 4, .ref wa1, .ref na1])), (wa1, .inl (cI, 4, .inl fw1)), (na1, .inl (cI, 4, .inl fn1))]) [8, 9, 4] (by decide) rfl
  have hFc := va_free (wc := [(a1, .inr (8, [.int 4, .ref wa1, .ref na1])), (wa1, .inl (cI, 4, .inl fw1)), (na1, .inl (cI, 4, .inl fn1))]) hD hS hA [8, 9, 4] rfl
  have hDv := hDc.self (sz := H3.size)
  have hpre := zpre (xs' := []) (av := [.ref a1, .int 4]) hPc hK (hDc.weaken (fun _ _ _ h => h)) hZ hS hFc (fun r hr => by cases hr)
  refine va_callr (va_runV (As := [.int 4]) (rest := []) ⟨hx, hb, hml, hown, hts⟩ (k_mtw l dC dI cI cB cR cO zk a1 wa1 na1 fw1 fn1 H3.size hw1 hn1) (cwV 1 hts gX4_areHung_X3_twin rfl rfl rfl (by decide +kernel) ⟨Nat.le_of_ble_eq_true rfl, Nat.le_of_ble_eq_true rfl⟩) ⟨zblind, (zrecv_8 hK hPc (q0 := 0) rfl), hpre⟩ rfl rfl hl.1 rfl (lv_room (Nat.le_of_ble_eq_true rfl)) dX4_areHung_17 ⟨Nat.le_of_ble_eq_true rfl, Nat.le_of_ble_eq_true rfl⟩) hS (fun q _ h => hFc q h) hFc (fun u r6 t H5 locs ht hvm hw hB hz1 hk1 hS => ?_)
  obtain ⟨wb7, nb8, fb9, gb10, ⟨hP1, hK1, hD1, hz2⟩⟩ := hB
  rw [ht] at hP1 hz2
  have hPD9 := va_join (wr := [(mo, .inr (9, [th, .ref al, md, rf, kn])), (a0, .inr (8, [.int 4, .ref wa0, .ref na0])), (wa0, .inl (cI, 4, .inl fw0)), (na0, .inl (cI, 4, .inl fn0)), (ot, .inl (cI, 4, .inl fo)), (al, .inr (4, [mc, .ref ed, .int (nI cc)])), (ed, .inl (cO, 10, .inr (.inr (.inr (.inr ee)))))]) (w1 := [(a1, .inr (8, [.int 4, .ref wa1, .ref na1])), (wa1, .inl (cI, 4, .inl fw1)), (na1, .inl (cI, 4, .inl fn1)), (r6, .inr (8, [.int 4, .ref wb7, .ref nb8])), (wb7, .inl (cI, 4, .inl fb9)), (nb8, .inl (cI, 4, .inl gb10))]) hP hD [8, 9, 4] [0, 1, 2, 3, 5, 6, 7] rfl rfl (by decide) (by decide) hk1 hFc hP1 hD1
  clear hPc hDc hFc hDv hpre hP hD hP1 hK1 hD1
  obtain ⟨hP, hD⟩ := hPD9
  replace hz : s.heap.size + 3 ≤ H5.size := by omega
  clear hz2
  replace hP : va_P (dC, dI) vwCl [(mo, .inr (9, [th, .ref al, md, rf, kn])), (a0, .inr (8, [.int 4, .ref wa0, .ref na0])), (wa0, .inl (cI, 4, .inl fw0)), (na0, .inl (cI, 4, .inl fn0)), (ot, .inl (cI, 4, .inl fo)), (al, .inr (4, [mc, .ref ed, .int (nI cc)])), (ed, .inl (cO, 10, .inr (.inr (.inr (.inr ee))))), (a1, .inr (8, [.int 4, .ref wa1, .ref na1])), (wa1, .inl (cI, 4, .inl fw1)), (na1, .inl (cI, 4, .inl fn1)), (r6, .inr (8, [.int 4, .ref wb7, .ref nb8])), (wb7, .inl (cI, 4, .inl fb9)), (nb8, .inl (cI, 4, .inl gb10))] H5 := hP
  replace hD : va_D A [(mo, .inr (9, [th, .ref al, md, rf, kn])), (a0, .inr (8, [.int 4, .ref wa0, .ref na0])), (wa0, .inl (cI, 4, .inl fw0)), (na0, .inl (cI, 4, .inl fn0)), (ot, .inl (cI, 4, .inl fo)), (al, .inr (4, [mc, .ref ed, .int (nI cc)])), (ed, .inl (cO, 10, .inr (.inr (.inr (.inr ee))))), (a1, .inr (8, [.int 4, .ref wa1, .ref na1])), (wa1, .inl (cI, 4, .inl fw1)), (na1, .inl (cI, 4, .inl fn1)), (r6, .inr (8, [.int 4, .ref wb7, .ref nb8])), (wb7, .inl (cI, 4, .inl fb9)), (nb8, .inl (cI, 4, .inl gb10))] := hD
  refine W.widen (k := 3) (n := 11) (by omega) (by omega) ?_
  refine lv_astore (lv' := [(4, .ref r6), (3, .ref a1), (0, .ref mo), (1, .int 1), (2, .ref ot)]) hx hb dX4_areHung_20 hl (by decide) rfl (fun ls hl => ?_)
  refine lv_iconst (v := 0) hx hb dX4_areHung_22 (by decide) ?_
  refine lv_istore (lv' := [(5, .int 0), (4, .ref r6), (3, .ref a1), (0, .ref mo), (1, .int 1), (2, .ref ot)]) hx hb dX4_areHung_23 hl (by decide) rfl (fun ls hl => ?_)
  refine lv_iload hx hb dX4_areHung_25 (lv_at hl 0 rfl) ?_
  refine lv_aload_n hx hb dX4_areHung_27 rfl (lv_at hl 5 rfl) ?_
  refine va_alen (D := (dC, dI)) (cl := vwCl) (v := 4) hx hb hK hP 4 0 rfl rfl rfl dX4_areHung_28 ?_
  refine lv_icmp_ge (tgt := 57) hx hb dX4_areHung_29 (by decide) (fun c9 => ?_) (fun c9 => ?_)
  · exact absurd c9 (by decide)
  refine lv_aload_n hx hb dX4_areHung_32 rfl (lv_at hl 5 rfl) ?_
  refine lv_iload hx hb dX4_areHung_33 (lv_at hl 0 rfl) ?_
  refine va_iald (D := (dC, dI)) (cl := vwCl) hx hb hK hP 4 0 rfl rfl (by unfold vp_in; decide) dX4_areHung_35 ?_
  refine lv_topi (fun v11 ev11 => ?_)
  obtain rfl : v11 = 0 := ev11.trans (ho 0 (by decide))
  refine lv_iconst (v := (-1)) hx hb dX4_areHung_36 (by decide) ?_
  refine lv_icmp_eq (tgt := 51) hx hb dX4_areHung_37 (by decide) (fun c9 => ?_) (fun c9 => ?_)
  · exact absurd c9 (by decide)
  refine lv_aload_n hx hb dX4_areHung_40 rfl (lv_at hl 2 rfl) ?_
  refine lv_iload hx hb dX4_areHung_41 (lv_at hl 0 rfl) ?_
  refine lv_iconst (v := 3) hx hb dX4_areHung_43 (by decide) ?_
  refine lv_aload_n hx hb dX4_areHung_44 rfl (lv_at hl 5 rfl) ?_
  refine lv_iload hx hb dX4_areHung_45 (lv_at hl 0 rfl) ?_
  refine va_iald (D := (dC, dI)) (cl := vwCl) hx hb hK hP 4 0 rfl rfl (by unfold vp_in; decide) dX4_areHung_47 ?_
  refine lv_topi (fun v12 ev12 => ?_)
  obtain rfl : v12 = 0 := ev12.trans (ho 0 (by decide))
  have hPc := hP.sub (ws' := [(a1, .inr (8, [.int 4, .ref wa1, .ref na1])), (wa1, .inl (cI, 4, .inl fw1)), (na1, .inl (cI, 4, .inl fn1))]) [7, 8, 9] rfl
  have hDc := hD.sub (ws' := [(a1, .inr (8, [.int 4, .ref wa1, .ref na1])), (wa1, .inl (cI, 4, .inl fw1)), (na1, .inl (cI, 4, .inl fn1))]) [7, 8, 9] (by decide) rfl
  have hFc := va_free (wc := [(a1, .inr (8, [.int 4, .ref wa1, .ref na1])), (wa1, .inl (cI, 4, .inl fw1)), (na1, .inl (cI, 4, .inl fn1))]) hD hS hA [7, 8, 9] rfl
  have hDv := hDc.self (sz := H5.size)
  have hpre := zpre (xs' := []) (av := [.ref a1, .int 0, .int 3, .int 0]) hPc hK (hDc.weaken (fun _ _ _ h => h)) hZ hS hFc (fun r hr => by cases hr)
  refine va_callv (va_runV (As := [.int 0, .int 3, .int 0]) (rest := []) ⟨hx, hb, hml, hown, hts⟩ (k_mp0 l dC dI cI cB cR cO zk a1 wa1 na1 fw1 fn1 3 0 H5.size ) (cwV 3 hts gX4_areHung_X3_put rfl rfl rfl (by decide +kernel) ⟨Nat.le_of_ble_eq_true rfl, Nat.le_of_ble_eq_true rfl⟩) ⟨zblind, (zrecv_8 hK hPc (q0 := 0) rfl), hpre⟩ rfl rfl hl.1 rfl (lv_room (Nat.le_of_ble_eq_true rfl)) dX4_areHung_48 ⟨Nat.le_of_ble_eq_true rfl, Nat.le_of_ble_eq_true rfl⟩) hS (fun q _ h => hFc q h) hFc (fun u t H13 locs ht hvm hw hB hz1 hk1 hS => ?_)
  obtain ⟨hP1, hK1, hD1, hz2⟩ := hB
  rw [ht] at hP1 hz2
  have hPD9 := va_join (wr := [(mo, .inr (9, [th, .ref al, md, rf, kn])), (a0, .inr (8, [.int 4, .ref wa0, .ref na0])), (wa0, .inl (cI, 4, .inl fw0)), (na0, .inl (cI, 4, .inl fn0)), (ot, .inl (cI, 4, .inl fo)), (al, .inr (4, [mc, .ref ed, .int (nI cc)])), (ed, .inl (cO, 10, .inr (.inr (.inr (.inr ee))))), (r6, .inr (8, [.int 4, .ref wb7, .ref nb8])), (wb7, .inl (cI, 4, .inl fb9)), (nb8, .inl (cI, 4, .inl gb10))]) (w1 := [(a1, .inr (8, [.int 4, .ref wa1, .ref na1])), (wa1, .inl (cI, 4, .inl (upd fw1 0 3))), (na1, .inl (cI, 4, .inl (upd fn1 0 0)))]) hP hD [7, 8, 9] [0, 1, 2, 3, 4, 5, 6, 10, 11, 12] rfl rfl (by decide) (by decide) hk1 hFc hP1 hD1
  clear hPc hDc hFc hDv hpre hP hD hP1 hK1 hD1
  obtain ⟨hP, hD⟩ := hPD9
  replace hz : s.heap.size + 3 ≤ H13.size := by omega
  clear hz2
  replace hP : va_P (dC, dI) vwCl [(mo, .inr (9, [th, .ref al, md, rf, kn])), (a0, .inr (8, [.int 4, .ref wa0, .ref na0])), (wa0, .inl (cI, 4, .inl fw0)), (na0, .inl (cI, 4, .inl fn0)), (ot, .inl (cI, 4, .inl fo)), (al, .inr (4, [mc, .ref ed, .int (nI cc)])), (ed, .inl (cO, 10, .inr (.inr (.inr (.inr ee))))), (r6, .inr (8, [.int 4, .ref wb7, .ref nb8])), (wb7, .inl (cI, 4, .inl fb9)), (nb8, .inl (cI, 4, .inl gb10)), (a1, .inr (8, [.int 4, .ref wa1, .ref na1])), (wa1, .inl (cI, 4, .inl (upd fw1 0 3))), (na1, .inl (cI, 4, .inl (upd fn1 0 0)))] H13 := hP
  replace hD : va_D A [(mo, .inr (9, [th, .ref al, md, rf, kn])), (a0, .inr (8, [.int 4, .ref wa0, .ref na0])), (wa0, .inl (cI, 4, .inl fw0)), (na0, .inl (cI, 4, .inl fn0)), (ot, .inl (cI, 4, .inl fo)), (al, .inr (4, [mc, .ref ed, .int (nI cc)])), (ed, .inl (cO, 10, .inr (.inr (.inr (.inr ee))))), (r6, .inr (8, [.int 4, .ref wb7, .ref nb8])), (wb7, .inl (cI, 4, .inl fb9)), (nb8, .inl (cI, 4, .inl gb10)), (a1, .inr (8, [.int 4, .ref wa1, .ref na1])), (wa1, .inl (cI, 4, .inl (upd fw1 0 3))), (na1, .inl (cI, 4, .inl (upd fn1 0 0)))] := hD
  refine W.widen (k := 3) (n := 11) (by omega) (by omega) ?_
  refine lv_iinc (v := 1) (lv' := [(5, .int 1), (4, .ref r6), (3, .ref a1), (0, .ref mo), (1, .int 1), (2, .ref ot)]) hx hb dX4_areHung_51 hl (k := 0) rfl (by decide) (by decide) rfl (fun ls hl => ?_)
  refine lv_goto (tgt := 25) hx hb dX4_areHung_54 (by decide) ?_
  refine lv_iload hx hb dX4_areHung_25 (lv_at hl 0 rfl) ?_
  refine lv_aload_n hx hb dX4_areHung_27 rfl (lv_at hl 5 rfl) ?_
  refine va_alen (D := (dC, dI)) (cl := vwCl) (v := 4) hx hb hK hP 4 0 rfl rfl rfl dX4_areHung_28 ?_
  refine lv_icmp_ge (tgt := 57) hx hb dX4_areHung_29 (by decide) (fun c9 => ?_) (fun c9 => ?_)
  · exact absurd c9 (by decide)
  refine lv_aload_n hx hb dX4_areHung_32 rfl (lv_at hl 5 rfl) ?_
  refine lv_iload hx hb dX4_areHung_33 (lv_at hl 0 rfl) ?_
  refine va_iald (D := (dC, dI)) (cl := vwCl) hx hb hK hP 4 0 rfl rfl (by unfold vp_in; decide) dX4_areHung_35 ?_
  refine lv_topi (fun v15 ev15 => ?_)
  obtain rfl : v15 = 0 := ev15.trans (ho 1 (by decide))
  refine lv_iconst (v := (-1)) hx hb dX4_areHung_36 (by decide) ?_
  refine lv_icmp_eq (tgt := 51) hx hb dX4_areHung_37 (by decide) (fun c9 => ?_) (fun c9 => ?_)
  · exact absurd c9 (by decide)
  refine lv_aload_n hx hb dX4_areHung_40 rfl (lv_at hl 2 rfl) ?_
  refine lv_iload hx hb dX4_areHung_41 (lv_at hl 0 rfl) ?_
  refine lv_iconst (v := 3) hx hb dX4_areHung_43 (by decide) ?_
  refine lv_aload_n hx hb dX4_areHung_44 rfl (lv_at hl 5 rfl) ?_
  refine lv_iload hx hb dX4_areHung_45 (lv_at hl 0 rfl) ?_
  refine va_iald (D := (dC, dI)) (cl := vwCl) hx hb hK hP 4 0 rfl rfl (by unfold vp_in; decide) dX4_areHung_47 ?_
  refine lv_topi (fun v16 ev16 => ?_)
  obtain rfl : v16 = 0 := ev16.trans (ho 1 (by decide))
  have hPc := hP.sub (ws' := [(a1, .inr (8, [.int 4, .ref wa1, .ref na1])), (wa1, .inl (cI, 4, .inl (upd fw1 0 3))), (na1, .inl (cI, 4, .inl (upd fn1 0 0)))]) [10, 11, 12] rfl
  have hDc := hD.sub (ws' := [(a1, .inr (8, [.int 4, .ref wa1, .ref na1])), (wa1, .inl (cI, 4, .inl (upd fw1 0 3))), (na1, .inl (cI, 4, .inl (upd fn1 0 0)))]) [10, 11, 12] (by decide) rfl
  have hFc := va_free (wc := [(a1, .inr (8, [.int 4, .ref wa1, .ref na1])), (wa1, .inl (cI, 4, .inl (upd fw1 0 3))), (na1, .inl (cI, 4, .inl (upd fn1 0 0)))]) hD hS hA [10, 11, 12] rfl
  have hDv := hDc.self (sz := H13.size)
  have hpre := zpre (xs' := []) (av := [.ref a1, .int 1, .int 3, .int 0]) hPc hK (hDc.weaken (fun _ _ _ h => h)) hZ hS hFc (fun r hr => by cases hr)
  refine va_callv (va_runV (As := [.int 1, .int 3, .int 0]) (rest := []) ⟨hx, hb, hml, hown, hts⟩ (k_mp1 l dC dI cI cB cR cO zk a1 wa1 na1 (upd fw1 0 3) (upd fn1 0 0) 3 0 H13.size ) (cwV 3 hts gX4_areHung_X3_put rfl rfl rfl (by decide +kernel) ⟨Nat.le_of_ble_eq_true rfl, Nat.le_of_ble_eq_true rfl⟩) ⟨zblind, (zrecv_8 hK hPc (q0 := 0) rfl), hpre⟩ rfl rfl hl.1 rfl (lv_room (Nat.le_of_ble_eq_true rfl)) dX4_areHung_48 ⟨Nat.le_of_ble_eq_true rfl, Nat.le_of_ble_eq_true rfl⟩) hS (fun q _ h => hFc q h) hFc (fun u t H17 locs ht hvm hw hB hz1 hk1 hS => ?_)
  obtain ⟨hP1, hK1, hD1, hz2⟩ := hB
  rw [ht] at hP1 hz2
  have hPD9 := va_join (wr := [(mo, .inr (9, [th, .ref al, md, rf, kn])), (a0, .inr (8, [.int 4, .ref wa0, .ref na0])), (wa0, .inl (cI, 4, .inl fw0)), (na0, .inl (cI, 4, .inl fn0)), (ot, .inl (cI, 4, .inl fo)), (al, .inr (4, [mc, .ref ed, .int (nI cc)])), (ed, .inl (cO, 10, .inr (.inr (.inr (.inr ee))))), (r6, .inr (8, [.int 4, .ref wb7, .ref nb8])), (wb7, .inl (cI, 4, .inl fb9)), (nb8, .inl (cI, 4, .inl gb10))]) (w1 := [(a1, .inr (8, [.int 4, .ref wa1, .ref na1])), (wa1, .inl (cI, 4, .inl (upd (upd fw1 0 3) 1 3))), (na1, .inl (cI, 4, .inl (upd (upd fn1 0 0) 1 0)))]) hP hD [10, 11, 12] [0, 1, 2, 3, 4, 5, 6, 7, 8, 9] rfl rfl (by decide) (by decide) hk1 hFc hP1 hD1
  clear hPc hDc hFc hDv hpre hP hD hP1 hK1 hD1
  obtain ⟨hP, hD⟩ := hPD9
  replace hz : s.heap.size + 3 ≤ H17.size := by omega
  clear hz2
  replace hP : va_P (dC, dI) vwCl [(mo, .inr (9, [th, .ref al, md, rf, kn])), (a0, .inr (8, [.int 4, .ref wa0, .ref na0])), (wa0, .inl (cI, 4, .inl fw0)), (na0, .inl (cI, 4, .inl fn0)), (ot, .inl (cI, 4, .inl fo)), (al, .inr (4, [mc, .ref ed, .int (nI cc)])), (ed, .inl (cO, 10, .inr (.inr (.inr (.inr ee))))), (r6, .inr (8, [.int 4, .ref wb7, .ref nb8])), (wb7, .inl (cI, 4, .inl fb9)), (nb8, .inl (cI, 4, .inl gb10)), (a1, .inr (8, [.int 4, .ref wa1, .ref na1])), (wa1, .inl (cI, 4, .inl (upd (upd fw1 0 3) 1 3))), (na1, .inl (cI, 4, .inl (upd (upd fn1 0 0) 1 0)))] H17 := hP
  replace hD : va_D A [(mo, .inr (9, [th, .ref al, md, rf, kn])), (a0, .inr (8, [.int 4, .ref wa0, .ref na0])), (wa0, .inl (cI, 4, .inl fw0)), (na0, .inl (cI, 4, .inl fn0)), (ot, .inl (cI, 4, .inl fo)), (al, .inr (4, [mc, .ref ed, .int (nI cc)])), (ed, .inl (cO, 10, .inr (.inr (.inr (.inr ee))))), (r6, .inr (8, [.int 4, .ref wb7, .ref nb8])), (wb7, .inl (cI, 4, .inl fb9)), (nb8, .inl (cI, 4, .inl gb10)), (a1, .inr (8, [.int 4, .ref wa1, .ref na1])), (wa1, .inl (cI, 4, .inl (upd (upd fw1 0 3) 1 3))), (na1, .inl (cI, 4, .inl (upd (upd fn1 0 0) 1 0)))] := hD
  refine W.widen (k := 3) (n := 11) (by omega) (by omega) ?_
  refine lv_iinc (v := 2) (lv' := [(5, .int 2), (4, .ref r6), (3, .ref a1), (0, .ref mo), (1, .int 1), (2, .ref ot)]) hx hb dX4_areHung_51 hl (k := 0) rfl (by decide) (by decide) rfl (fun ls hl => ?_)
  refine lv_goto (tgt := 25) hx hb dX4_areHung_54 (by decide) ?_
  refine lv_iload hx hb dX4_areHung_25 (lv_at hl 0 rfl) ?_
  refine lv_aload_n hx hb dX4_areHung_27 rfl (lv_at hl 5 rfl) ?_
  refine va_alen (D := (dC, dI)) (cl := vwCl) (v := 4) hx hb hK hP 4 0 rfl rfl rfl dX4_areHung_28 ?_
  refine lv_icmp_ge (tgt := 57) hx hb dX4_areHung_29 (by decide) (fun c9 => ?_) (fun c9 => ?_)
  · exact absurd c9 (by decide)
  refine lv_aload_n hx hb dX4_areHung_32 rfl (lv_at hl 5 rfl) ?_
  refine lv_iload hx hb dX4_areHung_33 (lv_at hl 0 rfl) ?_
  refine va_iald (D := (dC, dI)) (cl := vwCl) hx hb hK hP 4 0 rfl rfl (by unfold vp_in; decide) dX4_areHung_35 ?_
  refine lv_topi (fun v19 ev19 => ?_)
  obtain rfl : v19 = 0 := ev19.trans (ho 2 (by decide))
  refine lv_iconst (v := (-1)) hx hb dX4_areHung_36 (by decide) ?_
  refine lv_icmp_eq (tgt := 51) hx hb dX4_areHung_37 (by decide) (fun c9 => ?_) (fun c9 => ?_)
  · exact absurd c9 (by decide)
  refine lv_aload_n hx hb dX4_areHung_40 rfl (lv_at hl 2 rfl) ?_
  refine lv_iload hx hb dX4_areHung_41 (lv_at hl 0 rfl) ?_
  refine lv_iconst (v := 3) hx hb dX4_areHung_43 (by decide) ?_
  refine lv_aload_n hx hb dX4_areHung_44 rfl (lv_at hl 5 rfl) ?_
  refine lv_iload hx hb dX4_areHung_45 (lv_at hl 0 rfl) ?_
  refine va_iald (D := (dC, dI)) (cl := vwCl) hx hb hK hP 4 0 rfl rfl (by unfold vp_in; decide) dX4_areHung_47 ?_
  refine lv_topi (fun v20 ev20 => ?_)
  obtain rfl : v20 = 0 := ev20.trans (ho 2 (by decide))
  have hPc := hP.sub (ws' := [(a1, .inr (8, [.int 4, .ref wa1, .ref na1])), (wa1, .inl (cI, 4, .inl (upd (upd fw1 0 3) 1 3))), (na1, .inl (cI, 4, .inl (upd (upd fn1 0 0) 1 0)))]) [10, 11, 12] rfl
  have hDc := hD.sub (ws' := [(a1, .inr (8, [.int 4, .ref wa1, .ref na1])), (wa1, .inl (cI, 4, .inl (upd (upd fw1 0 3) 1 3))), (na1, .inl (cI, 4, .inl (upd (upd fn1 0 0) 1 0)))]) [10, 11, 12] (by decide) rfl
  have hFc := va_free (wc := [(a1, .inr (8, [.int 4, .ref wa1, .ref na1])), (wa1, .inl (cI, 4, .inl (upd (upd fw1 0 3) 1 3))), (na1, .inl (cI, 4, .inl (upd (upd fn1 0 0) 1 0)))]) hD hS hA [10, 11, 12] rfl
  have hDv := hDc.self (sz := H17.size)
  have hpre := zpre (xs' := []) (av := [.ref a1, .int 2, .int 3, .int 0]) hPc hK (hDc.weaken (fun _ _ _ h => h)) hZ hS hFc (fun r hr => by cases hr)
  refine va_callv (va_runV (As := [.int 2, .int 3, .int 0]) (rest := []) ⟨hx, hb, hml, hown, hts⟩ (k_mp2 l dC dI cI cB cR cO zk a1 wa1 na1 (upd (upd fw1 0 3) 1 3) (upd (upd fn1 0 0) 1 0) 3 0 H17.size ) (cwV 3 hts gX4_areHung_X3_put rfl rfl rfl (by decide +kernel) ⟨Nat.le_of_ble_eq_true rfl, Nat.le_of_ble_eq_true rfl⟩) ⟨zblind, (zrecv_8 hK hPc (q0 := 0) rfl), hpre⟩ rfl rfl hl.1 rfl (lv_room (Nat.le_of_ble_eq_true rfl)) dX4_areHung_48 ⟨Nat.le_of_ble_eq_true rfl, Nat.le_of_ble_eq_true rfl⟩) hS (fun q _ h => hFc q h) hFc (fun u t H21 locs ht hvm hw hB hz1 hk1 hS => ?_)
  obtain ⟨hP1, hK1, hD1, hz2⟩ := hB
  rw [ht] at hP1 hz2
  have hPD9 := va_join (wr := [(mo, .inr (9, [th, .ref al, md, rf, kn])), (a0, .inr (8, [.int 4, .ref wa0, .ref na0])), (wa0, .inl (cI, 4, .inl fw0)), (na0, .inl (cI, 4, .inl fn0)), (ot, .inl (cI, 4, .inl fo)), (al, .inr (4, [mc, .ref ed, .int (nI cc)])), (ed, .inl (cO, 10, .inr (.inr (.inr (.inr ee))))), (r6, .inr (8, [.int 4, .ref wb7, .ref nb8])), (wb7, .inl (cI, 4, .inl fb9)), (nb8, .inl (cI, 4, .inl gb10))]) (w1 := [(a1, .inr (8, [.int 4, .ref wa1, .ref na1])), (wa1, .inl (cI, 4, .inl (upd (upd (upd fw1 0 3) 1 3) 2 3))), (na1, .inl (cI, 4, .inl (upd (upd (upd fn1 0 0) 1 0) 2 0)))]) hP hD [10, 11, 12] [0, 1, 2, 3, 4, 5, 6, 7, 8, 9] rfl rfl (by decide) (by decide) hk1 hFc hP1 hD1
  clear hPc hDc hFc hDv hpre hP hD hP1 hK1 hD1
  obtain ⟨hP, hD⟩ := hPD9
  replace hz : s.heap.size + 3 ≤ H21.size := by omega
  clear hz2
  replace hP : va_P (dC, dI) vwCl [(mo, .inr (9, [th, .ref al, md, rf, kn])), (a0, .inr (8, [.int 4, .ref wa0, .ref na0])), (wa0, .inl (cI, 4, .inl fw0)), (na0, .inl (cI, 4, .inl fn0)), (ot, .inl (cI, 4, .inl fo)), (al, .inr (4, [mc, .ref ed, .int (nI cc)])), (ed, .inl (cO, 10, .inr (.inr (.inr (.inr ee))))), (r6, .inr (8, [.int 4, .ref wb7, .ref nb8])), (wb7, .inl (cI, 4, .inl fb9)), (nb8, .inl (cI, 4, .inl gb10)), (a1, .inr (8, [.int 4, .ref wa1, .ref na1])), (wa1, .inl (cI, 4, .inl (upd (upd (upd fw1 0 3) 1 3) 2 3))), (na1, .inl (cI, 4, .inl (upd (upd (upd fn1 0 0) 1 0) 2 0)))] H21 := hP
  replace hD : va_D A [(mo, .inr (9, [th, .ref al, md, rf, kn])), (a0, .inr (8, [.int 4, .ref wa0, .ref na0])), (wa0, .inl (cI, 4, .inl fw0)), (na0, .inl (cI, 4, .inl fn0)), (ot, .inl (cI, 4, .inl fo)), (al, .inr (4, [mc, .ref ed, .int (nI cc)])), (ed, .inl (cO, 10, .inr (.inr (.inr (.inr ee))))), (r6, .inr (8, [.int 4, .ref wb7, .ref nb8])), (wb7, .inl (cI, 4, .inl fb9)), (nb8, .inl (cI, 4, .inl gb10)), (a1, .inr (8, [.int 4, .ref wa1, .ref na1])), (wa1, .inl (cI, 4, .inl (upd (upd (upd fw1 0 3) 1 3) 2 3))), (na1, .inl (cI, 4, .inl (upd (upd (upd fn1 0 0) 1 0) 2 0)))] := hD
  refine W.widen (k := 3) (n := 11) (by omega) (by omega) ?_
  refine lv_iinc (v := 3) (lv' := [(5, .int 3), (4, .ref r6), (3, .ref a1), (0, .ref mo), (1, .int 1), (2, .ref ot)]) hx hb dX4_areHung_51 hl (k := 0) rfl (by decide) (by decide) rfl (fun ls hl => ?_)
  refine lv_goto (tgt := 25) hx hb dX4_areHung_54 (by decide) ?_
  refine lv_iload hx hb dX4_areHung_25 (lv_at hl 0 rfl) ?_
  refine lv_aload_n hx hb dX4_areHung_27 rfl (lv_at hl 5 rfl) ?_
  refine va_alen (D := (dC, dI)) (cl := vwCl) (v := 4) hx hb hK hP 4 0 rfl rfl rfl dX4_areHung_28 ?_
  refine lv_icmp_ge (tgt := 57) hx hb dX4_areHung_29 (by decide) (fun c9 => ?_) (fun c9 => ?_)
  · exact absurd c9 (by decide)
  refine lv_aload_n hx hb dX4_areHung_32 rfl (lv_at hl 5 rfl) ?_
  refine lv_iload hx hb dX4_areHung_33 (lv_at hl 0 rfl) ?_
  refine va_iald (D := (dC, dI)) (cl := vwCl) hx hb hK hP 4 0 rfl rfl (by unfold vp_in; decide) dX4_areHung_35 ?_
  refine lv_topi (fun v23 ev23 => ?_)
  obtain rfl : v23 = 0 := ev23.trans (ho 3 (by decide))
  refine lv_iconst (v := (-1)) hx hb dX4_areHung_36 (by decide) ?_
  refine lv_icmp_eq (tgt := 51) hx hb dX4_areHung_37 (by decide) (fun c9 => ?_) (fun c9 => ?_)
  · exact absurd c9 (by decide)
  refine lv_aload_n hx hb dX4_areHung_40 rfl (lv_at hl 2 rfl) ?_
  refine lv_iload hx hb dX4_areHung_41 (lv_at hl 0 rfl) ?_
  refine lv_iconst (v := 3) hx hb dX4_areHung_43 (by decide) ?_
  refine lv_aload_n hx hb dX4_areHung_44 rfl (lv_at hl 5 rfl) ?_
  refine lv_iload hx hb dX4_areHung_45 (lv_at hl 0 rfl) ?_
  refine va_iald (D := (dC, dI)) (cl := vwCl) hx hb hK hP 4 0 rfl rfl (by unfold vp_in; decide) dX4_areHung_47 ?_
  refine lv_topi (fun v24 ev24 => ?_)
  obtain rfl : v24 = 0 := ev24.trans (ho 3 (by decide))
  have hPc := hP.sub (ws' := [(a1, .inr (8, [.int 4, .ref wa1, .ref na1])), (wa1, .inl (cI, 4, .inl (upd (upd (upd fw1 0 3) 1 3) 2 3))), (na1, .inl (cI, 4, .inl (upd (upd (upd fn1 0 0) 1 0) 2 0)))]) [10, 11, 12] rfl
  have hDc := hD.sub (ws' := [(a1, .inr (8, [.int 4, .ref wa1, .ref na1])), (wa1, .inl (cI, 4, .inl (upd (upd (upd fw1 0 3) 1 3) 2 3))), (na1, .inl (cI, 4, .inl (upd (upd (upd fn1 0 0) 1 0) 2 0)))]) [10, 11, 12] (by decide) rfl
  have hFc := va_free (wc := [(a1, .inr (8, [.int 4, .ref wa1, .ref na1])), (wa1, .inl (cI, 4, .inl (upd (upd (upd fw1 0 3) 1 3) 2 3))), (na1, .inl (cI, 4, .inl (upd (upd (upd fn1 0 0) 1 0) 2 0)))]) hD hS hA [10, 11, 12] rfl
  have hDv := hDc.self (sz := H21.size)
  have hpre := zpre (xs' := []) (av := [.ref a1, .int 3, .int 3, .int 0]) hPc hK (hDc.weaken (fun _ _ _ h => h)) hZ hS hFc (fun r hr => by cases hr)
  refine va_callv (va_runV (As := [.int 3, .int 3, .int 0]) (rest := []) ⟨hx, hb, hml, hown, hts⟩ (k_mp3 l dC dI cI cB cR cO zk a1 wa1 na1 (upd (upd (upd fw1 0 3) 1 3) 2 3) (upd (upd (upd fn1 0 0) 1 0) 2 0) 3 0 H21.size ) (cwV 3 hts gX4_areHung_X3_put rfl rfl rfl (by decide +kernel) ⟨Nat.le_of_ble_eq_true rfl, Nat.le_of_ble_eq_true rfl⟩) ⟨zblind, (zrecv_8 hK hPc (q0 := 0) rfl), hpre⟩ rfl rfl hl.1 rfl (lv_room (Nat.le_of_ble_eq_true rfl)) dX4_areHung_48 ⟨Nat.le_of_ble_eq_true rfl, Nat.le_of_ble_eq_true rfl⟩) hS (fun q _ h => hFc q h) hFc (fun u t H25 locs ht hvm hw hB hz1 hk1 hS => ?_)
  obtain ⟨hP1, hK1, hD1, hz2⟩ := hB
  rw [ht] at hP1 hz2
  have hPD9 := va_join (wr := [(mo, .inr (9, [th, .ref al, md, rf, kn])), (a0, .inr (8, [.int 4, .ref wa0, .ref na0])), (wa0, .inl (cI, 4, .inl fw0)), (na0, .inl (cI, 4, .inl fn0)), (ot, .inl (cI, 4, .inl fo)), (al, .inr (4, [mc, .ref ed, .int (nI cc)])), (ed, .inl (cO, 10, .inr (.inr (.inr (.inr ee))))), (r6, .inr (8, [.int 4, .ref wb7, .ref nb8])), (wb7, .inl (cI, 4, .inl fb9)), (nb8, .inl (cI, 4, .inl gb10))]) (w1 := [(a1, .inr (8, [.int 4, .ref wa1, .ref na1])), (wa1, .inl (cI, 4, .inl (upd (upd (upd (upd fw1 0 3) 1 3) 2 3) 3 3))), (na1, .inl (cI, 4, .inl (upd (upd (upd (upd fn1 0 0) 1 0) 2 0) 3 0)))]) hP hD [10, 11, 12] [0, 1, 2, 3, 4, 5, 6, 7, 8, 9] rfl rfl (by decide) (by decide) hk1 hFc hP1 hD1
  clear hPc hDc hFc hDv hpre hP hD hP1 hK1 hD1
  obtain ⟨hP, hD⟩ := hPD9
  replace hz : s.heap.size + 3 ≤ H25.size := by omega
  clear hz2
  replace hP : va_P (dC, dI) vwCl [(mo, .inr (9, [th, .ref al, md, rf, kn])), (a0, .inr (8, [.int 4, .ref wa0, .ref na0])), (wa0, .inl (cI, 4, .inl fw0)), (na0, .inl (cI, 4, .inl fn0)), (ot, .inl (cI, 4, .inl fo)), (al, .inr (4, [mc, .ref ed, .int (nI cc)])), (ed, .inl (cO, 10, .inr (.inr (.inr (.inr ee))))), (r6, .inr (8, [.int 4, .ref wb7, .ref nb8])), (wb7, .inl (cI, 4, .inl fb9)), (nb8, .inl (cI, 4, .inl gb10)), (a1, .inr (8, [.int 4, .ref wa1, .ref na1])), (wa1, .inl (cI, 4, .inl (upd (upd (upd (upd fw1 0 3) 1 3) 2 3) 3 3))), (na1, .inl (cI, 4, .inl (upd (upd (upd (upd fn1 0 0) 1 0) 2 0) 3 0)))] H25 := hP
  replace hD : va_D A [(mo, .inr (9, [th, .ref al, md, rf, kn])), (a0, .inr (8, [.int 4, .ref wa0, .ref na0])), (wa0, .inl (cI, 4, .inl fw0)), (na0, .inl (cI, 4, .inl fn0)), (ot, .inl (cI, 4, .inl fo)), (al, .inr (4, [mc, .ref ed, .int (nI cc)])), (ed, .inl (cO, 10, .inr (.inr (.inr (.inr ee))))), (r6, .inr (8, [.int 4, .ref wb7, .ref nb8])), (wb7, .inl (cI, 4, .inl fb9)), (nb8, .inl (cI, 4, .inl gb10)), (a1, .inr (8, [.int 4, .ref wa1, .ref na1])), (wa1, .inl (cI, 4, .inl (upd (upd (upd (upd fw1 0 3) 1 3) 2 3) 3 3))), (na1, .inl (cI, 4, .inl (upd (upd (upd (upd fn1 0 0) 1 0) 2 0) 3 0)))] := hD
  refine W.widen (k := 3) (n := 11) (by omega) (by omega) ?_
  refine lv_iinc (v := 4) (lv' := [(5, .int 4), (4, .ref r6), (3, .ref a1), (0, .ref mo), (1, .int 1), (2, .ref ot)]) hx hb dX4_areHung_51 hl (k := 0) rfl (by decide) (by decide) rfl (fun ls hl => ?_)
  refine lv_goto (tgt := 25) hx hb dX4_areHung_54 (by decide) ?_
  refine lv_iload hx hb dX4_areHung_25 (lv_at hl 0 rfl) ?_
  refine lv_aload_n hx hb dX4_areHung_27 rfl (lv_at hl 5 rfl) ?_
  refine va_alen (D := (dC, dI)) (cl := vwCl) (v := 4) hx hb hK hP 4 0 rfl rfl rfl dX4_areHung_28 ?_
  refine lv_icmp_ge (tgt := 57) hx hb dX4_areHung_29 (by decide) (fun c9 => ?_) (fun c9 => ?_)
  rotate_left
  · exact absurd (by decide) c9
  refine lv_iconst (v := 1) hx hb dX4_areHung_57 (by decide) ?_
  refine lv_istore (lv' := [(5, .int 1), (4, .ref r6), (3, .ref a1), (0, .ref mo), (1, .int 1), (2, .ref ot)]) hx hb dX4_areHung_58 hl (by decide) rfl (fun ls hl => ?_)
  refine lv_iconst (v := 0) hx hb dX4_areHung_60 (by decide) ?_
  refine lv_istore (lv' := [(6, .int 0), (5, .int 1), (4, .ref r6), (3, .ref a1), (0, .ref mo), (1, .int 1), (2, .ref ot)]) hx hb dX4_areHung_61 hl (by decide) rfl (fun ls hl => ?_)
  refine lv_iload hx hb dX4_areHung_63 (lv_at hl 0 rfl) ?_
  refine lv_aload_n hx hb dX4_areHung_65 rfl (lv_at hl 4 rfl) ?_
  refine va_get (D := (dC, dI)) (ci := 9) (v := .ref al) (C := RX4) (T := TX4) (N := 5) hx hb hts hi_X4_areHung_X4 hown hK hP 0 rfl rfl 1 (by decide) (hts (.fieldLink RX4 10 "DeeprowsModel" "rows" "Ljava/util/ArrayList;") (List.mem_cons_of_mem _ zw_1134)) (fun _ h9 => h9) rfl dX4_areHung_66 ?_
  have hPc := hP.sub (ws' := [(al, .inr (4, [mc, .ref ed, .int (nI cc)]))]) [5] rfl
  have hDc := hD.sub (ws' := [(al, .inr (4, [mc, .ref ed, .int (nI cc)]))]) [5] (by decide) rfl
  have hFc := va_free (wc := [(al, .inr (4, [mc, .ref ed, .int (nI cc)]))]) hD hS hA [5] rfl
  have hDv := hDc.self (sz := H25.size)
  have hpre := zpre (xs' := []) (av := [.ref al]) hPc hK (hDc.weaken (fun _ _ _ h => h)) hZ hS hFc (fun r hr => by cases hr)
  refine va_calli (va_runV (As := []) (rest := [.int 0]) ⟨hx, hb, hml, hown, hts⟩ (k_size l dC dI cI cB cR cO zk al ed (nI cc) mc H25.size ) (cwV 0 hts gX4_areHung_Jx4a65c_size_8abf5 rfl rfl rfl (by decide +kernel) ⟨Nat.le_of_ble_eq_true rfl, Nat.le_of_ble_eq_true rfl⟩) ⟨zblind, (zrecv_4 hK hPc (q0 := 0) rfl), hpre⟩ rfl rfl hl.1 rfl (lv_room (Nat.le_of_ble_eq_true rfl)) dX4_areHung_69 ⟨Nat.le_of_ble_eq_true rfl, Nat.le_of_ble_eq_true rfl⟩) hS (fun q _ h => hFc q h) hFc (fun r28 u t H27 locs ht hvm hw hB hz1 hk1 hS => ?_)
  obtain rfl : (nI cc) = r28 := (show r28 = (nI cc) from hw).symm
  obtain ⟨hP1, hK1, hD1, hz2⟩ := hB
  rw [ht] at hP1 hz2
  have hPD9 := va_join (wr := [(mo, .inr (9, [th, .ref al, md, rf, kn])), (a0, .inr (8, [.int 4, .ref wa0, .ref na0])), (wa0, .inl (cI, 4, .inl fw0)), (na0, .inl (cI, 4, .inl fn0)), (ot, .inl (cI, 4, .inl fo)), (ed, .inl (cO, 10, .inr (.inr (.inr (.inr ee))))), (r6, .inr (8, [.int 4, .ref wb7, .ref nb8])), (wb7, .inl (cI, 4, .inl fb9)), (nb8, .inl (cI, 4, .inl gb10)), (a1, .inr (8, [.int 4, .ref wa1, .ref na1])), (wa1, .inl (cI, 4, .inl (upd (upd (upd (upd fw1 0 3) 1 3) 2 3) 3 3))), (na1, .inl (cI, 4, .inl (upd (upd (upd (upd fn1 0 0) 1 0) 2 0) 3 0)))]) (w1 := [(al, .inr (4, [mc, .ref ed, .int (nI cc)]))]) hP hD [5] [0, 1, 2, 3, 4, 6, 7, 8, 9, 10, 11, 12] rfl rfl (by decide) (by decide) hk1 hFc hP1 hD1
  clear hPc hDc hFc hDv hpre hP hD hP1 hK1 hD1
  obtain ⟨hP, hD⟩ := hPD9
  replace hz : s.heap.size + 3 ≤ H27.size := by omega
  clear hz2
  replace hP : va_P (dC, dI) vwCl [(mo, .inr (9, [th, .ref al, md, rf, kn])), (a0, .inr (8, [.int 4, .ref wa0, .ref na0])), (wa0, .inl (cI, 4, .inl fw0)), (na0, .inl (cI, 4, .inl fn0)), (ot, .inl (cI, 4, .inl fo)), (ed, .inl (cO, 10, .inr (.inr (.inr (.inr ee))))), (r6, .inr (8, [.int 4, .ref wb7, .ref nb8])), (wb7, .inl (cI, 4, .inl fb9)), (nb8, .inl (cI, 4, .inl gb10)), (a1, .inr (8, [.int 4, .ref wa1, .ref na1])), (wa1, .inl (cI, 4, .inl (upd (upd (upd (upd fw1 0 3) 1 3) 2 3) 3 3))), (na1, .inl (cI, 4, .inl (upd (upd (upd (upd fn1 0 0) 1 0) 2 0) 3 0))), (al, .inr (4, [mc, .ref ed, .int (nI cc)]))] H27 := hP
  replace hD : va_D A [(mo, .inr (9, [th, .ref al, md, rf, kn])), (a0, .inr (8, [.int 4, .ref wa0, .ref na0])), (wa0, .inl (cI, 4, .inl fw0)), (na0, .inl (cI, 4, .inl fn0)), (ot, .inl (cI, 4, .inl fo)), (ed, .inl (cO, 10, .inr (.inr (.inr (.inr ee))))), (r6, .inr (8, [.int 4, .ref wb7, .ref nb8])), (wb7, .inl (cI, 4, .inl fb9)), (nb8, .inl (cI, 4, .inl gb10)), (a1, .inr (8, [.int 4, .ref wa1, .ref na1])), (wa1, .inl (cI, 4, .inl (upd (upd (upd (upd fw1 0 3) 1 3) 2 3) 3 3))), (na1, .inl (cI, 4, .inl (upd (upd (upd (upd fn1 0 0) 1 0) 2 0) 3 0))), (al, .inr (4, [mc, .ref ed, .int (nI cc)]))] := hD
  refine W.widen (k := 3) (n := 11) (by omega) (by omega) ?_
  refine lv_icmp_ge (tgt := 101) hx hb dX4_areHung_72 (by decide) (fun c9 => ?_) (fun c9 => ?_)
  · exact absurd c9 (by rw [hcc3]; decide)
  refine lv_iload hx hb dX4_areHung_75 (lv_at hl 1 rfl) ?_
  refine lv_aload_n hx hb dX4_areHung_77 rfl (lv_at hl 4 rfl) ?_
  refine lv_iload hx hb dX4_areHung_78 (lv_at hl 0 rfl) ?_
  have hPc := hP.sub (ws' := [(mo, .inr (9, [th, .ref al, md, rf, kn])), (al, .inr (4, [mc, .ref ed, .int (nI cc)])), (ed, .inl (cO, 10, .inr (.inr (.inr (.inr ee))))), (a0, .inr (8, [.int 4, .ref wa0, .ref na0])), (wa0, .inl (cI, 4, .inl fw0)), (na0, .inl (cI, 4, .inl fn0))]) [0, 12, 5, 1, 2, 3] rfl
  have hDc := hD.sub (ws' := [(mo, .inr (9, [th, .ref al, md, rf, kn])), (al, .inr (4, [mc, .ref ed, .int (nI cc)])), (ed, .inl (cO, 10, .inr (.inr (.inr (.inr ee))))), (a0, .inr (8, [.int 4, .ref wa0, .ref na0])), (wa0, .inl (cI, 4, .inl fw0)), (na0, .inl (cI, 4, .inl fn0))]) [0, 12, 5, 1, 2, 3] (by decide) rfl
  have hFc := va_free (wc := [(mo, .inr (9, [th, .ref al, md, rf, kn])), (al, .inr (4, [mc, .ref ed, .int (nI cc)])), (ed, .inl (cO, 10, .inr (.inr (.inr (.inr ee))))), (a0, .inr (8, [.int 4, .ref wa0, .ref na0])), (wa0, .inl (cI, 4, .inl fw0)), (na0, .inl (cI, 4, .inl fn0))]) hD hS hA [0, 12, 5, 1, 2, 3] rfl
  have hDv := hDc.self (sz := H27.size)
  have hpre := zpre (xs' := []) (av := [.ref mo, .int 0]) hPc hK (hDc.weaken (fun _ _ _ h => h)) hZ hS hFc (fun r hr => by cases hr)
  refine va_calli (va_runV (As := [.int 0]) (rest := [.int 1]) ⟨hx, hb, hml, hown, hts⟩ (k_dO0 l dC dI cI cB cR cO zk mo al ed cc ee th md rf kn mc a0 wa0 na0 fw0 fn0 H27.size (by omega) hcc2 hw0 hn0 he0) (cwV 1 hts gX4_areHung_X4_depthOf rfl rfl rfl (by decide +kernel) ⟨Nat.le_of_ble_eq_true rfl, Nat.le_of_ble_eq_true rfl⟩) ⟨zblind, (zrecv_9 hK hPc (q0 := 0) rfl), hpre⟩ rfl rfl hl.1 rfl (lv_room (Nat.le_of_ble_eq_true rfl)) dX4_areHung_80 ⟨Nat.le_of_ble_eq_true rfl, Nat.le_of_ble_eq_true rfl⟩) hS (fun q _ h => hFc q h) hFc (fun r30 u t H29 locs ht hvm hw hB hz1 hk1 hS => ?_)
  obtain rfl : 1 = r30 := (show r30 = 1 from hw).symm
  obtain ⟨hP1, hK1, hD1, hz2⟩ := hB
  rw [ht] at hP1 hz2
  have hPD9 := va_join (wr := [(ot, .inl (cI, 4, .inl fo)), (r6, .inr (8, [.int 4, .ref wb7, .ref nb8])), (wb7, .inl (cI, 4, .inl fb9)), (nb8, .inl (cI, 4, .inl gb10)), (a1, .inr (8, [.int 4, .ref wa1, .ref na1])), (wa1, .inl (cI, 4, .inl (upd (upd (upd (upd fw1 0 3) 1 3) 2 3) 3 3))), (na1, .inl (cI, 4, .inl (upd (upd (upd (upd fn1 0 0) 1 0) 2 0) 3 0)))]) (w1 := [(mo, .inr (9, [th, .ref al, md, rf, kn])), (al, .inr (4, [mc, .ref ed, .int (nI cc)])), (ed, .inl (cO, 10, .inr (.inr (.inr (.inr ee))))), (a0, .inr (8, [.int 4, .ref wa0, .ref na0])), (wa0, .inl (cI, 4, .inl fw0)), (na0, .inl (cI, 4, .inl fn0))]) hP hD [0, 12, 5, 1, 2, 3] [4, 6, 7, 8, 9, 10, 11] rfl rfl (by decide) (by decide) hk1 hFc hP1 hD1
  clear hPc hDc hFc hDv hpre hP hD hP1 hK1 hD1
  obtain ⟨hP, hD⟩ := hPD9
  replace hz : s.heap.size + 3 ≤ H29.size := by omega
  clear hz2
  replace hP : va_P (dC, dI) vwCl [(ot, .inl (cI, 4, .inl fo)), (r6, .inr (8, [.int 4, .ref wb7, .ref nb8])), (wb7, .inl (cI, 4, .inl fb9)), (nb8, .inl (cI, 4, .inl gb10)), (a1, .inr (8, [.int 4, .ref wa1, .ref na1])), (wa1, .inl (cI, 4, .inl (upd (upd (upd (upd fw1 0 3) 1 3) 2 3) 3 3))), (na1, .inl (cI, 4, .inl (upd (upd (upd (upd fn1 0 0) 1 0) 2 0) 3 0))), (mo, .inr (9, [th, .ref al, md, rf, kn])), (al, .inr (4, [mc, .ref ed, .int (nI cc)])), (ed, .inl (cO, 10, .inr (.inr (.inr (.inr ee))))), (a0, .inr (8, [.int 4, .ref wa0, .ref na0])), (wa0, .inl (cI, 4, .inl fw0)), (na0, .inl (cI, 4, .inl fn0))] H29 := hP
  replace hD : va_D A [(ot, .inl (cI, 4, .inl fo)), (r6, .inr (8, [.int 4, .ref wb7, .ref nb8])), (wb7, .inl (cI, 4, .inl fb9)), (nb8, .inl (cI, 4, .inl gb10)), (a1, .inr (8, [.int 4, .ref wa1, .ref na1])), (wa1, .inl (cI, 4, .inl (upd (upd (upd (upd fw1 0 3) 1 3) 2 3) 3 3))), (na1, .inl (cI, 4, .inl (upd (upd (upd (upd fn1 0 0) 1 0) 2 0) 3 0))), (mo, .inr (9, [th, .ref al, md, rf, kn])), (al, .inr (4, [mc, .ref ed, .int (nI cc)])), (ed, .inl (cO, 10, .inr (.inr (.inr (.inr ee))))), (a0, .inr (8, [.int 4, .ref wa0, .ref na0])), (wa0, .inl (cI, 4, .inl fw0)), (na0, .inl (cI, 4, .inl fn0))] := hD
  refine W.widen (k := 4) (n := 12) (by omega) (by omega) ?_
  refine lv_iconst (v := 4) hx hb dX4_areHung_83 (by decide) ?_
  refine lv_icmp_gt (tgt := 91) hx hb dX4_areHung_84 (by decide) (fun c9 => ?_) (fun c9 => ?_)
  · exact absurd c9 (by decide)
  refine lv_iconst (v := 1) hx hb dX4_areHung_87 (by decide) ?_
  refine lv_goto (tgt := 92) hx hb dX4_areHung_88 (by decide) ?_
  refine lv_iand hx hb dX4_areHung_92 ?_
  refine lv_topi (fun v31 ev31 => ?_)
  obtain rfl : v31 = 1 := ev31.trans (by decide)
  refine lv_istore (lv' := [(5, .int 1), (6, .int 0), (4, .ref r6), (3, .ref a1), (0, .ref mo), (1, .int 1), (2, .ref ot)]) hx hb dX4_areHung_93 hl (by decide) rfl (fun ls hl => ?_)
  refine lv_iinc (v := 1) (lv' := [(6, .int 1), (5, .int 1), (4, .ref r6), (3, .ref a1), (0, .ref mo), (1, .int 1), (2, .ref ot)]) hx hb dX4_areHung_95 hl (k := 1) rfl (by decide) (by decide) rfl (fun ls hl => ?_)
  refine lv_goto (tgt := 63) hx hb dX4_areHung_98 (by decide) ?_
  refine lv_iload hx hb dX4_areHung_63 (lv_at hl 0 rfl) ?_
  refine lv_aload_n hx hb dX4_areHung_65 rfl (lv_at hl 4 rfl) ?_
  refine va_get (D := (dC, dI)) (ci := 9) (v := .ref al) (C := RX4) (T := TX4) (N := 5) hx hb hts hi_X4_areHung_X4 hown hK hP 7 rfl rfl 1 (by decide) (hts (.fieldLink RX4 10 "DeeprowsModel" "rows" "Ljava/util/ArrayList;") (List.mem_cons_of_mem _ zw_1134)) (fun _ h9 => h9) rfl dX4_areHung_66 ?_
  have hPc := hP.sub (ws' := [(al, .inr (4, [mc, .ref ed, .int (nI cc)]))]) [8] rfl
  have hDc := hD.sub (ws' := [(al, .inr (4, [mc, .ref ed, .int (nI cc)]))]) [8] (by decide) rfl
  have hFc := va_free (wc := [(al, .inr (4, [mc, .ref ed, .int (nI cc)]))]) hD hS hA [8] rfl
  have hDv := hDc.self (sz := H29.size)
  have hpre := zpre (xs' := []) (av := [.ref al]) hPc hK (hDc.weaken (fun _ _ _ h => h)) hZ hS hFc (fun r hr => by cases hr)
  refine va_calli (va_runV (As := []) (rest := [.int 1]) ⟨hx, hb, hml, hown, hts⟩ (k_size l dC dI cI cB cR cO zk al ed (nI cc) mc H29.size ) (cwV 0 hts gX4_areHung_Jx4a65c_size_8abf5 rfl rfl rfl (by decide +kernel) ⟨Nat.le_of_ble_eq_true rfl, Nat.le_of_ble_eq_true rfl⟩) ⟨zblind, (zrecv_4 hK hPc (q0 := 0) rfl), hpre⟩ rfl rfl hl.1 rfl (lv_room (Nat.le_of_ble_eq_true rfl)) dX4_areHung_69 ⟨Nat.le_of_ble_eq_true rfl, Nat.le_of_ble_eq_true rfl⟩) hS (fun q _ h => hFc q h) hFc (fun r33 u t H32 locs ht hvm hw hB hz1 hk1 hS => ?_)
  obtain rfl : (nI cc) = r33 := (show r33 = (nI cc) from hw).symm
  obtain ⟨hP1, hK1, hD1, hz2⟩ := hB
  rw [ht] at hP1 hz2
  have hPD9 := va_join (wr := [(ot, .inl (cI, 4, .inl fo)), (r6, .inr (8, [.int 4, .ref wb7, .ref nb8])), (wb7, .inl (cI, 4, .inl fb9)), (nb8, .inl (cI, 4, .inl gb10)), (a1, .inr (8, [.int 4, .ref wa1, .ref na1])), (wa1, .inl (cI, 4, .inl (upd (upd (upd (upd fw1 0 3) 1 3) 2 3) 3 3))), (na1, .inl (cI, 4, .inl (upd (upd (upd (upd fn1 0 0) 1 0) 2 0) 3 0))), (mo, .inr (9, [th, .ref al, md, rf, kn])), (ed, .inl (cO, 10, .inr (.inr (.inr (.inr ee))))), (a0, .inr (8, [.int 4, .ref wa0, .ref na0])), (wa0, .inl (cI, 4, .inl fw0)), (na0, .inl (cI, 4, .inl fn0))]) (w1 := [(al, .inr (4, [mc, .ref ed, .int (nI cc)]))]) hP hD [8] [0, 1, 2, 3, 4, 5, 6, 7, 9, 10, 11, 12] rfl rfl (by decide) (by decide) hk1 hFc hP1 hD1
  clear hPc hDc hFc hDv hpre hP hD hP1 hK1 hD1
  obtain ⟨hP, hD⟩ := hPD9
  replace hz : s.heap.size + 3 ≤ H32.size := by omega
  clear hz2
  replace hP : va_P (dC, dI) vwCl [(ot, .inl (cI, 4, .inl fo)), (r6, .inr (8, [.int 4, .ref wb7, .ref nb8])), (wb7, .inl (cI, 4, .inl fb9)), (nb8, .inl (cI, 4, .inl gb10)), (a1, .inr (8, [.int 4, .ref wa1, .ref na1])), (wa1, .inl (cI, 4, .inl (upd (upd (upd (upd fw1 0 3) 1 3) 2 3) 3 3))), (na1, .inl (cI, 4, .inl (upd (upd (upd (upd fn1 0 0) 1 0) 2 0) 3 0))), (mo, .inr (9, [th, .ref al, md, rf, kn])), (ed, .inl (cO, 10, .inr (.inr (.inr (.inr ee))))), (a0, .inr (8, [.int 4, .ref wa0, .ref na0])), (wa0, .inl (cI, 4, .inl fw0)), (na0, .inl (cI, 4, .inl fn0)), (al, .inr (4, [mc, .ref ed, .int (nI cc)]))] H32 := hP
  replace hD : va_D A [(ot, .inl (cI, 4, .inl fo)), (r6, .inr (8, [.int 4, .ref wb7, .ref nb8])), (wb7, .inl (cI, 4, .inl fb9)), (nb8, .inl (cI, 4, .inl gb10)), (a1, .inr (8, [.int 4, .ref wa1, .ref na1])), (wa1, .inl (cI, 4, .inl (upd (upd (upd (upd fw1 0 3) 1 3) 2 3) 3 3))), (na1, .inl (cI, 4, .inl (upd (upd (upd (upd fn1 0 0) 1 0) 2 0) 3 0))), (mo, .inr (9, [th, .ref al, md, rf, kn])), (ed, .inl (cO, 10, .inr (.inr (.inr (.inr ee))))), (a0, .inr (8, [.int 4, .ref wa0, .ref na0])), (wa0, .inl (cI, 4, .inl fw0)), (na0, .inl (cI, 4, .inl fn0)), (al, .inr (4, [mc, .ref ed, .int (nI cc)]))] := hD
  refine W.widen (k := 4) (n := 12) (by omega) (by omega) ?_
  refine lv_icmp_ge (tgt := 101) hx hb dX4_areHung_72 (by decide) (fun c9 => ?_) (fun c9 => ?_)
  · exact absurd c9 (by rw [hcc3]; decide)
  refine lv_iload hx hb dX4_areHung_75 (lv_at hl 1 rfl) ?_
  refine lv_aload_n hx hb dX4_areHung_77 rfl (lv_at hl 4 rfl) ?_
  refine lv_iload hx hb dX4_areHung_78 (lv_at hl 0 rfl) ?_
  have hPc := hP.sub (ws' := [(mo, .inr (9, [th, .ref al, md, rf, kn])), (al, .inr (4, [mc, .ref ed, .int (nI cc)])), (ed, .inl (cO, 10, .inr (.inr (.inr (.inr ee))))), (a0, .inr (8, [.int 4, .ref wa0, .ref na0])), (wa0, .inl (cI, 4, .inl fw0)), (na0, .inl (cI, 4, .inl fn0)), (a1, .inr (8, [.int 4, .ref wa1, .ref na1])), (wa1, .inl (cI, 4, .inl (upd (upd (upd (upd fw1 0 3) 1 3) 2 3) 3 3))), (na1, .inl (cI, 4, .inl (upd (upd (upd (upd fn1 0 0) 1 0) 2 0) 3 0)))]) [7, 12, 8, 9, 10, 11, 4, 5, 6] rfl
  have hDc := hD.sub (ws' := [(mo, .inr (9, [th, .ref al, md, rf, kn])), (al, .inr (4, [mc, .ref ed, .int (nI cc)])), (ed, .inl (cO, 10, .inr (.inr (.inr (.inr ee))))), (a0, .inr (8, [.int 4, .ref wa0, .ref na0])), (wa0, .inl (cI, 4, .inl fw0)), (na0, .inl (cI, 4, .inl fn0)), (a1, .inr (8, [.int 4, .ref wa1, .ref na1])), (wa1, .inl (cI, 4, .inl (upd (upd (upd (upd fw1 0 3) 1 3) 2 3) 3 3))), (na1, .inl (cI, 4, .inl (upd (upd (upd (upd fn1 0 0) 1 0) 2 0) 3 0)))]) [7, 12, 8, 9, 10, 11, 4, 5, 6] (by decide) rfl
  have hFc := va_free (wc := [(mo, .inr (9, [th, .ref al, md, rf, kn])), (al, .inr (4, [mc, .ref ed, .int (nI cc)])), (ed, .inl (cO, 10, .inr (.inr (.inr (.inr ee))))), (a0, .inr (8, [.int 4, .ref wa0, .ref na0])), (wa0, .inl (cI, 4, .inl fw0)), (na0, .inl (cI, 4, .inl fn0)), (a1, .inr (8, [.int 4, .ref wa1, .ref na1])), (wa1, .inl (cI, 4, .inl (upd (upd (upd (upd fw1 0 3) 1 3) 2 3) 3 3))), (na1, .inl (cI, 4, .inl (upd (upd (upd (upd fn1 0 0) 1 0) 2 0) 3 0)))]) hD hS hA [7, 12, 8, 9, 10, 11, 4, 5, 6] rfl
  have hDv := hDc.self (sz := H32.size)
  have hpre := zpre (xs' := []) (av := [.ref mo, .int 1]) hPc hK (hDc.weaken (fun _ _ _ h => h)) hZ hS hFc (fun r hr => by cases hr)
  refine va_calli (va_runV (As := [.int 1]) (rest := [.int 1]) ⟨hx, hb, hml, hown, hts⟩ (k_dO1 l dC dI cI cB cR cO zk mo al ed cc ee th md rf kn mc a0 wa0 na0 a1 wa1 na1 fw0 fn0 (upd (upd (upd (upd fw1 0 3) 1 3) 2 3) 3 3) (upd (upd (upd (upd fn1 0 0) 1 0) 2 0) 3 0) H32.size (by omega) hcc2 hw0 hn0 he0 (fun i hi => by rcases (show i = 0 ∨ i = 1 ∨ i = 2 ∨ i = 3 by omega) with rfl | rfl | rfl | rfl <;> rfl) (fun i hi => by rcases (show i = 0 ∨ i = 1 ∨ i = 2 ∨ i = 3 by omega) with rfl | rfl | rfl | rfl <;> rfl) he1) (cwV 1 hts gX4_areHung_X4_depthOf rfl rfl rfl (by decide +kernel) ⟨Nat.le_of_ble_eq_true rfl, Nat.le_of_ble_eq_true rfl⟩) ⟨zblind, (zrecv_9 hK hPc (q0 := 0) rfl), hpre⟩ rfl rfl hl.1 rfl (lv_room (Nat.le_of_ble_eq_true rfl)) dX4_areHung_80 ⟨Nat.le_of_ble_eq_true rfl, Nat.le_of_ble_eq_true rfl⟩) hS (fun q _ h => hFc q h) hFc (fun r35 u t H34 locs ht hvm hw hB hz1 hk1 hS => ?_)
  obtain rfl : 2 = r35 := (show r35 = 2 from hw).symm
  obtain ⟨hP1, hK1, hD1, hz2⟩ := hB
  rw [ht] at hP1 hz2
  have hPD9 := va_join (wr := [(ot, .inl (cI, 4, .inl fo)), (r6, .inr (8, [.int 4, .ref wb7, .ref nb8])), (wb7, .inl (cI, 4, .inl fb9)), (nb8, .inl (cI, 4, .inl gb10))]) (w1 := [(mo, .inr (9, [th, .ref al, md, rf, kn])), (al, .inr (4, [mc, .ref ed, .int (nI cc)])), (ed, .inl (cO, 10, .inr (.inr (.inr (.inr ee))))), (a0, .inr (8, [.int 4, .ref wa0, .ref na0])), (wa0, .inl (cI, 4, .inl fw0)), (na0, .inl (cI, 4, .inl fn0)), (a1, .inr (8, [.int 4, .ref wa1, .ref na1])), (wa1, .inl (cI, 4, .inl (upd (upd (upd (upd fw1 0 3) 1 3) 2 3) 3 3))), (na1, .inl (cI, 4, .inl (upd (upd (upd (upd fn1 0 0) 1 0) 2 0) 3 0)))]) hP hD [7, 12, 8, 9, 10, 11, 4, 5, 6] [0, 1, 2, 3] rfl rfl (by decide) (by decide) hk1 hFc hP1 hD1
  clear hPc hDc hFc hDv hpre hP hD hP1 hK1 hD1
  obtain ⟨hP, hD⟩ := hPD9
  replace hz : s.heap.size + 3 ≤ H34.size := by omega
  clear hz2
  replace hP : va_P (dC, dI) vwCl [(ot, .inl (cI, 4, .inl fo)), (r6, .inr (8, [.int 4, .ref wb7, .ref nb8])), (wb7, .inl (cI, 4, .inl fb9)), (nb8, .inl (cI, 4, .inl gb10)), (mo, .inr (9, [th, .ref al, md, rf, kn])), (al, .inr (4, [mc, .ref ed, .int (nI cc)])), (ed, .inl (cO, 10, .inr (.inr (.inr (.inr ee))))), (a0, .inr (8, [.int 4, .ref wa0, .ref na0])), (wa0, .inl (cI, 4, .inl fw0)), (na0, .inl (cI, 4, .inl fn0)), (a1, .inr (8, [.int 4, .ref wa1, .ref na1])), (wa1, .inl (cI, 4, .inl (upd (upd (upd (upd fw1 0 3) 1 3) 2 3) 3 3))), (na1, .inl (cI, 4, .inl (upd (upd (upd (upd fn1 0 0) 1 0) 2 0) 3 0)))] H34 := hP
  replace hD : va_D A [(ot, .inl (cI, 4, .inl fo)), (r6, .inr (8, [.int 4, .ref wb7, .ref nb8])), (wb7, .inl (cI, 4, .inl fb9)), (nb8, .inl (cI, 4, .inl gb10)), (mo, .inr (9, [th, .ref al, md, rf, kn])), (al, .inr (4, [mc, .ref ed, .int (nI cc)])), (ed, .inl (cO, 10, .inr (.inr (.inr (.inr ee))))), (a0, .inr (8, [.int 4, .ref wa0, .ref na0])), (wa0, .inl (cI, 4, .inl fw0)), (na0, .inl (cI, 4, .inl fn0)), (a1, .inr (8, [.int 4, .ref wa1, .ref na1])), (wa1, .inl (cI, 4, .inl (upd (upd (upd (upd fw1 0 3) 1 3) 2 3) 3 3))), (na1, .inl (cI, 4, .inl (upd (upd (upd (upd fn1 0 0) 1 0) 2 0) 3 0)))] := hD
  refine W.widen (k := 5) (n := 14) (by omega) (by omega) ?_
  refine lv_iconst (v := 4) hx hb dX4_areHung_83 (by decide) ?_
  refine lv_icmp_gt (tgt := 91) hx hb dX4_areHung_84 (by decide) (fun c9 => ?_) (fun c9 => ?_)
  · exact absurd c9 (by decide)
  refine lv_iconst (v := 1) hx hb dX4_areHung_87 (by decide) ?_
  refine lv_goto (tgt := 92) hx hb dX4_areHung_88 (by decide) ?_
  refine lv_iand hx hb dX4_areHung_92 ?_
  refine lv_topi (fun v36 ev36 => ?_)
  obtain rfl : v36 = 1 := ev36.trans (by decide)
  refine lv_istore (lv' := [(5, .int 1), (6, .int 1), (4, .ref r6), (3, .ref a1), (0, .ref mo), (1, .int 1), (2, .ref ot)]) hx hb dX4_areHung_93 hl (by decide) rfl (fun ls hl => ?_)
  refine lv_iinc (v := 2) (lv' := [(6, .int 2), (5, .int 1), (4, .ref r6), (3, .ref a1), (0, .ref mo), (1, .int 1), (2, .ref ot)]) hx hb dX4_areHung_95 hl (k := 1) rfl (by decide) (by decide) rfl (fun ls hl => ?_)
  refine lv_goto (tgt := 63) hx hb dX4_areHung_98 (by decide) ?_
  refine lv_iload hx hb dX4_areHung_63 (lv_at hl 0 rfl) ?_
  refine lv_aload_n hx hb dX4_areHung_65 rfl (lv_at hl 4 rfl) ?_
  refine va_get (D := (dC, dI)) (ci := 9) (v := .ref al) (C := RX4) (T := TX4) (N := 5) hx hb hts hi_X4_areHung_X4 hown hK hP 4 rfl rfl 1 (by decide) (hts (.fieldLink RX4 10 "DeeprowsModel" "rows" "Ljava/util/ArrayList;") (List.mem_cons_of_mem _ zw_1134)) (fun _ h9 => h9) rfl dX4_areHung_66 ?_
  have hPc := hP.sub (ws' := [(al, .inr (4, [mc, .ref ed, .int (nI cc)]))]) [5] rfl
  have hDc := hD.sub (ws' := [(al, .inr (4, [mc, .ref ed, .int (nI cc)]))]) [5] (by decide) rfl
  have hFc := va_free (wc := [(al, .inr (4, [mc, .ref ed, .int (nI cc)]))]) hD hS hA [5] rfl
  have hDv := hDc.self (sz := H34.size)
  have hpre := zpre (xs' := []) (av := [.ref al]) hPc hK (hDc.weaken (fun _ _ _ h => h)) hZ hS hFc (fun r hr => by cases hr)
  refine va_calli (va_runV (As := []) (rest := [.int 2]) ⟨hx, hb, hml, hown, hts⟩ (k_size l dC dI cI cB cR cO zk al ed (nI cc) mc H34.size ) (cwV 0 hts gX4_areHung_Jx4a65c_size_8abf5 rfl rfl rfl (by decide +kernel) ⟨Nat.le_of_ble_eq_true rfl, Nat.le_of_ble_eq_true rfl⟩) ⟨zblind, (zrecv_4 hK hPc (q0 := 0) rfl), hpre⟩ rfl rfl hl.1 rfl (lv_room (Nat.le_of_ble_eq_true rfl)) dX4_areHung_69 ⟨Nat.le_of_ble_eq_true rfl, Nat.le_of_ble_eq_true rfl⟩) hS (fun q _ h => hFc q h) hFc (fun r38 u t H37 locs ht hvm hw hB hz1 hk1 hS => ?_)
  obtain rfl : (nI cc) = r38 := (show r38 = (nI cc) from hw).symm
  obtain ⟨hP1, hK1, hD1, hz2⟩ := hB
  rw [ht] at hP1 hz2
  have hPD9 := va_join (wr := [(ot, .inl (cI, 4, .inl fo)), (r6, .inr (8, [.int 4, .ref wb7, .ref nb8])), (wb7, .inl (cI, 4, .inl fb9)), (nb8, .inl (cI, 4, .inl gb10)), (mo, .inr (9, [th, .ref al, md, rf, kn])), (ed, .inl (cO, 10, .inr (.inr (.inr (.inr ee))))), (a0, .inr (8, [.int 4, .ref wa0, .ref na0])), (wa0, .inl (cI, 4, .inl fw0)), (na0, .inl (cI, 4, .inl fn0)), (a1, .inr (8, [.int 4, .ref wa1, .ref na1])), (wa1, .inl (cI, 4, .inl (upd (upd (upd (upd fw1 0 3) 1 3) 2 3) 3 3))), (na1, .inl (cI, 4, .inl (upd (upd (upd (upd fn1 0 0) 1 0) 2 0) 3 0)))]) (w1 := [(al, .inr (4, [mc, .ref ed, .int (nI cc)]))]) hP hD [5] [0, 1, 2, 3, 4, 6, 7, 8, 9, 10, 11, 12] rfl rfl (by decide) (by decide) hk1 hFc hP1 hD1
  clear hPc hDc hFc hDv hpre hP hD hP1 hK1 hD1
  obtain ⟨hP, hD⟩ := hPD9
  replace hz : s.heap.size + 3 ≤ H37.size := by omega
  clear hz2
  replace hP : va_P (dC, dI) vwCl [(ot, .inl (cI, 4, .inl fo)), (r6, .inr (8, [.int 4, .ref wb7, .ref nb8])), (wb7, .inl (cI, 4, .inl fb9)), (nb8, .inl (cI, 4, .inl gb10)), (mo, .inr (9, [th, .ref al, md, rf, kn])), (ed, .inl (cO, 10, .inr (.inr (.inr (.inr ee))))), (a0, .inr (8, [.int 4, .ref wa0, .ref na0])), (wa0, .inl (cI, 4, .inl fw0)), (na0, .inl (cI, 4, .inl fn0)), (a1, .inr (8, [.int 4, .ref wa1, .ref na1])), (wa1, .inl (cI, 4, .inl (upd (upd (upd (upd fw1 0 3) 1 3) 2 3) 3 3))), (na1, .inl (cI, 4, .inl (upd (upd (upd (upd fn1 0 0) 1 0) 2 0) 3 0))), (al, .inr (4, [mc, .ref ed, .int (nI cc)]))] H37 := hP
  replace hD : va_D A [(ot, .inl (cI, 4, .inl fo)), (r6, .inr (8, [.int 4, .ref wb7, .ref nb8])), (wb7, .inl (cI, 4, .inl fb9)), (nb8, .inl (cI, 4, .inl gb10)), (mo, .inr (9, [th, .ref al, md, rf, kn])), (ed, .inl (cO, 10, .inr (.inr (.inr (.inr ee))))), (a0, .inr (8, [.int 4, .ref wa0, .ref na0])), (wa0, .inl (cI, 4, .inl fw0)), (na0, .inl (cI, 4, .inl fn0)), (a1, .inr (8, [.int 4, .ref wa1, .ref na1])), (wa1, .inl (cI, 4, .inl (upd (upd (upd (upd fw1 0 3) 1 3) 2 3) 3 3))), (na1, .inl (cI, 4, .inl (upd (upd (upd (upd fn1 0 0) 1 0) 2 0) 3 0))), (al, .inr (4, [mc, .ref ed, .int (nI cc)]))] := hD
  refine W.widen (k := 5) (n := 14) (by omega) (by omega) ?_
  refine lv_icmp_ge (tgt := 101) hx hb dX4_areHung_72 (by decide) (fun c9 => ?_) (fun c9 => ?_)
  rotate_left
  · exact absurd (by rw [hcc3]; decide) c9
  refine lv_iconst (v := 0) hx hb dX4_areHung_101 (by decide) ?_
  refine lv_istore (lv' := [(6, .int 0), (5, .int 1), (4, .ref r6), (3, .ref a1), (0, .ref mo), (1, .int 1), (2, .ref ot)]) hx hb dX4_areHung_102 hl (by decide) rfl (fun ls hl => ?_)
  refine lv_iload hx hb dX4_areHung_104 (lv_at hl 0 rfl) ?_
  refine lv_aload_n hx hb dX4_areHung_106 rfl (lv_at hl 3 rfl) ?_
  have hPc := hP.sub (ws' := [(a1, .inr (8, [.int 4, .ref wa1, .ref na1])), (wa1, .inl (cI, 4, .inl (upd (upd (upd (upd fw1 0 3) 1 3) 2 3) 3 3)))]) [9, 10] rfl
  have hDc := hD.sub (ws' := [(a1, .inr (8, [.int 4, .ref wa1, .ref na1])), (wa1, .inl (cI, 4, .inl (upd (upd (upd (upd fw1 0 3) 1 3) 2 3) 3 3)))]) [9, 10] (by decide) rfl
  have hFc := va_free (wc := [(a1, .inr (8, [.int 4, .ref wa1, .ref na1])), (wa1, .inl (cI, 4, .inl (upd (upd (upd (upd fw1 0 3) 1 3) 2 3) 3 3)))]) hD hS hA [9, 10] rfl
  have hDv := hDc.self (sz := H37.size)
  have hpre := zpre (xs' := []) (av := [.ref a1]) hPc hK (hDc.weaken (fun _ _ _ h => h)) hZ hS hFc (fun r hr => by cases hr)
  refine va_calli (va_runV (As := []) (rest := [.int 0]) ⟨hx, hb, hml, hown, hts⟩ (k_rlen l dC dI cI cB cR cO zk a1 wa1 na1 (upd (upd (upd (upd fw1 0 3) 1 3) 2 3) 3 3) H37.size ) (cwV 0 hts gX4_areHung_X3_length rfl rfl rfl (by decide +kernel) ⟨Nat.le_of_ble_eq_true rfl, Nat.le_of_ble_eq_true rfl⟩) ⟨zblind, (zrecv_8 hK hPc (q0 := 0) rfl), hpre⟩ rfl rfl hl.1 rfl (lv_room (Nat.le_of_ble_eq_true rfl)) dX4_areHung_107 ⟨Nat.le_of_ble_eq_true rfl, Nat.le_of_ble_eq_true rfl⟩) hS (fun q _ h => hFc q h) hFc (fun r40 u t H39 locs ht hvm hw hB hz1 hk1 hS => ?_)
  obtain rfl : 4 = r40 := (show r40 = 4 from hw).symm
  obtain ⟨hP1, hK1, hD1, hz2⟩ := hB
  rw [ht] at hP1 hz2
  have hPD9 := va_join (wr := [(ot, .inl (cI, 4, .inl fo)), (r6, .inr (8, [.int 4, .ref wb7, .ref nb8])), (wb7, .inl (cI, 4, .inl fb9)), (nb8, .inl (cI, 4, .inl gb10)), (mo, .inr (9, [th, .ref al, md, rf, kn])), (ed, .inl (cO, 10, .inr (.inr (.inr (.inr ee))))), (a0, .inr (8, [.int 4, .ref wa0, .ref na0])), (wa0, .inl (cI, 4, .inl fw0)), (na0, .inl (cI, 4, .inl fn0)), (na1, .inl (cI, 4, .inl (upd (upd (upd (upd fn1 0 0) 1 0) 2 0) 3 0))), (al, .inr (4, [mc, .ref ed, .int (nI cc)]))]) (w1 := [(a1, .inr (8, [.int 4, .ref wa1, .ref na1])), (wa1, .inl (cI, 4, .inl (upd (upd (upd (upd fw1 0 3) 1 3) 2 3) 3 3)))]) hP hD [9, 10] [0, 1, 2, 3, 4, 5, 6, 7, 8, 11, 12] rfl rfl (by decide) (by decide) hk1 hFc hP1 hD1
  clear hPc hDc hFc hDv hpre hP hD hP1 hK1 hD1
  obtain ⟨hP, hD⟩ := hPD9
  replace hz : s.heap.size + 3 ≤ H39.size := by omega
  clear hz2
  replace hP : va_P (dC, dI) vwCl [(ot, .inl (cI, 4, .inl fo)), (r6, .inr (8, [.int 4, .ref wb7, .ref nb8])), (wb7, .inl (cI, 4, .inl fb9)), (nb8, .inl (cI, 4, .inl gb10)), (mo, .inr (9, [th, .ref al, md, rf, kn])), (ed, .inl (cO, 10, .inr (.inr (.inr (.inr ee))))), (a0, .inr (8, [.int 4, .ref wa0, .ref na0])), (wa0, .inl (cI, 4, .inl fw0)), (na0, .inl (cI, 4, .inl fn0)), (na1, .inl (cI, 4, .inl (upd (upd (upd (upd fn1 0 0) 1 0) 2 0) 3 0))), (al, .inr (4, [mc, .ref ed, .int (nI cc)])), (a1, .inr (8, [.int 4, .ref wa1, .ref na1])), (wa1, .inl (cI, 4, .inl (upd (upd (upd (upd fw1 0 3) 1 3) 2 3) 3 3)))] H39 := hP
  replace hD : va_D A [(ot, .inl (cI, 4, .inl fo)), (r6, .inr (8, [.int 4, .ref wb7, .ref nb8])), (wb7, .inl (cI, 4, .inl fb9)), (nb8, .inl (cI, 4, .inl gb10)), (mo, .inr (9, [th, .ref al, md, rf, kn])), (ed, .inl (cO, 10, .inr (.inr (.inr (.inr ee))))), (a0, .inr (8, [.int 4, .ref wa0, .ref na0])), (wa0, .inl (cI, 4, .inl fw0)), (na0, .inl (cI, 4, .inl fn0)), (na1, .inl (cI, 4, .inl (upd (upd (upd (upd fn1 0 0) 1 0) 2 0) 3 0))), (al, .inr (4, [mc, .ref ed, .int (nI cc)])), (a1, .inr (8, [.int 4, .ref wa1, .ref na1])), (wa1, .inl (cI, 4, .inl (upd (upd (upd (upd fw1 0 3) 1 3) 2 3) 3 3)))] := hD
  refine W.widen (k := 5) (n := 14) (by omega) (by omega) ?_
  refine lv_icmp_ge (tgt := 146) hx hb dX4_areHung_110 (by decide) (fun c9 => ?_) (fun c9 => ?_)
  · exact absurd c9 (by decide)
  refine lv_iload hx hb dX4_areHung_113 (lv_at hl 1 rfl) ?_
  refine lv_if_ne (tgt := 146) hx hb dX4_areHung_115 (by decide) (fun c9 => ?_) (fun c9 => ?_)
  rotate_left
  · exact absurd c9 (by decide)
  refine lv_iload hx hb dX4_areHung_146 (lv_at hl 1 rfl) ?_
  have hP9 := hP.sub (ws' := [(mo, .inr (9, [th, .ref al, md, rf, kn])), (al, .inr (4, [mc, .ref ed, .int (nI cc)])), (ed, .inl (cO, 10, .inr (.inr (.inr (.inr ee))))), (a0, .inr (8, [.int 4, .ref wa0, .ref na0])), (wa0, .inl (cI, 4, .inl fw0)), (na0, .inl (cI, 4, .inl fn0)), (a1, .inr (8, [.int 4, .ref wa1, .ref na1])), (wa1, .inl (cI, 4, .inl (upd (upd (upd (upd fw1 0 3) 1 3) 2 3) 3 3))), (na1, .inl (cI, 4, .inl (upd (upd (upd (upd fn1 0 0) 1 0) 2 0) 3 0))), (ot, .inl (cI, 4, .inl fo))]) [4, 10, 5, 6, 7, 8, 11, 12, 9, 0] rfl
  have hD9 := hD.sub (ws' := [(mo, .inr (9, [th, .ref al, md, rf, kn])), (al, .inr (4, [mc, .ref ed, .int (nI cc)])), (ed, .inl (cO, 10, .inr (.inr (.inr (.inr ee))))), (a0, .inr (8, [.int 4, .ref wa0, .ref na0])), (wa0, .inl (cI, 4, .inl fw0)), (na0, .inl (cI, 4, .inl fn0)), (a1, .inr (8, [.int 4, .ref wa1, .ref na1])), (wa1, .inl (cI, 4, .inl (upd (upd (upd (upd fw1 0 3) 1 3) 2 3) 3 3))), (na1, .inl (cI, 4, .inl (upd (upd (upd (upd fn1 0 0) 1 0) 2 0) 3 0))), (ot, .inl (cI, 4, .inl fo))]) [4, 10, 5, 6, 7, 8, 11, 12, 9, 0] (by decide) rfl
  exact W.zret (v := 1) hx hb hr (by decide +kernel) (fun t ht hW => ⟨⟨_, (), rfl, rfl, ⟨_, _, ⟨by rw [ht]; exact hP9, va_K.moved hW.alike hK, hD9, by rw [ht]; exact hz⟩, fun i hi => by rcases (show i = 0 ∨ i = 1 ∨ i = 2 ∨ i = 3 by omega) with rfl | rfl | rfl | rfl <;> rfl, fun i hi => by rcases (show i = 0 ∨ i = 1 ∨ i = 2 ∨ i = 3 by omega) with rfl | rfl | rfl | rfl <;> rfl⟩⟩, hS.F ht⟩) hS.2.2 dX4_areHung_148

set_option maxHeartbeats 4000000 in
set_option maxRecDepth 100000 in
theorem k_nw2 (l : Launch) (dC : Nat → ClassId) (dI : Nat → Nat → Nat) (cI cB cR cO : ClassId) (zk : Nat → Nat) (mo al ed cc : Nat) (ee : Nat → Option Nat) (th md rf kn mc : Value) (a2 wa2 na2 : Nat) (fw2 : Nat → Int32) (sz : Nat) (hcc : 2 < cc) (hcc2 : cc ≤ 10) (he2 : ee 2 = some a2) : Met l yX4_nowhere wsX4_nowhere ({ frames := 3, cells := 1, slots := 4, locals := 64 }) (va_Pc [.ref mo, .int 2] (zPre (dC, dI) (zT cI cB cR cO) zk [] [(mo, .inr (9, [th, .ref al, md, rf, kn])), (al, .inr (4, [mc, .ref ed, .int (nI cc)])), (ed, .inl (cO, 10, .inr (.inr (.inr (.inr ee))))), (a2, .inr (8, [.int 4, .ref wa2, .ref na2])), (wa2, .inl (cI, 4, .inl fw2))] sz)) (va_Qr (fun _ : Unit => True) (fun _ ra t => ∃ (fo : Nat → Int32), zEnd (dC, dI) (zT cI cB cR cO) (va_A [(mo, .inr (9, [th, .ref al, md, rf, kn])), (al, .inr (4, [mc, .ref ed, .int (nI cc)])), (ed, .inl (cO, 10, .inr (.inr (.inr (.inr ee))))), (a2, .inr (8, [.int 4, .ref wa2, .ref na2])), (wa2, .inl (cI, 4, .inl fw2))] sz) [(mo, .inr (9, [th, .ref al, md, rf, kn])), (al, .inr (4, [mc, .ref ed, .int (nI cc)])), (ed, .inl (cO, 10, .inr (.inr (.inr (.inr ee))))), (a2, .inr (8, [.int 4, .ref wa2, .ref na2])), (wa2, .inl (cI, 4, .inl fw2)), (ra, .inl (cI, 4, .inl fo))] sz 1 t) (va_A [(mo, .inr (9, [th, .ref al, md, rf, kn])), (al, .inr (4, [mc, .ref ed, .int (nI cc)])), (ed, .inl (cO, 10, .inr (.inr (.inr (.inr ee))))), (a2, .inr (8, [.int 4, .ref wa2, .ref na2])), (wa2, .inl (cI, 4, .inl fw2))] sz)) 1 4 (va_A [(mo, .inr (9, [th, .ref al, md, rf, kn])), (al, .inr (4, [mc, .ref ed, .int (nI cc)])), (ed, .inl (cO, 10, .inr (.inr (.inr (.inr ee))))), (a2, .inr (8, [.int 4, .ref wa2, .ref na2])), (wa2, .inl (cI, 4, .inl fw2))] sz) := by
  refine Met.ofW (cc := cX4_nowhere) (maxL := 4) (ret := (some (.array .int))) (by decide) rfl ?_
  intro p e s mY args below meth c s₁ B hml hv
  obtain ⟨rfl, hsz, hP, hK, hD0, hZ⟩ := hv
  have hx := B.exec
  have hb := B.bytes
  have hr := B.returns
  have hts := atoms_spec (ws := wsX4_nowhere) B.pre
  have hown : s.vm.findClass RX4 = some mY.cls := findClass_of_methodNamed B.named
  have hlocks := B.notSynchronized
  subst hsz
  have hD := hD0.self (sz := s.heap.size)
  generalize hAe : va_A [(mo, .inr (9, [th, .ref al, md, rf, kn])), (al, .inr (4, [mc, .ref ed, .int (nI cc)])), (ed, .inl (cO, 10, .inr (.inr (.inr (.inr ee))))), (a2, .inr (8, [.int 4, .ref wa2, .ref na2])), (wa2, .inl (cI, 4, .inl fw2))] s.heap.size = A at hD hZ ⊢
  have hA : ∀ q : Nat, s.heap.size ≤ q → A q := fun q h => by rw [← hAe]; exact Or.inr h
  have hS : va_S A s.heap s.heap [] := va_S.rf
  have hz : s.heap.size + 0 ≤ s.heap.size := Nat.le_refl _
  have hl := lv_entry ([.ref mo, .int 2]) (n := 4) (Nat.le_of_ble_eq_true rfl)
  rw [lg_entry_eq]
  generalize (lg_sl ([.ref mo, .int 2]) ++ List.replicate (4 - (lg_sl ([.ref mo, .int 2])).length) Slot.unset).toArray = ls at hl ⊢
  have hl : lv_has ls 4 [(0, .ref mo), (1, .int 2)] := hl
  have hP : va_P (dC, dI) vwCl [(mo, .inr (9, [th, .ref al, md, rf, kn])), (al, .inr (4, [mc, .ref ed, .int (nI cc)])), (ed, .inl (cO, 10, .inr (.inr (.inr (.inr ee))))), (a2, .inr (8, [.int 4, .ref wa2, .ref na2])), (wa2, .inl (cI, 4, .inl fw2))] s.heap := hP
  have hD : va_D A [(mo, .inr (9, [th, .ref al, md, rf, kn])), (al, .inr (4, [mc, .ref ed, .int (nI cc)])), (ed, .inl (cO, 10, .inr (.inr (.inr (.inr ee))))), (a2, .inr (8, [.int 4, .ref wa2, .ref na2])), (wa2, .inl (cI, 4, .inl fw2))] := hD
  refine lv_aload_n hx hb dX4_nowhere_0 rfl (lv_at hl 0 rfl) ?_
  refine va_get (D := (dC, dI)) (ci := 9) (v := .ref al) (C := RX4) (T := TX4) (N := 5) hx hb hts hi_X4_nowhere_X4 hown hK hP 0 rfl rfl 1 (by decide) (hts (.fieldLink RX4 10 "DeeprowsModel" "rows" "Ljava/util/ArrayList;") (List.mem_cons_of_mem _ zw_1134)) (fun _ h9 => h9) rfl dX4_nowhere_1 ?_
  refine lv_iload_n hx hb dX4_nowhere_4 rfl (lv_at hl 1 rfl) ?_
  have hPc := hP.sub (ws' := [(al, .inr (4, [mc, .ref ed, .int (nI cc)])), (ed, .inl (cO, 10, .inr (.inr (.inr (.inr ee)))))]) [1, 2] rfl
  have hDc := hD.sub (ws' := [(al, .inr (4, [mc, .ref ed, .int (nI cc)])), (ed, .inl (cO, 10, .inr (.inr (.inr (.inr ee)))))]) [1, 2] (by decide) rfl
  have hFc := va_free (wc := [(al, .inr (4, [mc, .ref ed, .int (nI cc)])), (ed, .inl (cO, 10, .inr (.inr (.inr (.inr ee)))))]) hD hS hA [1, 2] rfl
  have hDv := hDc.self (sz := s.heap.size)
  have hpre := zpre (xs' := []) (av := [.ref al, .int 2]) hPc hK (hDc.weaken (fun _ _ _ h => h)) hZ hS hFc (fun r hr => by cases hr)
  refine va_callr (va_runV (As := [.int 2]) (rest := []) ⟨hx, hb, hml, hown, hts⟩ (k_get l dC dI cI cB cR cO zk al ed 2 cc 10 a2 ee mc s.heap.size (by omega) hcc2 (by decide) he2) (cwV 1 hts gX4_nowhere_Jx4a65c_get_915e3 rfl rfl rfl (by decide +kernel) ⟨Nat.le_of_ble_eq_true rfl, Nat.le_of_ble_eq_true rfl⟩) ⟨zblind, (zrecv_4 hK hPc (q0 := 0) rfl), hpre⟩ rfl rfl hl.1 rfl (lv_room (Nat.le_of_ble_eq_true rfl)) dX4_nowhere_5 ⟨Nat.le_of_ble_eq_true rfl, Nat.le_of_ble_eq_true rfl⟩) hS (fun q _ h => hFc q h) hFc (fun u r2 t H1 locs ht hvm hw hB hz1 hk1 hS => ?_)
  obtain ⟨⟨hP1, hK1, hD1, hz2⟩, her2⟩ := hB
  rw [ht] at hP1 hz2
  have hPD9 := va_join (wr := [(mo, .inr (9, [th, .ref al, md, rf, kn])), (a2, .inr (8, [.int 4, .ref wa2, .ref na2])), (wa2, .inl (cI, 4, .inl fw2))]) (w1 := [(al, .inr (4, [mc, .ref ed, .int (nI cc)])), (ed, .inl (cO, 10, .inr (.inr (.inr (.inr ee)))))]) hP hD [1, 2] [0, 3, 4] rfl rfl (by decide) (by decide) hk1 hFc hP1 hD1
  clear hPc hDc hFc hDv hpre hP hD hP1 hK1 hD1
  obtain ⟨hP, hD⟩ := hPD9
  replace hz : s.heap.size + 0 ≤ H1.size := by omega
  clear hz2
  replace hP : va_P (dC, dI) vwCl [(mo, .inr (9, [th, .ref al, md, rf, kn])), (a2, .inr (8, [.int 4, .ref wa2, .ref na2])), (wa2, .inl (cI, 4, .inl fw2)), (al, .inr (4, [mc, .ref ed, .int (nI cc)])), (ed, .inl (cO, 10, .inr (.inr (.inr (.inr ee)))))] H1 := hP
  replace hD : va_D A [(mo, .inr (9, [th, .ref al, md, rf, kn])), (a2, .inr (8, [.int 4, .ref wa2, .ref na2])), (wa2, .inl (cI, 4, .inl fw2)), (al, .inr (4, [mc, .ref ed, .int (nI cc)])), (ed, .inl (cO, 10, .inr (.inr (.inr (.inr ee)))))] := hD
  refine W.widen (k := 0) (n := 0) (by omega) (by omega) ?_
  obtain rfl := her2.symm
  refine va_castE hx hb hown (hts (.classLink RX4 40 "DeeprowsModel$Row") (List.mem_cons_of_mem _ zw_1165)) (zrecv_8 hK hP (q0 := 1) rfl) dX4_nowhere_8 ?_
  have hPc := hP.sub (ws' := [(a2, .inr (8, [.int 4, .ref wa2, .ref na2])), (wa2, .inl (cI, 4, .inl fw2))]) [1, 2] rfl
  have hDc := hD.sub (ws' := [(a2, .inr (8, [.int 4, .ref wa2, .ref na2])), (wa2, .inl (cI, 4, .inl fw2))]) [1, 2] (by decide) rfl
  have hFc := va_free (wc := [(a2, .inr (8, [.int 4, .ref wa2, .ref na2])), (wa2, .inl (cI, 4, .inl fw2))]) hD hS hA [1, 2] rfl
  have hDv := hDc.self (sz := H1.size)
  have hpre := zpre (xs' := []) (av := [.ref a2]) hPc hK (hDc.weaken (fun _ _ _ h => h)) hZ hS hFc (fun r hr => by cases hr)
  refine va_calli (va_runV (As := []) (rest := []) ⟨hx, hb, hml, hown, hts⟩ (k_rlen l dC dI cI cB cR cO zk a2 wa2 na2 fw2 H1.size ) (cwV 0 hts gX4_nowhere_X3_length rfl rfl rfl (by decide +kernel) ⟨Nat.le_of_ble_eq_true rfl, Nat.le_of_ble_eq_true rfl⟩) ⟨zblind, (zrecv_8 hK hPc (q0 := 0) rfl), hpre⟩ rfl rfl hl.1 rfl (lv_room (Nat.le_of_ble_eq_true rfl)) dX4_nowhere_11 ⟨Nat.le_of_ble_eq_true rfl, Nat.le_of_ble_eq_true rfl⟩) hS (fun q _ h => hFc q h) hFc (fun r4 u t H3 locs ht hvm hw hB hz1 hk1 hS => ?_)
  obtain rfl : 4 = r4 := (show r4 = 4 from hw).symm
  obtain ⟨hP1, hK1, hD1, hz2⟩ := hB
  rw [ht] at hP1 hz2
  have hPD9 := va_join (wr := [(mo, .inr (9, [th, .ref al, md, rf, kn])), (al, .inr (4, [mc, .ref ed, .int (nI cc)])), (ed, .inl (cO, 10, .inr (.inr (.inr (.inr ee)))))]) (w1 := [(a2, .inr (8, [.int 4, .ref wa2, .ref na2])), (wa2, .inl (cI, 4, .inl fw2))]) hP hD [1, 2] [0, 3, 4] rfl rfl (by decide) (by decide) hk1 hFc hP1 hD1
  clear hPc hDc hFc hDv hpre hP hD hP1 hK1 hD1
  obtain ⟨hP, hD⟩ := hPD9
  replace hz : s.heap.size + 0 ≤ H3.size := by omega
  clear hz2
  replace hP : va_P (dC, dI) vwCl [(mo, .inr (9, [th, .ref al, md, rf, kn])), (al, .inr (4, [mc, .ref ed, .int (nI cc)])), (ed, .inl (cO, 10, .inr (.inr (.inr (.inr ee))))), (a2, .inr (8, [.int 4, .ref wa2, .ref na2])), (wa2, .inl (cI, 4, .inl fw2))] H3 := hP
  replace hD : va_D A [(mo, .inr (9, [th, .ref al, md, rf, kn])), (al, .inr (4, [mc, .ref ed, .int (nI cc)])), (ed, .inl (cO, 10, .inr (.inr (.inr (.inr ee))))), (a2, .inr (8, [.int 4, .ref wa2, .ref na2])), (wa2, .inl (cI, 4, .inl fw2))] := hD
  refine W.widen (k := 0) (n := 0) (by omega) (by omega) ?_
  refine zw_newa (atype := .int) (ty := .int) (N' := 4) hx hb (hts (.arrayClass .int) (List.mem_cons_of_mem _ zw_137)) rfl (by first | exact Or.inl rfl | exact Or.inr rfl) hK hP hD hS hA 0 rfl (by decide) (by decide) (Nat.le_of_ble_eq_true rfl) (Nat.le_of_ble_eq_true rfl) (Nat.le_of_ble_eq_true rfl) dX4_nowhere_14 hz (fun q5 H6 hP hD hS hz => ?_)
  replace hP : va_P (dC, dI) vwCl [(mo, .inr (9, [th, .ref al, md, rf, kn])), (al, .inr (4, [mc, .ref ed, .int (nI cc)])), (ed, .inl (cO, 10, .inr (.inr (.inr (.inr ee))))), (a2, .inr (8, [.int 4, .ref wa2, .ref na2])), (wa2, .inl (cI, 4, .inl fw2)), (q5, .inl (cI, 4, .inl (fun _ => 0)))] H6 := hP
  replace hD : va_D A [(mo, .inr (9, [th, .ref al, md, rf, kn])), (al, .inr (4, [mc, .ref ed, .int (nI cc)])), (ed, .inl (cO, 10, .inr (.inr (.inr (.inr ee))))), (a2, .inr (8, [.int 4, .ref wa2, .ref na2])), (wa2, .inl (cI, 4, .inl fw2)), (q5, .inl (cI, 4, .inl (fun _ => 0)))] := hD
  refine W.widen (k := 1) (n := 4) (by omega) (by omega) ?_
  refine lv_astore_n (lv' := [(2, .ref q5), (0, .ref mo), (1, .int 2)]) hx hb dX4_nowhere_16 rfl hl (by decide) rfl (fun ls hl => ?_)
  refine lv_iconst (v := 0) hx hb dX4_nowhere_17 (by decide) ?_
  refine lv_istore_n (lv' := [(3, .int 0), (2, .ref q5), (0, .ref mo), (1, .int 2)]) hx hb dX4_nowhere_18 rfl hl (by decide) rfl (fun ls hl => ?_)
  refine lv_iload_n hx hb dX4_nowhere_19 rfl (lv_at hl 0 rfl) ?_
  refine lv_aload_n hx hb dX4_nowhere_20 rfl (lv_at hl 1 rfl) ?_
  refine va_alen (D := (dC, dI)) (cl := vwCl) (v := 4) hx hb hK hP 5 0 rfl rfl rfl dX4_nowhere_21 ?_
  refine lv_icmp_ge (tgt := 35) hx hb dX4_nowhere_22 (by decide) (fun c9 => ?_) (fun c9 => ?_)
  · exact absurd c9 (by decide)
  refine lv_aload_n hx hb dX4_nowhere_25 rfl (lv_at hl 1 rfl) ?_
  refine lv_iload_n hx hb dX4_nowhere_26 rfl (lv_at hl 0 rfl) ?_
  refine lv_iconst (v := (-1)) hx hb dX4_nowhere_27 (by decide) ?_
  refine va_iast (D := (dC, dI)) (cl := vwCl) hx hb hK hP hD (zS0 hS) 5 0 rfl rfl (by unfold vp_in; decide) dX4_nowhere_28 (fun H7 locs hP hD hS1 => ?_)
  have hz : s.heap.size + 1 ≤ H7.size := Nat.le_trans hz hS1.1
  have hS := zSS hS hS1
  replace hP : va_P (dC, dI) vwCl [(mo, .inr (9, [th, .ref al, md, rf, kn])), (al, .inr (4, [mc, .ref ed, .int (nI cc)])), (ed, .inl (cO, 10, .inr (.inr (.inr (.inr ee))))), (a2, .inr (8, [.int 4, .ref wa2, .ref na2])), (wa2, .inl (cI, 4, .inl fw2)), (q5, .inl (cI, 4, .inl (upd (fun _ => 0) 0 (-1))))] H7 := hP
  replace hD : va_D A [(mo, .inr (9, [th, .ref al, md, rf, kn])), (al, .inr (4, [mc, .ref ed, .int (nI cc)])), (ed, .inl (cO, 10, .inr (.inr (.inr (.inr ee))))), (a2, .inr (8, [.int 4, .ref wa2, .ref na2])), (wa2, .inl (cI, 4, .inl fw2)), (q5, .inl (cI, 4, .inl (upd (fun _ => 0) 0 (-1))))] := hD
  refine lv_iinc (v := 1) (lv' := [(3, .int 1), (2, .ref q5), (0, .ref mo), (1, .int 2)]) hx hb dX4_nowhere_29 hl (k := 0) rfl (by decide) (by decide) rfl (fun ls hl => ?_)
  refine lv_goto (tgt := 19) hx hb dX4_nowhere_32 (by decide) ?_
  refine lv_iload_n hx hb dX4_nowhere_19 rfl (lv_at hl 0 rfl) ?_
  refine lv_aload_n hx hb dX4_nowhere_20 rfl (lv_at hl 1 rfl) ?_
  refine va_alen (D := (dC, dI)) (cl := vwCl) (v := 4) hx hb hK hP 5 0 rfl rfl rfl dX4_nowhere_21 ?_
  refine lv_icmp_ge (tgt := 35) hx hb dX4_nowhere_22 (by decide) (fun c9 => ?_) (fun c9 => ?_)
  · exact absurd c9 (by decide)
  refine lv_aload_n hx hb dX4_nowhere_25 rfl (lv_at hl 1 rfl) ?_
  refine lv_iload_n hx hb dX4_nowhere_26 rfl (lv_at hl 0 rfl) ?_
  refine lv_iconst (v := (-1)) hx hb dX4_nowhere_27 (by decide) ?_
  refine va_iast (D := (dC, dI)) (cl := vwCl) hx hb hK hP hD (zS0 hS) 5 0 rfl rfl (by unfold vp_in; decide) dX4_nowhere_28 (fun H8 locs hP hD hS1 => ?_)
  have hz : s.heap.size + 1 ≤ H8.size := Nat.le_trans hz hS1.1
  have hS := zSS hS hS1
  replace hP : va_P (dC, dI) vwCl [(mo, .inr (9, [th, .ref al, md, rf, kn])), (al, .inr (4, [mc, .ref ed, .int (nI cc)])), (ed, .inl (cO, 10, .inr (.inr (.inr (.inr ee))))), (a2, .inr (8, [.int 4, .ref wa2, .ref na2])), (wa2, .inl (cI, 4, .inl fw2)), (q5, .inl (cI, 4, .inl (upd (upd (fun _ => 0) 0 (-1)) 1 (-1))))] H8 := hP
  replace hD : va_D A [(mo, .inr (9, [th, .ref al, md, rf, kn])), (al, .inr (4, [mc, .ref ed, .int (nI cc)])), (ed, .inl (cO, 10, .inr (.inr (.inr (.inr ee))))), (a2, .inr (8, [.int 4, .ref wa2, .ref na2])), (wa2, .inl (cI, 4, .inl fw2)), (q5, .inl (cI, 4, .inl (upd (upd (fun _ => 0) 0 (-1)) 1 (-1))))] := hD
  refine lv_iinc (v := 2) (lv' := [(3, .int 2), (2, .ref q5), (0, .ref mo), (1, .int 2)]) hx hb dX4_nowhere_29 hl (k := 0) rfl (by decide) (by decide) rfl (fun ls hl => ?_)
  refine lv_goto (tgt := 19) hx hb dX4_nowhere_32 (by decide) ?_
  refine lv_iload_n hx hb dX4_nowhere_19 rfl (lv_at hl 0 rfl) ?_
  refine lv_aload_n hx hb dX4_nowhere_20 rfl (lv_at hl 1 rfl) ?_
  refine va_alen (D := (dC, dI)) (cl := vwCl) (v := 4) hx hb hK hP 5 0 rfl rfl rfl dX4_nowhere_21 ?_
  refine lv_icmp_ge (tgt := 35) hx hb dX4_nowhere_22 (by decide) (fun c9 => ?_) (fun c9 => ?_)
  · exact absurd c9 (by decide)
  refine lv_aload_n hx hb dX4_nowhere_25 rfl (lv_at hl 1 rfl) ?_
  refine lv_iload_n hx hb dX4_nowhere_26 rfl (lv_at hl 0 rfl) ?_
  refine lv_iconst (v := (-1)) hx hb dX4_nowhere_27 (by decide) ?_
  refine va_iast (D := (dC, dI)) (cl := vwCl) hx hb hK hP hD (zS0 hS) 5 0 rfl rfl (by unfold vp_in; decide) dX4_nowhere_28 (fun H9 locs hP hD hS1 => ?_)
  have hz : s.heap.size + 1 ≤ H9.size := Nat.le_trans hz hS1.1
  have hS := zSS hS hS1
  replace hP : va_P (dC, dI) vwCl [(mo, .inr (9, [th, .ref al, md, rf, kn])), (al, .inr (4, [mc, .ref ed, .int (nI cc)])), (ed, .inl (cO, 10, .inr (.inr (.inr (.inr ee))))), (a2, .inr (8, [.int 4, .ref wa2, .ref na2])), (wa2, .inl (cI, 4, .inl fw2)), (q5, .inl (cI, 4, .inl (upd (upd (upd (fun _ => 0) 0 (-1)) 1 (-1)) 2 (-1))))] H9 := hP
  replace hD : va_D A [(mo, .inr (9, [th, .ref al, md, rf, kn])), (al, .inr (4, [mc, .ref ed, .int (nI cc)])), (ed, .inl (cO, 10, .inr (.inr (.inr (.inr ee))))), (a2, .inr (8, [.int 4, .ref wa2, .ref na2])), (wa2, .inl (cI, 4, .inl fw2)), (q5, .inl (cI, 4, .inl (upd (upd (upd (fun _ => 0) 0 (-1)) 1 (-1)) 2 (-1))))] := hD
  refine lv_iinc (v := 3) (lv' := [(3, .int 3), (2, .ref q5), (0, .ref mo), (1, .int 2)]) hx hb dX4_nowhere_29 hl (k := 0) rfl (by decide) (by decide) rfl (fun ls hl => ?_)
  refine lv_goto (tgt := 19) hx hb dX4_nowhere_32 (by decide) ?_
  refine lv_iload_n hx hb dX4_nowhere_19 rfl (lv_at hl 0 rfl) ?_
  refine lv_aload_n hx hb dX4_nowhere_20 rfl (lv_at hl 1 rfl) ?_
  refine va_alen (D := (dC, dI)) (cl := vwCl) (v := 4) hx hb hK hP 5 0 rfl rfl rfl dX4_nowhere_21 ?_
  refine lv_icmp_ge (tgt := 35) hx hb dX4_nowhere_22 (by decide) (fun c9 => ?_) (fun c9 => ?_)
  · exact absurd c9 (by decide)
  refine lv_aload_n hx hb dX4_nowhere_25 rfl (lv_at hl 1 rfl) ?_
  refine lv_iload_n hx hb dX4_nowhere_26 rfl (lv_at hl 0 rfl) ?_
  refine lv_iconst (v := (-1)) hx hb dX4_nowhere_27 (by decide) ?_
  refine va_iast (D := (dC, dI)) (cl := vwCl) hx hb hK hP hD (zS0 hS) 5 0 rfl rfl (by unfold vp_in; decide) dX4_nowhere_28 (fun H10 locs hP hD hS1 => ?_)
  have hz : s.heap.size + 1 ≤ H10.size := Nat.le_trans hz hS1.1
  have hS := zSS hS hS1
  replace hP : va_P (dC, dI) vwCl [(mo, .inr (9, [th, .ref al, md, rf, kn])), (al, .inr (4, [mc, .ref ed, .int (nI cc)])), (ed, .inl (cO, 10, .inr (.inr (.inr (.inr ee))))), (a2, .inr (8, [.int 4, .ref wa2, .ref na2])), (wa2, .inl (cI, 4, .inl fw2)), (q5, .inl (cI, 4, .inl (upd (upd (upd (upd (fun _ => 0) 0 (-1)) 1 (-1)) 2 (-1)) 3 (-1))))] H10 := hP
  replace hD : va_D A [(mo, .inr (9, [th, .ref al, md, rf, kn])), (al, .inr (4, [mc, .ref ed, .int (nI cc)])), (ed, .inl (cO, 10, .inr (.inr (.inr (.inr ee))))), (a2, .inr (8, [.int 4, .ref wa2, .ref na2])), (wa2, .inl (cI, 4, .inl fw2)), (q5, .inl (cI, 4, .inl (upd (upd (upd (upd (fun _ => 0) 0 (-1)) 1 (-1)) 2 (-1)) 3 (-1))))] := hD
  refine lv_iinc (v := 4) (lv' := [(3, .int 4), (2, .ref q5), (0, .ref mo), (1, .int 2)]) hx hb dX4_nowhere_29 hl (k := 0) rfl (by decide) (by decide) rfl (fun ls hl => ?_)
  refine lv_goto (tgt := 19) hx hb dX4_nowhere_32 (by decide) ?_
  refine lv_iload_n hx hb dX4_nowhere_19 rfl (lv_at hl 0 rfl) ?_
  refine lv_aload_n hx hb dX4_nowhere_20 rfl (lv_at hl 1 rfl) ?_
  refine va_alen (D := (dC, dI)) (cl := vwCl) (v := 4) hx hb hK hP 5 0 rfl rfl rfl dX4_nowhere_21 ?_
  refine lv_icmp_ge (tgt := 35) hx hb dX4_nowhere_22 (by decide) (fun c9 => ?_) (fun c9 => ?_)
  rotate_left
  · exact absurd (by decide) c9
  refine lv_aload_n hx hb dX4_nowhere_35 rfl (lv_at hl 1 rfl) ?_
  have hP9 := hP.sub (ws' := [(mo, .inr (9, [th, .ref al, md, rf, kn])), (al, .inr (4, [mc, .ref ed, .int (nI cc)])), (ed, .inl (cO, 10, .inr (.inr (.inr (.inr ee))))), (a2, .inr (8, [.int 4, .ref wa2, .ref na2])), (wa2, .inl (cI, 4, .inl fw2)), (q5, .inl (cI, 4, .inl (upd (upd (upd (upd (fun _ => 0) 0 (-1)) 1 (-1)) 2 (-1)) 3 (-1))))]) [0, 1, 2, 3, 4, 5] rfl
  have hD9 := hD.sub (ws' := [(mo, .inr (9, [th, .ref al, md, rf, kn])), (al, .inr (4, [mc, .ref ed, .int (nI cc)])), (ed, .inl (cO, 10, .inr (.inr (.inr (.inr ee))))), (a2, .inr (8, [.int 4, .ref wa2, .ref na2])), (wa2, .inl (cI, 4, .inl fw2)), (q5, .inl (cI, 4, .inl (upd (upd (upd (upd (fun _ => 0) 0 (-1)) 1 (-1)) 2 (-1)) 3 (-1))))]) [0, 1, 2, 3, 4, 5] (by decide) rfl
  exact W.aret hx hb hr (by first | exact Or.inl ⟨_, rfl⟩ | exact Or.inr ⟨_, rfl⟩) (Or.inr ⟨_, rfl⟩) (fun t ht hW => ⟨⟨(), _, rfl, trivial, ⟨_, ⟨by rw [ht]; exact hP9, va_K.moved hW.alike hK, hD9, by rw [ht]; exact hz⟩⟩⟩, hS.F ht⟩) hS.2.2 dX4_nowhere_36

set_option maxHeartbeats 4000000 in
set_option maxRecDepth 100000 in
theorem k_aH2 (l : Launch) (dC : Nat → ClassId) (dI : Nat → Nat → Nat) (cI cB cR cO : ClassId) (zk : Nat → Nat) (mo al ed cc : Nat) (ee : Nat → Option Nat) (th md rf kn mc : Value) (a0 wa0 na0 a1 wa1 na1 a2 wa2 na2 : Nat) (fw0 fn0 fw1 fn1 fw2 fn2 : Nat → Int32) (ot : Nat) (fo : Nat → Int32) (sz : Nat) (hcc : 2 < cc) (hcc2 : cc ≤ 10) (hcc3 : cc = 3) (hw0 : ∀ i, i < 4 → fw0 i = 0) (hn0 : ∀ i, i < 4 → fn0 i = (-1)) (he0 : ee 0 = some a0) (hw1 : ∀ i, i < 4 → fw1 i = 3) (hn1 : ∀ i, i < 4 → fn1 i = 0) (he1 : ee 1 = some a1) (hw2 : ∀ i, i < 4 → fw2 i = 0) (hn2 : ∀ i, i < 4 → fn2 i = -1) (he2 : ee 2 = some a2) (ho : ∀ i, i < 4 → fo i = 1) : Met l yX4_areHung wsX4_areHung ({ frames := 4, cells := 6, slots := 17, locals := 106 }) (va_Pc [.ref mo, .int 2, .ref ot] (zPre (dC, dI) (zT cI cB cR cO) zk [] [(mo, .inr (9, [th, .ref al, md, rf, kn])), (al, .inr (4, [mc, .ref ed, .int (nI cc)])), (ed, .inl (cO, 10, .inr (.inr (.inr (.inr ee))))), (a0, .inr (8, [.int 4, .ref wa0, .ref na0])), (wa0, .inl (cI, 4, .inl fw0)), (na0, .inl (cI, 4, .inl fn0)), (a1, .inr (8, [.int 4, .ref wa1, .ref na1])), (wa1, .inl (cI, 4, .inl fw1)), (na1, .inl (cI, 4, .inl fn1)), (a2, .inr (8, [.int 4, .ref wa2, .ref na2])), (wa2, .inl (cI, 4, .inl fw2)), (na2, .inl (cI, 4, .inl fn2)), (ot, .inl (cI, 4, .inl fo))] sz)) (va_Qi (fun r (_ : Unit) => r = 1) (fun _ t => ∃ (fwz : Nat → Int32), ∃ (fnz : Nat → Int32), zEnd (dC, dI) (zT cI cB cR cO) (va_A [(mo, .inr (9, [th, .ref al, md, rf, kn])), (al, .inr (4, [mc, .ref ed, .int (nI cc)])), (ed, .inl (cO, 10, .inr (.inr (.inr (.inr ee))))), (a0, .inr (8, [.int 4, .ref wa0, .ref na0])), (wa0, .inl (cI, 4, .inl fw0)), (na0, .inl (cI, 4, .inl fn0)), (a1, .inr (8, [.int 4, .ref wa1, .ref na1])), (wa1, .inl (cI, 4, .inl fw1)), (na1, .inl (cI, 4, .inl fn1)), (a2, .inr (8, [.int 4, .ref wa2, .ref na2])), (wa2, .inl (cI, 4, .inl fw2)), (na2, .inl (cI, 4, .inl fn2)), (ot, .inl (cI, 4, .inl fo))] sz) [(mo, .inr (9, [th, .ref al, md, rf, kn])), (al, .inr (4, [mc, .ref ed, .int (nI cc)])), (ed, .inl (cO, 10, .inr (.inr (.inr (.inr ee))))), (a0, .inr (8, [.int 4, .ref wa0, .ref na0])), (wa0, .inl (cI, 4, .inl fw0)), (na0, .inl (cI, 4, .inl fn0)), (a1, .inr (8, [.int 4, .ref wa1, .ref na1])), (wa1, .inl (cI, 4, .inl fw1)), (na1, .inl (cI, 4, .inl fn1)), (a2, .inr (8, [.int 4, .ref wa2, .ref na2])), (wa2, .inl (cI, 4, .inl fwz)), (na2, .inl (cI, 4, .inl fnz)), (ot, .inl (cI, 4, .inl fo))] sz 3 t ∧ (∀ i, i < 4 → fwz i = 3) ∧ (∀ i, i < 4 → fnz i = 1)) (va_A [(mo, .inr (9, [th, .ref al, md, rf, kn])), (al, .inr (4, [mc, .ref ed, .int (nI cc)])), (ed, .inl (cO, 10, .inr (.inr (.inr (.inr ee))))), (a0, .inr (8, [.int 4, .ref wa0, .ref na0])), (wa0, .inl (cI, 4, .inl fw0)), (na0, .inl (cI, 4, .inl fn0)), (a1, .inr (8, [.int 4, .ref wa1, .ref na1])), (wa1, .inl (cI, 4, .inl fw1)), (na1, .inl (cI, 4, .inl fn1)), (a2, .inr (8, [.int 4, .ref wa2, .ref na2])), (wa2, .inl (cI, 4, .inl fw2)), (na2, .inl (cI, 4, .inl fn2)), (ot, .inl (cI, 4, .inl fo))] sz)) 6 17 (va_A [(mo, .inr (9, [th, .ref al, md, rf, kn])), (al, .inr (4, [mc, .ref ed, .int (nI cc)])), (ed, .inl (cO, 10, .inr (.inr (.inr (.inr ee))))), (a0, .inr (8, [.int 4, .ref wa0, .ref na0])), (wa0, .inl (cI, 4, .inl fw0)), (na0, .inl (cI, 4, .inl fn0)), (a1, .inr (8, [.int 4, .ref wa1, .ref na1])), (wa1, .inl (cI, 4, .inl fw1)), (na1, .inl (cI, 4, .inl fn1)), (a2, .inr (8, [.int 4, .ref wa2, .ref na2])), (wa2, .inl (cI, 4, .inl fw2)), (na2, .inl (cI, 4, .inl fn2)), (ot, .inl (cI, 4, .inl fo))] sz) := by
  refine Met.ofW (cc := cX4_areHung) (maxL := 7) (ret := (some .boolean)) (by decide) rfl ?_
  intro p e s mY args below meth c s₁ B hml hv
  obtain ⟨rfl, hsz, hP, hK, hD0, hZ⟩ := hv
  have hx := B.exec
  have hb := B.bytes
  have hr := B.returns
  have hts := atoms_spec (ws := wsX4_areHung) B.pre
  have hown : s.vm.findClass RX4 = some mY.cls := findClass_of_methodNamed B.named
  have hlocks := B.notSynchronized
  subst hsz
  have hD := hD0.self (sz := s.heap.size)
  generalize hAe : va_A [(mo, .inr (9, [th, .ref al, md, rf, kn])), (al, .inr (4, [mc, .ref ed, .int (nI cc)])), (ed, .inl (cO, 10, .inr (.inr (.inr (.inr ee))))), (a0, .inr (8, [.int 4, .ref wa0, .ref na0])), (wa0, .inl (cI, 4, .inl fw0)), (na0, .inl (cI, 4, .inl fn0)), (a1, .inr (8, [.int 4, .ref wa1, .ref na1])), (wa1, .inl (cI, 4, .inl fw1)), (na1, .inl (cI, 4, .inl fn1)), (a2, .inr (8, [.int 4, .ref wa2, .ref na2])), (wa2, .inl (cI, 4, .inl fw2)), (na2, .inl (cI, 4, .inl fn2)), (ot, .inl (cI, 4, .inl fo))] s.heap.size = A at hD hZ ⊢
  have hA : ∀ q : Nat, s.heap.size ≤ q → A q := fun q h => by rw [← hAe]; exact Or.inr h
  have hS : va_S A s.heap s.heap [] := va_S.rf
  have hz : s.heap.size + 0 ≤ s.heap.size := Nat.le_refl _
  have hl := lv_entry ([.ref mo, .int 2, .ref ot]) (n := 7) (Nat.le_of_ble_eq_true rfl)
  rw [lg_entry_eq]
  generalize (lg_sl ([.ref mo, .int 2, .ref ot]) ++ List.replicate (7 - (lg_sl ([.ref mo, .int 2, .ref ot])).length) Slot.unset).toArray = ls at hl ⊢
  have hl : lv_has ls 7 [(0, .ref mo), (1, .int 2), (2, .ref ot)] := hl
  have hP : va_P (dC, dI) vwCl [(mo, .inr (9, [th, .ref al, md, rf, kn])), (al, .inr (4, [mc, .ref ed, .int (nI cc)])), (ed, .inl (cO, 10, .inr (.inr (.inr (.inr ee))))), (a0, .inr (8, [.int 4, .ref wa0, .ref na0])), (wa0, .inl (cI, 4, .inl fw0)), (na0, .inl (cI, 4, .inl fn0)), (a1, .inr (8, [.int 4, .ref wa1, .ref na1])), (wa1, .inl (cI, 4, .inl fw1)), (na1, .inl (cI, 4, .inl fn1)), (a2, .inr (8, [.int 4, .ref wa2, .ref na2])), (wa2, .inl (cI, 4, .inl fw2)), (na2, .inl (cI, 4, .inl fn2)), (ot, .inl (cI, 4, .inl fo))] s.heap := hP
  have hD : va_D A [(mo, .inr (9, [th, .ref al, md, rf, kn])), (al, .inr (4, [mc, .ref ed, .int (nI cc)])), (ed, .inl (cO, 10, .inr (.inr (.inr (.inr ee))))), (a0, .inr (8, [.int 4, .ref wa0, .ref na0])), (wa0, .inl (cI, 4, .inl fw0)), (na0, .inl (cI, 4, .inl fn0)), (a1, .inr (8, [.int 4, .ref wa1, .ref na1])), (wa1, .inl (cI, 4, .inl fw1)), (na1, .inl (cI, 4, .inl fn1)), (a2, .inr (8, [.int 4, .ref wa2, .ref na2])), (wa2, .inl (cI, 4, .inl fw2)), (na2, .inl (cI, 4, .inl fn2)), (ot, .inl (cI, 4, .inl fo))] := hD
  refine lv_aload_n hx hb dX4_areHung_0 rfl (lv_at hl 0 rfl) ?_
  refine va_get (D := (dC, dI)) (ci := 9) (v := .ref al) (C := RX4) (T := TX4) (N := 5) hx hb hts hi_X4_areHung_X4 hown hK hP 0 rfl rfl 1 (by decide) (hts (.fieldLink RX4 10 "DeeprowsModel" "rows" "Ljava/util/ArrayList;") (List.mem_cons_of_mem _ zw_1134)) (fun _ h9 => h9) rfl dX4_areHung_1 ?_
  refine lv_iload_n hx hb dX4_areHung_4 rfl (lv_at hl 1 rfl) ?_
  have hPc := hP.sub (ws' := [(al, .inr (4, [mc, .ref ed, .int (nI cc)])), (ed, .inl (cO, 10, .inr (.inr (.inr (.inr ee)))))]) [1, 2] rfl
  have hDc := hD.sub (ws' := [(al, .inr (4, [mc, .ref ed, .int (nI cc)])), (ed, .inl (cO, 10, .inr (.inr (.inr (.inr ee)))))]) [1, 2] (by decide) rfl
  have hFc := va_free (wc := [(al, .inr (4, [mc, .ref ed, .int (nI cc)])), (ed, .inl (cO, 10, .inr (.inr (.inr (.inr ee)))))]) hD hS hA [1, 2] rfl
  have hDv := hDc.self (sz := s.heap.size)
  have hpre := zpre (xs' := []) (av := [.ref al, .int 2]) hPc hK (hDc.weaken (fun _ _ _ h => h)) hZ hS hFc (fun r hr => by cases hr)
  refine va_callr (va_runV (As := [.int 2]) (rest := []) ⟨hx, hb, hml, hown, hts⟩ (k_get l dC dI cI cB cR cO zk al ed 2 cc 10 a2 ee mc s.heap.size (by omega) hcc2 (by decide) he2) (cwV 1 hts gX4_areHung_Jx4a65c_get_915e3 rfl rfl rfl (by decide +kernel) ⟨Nat.le_of_ble_eq_true rfl, Nat.le_of_ble_eq_true rfl⟩) ⟨zblind, (zrecv_4 hK hPc (q0 := 0) rfl), hpre⟩ rfl rfl hl.1 rfl (lv_room (Nat.le_of_ble_eq_true rfl)) dX4_areHung_5 ⟨Nat.le_of_ble_eq_true rfl, Nat.le_of_ble_eq_true rfl⟩) hS (fun q _ h => hFc q h) hFc (fun u r2 t H1 locs ht hvm hw hB hz1 hk1 hS => ?_)
  obtain ⟨⟨hP1, hK1, hD1, hz2⟩, her2⟩ := hB
  rw [ht] at hP1 hz2
  have hPD9 := va_join (wr := [(mo, .inr (9, [th, .ref al, md, rf, kn])), (a0, .inr (8, [.int 4, .ref wa0, .ref na0])), (wa0, .inl (cI, 4, .inl fw0)), (na0, .inl (cI, 4, .inl fn0)), (a1, .inr (8, [.int 4, .ref wa1, .ref na1])), (wa1, .inl (cI, 4, .inl fw1)), (na1, .inl (cI, 4, .inl fn1)), (a2, .inr (8, [.int 4, .ref wa2, .ref na2])), (wa2, .inl (cI, 4, .inl fw2)), (na2, .inl (cI, 4, .inl fn2)), (ot, .inl (cI, 4, .inl fo))]) (w1 := [(al, .inr (4, [mc, .ref ed, .int (nI cc)])), (ed, .inl (cO, 10, .inr (.inr (.inr (.inr ee)))))]) hP hD [1, 2] [0, 3, 4, 5, 6, 7, 8, 9, 10, 11, 12] rfl rfl (by decide) (by decide) hk1 hFc hP1 hD1
  clear hPc hDc hFc hDv hpre hP hD hP1 hK1 hD1
  obtain ⟨hP, hD⟩ := hPD9
  replace hz : s.heap.size + 0 ≤ H1.size := by omega
  clear hz2
  replace hP : va_P (dC, dI) vwCl [(mo, .inr (9, [th, .ref al, md, rf, kn])), (a0, .inr (8, [.int 4, .ref wa0, .ref na0])), (wa0, .inl (cI, 4, .inl fw0)), (na0, .inl (cI, 4, .inl fn0)), (a1, .inr (8, [.int 4, .ref wa1, .ref na1])), (wa1, .inl (cI, 4, .inl fw1)), (na1, .inl (cI, 4, .inl fn1)), (a2, .inr (8, [.int 4, .ref wa2, .ref na2])), (wa2, .inl (cI, 4, .inl fw2)), (na2, .inl (cI, 4, .inl fn2)), (ot, .inl (cI, 4, .inl fo)), (al, .inr (4, [mc, .ref ed, .int (nI cc)])), (ed, .inl (cO, 10, .inr (.inr (.inr (.inr ee)))))] H1 := hP
  replace hD : va_D A [(mo, .inr (9, [th, .ref al, md, rf, kn])), (a0, .inr (8, [.int 4, .ref wa0, .ref na0])), (wa0, .inl (cI, 4, .inl fw0)), (na0, .inl (cI, 4, .inl fn0)), (a1, .inr (8, [.int 4, .ref wa1, .ref na1])), (wa1, .inl (cI, 4, .inl fw1)), (na1, .inl (cI, 4, .inl fn1)), (a2, .inr (8, [.int 4, .ref wa2, .ref na2])), (wa2, .inl (cI, 4, .inl fw2)), (na2, .inl (cI, 4, .inl fn2)), (ot, .inl (cI, 4, .inl fo)), (al, .inr (4, [mc, .ref ed, .int (nI cc)])), (ed, .inl (cO, 10, .inr (.inr (.inr (.inr ee)))))] := hD
  refine W.widen (k := 0) (n := 0) (by omega) (by omega) ?_
  obtain rfl := her2.symm
  refine va_castE hx hb hown (hts (.classLink RX4 40 "DeeprowsModel$Row") (List.mem_cons_of_mem _ zw_1165)) (zrecv_8 hK hP (q0 := 7) rfl) dX4_areHung_8 ?_
  refine lv_astore_n (lv' := [(3, .ref a2), (0, .ref mo), (1, .int 2), (2, .ref ot)]) hx hb dX4_areHung_11 rfl hl (by decide) rfl (fun ls hl => ?_)
  refine lv_aload_n hx hb dX4_areHung_12 rfl (lv_at hl 0 rfl) ?_
  refine lv_aload_n hx hb dX4_areHung_13 rfl (lv_at hl 0 rfl) ?_
  have hPc := hP.sub (ws' := [(a2, .inr (8, [.int 4, .ref wa2, .ref na2])), (wa2, .inl (cI, 4, .inl fw2))]) [7, 8] rfl
  have hDc := hD.sub (ws' := [(a2, .inr (8, [.int 4, .ref wa2, .ref na2])), (wa2, .inl (cI, 4, .inl fw2))]) [7, 8] (by decide) rfl
  have hFc := va_free (wc := [(a2, .inr (8, [.int 4, .ref wa2, .ref na2])), (wa2, .inl (cI, 4, .inl fw2))]) hD hS hA [7, 8] rfl
  have hDv := hDc.self (sz := H1.size)
  have hpre := zpre (xs' := []) (av := [.ref a2]) hPc hK (hDc.weaken (fun _ _ _ h => h)) hZ hS hFc (fun r hr => by cases hr)
  refine va_calli (va_runV (As := []) (rest := [.ref a2]) ⟨hx, hb, hml, hown, hts⟩ (k_rlen l dC dI cI cB cR cO zk a2 wa2 na2 fw2 H1.size ) (cwV 0 hts gX4_areHung_X3_length rfl rfl rfl (by decide +kernel) ⟨Nat.le_of_ble_eq_true rfl, Nat.le_of_ble_eq_true rfl⟩) ⟨zblind, (zrecv_8 hK hPc (q0 := 0) rfl), hpre⟩ rfl rfl hl.1 rfl (lv_room (Nat.le_of_ble_eq_true rfl)) dX4_areHung_14 ⟨Nat.le_of_ble_eq_true rfl, Nat.le_of_ble_eq_true rfl⟩) hS (fun q _ h => hFc q h) hFc (fun r4 u t H3 locs ht hvm hw hB hz1 hk1 hS => ?_)
  obtain rfl : 4 = r4 := (show r4 = 4 from hw).symm
  obtain ⟨hP1, hK1, hD1, hz2⟩ := hB
  rw [ht] at hP1 hz2
  have hPD9 := va_join (wr := [(mo, .inr (9, [th, .ref al, md, rf, kn])), (a0, .inr (8, [.int 4, .ref wa0, .ref na0])), (wa0, .inl (cI, 4, .inl fw0)), (na0, .inl (cI, 4, .inl fn0)), (a1, .inr (8, [.int 4, .ref wa1, .ref na1])), (wa1, .inl (cI, 4, .inl fw1)), (na1, .inl (cI, 4, .inl fn1)), (na2, .inl (cI, 4, .inl fn2)), (ot, .inl (cI, 4, .inl fo)), (al, .inr (4, [mc, .ref ed, .int (nI cc)])), (ed, .inl (cO, 10, .inr (.inr (.inr (.inr ee)))))]) (w1 := [(a2, .inr (8, [.int 4, .ref wa2, .ref na2])), (wa2, .inl (cI, 4, .inl fw2))]) hP hD [7, 8] [0, 1, 2, 3, 4, 5, 6, 9, 10, 11, 12] rfl rfl (by decide) (by decide) hk1 hFc hP1 hD1
  clear hPc hDc hFc hDv hpre hP hD hP1 hK1 hD1
  obtain ⟨hP, hD⟩ := hPD9
  replace hz : s.heap.size + 0 ≤ H3.size := by omega
  clear hz2
  replace hP : va_P (dC, dI) vwCl [(mo, .inr (9, [th, .ref al, md, rf, kn])), (a0, .inr (8, [.int 4, .ref wa0, .ref na0])), (wa0, .inl (cI, 4, .inl fw0)), (na0, .inl (cI, 4, .inl fn0)), (a1, .inr (8, [.int 4, .ref wa1, .ref na1])), (wa1, .inl (cI, 4, .inl fw1)), (na1, .inl (cI, 4, .inl fn1)), (na2, .inl (cI, 4, .inl fn2)), (ot, .inl (cI, 4, .inl fo)), (al, .inr (4, [mc, .ref ed, .int (nI cc)])), (ed, .inl (cO, 10, .inr (.inr (.inr (.inr ee))))), (a2, .inr (8, [.int 4, .ref wa2, .ref na2])), (wa2, .inl (cI, 4, .inl fw2))] H3 := hP
  replace hD : va_D A [(mo, .inr (9, [th, .ref al, md, rf, kn])), (a0, .inr (8, [.int 4, .ref wa0, .ref na0])), (wa0, .inl (cI, 4, .inl fw0)), (na0, .inl (cI, 4, .inl fn0)), (a1, .inr (8, [.int 4, .ref wa1, .ref na1])), (wa1, .inl (cI, 4, .inl fw1)), (na1, .inl (cI, 4, .inl fn1)), (na2, .inl (cI, 4, .inl fn2)), (ot, .inl (cI, 4, .inl fo)), (al, .inr (4, [mc, .ref ed, .int (nI cc)])), (ed, .inl (cO, 10, .inr (.inr (.inr (.inr ee))))), (a2, .inr (8, [.int 4, .ref wa2, .ref na2])), (wa2, .inl (cI, 4, .inl fw2))] := hD
  refine W.widen (k := 0) (n := 0) (by omega) (by omega) ?_
  have hPc := hP.sub (ws' := [(a2, .inr (8, [.int 4, .ref wa2, .ref na2])), (wa2, .inl (cI, 4, .inl fw2)), (na2, .inl (cI, 4, .inl fn2))]) [11, 12, 7] rfl
  have hDc := hD.sub (ws' := [(a2, .inr (8, [.int 4, .ref wa2, .ref na2])), (wa2, .inl (cI, 4, .inl fw2)), (na2, .inl (cI, 4, .inl fn2))]) [11, 12, 7] (by decide) rfl
  have hFc := va_free (wc := [(a2, .inr (8, [.int 4, .ref wa2, .ref na2])), (wa2, .inl (cI, 4, .inl fw2)), (na2, .inl (cI, 4, .inl fn2))]) hD hS hA [11, 12, 7] rfl
  have hDv := hDc.self (sz := H3.size)
  have hpre := zpre (xs' := []) (av := [.ref a2, .int 4]) hPc hK (hDc.weaken (fun _ _ _ h => h)) hZ hS hFc (fun r hr => by cases hr)
  refine va_callr (va_runV (As := [.int 4]) (rest := []) ⟨hx, hb, hml, hown, hts⟩ (k_mtw l dC dI cI cB cR cO zk a2 wa2 na2 fw2 fn2 H3.size hw2 hn2) (cwV 1 hts gX4_areHung_X3_twin rfl rfl rfl (by decide +kernel) ⟨Nat.le_of_ble_eq_true rfl, Nat.le_of_ble_eq_true rfl⟩) ⟨zblind, (zrecv_8 hK hPc (q0 := 0) rfl), hpre⟩ rfl rfl hl.1 rfl (lv_room (Nat.le_of_ble_eq_true rfl)) dX4_areHung_17 ⟨Nat.le_of_ble_eq_true rfl, Nat.le_of_ble_eq_true rfl⟩) hS (fun q _ h => hFc q h) hFc (fun u r6 t H5 locs ht hvm hw hB hz1 hk1 hS => ?_)
  obtain ⟨wb7, nb8, fb9, gb10, ⟨hP1, hK1, hD1, hz2⟩⟩ := hB
  rw [ht] at hP1 hz2
  have hPD9 := va_join (wr := [(mo, .inr (9, [th, .ref al, md, rf, kn])), (a0, .inr (8, [.int 4, .ref wa0, .ref na0])), (wa0, .inl (cI, 4, .inl fw0)), (na0, .inl (cI, 4, .inl fn0)), (a1, .inr (8, [.int 4, .ref wa1, .ref na1])), (wa1, .inl (cI, 4, .inl fw1)), (na1, .inl (cI, 4, .inl fn1)), (ot, .inl (cI, 4, .inl fo)), (al, .inr (4, [mc, .ref ed, .int (nI cc)])), (ed, .inl (cO, 10, .inr (.inr (.inr (.inr ee)))))]) (w1 := [(a2, .inr (8, [.int 4, .ref wa2, .ref na2])), (wa2, .inl (cI, 4, .inl fw2)), (na2, .inl (cI, 4, .inl fn2)), (r6, .inr (8, [.int 4, .ref wb7, .ref nb8])), (wb7, .inl (cI, 4, .inl fb9)), (nb8, .inl (cI, 4, .inl gb10))]) hP hD [11, 12, 7] [0, 1, 2, 3, 4, 5, 6, 8, 9, 10] rfl rfl (by decide) (by decide) hk1 hFc hP1 hD1
  clear hPc hDc hFc hDv hpre hP hD hP1 hK1 hD1
  obtain ⟨hP, hD⟩ := hPD9
  replace hz : s.heap.size + 3 ≤ H5.size := by omega
  clear hz2
  replace hP : va_P (dC, dI) vwCl [(mo, .inr (9, [th, .ref al, md, rf, kn])), (a0, .inr (8, [.int 4, .ref wa0, .ref na0])), (wa0, .inl (cI, 4, .inl fw0)), (na0, .inl (cI, 4, .inl fn0)), (a1, .inr (8, [.int 4, .ref wa1, .ref na1])), (wa1, .inl (cI, 4, .inl fw1)), (na1, .inl (cI, 4, .inl fn1)), (ot, .inl (cI, 4, .inl fo)), (al, .inr (4, [mc, .ref ed, .int (nI cc)])), (ed, .inl (cO, 10, .inr (.inr (.inr (.inr ee))))), (a2, .inr (8, [.int 4, .ref wa2, .ref na2])), (wa2, .inl (cI, 4, .inl fw2)), (na2, .inl (cI, 4, .inl fn2)), (r6, .inr (8, [.int 4, .ref wb7, .ref nb8])), (wb7, .inl (cI, 4, .inl fb9)), (nb8, .inl (cI, 4, .inl gb10))] H5 := hP
  replace hD : va_D A [(mo, .inr (9, [th, .ref al, md, rf, kn])), (a0, .inr (8, [.int 4, .ref wa0, .ref na0])), (wa0, .inl (cI, 4, .inl fw0)), (na0, .inl (cI, 4, .inl fn0)), (a1, .inr (8, [.int 4, .ref wa1, .ref na1])), (wa1, .inl (cI, 4, .inl fw1)), (na1, .inl (cI, 4, .inl fn1)), (ot, .inl (cI, 4, .inl fo)), (al, .inr (4, [mc, .ref ed, .int (nI cc)])), (ed, .inl (cO, 10, .inr (.inr (.inr (.inr ee))))), (a2, .inr (8, [.int 4, .ref wa2, .ref na2])), (wa2, .inl (cI, 4, .inl fw2)), (na2, .inl (cI, 4, .inl fn2)), (r6, .inr (8, [.int 4, .ref wb7, .ref nb8])), (wb7, .inl (cI, 4, .inl fb9)), (nb8, .inl (cI, 4, .inl gb10))] := hD
  refine W.widen (k := 3) (n := 11) (by omega) (by omega) ?_
  refine lv_astore (lv' := [(4, .ref r6), (3, .ref a2), (0, .ref mo), (1, .int 2), (2, .ref ot)]) hx hb dX4_areHung_20 hl (by decide) rfl (fun ls hl => ?_)
  refine lv_iconst (v := 0) hx hb dX4_areHung_22 (by decide) ?_
  refine lv_istore (lv' := [(5, .int 0), (4, .ref r6), (3, .ref a2), (0, .ref mo), (1, .int 2), (2, .ref ot)]) hx hb dX4_areHung_23 hl (by decide) rfl (fun ls hl => ?_)
  refine lv_iload hx hb dX4_areHung_25 (lv_at hl 0 rfl) ?_
  refine lv_aload_n hx hb dX4_areHung_27 rfl (lv_at hl 5 rfl) ?_
  refine va_alen (D := (dC, dI)) (cl := vwCl) (v := 4) hx hb hK hP 7 0 rfl rfl rfl dX4_areHung_28 ?_
  refine lv_icmp_ge (tgt := 57) hx hb dX4_areHung_29 (by decide) (fun c9 => ?_) (fun c9 => ?_)
  · exact absurd c9 (by decide)
  refine lv_aload_n hx hb dX4_areHung_32 rfl (lv_at hl 5 rfl) ?_
  refine lv_iload hx hb dX4_areHung_33 (lv_at hl 0 rfl) ?_
  refine va_iald (D := (dC, dI)) (cl := vwCl) hx hb hK hP 7 0 rfl rfl (by unfold vp_in; decide) dX4_areHung_35 ?_
  refine lv_topi (fun v11 ev11 => ?_)
  obtain rfl : v11 = 1 := ev11.trans (ho 0 (by decide))
  refine lv_iconst (v := (-1)) hx hb dX4_areHung_36 (by decide) ?_
  refine lv_icmp_eq (tgt := 51) hx hb dX4_areHung_37 (by decide) (fun c9 => ?_) (fun c9 => ?_)
  · exact absurd c9 (by decide)
  refine lv_aload_n hx hb dX4_areHung_40 rfl (lv_at hl 2 rfl) ?_
  refine lv_iload hx hb dX4_areHung_41 (lv_at hl 0 rfl) ?_
  refine lv_iconst (v := 3) hx hb dX4_areHung_43 (by decide) ?_
  refine lv_aload_n hx hb dX4_areHung_44 rfl (lv_at hl 5 rfl) ?_
  refine lv_iload hx hb dX4_areHung_45 (lv_at hl 0 rfl) ?_
  refine va_iald (D := (dC, dI)) (cl := vwCl) hx hb hK hP 7 0 rfl rfl (by unfold vp_in; decide) dX4_areHung_47 ?_
  refine lv_topi (fun v12 ev12 => ?_)
  obtain rfl : v12 = 1 := ev12.trans (ho 0 (by decide))
  have hPc := hP.sub (ws' := [(a2, .inr (8, [.int 4, .ref wa2, .ref na2])), (wa2, .inl (cI, 4, .inl fw2)), (na2, .inl (cI, 4, .inl fn2))]) [10, 11, 12] rfl
  have hDc := hD.sub (ws' := [(a2, .inr (8, [.int 4, .ref wa2, .ref na2])), (wa2, .inl (cI, 4, .inl fw2)), (na2, .inl (cI, 4, .inl fn2))]) [10, 11, 12] (by decide) rfl
  have hFc := va_free (wc := [(a2, .inr (8, [.int 4, .ref wa2, .ref na2])), (wa2, .inl (cI, 4, .inl fw2)), (na2, .inl (cI, 4, .inl fn2))]) hD hS hA [10, 11, 12] rfl
  have hDv := hDc.self (sz := H5.size)
  have hpre := zpre (xs' := []) (av := [.ref a2, .int 0, .int 3, .int 1]) hPc hK (hDc.weaken (fun _ _ _ h => h)) hZ hS hFc (fun r hr => by cases hr)
  refine va_callv (va_runV (As := [.int 0, .int 3, .int 1]) (rest := []) ⟨hx, hb, hml, hown, hts⟩ (k_mp0 l dC dI cI cB cR cO zk a2 wa2 na2 fw2 fn2 3 1 H5.size ) (cwV 3 hts gX4_areHung_X3_put rfl rfl rfl (by decide +kernel) ⟨Nat.le_of_ble_eq_true rfl, Nat.le_of_ble_eq_true rfl⟩) ⟨zblind, (zrecv_8 hK hPc (q0 := 0) rfl), hpre⟩ rfl rfl hl.1 rfl (lv_room (Nat.le_of_ble_eq_true rfl)) dX4_areHung_48 ⟨Nat.le_of_ble_eq_true rfl, Nat.le_of_ble_eq_true rfl⟩) hS (fun q _ h => hFc q h) hFc (fun u t H13 locs ht hvm hw hB hz1 hk1 hS => ?_)
  obtain ⟨hP1, hK1, hD1, hz2⟩ := hB
  rw [ht] at hP1 hz2
  have hPD9 := va_join (wr := [(mo, .inr (9, [th, .ref al, md, rf, kn])), (a0, .inr (8, [.int 4, .ref wa0, .ref na0])), (wa0, .inl (cI, 4, .inl fw0)), (na0, .inl (cI, 4, .inl fn0)), (a1, .inr (8, [.int 4, .ref wa1, .ref na1])), (wa1, .inl (cI, 4, .inl fw1)), (na1, .inl (cI, 4, .inl fn1)), (ot, .inl (cI, 4, .inl fo)), (al, .inr (4, [mc, .ref ed, .int (nI cc)])), (ed, .inl (cO, 10, .inr (.inr (.inr (.inr ee))))), (r6, .inr (8, [.int 4, .ref wb7, .ref nb8])), (wb7, .inl (cI, 4, .inl fb9)), (nb8, .inl (cI, 4, .inl gb10))]) (w1 := [(a2, .inr (8, [.int 4, .ref wa2, .ref na2])), (wa2, .inl (cI, 4, .inl (upd fw2 0 3))), (na2, .inl (cI, 4, .inl (upd fn2 0 1)))]) hP hD [10, 11, 12] [0, 1, 2, 3, 4, 5, 6, 7, 8, 9, 13, 14, 15] rfl rfl (by decide) (by decide) hk1 hFc hP1 hD1
  clear hPc hDc hFc hDv hpre hP hD hP1 hK1 hD1
  obtain ⟨hP, hD⟩ := hPD9
  replace hz : s.heap.size + 3 ≤ H13.size := by omega
  clear hz2
  replace hP : va_P (dC, dI) vwCl [(mo, .inr (9, [th, .ref al, md, rf, kn])), (a0, .inr (8, [.int 4, .ref wa0, .ref na0])), (wa0, .inl (cI, 4, .inl fw0)), (na0, .inl (cI, 4, .inl fn0)), (a1, .inr (8, [.int 4, .ref wa1, .ref na1])), (wa1, .inl (cI, 4, .inl fw1)), (na1, .inl (cI, 4, .inl fn1)), (ot, .inl (cI, 4, .inl fo)), (al, .inr (4, [mc, .ref ed, .int (nI cc)])), (ed, .inl (cO, 10, .inr (.inr (.inr (.inr ee))))), (r6, .inr (8, [.int 4, .ref wb7, .ref nb8])), (wb7, .inl (cI, 4, .inl fb9)), (nb8, .inl (cI, 4, .inl gb10)), (a2, .inr (8, [.int 4, .ref wa2, .ref na2])), (wa2, .inl (cI, 4, .inl (upd fw2 0 3))), (na2, .inl (cI, 4, .inl (upd fn2 0 1)))] H13 := hP
  replace hD : va_D A [(mo, .inr (9, [th, .ref al, md, rf, kn])), (a0, .inr (8, [.int 4, .ref wa0, .ref na0])), (wa0, .inl (cI, 4, .inl fw0)), (na0, .inl (cI, 4, .inl fn0)), (a1, .inr (8, [.int 4, .ref wa1, .ref na1])), (wa1, .inl (cI, 4, .inl fw1)), (na1, .inl (cI, 4, .inl fn1)), (ot, .inl (cI, 4, .inl fo)), (al, .inr (4, [mc, .ref ed, .int (nI cc)])), (ed, .inl (cO, 10, .inr (.inr (.inr (.inr ee))))), (r6, .inr (8, [.int 4, .ref wb7, .ref nb8])), (wb7, .inl (cI, 4, .inl fb9)), (nb8, .inl (cI, 4, .inl gb10)), (a2, .inr (8, [.int 4, .ref wa2, .ref na2])), (wa2, .inl (cI, 4, .inl (upd fw2 0 3))), (na2, .inl (cI, 4, .inl (upd fn2 0 1)))] := hD
  refine W.widen (k := 3) (n := 11) (by omega) (by omega) ?_
  refine lv_iinc (v := 1) (lv' := [(5, .int 1), (4, .ref r6), (3, .ref a2), (0, .ref mo), (1, .int 2), (2, .ref ot)]) hx hb dX4_areHung_51 hl (k := 0) rfl (by decide) (by decide) rfl (fun ls hl => ?_)
  refine lv_goto (tgt := 25) hx hb dX4_areHung_54 (by decide) ?_
  refine lv_iload hx hb dX4_areHung_25 (lv_at hl 0 rfl) ?_
  refine lv_aload_n hx hb dX4_areHung_27 rfl (lv_at hl 5 rfl) ?_
  refine va_alen (D := (dC, dI)) (cl := vwCl) (v := 4) hx hb hK hP 7 0 rfl rfl rfl dX4_areHung_28 ?_
  refine lv_icmp_ge (tgt := 57) hx hb dX4_areHung_29 (by decide) (fun c9 => ?_) (fun c9 => ?_)
  · exact absurd c9 (by decide)
  refine lv_aload_n hx hb dX4_areHung_32 rfl (lv_at hl 5 rfl) ?_
  refine lv_iload hx hb dX4_areHung_33 (lv_at hl 0 rfl) ?_
  refine va_iald (D := (dC, dI)) (cl := vwCl) hx hb hK hP 7 0 rfl rfl (by unfold vp_in; decide) dX4_areHung_35 ?_
  refine lv_topi (fun v15 ev15 => ?_)
  obtain rfl : v15 = 1 := ev15.trans (ho 1 (by decide))
  refine lv_iconst (v := (-1)) hx hb dX4_areHung_36 (by decide) ?_
  refine lv_icmp_eq (tgt := 51) hx hb dX4_areHung_37 (by decide) (fun c9 => ?_) (fun c9 => ?_)
  · exact absurd c9 (by decide)
  refine lv_aload_n hx hb dX4_areHung_40 rfl (lv_at hl 2 rfl) ?_
  refine lv_iload hx hb dX4_areHung_41 (lv_at hl 0 rfl) ?_
  refine lv_iconst (v := 3) hx hb dX4_areHung_43 (by decide) ?_
  refine lv_aload_n hx hb dX4_areHung_44 rfl (lv_at hl 5 rfl) ?_
  refine lv_iload hx hb dX4_areHung_45 (lv_at hl 0 rfl) ?_
  refine va_iald (D := (dC, dI)) (cl := vwCl) hx hb hK hP 7 0 rfl rfl (by unfold vp_in; decide) dX4_areHung_47 ?_
  refine lv_topi (fun v16 ev16 => ?_)
  obtain rfl : v16 = 1 := ev16.trans (ho 1 (by decide))
  have hPc := hP.sub (ws' := [(a2, .inr (8, [.int 4, .ref wa2, .ref na2])), (wa2, .inl (cI, 4, .inl (upd fw2 0 3))), (na2, .inl (cI, 4, .inl (upd fn2 0 1)))]) [13, 14, 15] rfl
  have hDc := hD.sub (ws' := [(a2, .inr (8, [.int 4, .ref wa2, .ref na2])), (wa2, .inl (cI, 4, .inl (upd fw2 0 3))), (na2, .inl (cI, 4, .inl (upd fn2 0 1)))]) [13, 14, 15] (by decide) rfl
  have hFc := va_free (wc := [(a2, .inr (8, [.int 4, .ref wa2, .ref na2])), (wa2, .inl (cI, 4, .inl (upd fw2 0 3))), (na2, .inl (cI, 4, .inl (upd fn2 0 1)))]) hD hS hA [13, 14, 15] rfl
  have hDv := hDc.self (sz := H13.size)
  have hpre := zpre (xs' := []) (av := [.ref a2, .int 1, .int 3, .int 1]) hPc hK (hDc.weaken (fun _ _ _ h => h)) hZ hS hFc (fun r hr => by cases hr)
  refine va_callv (va_runV (As := [.int 1, .int 3, .int 1]) (rest := []) ⟨hx, hb, hml, hown, hts⟩ (k_mp1 l dC dI cI cB cR cO zk a2 wa2 na2 (upd fw2 0 3) (upd fn2 0 1) 3 1 H13.size ) (cwV 3 hts gX4_areHung_X3_put rfl rfl rfl (by decide +kernel) ⟨Nat.le_of_ble_eq_true rfl, Nat.le_of_ble_eq_true rfl⟩) ⟨zblind, (zrecv_8 hK hPc (q0 := 0) rfl), hpre⟩ rfl rfl hl.1 rfl (lv_room (Nat.le_of_ble_eq_true rfl)) dX4_areHung_48 ⟨Nat.le_of_ble_eq_true rfl, Nat.le_of_ble_eq_true rfl⟩) hS (fun q _ h => hFc q h) hFc (fun u t H17 locs ht hvm hw hB hz1 hk1 hS => ?_)
  obtain ⟨hP1, hK1, hD1, hz2⟩ := hB
  rw [ht] at hP1 hz2
  have hPD9 := va_join (wr := [(mo, .inr (9, [th, .ref al, md, rf, kn])), (a0, .inr (8, [.int 4, .ref wa0, .ref na0])), (wa0, .inl (cI, 4, .inl fw0)), (na0, .inl (cI, 4, .inl fn0)), (a1, .inr (8, [.int 4, .ref wa1, .ref na1])), (wa1, .inl (cI, 4, .inl fw1)), (na1, .inl (cI, 4, .inl fn1)), (ot, .inl (cI, 4, .inl fo)), (al, .inr (4, [mc, .ref ed, .int (nI cc)])), (ed, .inl (cO, 10, .inr (.inr (.inr (.inr ee))))), (r6, .inr (8, [.int 4, .ref wb7, .ref nb8])), (wb7, .inl (cI, 4, .inl fb9)), (nb8, .inl (cI, 4, .inl gb10))]) (w1 := [(a2, .inr (8, [.int 4, .ref wa2, .ref na2])), (wa2, .inl (cI, 4, .inl (upd (upd fw2 0 3) 1 3))), (na2, .inl (cI, 4, .inl (upd (upd fn2 0 1) 1 1)))]) hP hD [13, 14, 15] [0, 1, 2, 3, 4, 5, 6, 7, 8, 9, 10, 11, 12] rfl rfl (by decide) (by decide) hk1 hFc hP1 hD1
  clear hPc hDc hFc hDv hpre hP hD hP1 hK1 hD1
  obtain ⟨hP, hD⟩ := hPD9
  replace hz : s.heap.size + 3 ≤ H17.size := by omega
  clear hz2
  replace hP : va_P (dC, dI) vwCl [(mo, .inr (9, [th, .ref al, md, rf, kn])), (a0, .inr (8, [.int 4, .ref wa0, .ref na0])), (wa0, .inl (cI, 4, .inl fw0)), (na0, .inl (cI, 4, .inl fn0)), (a1, .inr (8, [.int 4, .ref wa1, .ref na1])), (wa1, .inl (cI, 4, .inl fw1)), (na1, .inl (cI, 4, .inl fn1)), (ot, .inl (cI, 4, .inl fo)), (al, .inr (4, [mc, .ref ed, .int (nI cc)])), (ed, .inl (cO, 10, .inr (.inr (.inr (.inr ee))))), (r6, .inr (8, [.int 4, .ref wb7, .ref nb8])), (wb7, .inl (cI, 4, .inl fb9)), (nb8, .inl (cI, 4, .inl gb10)), (a2, .inr (8, [.int 4, .ref wa2, .ref na2])), (wa2, .inl (cI, 4, .inl (upd (upd fw2 0 3) 1 3))), (na2, .inl (cI, 4, .inl (upd (upd fn2 0 1) 1 1)))] H17 := hP
  replace hD : va_D A [(mo, .inr (9, [th, .ref al, md, rf, kn])), (a0, .inr (8, [.int 4, .ref wa0, .ref na0])), (wa0, .inl (cI, 4, .inl fw0)), (na0, .inl (cI, 4, .inl fn0)), (a1, .inr (8, [.int 4, .ref wa1, .ref na1])), (wa1, .inl (cI, 4, .inl fw1)), (na1, .inl (cI, 4, .inl fn1)), (ot, .inl (cI, 4, .inl fo)), (al, .inr (4, [mc, .ref ed, .int (nI cc)])), (ed, .inl (cO, 10, .inr (.inr (.inr (.inr ee))))), (r6, .inr (8, [.int 4, .ref wb7, .ref nb8])), (wb7, .inl (cI, 4, .inl fb9)), (nb8, .inl (cI, 4, .inl gb10)), (a2, .inr (8, [.int 4, .ref wa2, .ref na2])), (wa2, .inl (cI, 4, .inl (upd (upd fw2 0 3) 1 3))), (na2, .inl (cI, 4, .inl (upd (upd fn2 0 1) 1 1)))] := hD
  refine W.widen (k := 3) (n := 11) (by omega) (by omega) ?_
  refine lv_iinc (v := 2) (lv' := [(5, .int 2), (4, .ref r6), (3, .ref a2), (0, .ref mo), (1, .int 2), (2, .ref ot)]) hx hb dX4_areHung_51 hl (k := 0) rfl (by decide) (by decide) rfl (fun ls hl => ?_)
  refine lv_goto (tgt := 25) hx hb dX4_areHung_54 (by decide) ?_
  refine lv_iload hx hb dX4_areHung_25 (lv_at hl 0 rfl) ?_
  refine lv_aload_n hx hb dX4_areHung_27 rfl (lv_at hl 5 rfl) ?_
  refine va_alen (D := (dC, dI)) (cl := vwCl) (v := 4) hx hb hK hP 7 0 rfl rfl rfl dX4_areHung_28 ?_
  refine lv_icmp_ge (tgt := 57) hx hb dX4_areHung_29 (by decide) (fun c9 => ?_) (fun c9 => ?_)
  · exact absurd c9 (by decide)
  refine lv_aload_n hx hb dX4_areHung_32 rfl (lv_at hl 5 rfl) ?_
  refine lv_iload hx hb dX4_areHung_33 (lv_at hl 0 rfl) ?_
  refine va_iald (D := (dC, dI)) (cl := vwCl) hx hb hK hP 7 0 rfl rfl (by unfold vp_in; decide) dX4_areHung_35 ?_
  refine lv_topi (fun v19 ev19 => ?_)
  obtain rfl : v19 = 1 := ev19.trans (ho 2 (by decide))
  refine lv_iconst (v := (-1)) hx hb dX4_areHung_36 (by decide) ?_
  refine lv_icmp_eq (tgt := 51) hx hb dX4_areHung_37 (by decide) (fun c9 => ?_) (fun c9 => ?_)
  · exact absurd c9 (by decide)
  refine lv_aload_n hx hb dX4_areHung_40 rfl (lv_at hl 2 rfl) ?_
  refine lv_iload hx hb dX4_areHung_41 (lv_at hl 0 rfl) ?_
  refine lv_iconst (v := 3) hx hb dX4_areHung_43 (by decide) ?_
  refine lv_aload_n hx hb dX4_areHung_44 rfl (lv_at hl 5 rfl) ?_
  refine lv_iload hx hb dX4_areHung_45 (lv_at hl 0 rfl) ?_
  refine va_iald (D := (dC, dI)) (cl := vwCl) hx hb hK hP 7 0 rfl rfl (by unfold vp_in; decide) dX4_areHung_47 ?_
  refine lv_topi (fun v20 ev20 => ?_)
  obtain rfl : v20 = 1 := ev20.trans (ho 2 (by decide))
  have hPc := hP.sub (ws' := [(a2, .inr (8, [.int 4, .ref wa2, .ref na2])), (wa2, .inl (cI, 4, .inl (upd (upd fw2 0 3) 1 3))), (na2, .inl (cI, 4, .inl (upd (upd fn2 0 1) 1 1)))]) [13, 14, 15] rfl
  have hDc := hD.sub (ws' := [(a2, .inr (8, [.int 4, .ref wa2, .ref na2])), (wa2, .inl (cI, 4, .inl (upd (upd fw2 0 3) 1 3))), (na2, .inl (cI, 4, .inl (upd (upd fn2 0 1) 1 1)))]) [13, 14, 15] (by decide) rfl
  have hFc := va_free (wc := [(a2, .inr (8, [.int 4, .ref wa2, .ref na2])), (wa2, .inl (cI, 4, .inl (upd (upd fw2 0 3) 1 3))), (na2, .inl (cI, 4, .inl (upd (upd fn2 0 1) 1 1)))]) hD hS hA [13, 14, 15] rfl
  have hDv := hDc.self (sz := H17.size)
  have hpre := zpre (xs' := []) (av := [.ref a2, .int 2, .int 3, .int 1]) hPc hK (hDc.weaken (fun _ _ _ h => h)) hZ hS hFc (fun r hr => by cases hr)
  refine va_callv (va_runV (As := [.int 2, .int 3, .int 1]) (rest := []) ⟨hx, hb, hml, hown, hts⟩ (k_mp2 l dC dI cI cB cR cO zk a2 wa2 na2 (upd (upd fw2 0 3) 1 3) (upd (upd fn2 0 1) 1 1) 3 1 H17.size ) (cwV 3 hts gX4_areHung_X3_put rfl rfl rfl (by decide +kernel) ⟨Nat.le_of_ble_eq_true rfl, Nat.le_of_ble_eq_true rfl⟩) ⟨zblind, (zrecv_8 hK hPc (q0 := 0) rfl), hpre⟩ rfl rfl hl.1 rfl (lv_room (Nat.le_of_ble_eq_true rfl)) dX4_areHung_48 ⟨Nat.le_of_ble_eq_true rfl, Nat.le_of_ble_eq_true rfl⟩) hS (fun q _ h => hFc q h) hFc (fun u t H21 locs ht hvm hw hB hz1 hk1 hS => ?_)
  obtain ⟨hP1, hK1, hD1, hz2⟩ := hB
  rw [ht] at hP1 hz2
  have hPD9 := va_join (wr := [(mo, .inr (9, [th, .ref al, md, rf, kn])), (a0, .inr (8, [.int 4, .ref wa0, .ref na0])), (wa0, .inl (cI, 4, .inl fw0)), (na0, .inl (cI, 4, .inl fn0)), (a1, .inr (8, [.int 4, .ref wa1, .ref na1])), (wa1, .inl (cI, 4, .inl fw1)), (na1, .inl (cI, 4, .inl fn1)), (ot, .inl (cI, 4, .inl fo)), (al, .inr (4, [mc, .ref ed, .int (nI cc)])), (ed, .inl (cO, 10, .inr (.inr (.inr (.inr ee))))), (r6, .inr (8, [.int 4, .ref wb7, .ref nb8])), (wb7, .inl (cI, 4, .inl fb9)), (nb8, .inl (cI, 4, .inl gb10))]) (w1 := [(a2, .inr (8, [.int 4, .ref wa2, .ref na2])), (wa2, .inl (cI, 4, .inl (upd (upd (upd fw2 0 3) 1 3) 2 3))), (na2, .inl (cI, 4, .inl (upd (upd (upd fn2 0 1) 1 1) 2 1)))]) hP hD [13, 14, 15] [0, 1, 2, 3, 4, 5, 6, 7, 8, 9, 10, 11, 12] rfl rfl (by decide) (by decide) hk1 hFc hP1 hD1
  clear hPc hDc hFc hDv hpre hP hD hP1 hK1 hD1
  obtain ⟨hP, hD⟩ := hPD9
  replace hz : s.heap.size + 3 ≤ H21.size := by omega
  clear hz2
  replace hP : va_P (dC, dI) vwCl [(mo, .inr (9, [th, .ref al, md, rf, kn])), (a0, .inr (8, [.int 4, .ref wa0, .ref na0])), (wa0, .inl (cI, 4, .inl fw0)), (na0, .inl (cI, 4, .inl fn0)), (a1, .inr (8, [.int 4, .ref wa1, .ref na1])), (wa1, .inl (cI, 4, .inl fw1)), (na1, .inl (cI, 4, .inl fn1)), (ot, .inl (cI, 4, .inl fo)), (al, .inr (4, [mc, .ref ed, .int (nI cc)])), (ed, .inl (cO, 10, .inr (.inr (.inr (.inr ee))))), (r6, .inr (8, [.int 4, .ref wb7, .ref nb8])), (wb7, .inl (cI, 4, .inl fb9)), (nb8, .inl (cI, 4, .inl gb10)), (a2, .inr (8, [.int 4, .ref wa2, .ref na2])), (wa2, .inl (cI, 4, .inl (upd (upd (upd fw2 0 3) 1 3) 2 3))), (na2, .inl (cI, 4, .inl (upd (upd (upd fn2 0 1) 1 1) 2 1)))] H21 := hP
  replace hD : va_D A [(mo, .inr (9, [th, .ref al, md, rf, kn])), (a0, .inr (8, [.int 4, .ref wa0, .ref na0])), (wa0, .inl (cI, 4, .inl fw0)), (na0, .inl (cI, 4, .inl fn0)), (a1, .inr (8, [.int 4, .ref wa1, .ref na1])), (wa1, .inl (cI, 4, .inl fw1)), (na1, .inl (cI, 4, .inl fn1)), (ot, .inl (cI, 4, .inl fo)), (al, .inr (4, [mc, .ref ed, .int (nI cc)])), (ed, .inl (cO, 10, .inr (.inr (.inr (.inr ee))))), (r6, .inr (8, [.int 4, .ref wb7, .ref nb8])), (wb7, .inl (cI, 4, .inl fb9)), (nb8, .inl (cI, 4, .inl gb10)), (a2, .inr (8, [.int 4, .ref wa2, .ref na2])), (wa2, .inl (cI, 4, .inl (upd (upd (upd fw2 0 3) 1 3) 2 3))), (na2, .inl (cI, 4, .inl (upd (upd (upd fn2 0 1) 1 1) 2 1)))] := hD
  refine W.widen (k := 3) (n := 11) (by omega) (by omega) ?_
  refine lv_iinc (v := 3) (lv' := [(5, .int 3), (4, .ref r6), (3, .ref a2), (0, .ref mo), (1, .int 2), (2, .ref ot)]) hx hb dX4_areHung_51 hl (k := 0) rfl (by decide) (by decide) rfl (fun ls hl => ?_)
  refine lv_goto (tgt := 25) hx hb dX4_areHung_54 (by decide) ?_
  refine lv_iload hx hb dX4_areHung_25 (lv_at hl 0 rfl) ?_
  refine lv_aload_n hx hb dX4_areHung_27 rfl (lv_at hl 5 rfl) ?_
  refine va_alen (D := (dC, dI)) (cl := vwCl) (v := 4) hx hb hK hP 7 0 rfl rfl rfl dX4_areHung_28 ?_
  refine lv_icmp_ge (tgt := 57) hx hb dX4_areHung_29 (by decide) (fun c9 => ?_) (fun c9 => ?_)
  · exact absurd c9 (by decide)
  refine lv_aload_n hx hb dX4_areHung_32 rfl (lv_at hl 5 rfl) ?_
  refine lv_iload hx hb dX4_areHung_33 (lv_at hl 0 rfl) ?_
  refine va_iald (D := (dC, dI)) (cl := vwCl) hx hb hK hP 7 0 rfl rfl (by unfold vp_in; decide) dX4_areHung_35 ?_
  refine lv_topi (fun v23 ev23 => ?_)
  obtain rfl : v23 = 1 := ev23.trans (ho 3 (by decide))
  refine lv_iconst (v := (-1)) hx hb dX4_areHung_36 (by decide) ?_
  refine lv_icmp_eq (tgt := 51) hx hb dX4_areHung_37 (by decide) (fun c9 => ?_) (fun c9 => ?_)
  · exact absurd c9 (by decide)
  refine lv_aload_n hx hb dX4_areHung_40 rfl (lv_at hl 2 rfl) ?_
  refine lv_iload hx hb dX4_areHung_41 (lv_at hl 0 rfl) ?_
  refine lv_iconst (v := 3) hx hb dX4_areHung_43 (by decide) ?_
  refine lv_aload_n hx hb dX4_areHung_44 rfl (lv_at hl 5 rfl) ?_
  refine lv_iload hx hb dX4_areHung_45 (lv_at hl 0 rfl) ?_
  refine va_iald (D := (dC, dI)) (cl := vwCl) hx hb hK hP 7 0 rfl rfl (by unfold vp_in; decide) dX4_areHung_47 ?_
  refine lv_topi (fun v24 ev24 => ?_)
  obtain rfl : v24 = 1 := ev24.trans (ho 3 (by decide))
  have hPc := hP.sub (ws' := [(a2, .inr (8, [.int 4, .ref wa2, .ref na2])), (wa2, .inl (cI, 4, .inl (upd (upd (upd fw2 0 3) 1 3) 2 3))), (na2, .inl (cI, 4, .inl (upd (upd (upd fn2 0 1) 1 1) 2 1)))]) [13, 14, 15] rfl
  have hDc := hD.sub (ws' := [(a2, .inr (8, [.int 4, .ref wa2, .ref na2])), (wa2, .inl (cI, 4, .inl (upd (upd (upd fw2 0 3) 1 3) 2 3))), (na2, .inl (cI, 4, .inl (upd (upd (upd fn2 0 1) 1 1) 2 1)))]) [13, 14, 15] (by decide) rfl
  have hFc := va_free (wc := [(a2, .inr (8, [.int 4, .ref wa2, .ref na2])), (wa2, .inl (cI, 4, .inl (upd (upd (upd fw2 0 3) 1 3) 2 3))), (na2, .inl (cI, 4, .inl (upd (upd (upd fn2 0 1) 1 1) 2 1)))]) hD hS hA [13, 14, 15] rfl
  have hDv := hDc.self (sz := H21.size)
  have hpre := zpre (xs' := []) (av := [.ref a2, .int 3, .int 3, .int 1]) hPc hK (hDc.weaken (fun _ _ _ h => h)) hZ hS hFc (fun r hr => by cases hr)
  refine va_callv (va_runV (As := [.int 3, .int 3, .int 1]) (rest := []) ⟨hx, hb, hml, hown, hts⟩ (k_mp3 l dC dI cI cB cR cO zk a2 wa2 na2 (upd (upd (upd fw2 0 3) 1 3) 2 3) (upd (upd (upd fn2 0 1) 1 1) 2 1) 3 1 H21.size ) (cwV 3 hts gX4_areHung_X3_put rfl rfl rfl (by decide +kernel) ⟨Nat.le_of_ble_eq_true rfl, Nat.le_of_ble_eq_true rfl⟩) ⟨zblind, (zrecv_8 hK hPc (q0 := 0) rfl), hpre⟩ rfl rfl hl.1 rfl (lv_room (Nat.le_of_ble_eq_true rfl)) dX4_areHung_48 ⟨Nat.le_of_ble_eq_true rfl, Nat.le_of_ble_eq_true rfl⟩) hS (fun q _ h => hFc q h) hFc (fun u t H25 locs ht hvm hw hB hz1 hk1 hS => ?_)
  obtain ⟨hP1, hK1, hD1, hz2⟩ := hB
  rw [ht] at hP1 hz2
  have hPD9 := va_join (wr := [(mo, .inr (9, [th, .ref al, md, rf, kn])), (a0, .inr (8, [.int 4, .ref wa0, .ref na0])), (wa0, .inl (cI, 4, .inl fw0)), (na0, .inl (cI, 4, .inl fn0)), (a1, .inr (8, [.int 4, .ref wa1, .ref na1])), (wa1, .inl (cI, 4, .inl fw1)), (na1, .inl (cI, 4, .inl fn1)), (ot, .inl (cI, 4, .inl fo)), (al, .inr (4, [mc, .ref ed, .int (nI cc)])), (ed, .inl (cO, 10, .inr (.inr (.inr (.inr ee))))), (r6, .inr (8, [.int 4, .ref wb7, .ref nb8])), (wb7, .inl (cI, 4, .inl fb9)), (nb8, .inl (cI, 4, .inl gb10))]) (w1 := [(a2, .inr (8, [.int 4, .ref wa2, .ref na2])), (wa2, .inl (cI, 4, .inl (upd (upd (upd (upd fw2 0 3) 1 3) 2 3) 3 3))), (na2, .inl (cI, 4, .inl (upd (upd (upd (upd fn2 0 1) 1 1) 2 1) 3 1)))]) hP hD [13, 14, 15] [0, 1, 2, 3, 4, 5, 6, 7, 8, 9, 10, 11, 12] rfl rfl (by decide) (by decide) hk1 hFc hP1 hD1
  clear hPc hDc hFc hDv hpre hP hD hP1 hK1 hD1
  obtain ⟨hP, hD⟩ := hPD9
  replace hz : s.heap.size + 3 ≤ H25.size := by omega
  clear hz2
  replace hP : va_P (dC, dI) vwCl [(mo, .inr (9, [th, .ref al, md, rf, kn])), (a0, .inr (8, [.int 4, .ref wa0, .ref na0])), (wa0, .inl (cI, 4, .inl fw0)), (na0, .inl (cI, 4, .inl fn0)), (a1, .inr (8, [.int 4, .ref wa1, .ref na1])), (wa1, .inl (cI, 4, .inl fw1)), (na1, .inl (cI, 4, .inl fn1)), (ot, .inl (cI, 4, .inl fo)), (al, .inr (4, [mc, .ref ed, .int (nI cc)])), (ed, .inl (cO, 10, .inr (.inr (.inr (.inr ee))))), (r6, .inr (8, [.int 4, .ref wb7, .ref nb8])), (wb7, .inl (cI, 4, .inl fb9)), (nb8, .inl (cI, 4, .inl gb10)), (a2, .inr (8, [.int 4, .ref wa2, .ref na2])), (wa2, .inl (cI, 4, .inl (upd (upd (upd (upd fw2 0 3) 1 3) 2 3) 3 3))), (na2, .inl (cI, 4, .inl (upd (upd (upd (upd fn2 0 1) 1 1) 2 1) 3 1)))] H25 := hP
  replace hD : va_D A [(mo, .inr (9, [th, .ref al, md, rf, kn])), (a0, .inr (8, [.int 4, .ref wa0, .ref na0])), (wa0, .inl (cI, 4, .inl fw0)), (na0, .inl (cI, 4, .inl fn0)), (a1, .inr (8, [.int 4, .ref wa1, .ref na1])), (wa1, .inl (cI, 4, .inl fw1)), (na1, .inl (cI, 4, .inl fn1)), (ot, .inl (cI, 4, .inl fo)), (al, .inr (4, [mc, .ref ed, .int (nI cc)])), (ed, .inl (cO, 10, .inr (.inr (.inr (.inr ee))))), (r6, .inr (8, [.int 4, .ref wb7, .ref nb8])), (wb7, .inl (cI, 4, .inl fb9)), (nb8, .inl (cI, 4, .inl gb10)), (a2, .inr (8, [.int 4, .ref wa2, .ref na2])), (wa2, .inl (cI, 4, .inl (upd (upd (upd (upd fw2 0 3) 1 3) 2 3) 3 3))), (na2, .inl (cI, 4, .inl (upd (upd (upd (upd fn2 0 1) 1 1) 2 1) 3 1)))] := hD
  refine W.widen (k := 3) (n := 11) (by omega) (by omega) ?_
  refine lv_iinc (v := 4) (lv' := [(5, .int 4), (4, .ref r6), (3, .ref a2), (0, .ref mo), (1, .int 2), (2, .ref ot)]) hx hb dX4_areHung_51 hl (k := 0) rfl (by decide) (by decide) rfl (fun ls hl => ?_)
  refine lv_goto (tgt := 25) hx hb dX4_areHung_54 (by decide) ?_
  refine lv_iload hx hb dX4_areHung_25 (lv_at hl 0 rfl) ?_
  refine lv_aload_n hx hb dX4_areHung_27 rfl (lv_at hl 5 rfl) ?_
  refine va_alen (D := (dC, dI)) (cl := vwCl) (v := 4) hx hb hK hP 7 0 rfl rfl rfl dX4_areHung_28 ?_
  refine lv_icmp_ge (tgt := 57) hx hb dX4_areHung_29 (by decide) (fun c9 => ?_) (fun c9 => ?_)
  rotate_left
  · exact absurd (by decide) c9
  refine lv_iconst (v := 1) hx hb dX4_areHung_57 (by decide) ?_
  refine lv_istore (lv' := [(5, .int 1), (4, .ref r6), (3, .ref a2), (0, .ref mo), (1, .int 2), (2, .ref ot)]) hx hb dX4_areHung_58 hl (by decide) rfl (fun ls hl => ?_)
  refine lv_iconst (v := 0) hx hb dX4_areHung_60 (by decide) ?_
  refine lv_istore (lv' := [(6, .int 0), (5, .int 1), (4, .ref r6), (3, .ref a2), (0, .ref mo), (1, .int 2), (2, .ref ot)]) hx hb dX4_areHung_61 hl (by decide) rfl (fun ls hl => ?_)
  refine lv_iload hx hb dX4_areHung_63 (lv_at hl 0 rfl) ?_
  refine lv_aload_n hx hb dX4_areHung_65 rfl (lv_at hl 4 rfl) ?_
  refine va_get (D := (dC, dI)) (ci := 9) (v := .ref al) (C := RX4) (T := TX4) (N := 5) hx hb hts hi_X4_areHung_X4 hown hK hP 0 rfl rfl 1 (by decide) (hts (.fieldLink RX4 10 "DeeprowsModel" "rows" "Ljava/util/ArrayList;") (List.mem_cons_of_mem _ zw_1134)) (fun _ h9 => h9) rfl dX4_areHung_66 ?_
  have hPc := hP.sub (ws' := [(al, .inr (4, [mc, .ref ed, .int (nI cc)]))]) [8] rfl
  have hDc := hD.sub (ws' := [(al, .inr (4, [mc, .ref ed, .int (nI cc)]))]) [8] (by decide) rfl
  have hFc := va_free (wc := [(al, .inr (4, [mc, .ref ed, .int (nI cc)]))]) hD hS hA [8] rfl
  have hDv := hDc.self (sz := H25.size)
  have hpre := zpre (xs' := []) (av := [.ref al]) hPc hK (hDc.weaken (fun _ _ _ h => h)) hZ hS hFc (fun r hr => by cases hr)
  refine va_calli (va_runV (As := []) (rest := [.int 0]) ⟨hx, hb, hml, hown, hts⟩ (k_size l dC dI cI cB cR cO zk al ed (nI cc) mc H25.size ) (cwV 0 hts gX4_areHung_Jx4a65c_size_8abf5 rfl rfl rfl (by decide +kernel) ⟨Nat.le_of_ble_eq_true rfl, Nat.le_of_ble_eq_true rfl⟩) ⟨zblind, (zrecv_4 hK hPc (q0 := 0) rfl), hpre⟩ rfl rfl hl.1 rfl (lv_room (Nat.le_of_ble_eq_true rfl)) dX4_areHung_69 ⟨Nat.le_of_ble_eq_true rfl, Nat.le_of_ble_eq_true rfl⟩) hS (fun q _ h => hFc q h) hFc (fun r28 u t H27 locs ht hvm hw hB hz1 hk1 hS => ?_)
  obtain rfl : (nI cc) = r28 := (show r28 = (nI cc) from hw).symm
  obtain ⟨hP1, hK1, hD1, hz2⟩ := hB
  rw [ht] at hP1 hz2
  have hPD9 := va_join (wr := [(mo, .inr (9, [th, .ref al, md, rf, kn])), (a0, .inr (8, [.int 4, .ref wa0, .ref na0])), (wa0, .inl (cI, 4, .inl fw0)), (na0, .inl (cI, 4, .inl fn0)), (a1, .inr (8, [.int 4, .ref wa1, .ref na1])), (wa1, .inl (cI, 4, .inl fw1)), (na1, .inl (cI, 4, .inl fn1)), (ot, .inl (cI, 4, .inl fo)), (ed, .inl (cO, 10, .inr (.inr (.inr (.inr ee))))), (r6, .inr (8, [.int 4, .ref wb7, .ref nb8])), (wb7, .inl (cI, 4, .inl fb9)), (nb8, .inl (cI, 4, .inl gb10)), (a2, .inr (8, [.int 4, .ref wa2, .ref na2])), (wa2, .inl (cI, 4, .inl (upd (upd (upd (upd fw2 0 3) 1 3) 2 3) 3 3))), (na2, .inl (cI, 4, .inl (upd (upd (upd (upd fn2 0 1) 1 1) 2 1) 3 1)))]) (w1 := [(al, .inr (4, [mc, .ref ed, .int (nI cc)]))]) hP hD [8] [0, 1, 2, 3, 4, 5, 6, 7, 9, 10, 11, 12, 13, 14, 15] rfl rfl (by decide) (by decide) hk1 hFc hP1 hD1
  clear hPc hDc hFc hDv hpre hP hD hP1 hK1 hD1
  obtain ⟨hP, hD⟩ := hPD9
  replace hz : s.heap.size + 3 ≤ H27.size := by omega
  clear hz2
  replace hP : va_P (dC, dI) vwCl [(mo, .inr (9, [th, .ref al, md, rf, kn])), (a0, .inr (8, [.int 4, .ref wa0, .ref na0])), (wa0, .inl (cI, 4, .inl fw0)), (na0, .inl (cI, 4, .inl fn0)), (a1, .inr (8, [.int 4, .ref wa1, .ref na1])), (wa1, .inl (cI, 4, .inl fw1)), (na1, .inl (cI, 4, .inl fn1)), (ot, .inl (cI, 4, .inl fo)), (ed, .inl (cO, 10, .inr (.inr (.inr (.inr ee))))), (r6, .inr (8, [.int 4, .ref wb7, .ref nb8])), (wb7, .inl (cI, 4, .inl fb9)), (nb8, .inl (cI, 4, .inl gb10)), (a2, .inr (8, [.int 4, .ref wa2, .ref na2])), (wa2, .inl (cI, 4, .inl (upd (upd (upd (upd fw2 0 3) 1 3) 2 3) 3 3))), (na2, .inl (cI, 4, .inl (upd (upd (upd (upd fn2 0 1) 1 1) 2 1) 3 1))), (al, .inr (4, [mc, .ref ed, .int (nI cc)]))] H27 := hP
  replace hD : va_D A [(mo, .inr (9, [th, .ref al, md, rf, kn])), (a0, .inr (8, [.int 4, .ref wa0, .ref na0])), (wa0, .inl (cI, 4, .inl fw0)), (na0, .inl (cI, 4, .inl fn0)), (a1, .inr (8, [.int 4, .ref wa1, .ref na1])), (wa1, .inl (cI, 4, .inl fw1)), (na1, .inl (cI, 4, .inl fn1)), (ot, .inl (cI, 4, .inl fo)), (ed, .inl (cO, 10, .inr (.inr (.inr (.inr ee))))), (r6, .inr (8, [.int 4, .ref wb7, .ref nb8])), (wb7, .inl (cI, 4, .inl fb9)), (nb8, .inl (cI, 4, .inl gb10)), (a2, .inr (8, [.int 4, .ref wa2, .ref na2])), (wa2, .inl (cI, 4, .inl (upd (upd (upd (upd fw2 0 3) 1 3) 2 3) 3 3))), (na2, .inl (cI, 4, .inl (upd (upd (upd (upd fn2 0 1) 1 1) 2 1) 3 1))), (al, .inr (4, [mc, .ref ed, .int (nI cc)]))] := hD
  refine W.widen (k := 3) (n := 11) (by omega) (by omega) ?_
  refine lv_icmp_ge (tgt := 101) hx hb dX4_areHung_72 (by decide) (fun c9 => ?_) (fun c9 => ?_)
  · exact absurd c9 (by rw [hcc3]; decide)
  refine lv_iload hx hb dX4_areHung_75 (lv_at hl 1 rfl) ?_
  refine lv_aload_n hx hb dX4_areHung_77 rfl (lv_at hl 4 rfl) ?_
  refine lv_iload hx hb dX4_areHung_78 (lv_at hl 0 rfl) ?_
  have hPc := hP.sub (ws' := [(mo, .inr (9, [th, .ref al, md, rf, kn])), (al, .inr (4, [mc, .ref ed, .int (nI cc)])), (ed, .inl (cO, 10, .inr (.inr (.inr (.inr ee))))), (a0, .inr (8, [.int 4, .ref wa0, .ref na0])), (wa0, .inl (cI, 4, .inl fw0)), (na0, .inl (cI, 4, .inl fn0))]) [0, 15, 8, 1, 2, 3] rfl
  have hDc := hD.sub (ws' := [(mo, .inr (9, [th, .ref al, md, rf, kn])), (al, .inr (4, [mc, .ref ed, .int (nI cc)])), (ed, .inl (cO, 10, .inr (.inr (.inr (.inr ee))))), (a0, .inr (8, [.int 4, .ref wa0, .ref na0])), (wa0, .inl (cI, 4, .inl fw0)), (na0, .inl (cI, 4, .inl fn0))]) [0, 15, 8, 1, 2, 3] (by decide) rfl
  have hFc := va_free (wc := [(mo, .inr (9, [th, .ref al, md, rf, kn])), (al, .inr (4, [mc, .ref ed, .int (nI cc)])), (ed, .inl (cO, 10, .inr (.inr (.inr (.inr ee))))), (a0, .inr (8, [.int 4, .ref wa0, .ref na0])), (wa0, .inl (cI, 4, .inl fw0)), (na0, .inl (cI, 4, .inl fn0))]) hD hS hA [0, 15, 8, 1, 2, 3] rfl
  have hDv := hDc.self (sz := H27.size)
  have hpre := zpre (xs' := []) (av := [.ref mo, .int 0]) hPc hK (hDc.weaken (fun _ _ _ h => h)) hZ hS hFc (fun r hr => by cases hr)
  refine va_calli (va_runV (As := [.int 0]) (rest := [.int 1]) ⟨hx, hb, hml, hown, hts⟩ (k_dO0 l dC dI cI cB cR cO zk mo al ed cc ee th md rf kn mc a0 wa0 na0 fw0 fn0 H27.size (by omega) hcc2 hw0 hn0 he0) (cwV 1 hts gX4_areHung_X4_depthOf rfl rfl rfl (by decide +kernel) ⟨Nat.le_of_ble_eq_true rfl, Nat.le_of_ble_eq_true rfl⟩) ⟨zblind, (zrecv_9 hK hPc (q0 := 0) rfl), hpre⟩ rfl rfl hl.1 rfl (lv_room (Nat.le_of_ble_eq_true rfl)) dX4_areHung_80 ⟨Nat.le_of_ble_eq_true rfl, Nat.le_of_ble_eq_true rfl⟩) hS (fun q _ h => hFc q h) hFc (fun r30 u t H29 locs ht hvm hw hB hz1 hk1 hS => ?_)
  obtain rfl : 1 = r30 := (show r30 = 1 from hw).symm
  obtain ⟨hP1, hK1, hD1, hz2⟩ := hB
  rw [ht] at hP1 hz2
  have hPD9 := va_join (wr := [(a1, .inr (8, [.int 4, .ref wa1, .ref na1])), (wa1, .inl (cI, 4, .inl fw1)), (na1, .inl (cI, 4, .inl fn1)), (ot, .inl (cI, 4, .inl fo)), (r6, .inr (8, [.int 4, .ref wb7, .ref nb8])), (wb7, .inl (cI, 4, .inl fb9)), (nb8, .inl (cI, 4, .inl gb10)), (a2, .inr (8, [.int 4, .ref wa2, .ref na2])), (wa2, .inl (cI, 4, .inl (upd (upd (upd (upd fw2 0 3) 1 3) 2 3) 3 3))), (na2, .inl (cI, 4, .inl (upd (upd (upd (upd fn2 0 1) 1 1) 2 1) 3 1)))]) (w1 := [(mo, .inr (9, [th, .ref al, md, rf, kn])), (al, .inr (4, [mc, .ref ed, .int (nI cc)])), (ed, .inl (cO, 10, .inr (.inr (.inr (.inr ee))))), (a0, .inr (8, [.int 4, .ref wa0, .ref na0])), (wa0, .inl (cI, 4, .inl fw0)), (na0, .inl (cI, 4, .inl fn0))]) hP hD [0, 15, 8, 1, 2, 3] [4, 5, 6, 7, 9, 10, 11, 12, 13, 14] rfl rfl (by decide) (by decide) hk1 hFc hP1 hD1
  clear hPc hDc hFc hDv hpre hP hD hP1 hK1 hD1
  obtain ⟨hP, hD⟩ := hPD9
  replace hz : s.heap.size + 3 ≤ H29.size := by omega
  clear hz2
  replace hP : va_P (dC, dI) vwCl [(a1, .inr (8, [.int 4, .ref wa1, .ref na1])), (wa1, .inl (cI, 4, .inl fw1)), (na1, .inl (cI, 4, .inl fn1)), (ot, .inl (cI, 4, .inl fo)), (r6, .inr (8, [.int 4, .ref wb7, .ref nb8])), (wb7, .inl (cI, 4, .inl fb9)), (nb8, .inl (cI, 4, .inl gb10)), (a2, .inr (8, [.int 4, .ref wa2, .ref na2])), (wa2, .inl (cI, 4, .inl (upd (upd (upd (upd fw2 0 3) 1 3) 2 3) 3 3))), (na2, .inl (cI, 4, .inl (upd (upd (upd (upd fn2 0 1) 1 1) 2 1) 3 1))), (mo, .inr (9, [th, .ref al, md, rf, kn])), (al, .inr (4, [mc, .ref ed, .int (nI cc)])), (ed, .inl (cO, 10, .inr (.inr (.inr (.inr ee))))), (a0, .inr (8, [.int 4, .ref wa0, .ref na0])), (wa0, .inl (cI, 4, .inl fw0)), (na0, .inl (cI, 4, .inl fn0))] H29 := hP
  replace hD : va_D A [(a1, .inr (8, [.int 4, .ref wa1, .ref na1])), (wa1, .inl (cI, 4, .inl fw1)), (na1, .inl (cI, 4, .inl fn1)), (ot, .inl (cI, 4, .inl fo)), (r6, .inr (8, [.int 4, .ref wb7, .ref nb8])), (wb7, .inl (cI, 4, .inl fb9)), (nb8, .inl (cI, 4, .inl gb10)), (a2, .inr (8, [.int 4, .ref wa2, .ref na2])), (wa2, .inl (cI, 4, .inl (upd (upd (upd (upd fw2 0 3) 1 3) 2 3) 3 3))), (na2, .inl (cI, 4, .inl (upd (upd (upd (upd fn2 0 1) 1 1) 2 1) 3 1))), (mo, .inr (9, [th, .ref al, md, rf, kn])), (al, .inr (4, [mc, .ref ed, .int (nI cc)])), (ed, .inl (cO, 10, .inr (.inr (.inr (.inr ee))))), (a0, .inr (8, [.int 4, .ref wa0, .ref na0])), (wa0, .inl (cI, 4, .inl fw0)), (na0, .inl (cI, 4, .inl fn0))] := hD
  refine W.widen (k := 4) (n := 12) (by omega) (by omega) ?_
  refine lv_iconst (v := 4) hx hb dX4_areHung_83 (by decide) ?_
  refine lv_icmp_gt (tgt := 91) hx hb dX4_areHung_84 (by decide) (fun c9 => ?_) (fun c9 => ?_)
  · exact absurd c9 (by decide)
  refine lv_iconst (v := 1) hx hb dX4_areHung_87 (by decide) ?_
  refine lv_goto (tgt := 92) hx hb dX4_areHung_88 (by decide) ?_
  refine lv_iand hx hb dX4_areHung_92 ?_
  refine lv_topi (fun v31 ev31 => ?_)
  obtain rfl : v31 = 1 := ev31.trans (by decide)
  refine lv_istore (lv' := [(5, .int 1), (6, .int 0), (4, .ref r6), (3, .ref a2), (0, .ref mo), (1, .int 2), (2, .ref ot)]) hx hb dX4_areHung_93 hl (by decide) rfl (fun ls hl => ?_)
  refine lv_iinc (v := 1) (lv' := [(6, .int 1), (5, .int 1), (4, .ref r6), (3, .ref a2), (0, .ref mo), (1, .int 2), (2, .ref ot)]) hx hb dX4_areHung_95 hl (k := 1) rfl (by decide) (by decide) rfl (fun ls hl => ?_)
  refine lv_goto (tgt := 63) hx hb dX4_areHung_98 (by decide) ?_
  refine lv_iload hx hb dX4_areHung_63 (lv_at hl 0 rfl) ?_
  refine lv_aload_n hx hb dX4_areHung_65 rfl (lv_at hl 4 rfl) ?_
  refine va_get (D := (dC, dI)) (ci := 9) (v := .ref al) (C := RX4) (T := TX4) (N := 5) hx hb hts hi_X4_areHung_X4 hown hK hP 10 rfl rfl 1 (by decide) (hts (.fieldLink RX4 10 "DeeprowsModel" "rows" "Ljava/util/ArrayList;") (List.mem_cons_of_mem _ zw_1134)) (fun _ h9 => h9) rfl dX4_areHung_66 ?_
  have hPc := hP.sub (ws' := [(al, .inr (4, [mc, .ref ed, .int (nI cc)]))]) [11] rfl
  have hDc := hD.sub (ws' := [(al, .inr (4, [mc, .ref ed, .int (nI cc)]))]) [11] (by decide) rfl
  have hFc := va_free (wc := [(al, .inr (4, [mc, .ref ed, .int (nI cc)]))]) hD hS hA [11] rfl
  have hDv := hDc.self (sz := H29.size)
  have hpre := zpre (xs' := []) (av := [.ref al]) hPc hK (hDc.weaken (fun _ _ _ h => h)) hZ hS hFc (fun r hr => by cases hr)
  refine va_calli (va_runV (As := []) (rest := [.int 1]) ⟨hx, hb, hml, hown, hts⟩ (k_size l dC dI cI cB cR cO zk al ed (nI cc) mc H29.size ) (cwV 0 hts gX4_areHung_Jx4a65c_size_8abf5 rfl rfl rfl (by decide +kernel) ⟨Nat.le_of_ble_eq_true rfl, Nat.le_of_ble_eq_true rfl⟩) ⟨zblind, (zrecv_4 hK hPc (q0 := 0) rfl), hpre⟩ rfl rfl hl.1 rfl (lv_room (Nat.le_of_ble_eq_true rfl)) dX4_areHung_69 ⟨Nat.le_of_ble_eq_true rfl, Nat.le_of_ble_eq_true rfl⟩) hS (fun q _ h => hFc q h) hFc (fun r33 u t H32 locs ht hvm hw hB hz1 hk1 hS => ?_)
  obtain rfl : (nI cc) = r33 := (show r33 = (nI cc) from hw).symm
  obtain ⟨hP1, hK1, hD1, hz2⟩ := hB
  rw [ht] at hP1 hz2
  have hPD9 := va_join (wr := [(a1, .inr (8, [.int 4, .ref wa1, .ref na1])), (wa1, .inl (cI, 4, .inl fw1)), (na1, .inl (cI, 4, .inl fn1)), (ot, .inl (cI, 4, .inl fo)), (r6, .inr (8, [.int 4, .ref wb7, .ref nb8])), (wb7, .inl (cI, 4, .inl fb9)), (nb8, .inl (cI, 4, .inl gb10)), (a2, .inr (8, [.int 4, .ref wa2, .ref na2])), (wa2, .inl (cI, 4, .inl (upd (upd (upd (upd fw2 0 3) 1 3) 2 3) 3 3))), (na2, .inl (cI, 4, .inl (upd (upd (upd (upd fn2 0 1) 1 1) 2 1) 3 1))), (mo, .inr (9, [th, .ref al, md, rf, kn])), (ed, .inl (cO, 10, .inr (.inr (.inr (.inr ee))))), (a0, .inr (8, [.int 4, .ref wa0, .ref na0])), (wa0, .inl (cI, 4, .inl fw0)), (na0, .inl (cI, 4, .inl fn0))]) (w1 := [(al, .inr (4, [mc, .ref ed, .int (nI cc)]))]) hP hD [11] [0, 1, 2, 3, 4, 5, 6, 7, 8, 9, 10, 12, 13, 14, 15] rfl rfl (by decide) (by decide) hk1 hFc hP1 hD1
  clear hPc hDc hFc hDv hpre hP hD hP1 hK1 hD1
  obtain ⟨hP, hD⟩ := hPD9
  replace hz : s.heap.size + 3 ≤ H32.size := by omega
  clear hz2
  replace hP : va_P (dC, dI) vwCl [(a1, .inr (8, [.int 4, .ref wa1, .ref na1])), (wa1, .inl (cI, 4, .inl fw1)), (na1, .inl (cI, 4, .inl fn1)), (ot, .inl (cI, 4, .inl fo)), (r6, .inr (8, [.int 4, .ref wb7, .ref nb8])), (wb7, .inl (cI, 4, .inl fb9)), (nb8, .inl (cI, 4, .inl gb10)), (a2, .inr (8, [.int 4, .ref wa2, .ref na2])), (wa2, .inl (cI, 4, .inl (upd (upd (upd (upd fw2 0 3) 1 3) 2 3) 3 3))), (na2, .inl (cI, 4, .inl (upd (upd (upd (upd fn2 0 1) 1 1) 2 1) 3 1))), (mo, .inr (9, [th, .ref al, md, rf, kn])), (ed, .inl (cO, 10, .inr (.inr (.inr (.inr ee))))), (a0, .inr (8, [.int 4, .ref wa0, .ref na0])), (wa0, .inl (cI, 4, .inl fw0)), (na0, .inl (cI, 4, .inl fn0)), (al, .inr (4, [mc, .ref ed, .int (nI cc)]))] H32 := hP
  replace hD : va_D A [(a1, .inr (8, [.int 4, .ref wa1, .ref na1])), (wa1, .inl (cI, 4, .inl fw1)), (na1, .inl (cI, 4, .inl fn1)), (ot, .inl (cI, 4, .inl fo)), (r6, .inr (8, [.int 4, .ref wb7, .ref nb8])), (wb7, .inl (cI, 4, .inl fb9)), (nb8, .inl (cI, 4, .inl gb10)), (a2, .inr (8, [.int 4, .ref wa2, .ref na2])), (wa2, .inl (cI, 4, .inl (upd (upd (upd (upd fw2 0 3) 1 3) 2 3) 3 3))), (na2, .inl (cI, 4, .inl (upd (upd (upd (upd fn2 0 1) 1 1) 2 1) 3 1))), (mo, .inr (9, [th, .ref al, md, rf, kn])), (ed, .inl (cO, 10, .inr (.inr (.inr (.inr ee))))), (a0, .inr (8, [.int 4, .ref wa0, .ref na0])), (wa0, .inl (cI, 4, .inl fw0)), (na0, .inl (cI, 4, .inl fn0)), (al, .inr (4, [mc, .ref ed, .int (nI cc)]))] := hD
  refine W.widen (k := 4) (n := 12) (by omega) (by omega) ?_
  refine lv_icmp_ge (tgt := 101) hx hb dX4_areHung_72 (by decide) (fun c9 => ?_) (fun c9 => ?_)
  · exact absurd c9 (by rw [hcc3]; decide)
  refine lv_iload hx hb dX4_areHung_75 (lv_at hl 1 rfl) ?_
  refine lv_aload_n hx hb dX4_areHung_77 rfl (lv_at hl 4 rfl) ?_
  refine lv_iload hx hb dX4_areHung_78 (lv_at hl 0 rfl) ?_
  have hPc := hP.sub (ws' := [(mo, .inr (9, [th, .ref al, md, rf, kn])), (al, .inr (4, [mc, .ref ed, .int (nI cc)])), (ed, .inl (cO, 10, .inr (.inr (.inr (.inr ee))))), (a0, .inr (8, [.int 4, .ref wa0, .ref na0])), (wa0, .inl (cI, 4, .inl fw0)), (na0, .inl (cI, 4, .inl fn0)), (a1, .inr (8, [.int 4, .ref wa1, .ref na1])), (wa1, .inl (cI, 4, .inl fw1)), (na1, .inl (cI, 4, .inl fn1))]) [10, 15, 11, 12, 13, 14, 0, 1, 2] rfl
  have hDc := hD.sub (ws' := [(mo, .inr (9, [th, .ref al, md, rf, kn])), (al, .inr (4, [mc, .ref ed, .int (nI cc)])), (ed, .inl (cO, 10, .inr (.inr (.inr (.inr ee))))), (a0, .inr (8, [.int 4, .ref wa0, .ref na0])), (wa0, .inl (cI, 4, .inl fw0)), (na0, .inl (cI, 4, .inl fn0)), (a1, .inr (8, [.int 4, .ref wa1, .ref na1])), (wa1, .inl (cI, 4, .inl fw1)), (na1, .inl (cI, 4, .inl fn1))]) [10, 15, 11, 12, 13, 14, 0, 1, 2] (by decide) rfl
  have hFc := va_free (wc := [(mo, .inr (9, [th, .ref al, md, rf, kn])), (al, .inr (4, [mc, .ref ed, .int (nI cc)])), (ed, .inl (cO, 10, .inr (.inr (.inr (.inr ee))))), (a0, .inr (8, [.int 4, .ref wa0, .ref na0])), (wa0, .inl (cI, 4, .inl fw0)), (na0, .inl (cI, 4, .inl fn0)), (a1, .inr (8, [.int 4, .ref wa1, .ref na1])), (wa1, .inl (cI, 4, .inl fw1)), (na1, .inl (cI, 4, .inl fn1))]) hD hS hA [10, 15, 11, 12, 13, 14, 0, 1, 2] rfl
  have hDv := hDc.self (sz := H32.size)
  have hpre := zpre (xs' := []) (av := [.ref mo, .int 1]) hPc hK (hDc.weaken (fun _ _ _ h => h)) hZ hS hFc (fun r hr => by cases hr)
  refine va_calli (va_runV (As := [.int 1]) (rest := [.int 1]) ⟨hx, hb, hml, hown, hts⟩ (k_dO1 l dC dI cI cB cR cO zk mo al ed cc ee th md rf kn mc a0 wa0 na0 a1 wa1 na1 fw0 fn0 fw1 fn1 H32.size (by omega) hcc2 hw0 hn0 he0 hw1 hn1 he1) (cwV 1 hts gX4_areHung_X4_depthOf rfl rfl rfl (by decide +kernel) ⟨Nat.le_of_ble_eq_true rfl, Nat.le_of_ble_eq_true rfl⟩) ⟨zblind, (zrecv_9 hK hPc (q0 := 0) rfl), hpre⟩ rfl rfl hl.1 rfl (lv_room (Nat.le_of_ble_eq_true rfl)) dX4_areHung_80 ⟨Nat.le_of_ble_eq_true rfl, Nat.le_of_ble_eq_true rfl⟩) hS (fun q _ h => hFc q h) hFc (fun r35 u t H34 locs ht hvm hw hB hz1 hk1 hS => ?_)
  obtain rfl : 2 = r35 := (show r35 = 2 from hw).symm
  obtain ⟨hP1, hK1, hD1, hz2⟩ := hB
  rw [ht] at hP1 hz2
  have hPD9 := va_join (wr := [(ot, .inl (cI, 4, .inl fo)), (r6, .inr (8, [.int 4, .ref wb7, .ref nb8])), (wb7, .inl (cI, 4, .inl fb9)), (nb8, .inl (cI, 4, .inl gb10)), (a2, .inr (8, [.int 4, .ref wa2, .ref na2])), (wa2, .inl (cI, 4, .inl (upd (upd (upd (upd fw2 0 3) 1 3) 2 3) 3 3))), (na2, .inl (cI, 4, .inl (upd (upd (upd (upd fn2 0 1) 1 1) 2 1) 3 1)))]) (w1 := [(mo, .inr (9, [th, .ref al, md, rf, kn])), (al, .inr (4, [mc, .ref ed, .int (nI cc)])), (ed, .inl (cO, 10, .inr (.inr (.inr (.inr ee))))), (a0, .inr (8, [.int 4, .ref wa0, .ref na0])), (wa0, .inl (cI, 4, .inl fw0)), (na0, .inl (cI, 4, .inl fn0)), (a1, .inr (8, [.int 4, .ref wa1, .ref na1])), (wa1, .inl (cI, 4, .inl fw1)), (na1, .inl (cI, 4, .inl fn1))]) hP hD [10, 15, 11, 12, 13, 14, 0, 1, 2] [3, 4, 5, 6, 7, 8, 9] rfl rfl (by decide) (by decide) hk1 hFc hP1 hD1
  clear hPc hDc hFc hDv hpre hP hD hP1 hK1 hD1
  obtain ⟨hP, hD⟩ := hPD9
  replace hz : s.heap.size + 3 ≤ H34.size := by omega
  clear hz2
  replace hP : va_P (dC, dI) vwCl [(ot, .inl (cI, 4, .inl fo)), (r6, .inr (8, [.int 4, .ref wb7, .ref nb8])), (wb7, .inl (cI, 4, .inl fb9)), (nb8, .inl (cI, 4, .inl gb10)), (a2, .inr (8, [.int 4, .ref wa2, .ref na2])), (wa2, .inl (cI, 4, .inl (upd (upd (upd (upd fw2 0 3) 1 3) 2 3) 3 3))), (na2, .inl (cI, 4, .inl (upd (upd (upd (upd fn2 0 1) 1 1) 2 1) 3 1))), (mo, .inr (9, [th, .ref al, md, rf, kn])), (al, .inr (4, [mc, .ref ed, .int (nI cc)])), (ed, .inl (cO, 10, .inr (.inr (.inr (.inr ee))))), (a0, .inr (8, [.int 4, .ref wa0, .ref na0])), (wa0, .inl (cI, 4, .inl fw0)), (na0, .inl (cI, 4, .inl fn0)), (a1, .inr (8, [.int 4, .ref wa1, .ref na1])), (wa1, .inl (cI, 4, .inl fw1)), (na1, .inl (cI, 4, .inl fn1))] H34 := hP
  replace hD : va_D A [(ot, .inl (cI, 4, .inl fo)), (r6, .inr (8, [.int 4, .ref wb7, .ref nb8])), (wb7, .inl (cI, 4, .inl fb9)), (nb8, .inl (cI, 4, .inl gb10)), (a2, .inr (8, [.int 4, .ref wa2, .ref na2])), (wa2, .inl (cI, 4, .inl (upd (upd (upd (upd fw2 0 3) 1 3) 2 3) 3 3))), (na2, .inl (cI, 4, .inl (upd (upd (upd (upd fn2 0 1) 1 1) 2 1) 3 1))), (mo, .inr (9, [th, .ref al, md, rf, kn])), (al, .inr (4, [mc, .ref ed, .int (nI cc)])), (ed, .inl (cO, 10, .inr (.inr (.inr (.inr ee))))), (a0, .inr (8, [.int 4, .ref wa0, .ref na0])), (wa0, .inl (cI, 4, .inl fw0)), (na0, .inl (cI, 4, .inl fn0)), (a1, .inr (8, [.int 4, .ref wa1, .ref na1])), (wa1, .inl (cI, 4, .inl fw1)), (na1, .inl (cI, 4, .inl fn1))] := hD
  refine W.widen (k := 5) (n := 14) (by omega) (by omega) ?_
  refine lv_iconst (v := 4) hx hb dX4_areHung_83 (by decide) ?_
  refine lv_icmp_gt (tgt := 91) hx hb dX4_areHung_84 (by decide) (fun c9 => ?_) (fun c9 => ?_)
  · exact absurd c9 (by decide)
  refine lv_iconst (v := 1) hx hb dX4_areHung_87 (by decide) ?_
  refine lv_goto (tgt := 92) hx hb dX4_areHung_88 (by decide) ?_
  refine lv_iand hx hb dX4_areHung_92 ?_
  refine lv_topi (fun v36 ev36 => ?_)
  obtain rfl : v36 = 1 := ev36.trans (by decide)
  refine lv_istore (lv' := [(5, .int 1), (6, .int 1), (4, .ref r6), (3, .ref a2), (0, .ref mo), (1, .int 2), (2, .ref ot)]) hx hb dX4_areHung_93 hl (by decide) rfl (fun ls hl => ?_)
  refine lv_iinc (v := 2) (lv' := [(6, .int 2), (5, .int 1), (4, .ref r6), (3, .ref a2), (0, .ref mo), (1, .int 2), (2, .ref ot)]) hx hb dX4_areHung_95 hl (k := 1) rfl (by decide) (by decide) rfl (fun ls hl => ?_)
  refine lv_goto (tgt := 63) hx hb dX4_areHung_98 (by decide) ?_
  refine lv_iload hx hb dX4_areHung_63 (lv_at hl 0 rfl) ?_
  refine lv_aload_n hx hb dX4_areHung_65 rfl (lv_at hl 4 rfl) ?_
  refine va_get (D := (dC, dI)) (ci := 9) (v := .ref al) (C := RX4) (T := TX4) (N := 5) hx hb hts hi_X4_areHung_X4 hown hK hP 7 rfl rfl 1 (by decide) (hts (.fieldLink RX4 10 "DeeprowsModel" "rows" "Ljava/util/ArrayList;") (List.mem_cons_of_mem _ zw_1134)) (fun _ h9 => h9) rfl dX4_areHung_66 ?_
  have hPc := hP.sub (ws' := [(al, .inr (4, [mc, .ref ed, .int (nI cc)]))]) [8] rfl
  have hDc := hD.sub (ws' := [(al, .inr (4, [mc, .ref ed, .int (nI cc)]))]) [8] (by decide) rfl
  have hFc := va_free (wc := [(al, .inr (4, [mc, .ref ed, .int (nI cc)]))]) hD hS hA [8] rfl
  have hDv := hDc.self (sz := H34.size)
  have hpre := zpre (xs' := []) (av := [.ref al]) hPc hK (hDc.weaken (fun _ _ _ h => h)) hZ hS hFc (fun r hr => by cases hr)
  refine va_calli (va_runV (As := []) (rest := [.int 2]) ⟨hx, hb, hml, hown, hts⟩ (k_size l dC dI cI cB cR cO zk al ed (nI cc) mc H34.size ) (cwV 0 hts gX4_areHung_Jx4a65c_size_8abf5 rfl rfl rfl (by decide +kernel) ⟨Nat.le_of_ble_eq_true rfl, Nat.le_of_ble_eq_true rfl⟩) ⟨zblind, (zrecv_4 hK hPc (q0 := 0) rfl), hpre⟩ rfl rfl hl.1 rfl (lv_room (Nat.le_of_ble_eq_true rfl)) dX4_areHung_69 ⟨Nat.le_of_ble_eq_true rfl, Nat.le_of_ble_eq_true rfl⟩) hS (fun q _ h => hFc q h) hFc (fun r38 u t H37 locs ht hvm hw hB hz1 hk1 hS => ?_)
  obtain rfl : (nI cc) = r38 := (show r38 = (nI cc) from hw).symm
  obtain ⟨hP1, hK1, hD1, hz2⟩ := hB
  rw [ht] at hP1 hz2
  have hPD9 := va_join (wr := [(ot, .inl (cI, 4, .inl fo)), (r6, .inr (8, [.int 4, .ref wb7, .ref nb8])), (wb7, .inl (cI, 4, .inl fb9)), (nb8, .inl (cI, 4, .inl gb10)), (a2, .inr (8, [.int 4, .ref wa2, .ref na2])), (wa2, .inl (cI, 4, .inl (upd (upd (upd (upd fw2 0 3) 1 3) 2 3) 3 3))), (na2, .inl (cI, 4, .inl (upd (upd (upd (upd fn2 0 1) 1 1) 2 1) 3 1))), (mo, .inr (9, [th, .ref al, md, rf, kn])), (ed, .inl (cO, 10, .inr (.inr (.inr (.inr ee))))), (a0, .inr (8, [.int 4, .ref wa0, .ref na0])), (wa0, .inl (cI, 4, .inl fw0)), (na0, .inl (cI, 4, .inl fn0)), (a1, .inr (8, [.int 4, .ref wa1, .ref na1])), (wa1, .inl (cI, 4, .inl fw1)), (na1, .inl (cI, 4, .inl fn1))]) (w1 := [(al, .inr (4, [mc, .ref ed, .int (nI cc)]))]) hP hD [8] [0, 1, 2, 3, 4, 5, 6, 7, 9, 10, 11, 12, 13, 14, 15] rfl rfl (by decide) (by decide) hk1 hFc hP1 hD1
  clear hPc hDc hFc hDv hpre hP hD hP1 hK1 hD1
  obtain ⟨hP, hD⟩ := hPD9
  replace hz : s.heap.size + 3 ≤ H37.size := by omega
  clear hz2
  replace hP : va_P (dC, dI) vwCl [(ot, .inl (cI, 4, .inl fo)), (r6, .inr (8, [.int 4, .ref wb7, .ref nb8])), (wb7, .inl (cI, 4, .inl fb9)), (nb8, .inl (cI, 4, .inl gb10)), (a2, .inr (8, [.int 4, .ref wa2, .ref na2])), (wa2, .inl (cI, 4, .inl (upd (upd (upd (upd fw2 0 3) 1 3) 2 3) 3 3))), (na2, .inl (cI, 4, .inl (upd (upd (upd (upd fn2 0 1) 1 1) 2 1) 3 1))), (mo, .inr (9, [th, .ref al, md, rf, kn])), (ed, .inl (cO, 10, .inr (.inr (.inr (.inr ee))))), (a0, .inr (8, [.int 4, .ref wa0, .ref na0])), (wa0, .inl (cI, 4, .inl fw0)), (na0, .inl (cI, 4, .inl fn0)), (a1, .inr (8, [.int 4, .ref wa1, .ref na1])), (wa1, .inl (cI, 4, .inl fw1)), (na1, .inl (cI, 4, .inl fn1)), (al, .inr (4, [mc, .ref ed, .int (nI cc)]))] H37 := hP
  replace hD : va_D A [(ot, .inl (cI, 4, .inl fo)), (r6, .inr (8, [.int 4, .ref wb7, .ref nb8])), (wb7, .inl (cI, 4, .inl fb9)), (nb8, .inl (cI, 4, .inl gb10)), (a2, .inr (8, [.int 4, .ref wa2, .ref na2])), (wa2, .inl (cI, 4, .inl (upd (upd (upd (upd fw2 0 3) 1 3) 2 3) 3 3))), (na2, .inl (cI, 4, .inl (upd (upd (upd (upd fn2 0 1) 1 1) 2 1) 3 1))), (mo, .inr (9, [th, .ref al, md, rf, kn])), (ed, .inl (cO, 10, .inr (.inr (.inr (.inr ee))))), (a0, .inr (8, [.int 4, .ref wa0, .ref na0])), (wa0, .inl (cI, 4, .inl fw0)), (na0, .inl (cI, 4, .inl fn0)), (a1, .inr (8, [.int 4, .ref wa1, .ref na1])), (wa1, .inl (cI, 4, .inl fw1)), (na1, .inl (cI, 4, .inl fn1)), (al, .inr (4, [mc, .ref ed, .int (nI cc)]))] := hD
  refine W.widen (k := 5) (n := 14) (by omega) (by omega) ?_
  refine lv_icmp_ge (tgt := 101) hx hb dX4_areHung_72 (by decide) (fun c9 => ?_) (fun c9 => ?_)
  · exact absurd c9 (by rw [hcc3]; decide)
  refine lv_iload hx hb dX4_areHung_75 (lv_at hl 1 rfl) ?_
  refine lv_aload_n hx hb dX4_areHung_77 rfl (lv_at hl 4 rfl) ?_
  refine lv_iload hx hb dX4_areHung_78 (lv_at hl 0 rfl) ?_
  have hPc := hP.sub (ws' := [(mo, .inr (9, [th, .ref al, md, rf, kn])), (al, .inr (4, [mc, .ref ed, .int (nI cc)])), (ed, .inl (cO, 10, .inr (.inr (.inr (.inr ee))))), (a0, .inr (8, [.int 4, .ref wa0, .ref na0])), (wa0, .inl (cI, 4, .inl fw0)), (na0, .inl (cI, 4, .inl fn0)), (a1, .inr (8, [.int 4, .ref wa1, .ref na1])), (wa1, .inl (cI, 4, .inl fw1)), (na1, .inl (cI, 4, .inl fn1)), (a2, .inr (8, [.int 4, .ref wa2, .ref na2])), (wa2, .inl (cI, 4, .inl (upd (upd (upd (upd fw2 0 3) 1 3) 2 3) 3 3))), (na2, .inl (cI, 4, .inl (upd (upd (upd (upd fn2 0 1) 1 1) 2 1) 3 1)))]) [7, 15, 8, 9, 10, 11, 12, 13, 14, 4, 5, 6] rfl
  have hDc := hD.sub (ws' := [(mo, .inr (9, [th, .ref al, md, rf, kn])), (al, .inr (4, [mc, .ref ed, .int (nI cc)])), (ed, .inl (cO, 10, .inr (.inr (.inr (.inr ee))))), (a0, .inr (8, [.int 4, .ref wa0, .ref na0])), (wa0, .inl (cI, 4, .inl fw0)), (na0, .inl (cI, 4, .inl fn0)), (a1, .inr (8, [.int 4, .ref wa1, .ref na1])), (wa1, .inl (cI, 4, .inl fw1)), (na1, .inl (cI, 4, .inl fn1)), (a2, .inr (8, [.int 4, .ref wa2, .ref na2])), (wa2, .inl (cI, 4, .inl (upd (upd (upd (upd fw2 0 3) 1 3) 2 3) 3 3))), (na2, .inl (cI, 4, .inl (upd (upd (upd (upd fn2 0 1) 1 1) 2 1) 3 1)))]) [7, 15, 8, 9, 10, 11, 12, 13, 14, 4, 5, 6] (by decide) rfl
  have hFc := va_free (wc := [(mo, .inr (9, [th, .ref al, md, rf, kn])), (al, .inr (4, [mc, .ref ed, .int (nI cc)])), (ed, .inl (cO, 10, .inr (.inr (.inr (.inr ee))))), (a0, .inr (8, [.int 4, .ref wa0, .ref na0])), (wa0, .inl (cI, 4, .inl fw0)), (na0, .inl (cI, 4, .inl fn0)), (a1, .inr (8, [.int 4, .ref wa1, .ref na1])), (wa1, .inl (cI, 4, .inl fw1)), (na1, .inl (cI, 4, .inl fn1)), (a2, .inr (8, [.int 4, .ref wa2, .ref na2])), (wa2, .inl (cI, 4, .inl (upd (upd (upd (upd fw2 0 3) 1 3) 2 3) 3 3))), (na2, .inl (cI, 4, .inl (upd (upd (upd (upd fn2 0 1) 1 1) 2 1) 3 1)))]) hD hS hA [7, 15, 8, 9, 10, 11, 12, 13, 14, 4, 5, 6] rfl
  have hDv := hDc.self (sz := H37.size)
  have hpre := zpre (xs' := []) (av := [.ref mo, .int 2]) hPc hK (hDc.weaken (fun _ _ _ h => h)) hZ hS hFc (fun r hr => by cases hr)
  refine va_calli (va_runV (As := [.int 2]) (rest := [.int 1]) ⟨hx, hb, hml, hown, hts⟩ (k_dO2 l dC dI cI cB cR cO zk mo al ed cc ee th md rf kn mc a0 wa0 na0 a1 wa1 na1 a2 wa2 na2 fw0 fn0 fw1 fn1 (upd (upd (upd (upd fw2 0 3) 1 3) 2 3) 3 3) (upd (upd (upd (upd fn2 0 1) 1 1) 2 1) 3 1) H37.size (by omega) hcc2 hw0 hn0 he0 hw1 hn1 he1 (fun i hi => by rcases (show i = 0 ∨ i = 1 ∨ i = 2 ∨ i = 3 by omega) with rfl | rfl | rfl | rfl <;> rfl) (fun i hi => by rcases (show i = 0 ∨ i = 1 ∨ i = 2 ∨ i = 3 by omega) with rfl | rfl | rfl | rfl <;> rfl) he2) (cwV 1 hts gX4_areHung_X4_depthOf rfl rfl rfl (by decide +kernel) ⟨Nat.le_of_ble_eq_true rfl, Nat.le_of_ble_eq_true rfl⟩) ⟨zblind, (zrecv_9 hK hPc (q0 := 0) rfl), hpre⟩ rfl rfl hl.1 rfl (lv_room (Nat.le_of_ble_eq_true rfl)) dX4_areHung_80 ⟨Nat.le_of_ble_eq_true rfl, Nat.le_of_ble_eq_true rfl⟩) hS (fun q _ h => hFc q h) hFc (fun r40 u t H39 locs ht hvm hw hB hz1 hk1 hS => ?_)
  obtain rfl : 3 = r40 := (show r40 = 3 from hw).symm
  obtain ⟨hP1, hK1, hD1, hz2⟩ := hB
  rw [ht] at hP1 hz2
  have hPD9 := va_join (wr := [(ot, .inl (cI, 4, .inl fo)), (r6, .inr (8, [.int 4, .ref wb7, .ref nb8])), (wb7, .inl (cI, 4, .inl fb9)), (nb8, .inl (cI, 4, .inl gb10))]) (w1 := [(mo, .inr (9, [th, .ref al, md, rf, kn])), (al, .inr (4, [mc, .ref ed, .int (nI cc)])), (ed, .inl (cO, 10, .inr (.inr (.inr (.inr ee))))), (a0, .inr (8, [.int 4, .ref wa0, .ref na0])), (wa0, .inl (cI, 4, .inl fw0)), (na0, .inl (cI, 4, .inl fn0)), (a1, .inr (8, [.int 4, .ref wa1, .ref na1])), (wa1, .inl (cI, 4, .inl fw1)), (na1, .inl (cI, 4, .inl fn1)), (a2, .inr (8, [.int 4, .ref wa2, .ref na2])), (wa2, .inl (cI, 4, .inl (upd (upd (upd (upd fw2 0 3) 1 3) 2 3) 3 3))), (na2, .inl (cI, 4, .inl (upd (upd (upd (upd fn2 0 1) 1 1) 2 1) 3 1)))]) hP hD [7, 15, 8, 9, 10, 11, 12, 13, 14, 4, 5, 6] [0, 1, 2, 3] rfl rfl (by decide) (by decide) hk1 hFc hP1 hD1
  clear hPc hDc hFc hDv hpre hP hD hP1 hK1 hD1
  obtain ⟨hP, hD⟩ := hPD9
  replace hz : s.heap.size + 3 ≤ H39.size := by omega
  clear hz2
  replace hP : va_P (dC, dI) vwCl [(ot, .inl (cI, 4, .inl fo)), (r6, .inr (8, [.int 4, .ref wb7, .ref nb8])), (wb7, .inl (cI, 4, .inl fb9)), (nb8, .inl (cI, 4, .inl gb10)), (mo, .inr (9, [th, .ref al, md, rf, kn])), (al, .inr (4, [mc, .ref ed, .int (nI cc)])), (ed, .inl (cO, 10, .inr (.inr (.inr (.inr ee))))), (a0, .inr (8, [.int 4, .ref wa0, .ref na0])), (wa0, .inl (cI, 4, .inl fw0)), (na0, .inl (cI, 4, .inl fn0)), (a1, .inr (8, [.int 4, .ref wa1, .ref na1])), (wa1, .inl (cI, 4, .inl fw1)), (na1, .inl (cI, 4, .inl fn1)), (a2, .inr (8, [.int 4, .ref wa2, .ref na2])), (wa2, .inl (cI, 4, .inl (upd (upd (upd (upd fw2 0 3) 1 3) 2 3) 3 3))), (na2, .inl (cI, 4, .inl (upd (upd (upd (upd fn2 0 1) 1 1) 2 1) 3 1)))] H39 := hP
  replace hD : va_D A [(ot, .inl (cI, 4, .inl fo)), (r6, .inr (8, [.int 4, .ref wb7, .ref nb8])), (wb7, .inl (cI, 4, .inl fb9)), (nb8, .inl (cI, 4, .inl gb10)), (mo, .inr (9, [th, .ref al, md, rf, kn])), (al, .inr (4, [mc, .ref ed, .int (nI cc)])), (ed, .inl (cO, 10, .inr (.inr (.inr (.inr ee))))), (a0, .inr (8, [.int 4, .ref wa0, .ref na0])), (wa0, .inl (cI, 4, .inl fw0)), (na0, .inl (cI, 4, .inl fn0)), (a1, .inr (8, [.int 4, .ref wa1, .ref na1])), (wa1, .inl (cI, 4, .inl fw1)), (na1, .inl (cI, 4, .inl fn1)), (a2, .inr (8, [.int 4, .ref wa2, .ref na2])), (wa2, .inl (cI, 4, .inl (upd (upd (upd (upd fw2 0 3) 1 3) 2 3) 3 3))), (na2, .inl (cI, 4, .inl (upd (upd (upd (upd fn2 0 1) 1 1) 2 1) 3 1)))] := hD
  refine W.widen (k := 6) (n := 17) (by omega) (by omega) ?_
  refine lv_iconst (v := 4) hx hb dX4_areHung_83 (by decide) ?_
  refine lv_icmp_gt (tgt := 91) hx hb dX4_areHung_84 (by decide) (fun c9 => ?_) (fun c9 => ?_)
  · exact absurd c9 (by decide)
  refine lv_iconst (v := 1) hx hb dX4_areHung_87 (by decide) ?_
  refine lv_goto (tgt := 92) hx hb dX4_areHung_88 (by decide) ?_
  refine lv_iand hx hb dX4_areHung_92 ?_
  refine lv_topi (fun v41 ev41 => ?_)
  obtain rfl : v41 = 1 := ev41.trans (by decide)
  refine lv_istore (lv' := [(5, .int 1), (6, .int 2), (4, .ref r6), (3, .ref a2), (0, .ref mo), (1, .int 2), (2, .ref ot)]) hx hb dX4_areHung_93 hl (by decide) rfl (fun ls hl => ?_)
  refine lv_iinc (v := 3) (lv' := [(6, .int 3), (5, .int 1), (4, .ref r6), (3, .ref a2), (0, .ref mo), (1, .int 2), (2, .ref ot)]) hx hb dX4_areHung_95 hl (k := 1) rfl (by decide) (by decide) rfl (fun ls hl => ?_)
  refine lv_goto (tgt := 63) hx hb dX4_areHung_98 (by decide) ?_
  refine lv_iload hx hb dX4_areHung_63 (lv_at hl 0 rfl) ?_
  refine lv_aload_n hx hb dX4_areHung_65 rfl (lv_at hl 4 rfl) ?_
  refine va_get (D := (dC, dI)) (ci := 9) (v := .ref al) (C := RX4) (T := TX4) (N := 5) hx hb hts hi_X4_areHung_X4 hown hK hP 4 rfl rfl 1 (by decide) (hts (.fieldLink RX4 10 "DeeprowsModel" "rows" "Ljava/util/ArrayList;") (List.mem_cons_of_mem _ zw_1134)) (fun _ h9 => h9) rfl dX4_areHung_66 ?_
  have hPc := hP.sub (ws' := [(al, .inr (4, [mc, .ref ed, .int (nI cc)]))]) [5] rfl
  have hDc := hD.sub (ws' := [(al, .inr (4, [mc, .ref ed, .int (nI cc)]))]) [5] (by decide) rfl
  have hFc := va_free (wc := [(al, .inr (4, [mc, .ref ed, .int (nI cc)]))]) hD hS hA [5] rfl
  have hDv := hDc.self (sz := H39.size)
  have hpre := zpre (xs' := []) (av := [.ref al]) hPc hK (hDc.weaken (fun _ _ _ h => h)) hZ hS hFc (fun r hr => by cases hr)
  refine va_calli (va_runV (As := []) (rest := [.int 3]) ⟨hx, hb, hml, hown, hts⟩ (k_size l dC dI cI cB cR cO zk al ed (nI cc) mc H39.size ) (cwV 0 hts gX4_areHung_Jx4a65c_size_8abf5 rfl rfl rfl (by decide +kernel) ⟨Nat.le_of_ble_eq_true rfl, Nat.le_of_ble_eq_true rfl⟩) ⟨zblind, (zrecv_4 hK hPc (q0 := 0) rfl), hpre⟩ rfl rfl hl.1 rfl (lv_room (Nat.le_of_ble_eq_true rfl)) dX4_areHung_69 ⟨Nat.le_of_ble_eq_true rfl, Nat.le_of_ble_eq_true rfl⟩) hS (fun q _ h => hFc q h) hFc (fun r43 u t H42 locs ht hvm hw hB hz1 hk1 hS => ?_)
  obtain rfl : (nI cc) = r43 := (show r43 = (nI cc) from hw).symm
  obtain ⟨hP1, hK1, hD1, hz2⟩ := hB
  rw [ht] at hP1 hz2
  have hPD9 := va_join (wr := [(ot, .inl (cI, 4, .inl fo)), (r6, .inr (8, [.int 4, .ref wb7, .ref nb8])), (wb7, .inl (cI, 4, .inl fb9)), (nb8, .inl (cI, 4, .inl gb10)), (mo, .inr (9, [th, .ref al, md, rf, kn])), (ed, .inl (cO, 10, .inr (.inr (.inr (.inr ee))))), (a0, .inr (8, [.int 4, .ref wa0, .ref na0])), (wa0, .inl (cI, 4, .inl fw0)), (na0, .inl (cI, 4, .inl fn0)), (a1, .inr (8, [.int 4, .ref wa1, .ref na1])), (wa1, .inl (cI, 4, .inl fw1)), (na1, .inl (cI, 4, .inl fn1)), (a2, .inr (8, [.int 4, .ref wa2, .ref na2])), (wa2, .inl (cI, 4, .inl (upd (upd (upd (upd fw2 0 3) 1 3) 2 3) 3 3))), (na2, .inl (cI, 4, .inl (upd (upd (upd (upd fn2 0 1) 1 1) 2 1) 3 1)))]) (w1 := [(al, .inr (4, [mc, .ref ed, .int (nI cc)]))]) hP hD [5] [0, 1, 2, 3, 4, 6, 7, 8, 9, 10, 11, 12, 13, 14, 15] rfl rfl (by decide) (by decide) hk1 hFc hP1 hD1
  clear hPc hDc hFc hDv hpre hP hD hP1 hK1 hD1
  obtain ⟨hP, hD⟩ := hPD9
  replace hz : s.heap.size + 3 ≤ H42.size := by omega
  clear hz2
  replace hP : va_P (dC, dI) vwCl [(ot, .inl (cI, 4, .inl fo)), (r6, .inr (8, [.int 4, .ref wb7, .ref nb8])), (wb7, .inl (cI, 4, .inl fb9)), (nb8, .inl (cI, 4, .inl gb10)), (mo, .inr (9, [th, .ref al, md, rf, kn])), (ed, .inl (cO, 10, .inr (.inr (.inr (.inr ee))))), (a0, .inr (8, [.int 4, .ref wa0, .ref na0])), (wa0, .inl (cI, 4, .inl fw0)), (na0, .inl (cI, 4, .inl fn0)), (a1, .inr (8, [.int 4, .ref wa1, .ref na1])), (wa1, .inl (cI, 4, .inl fw1)), (na1, .inl (cI, 4, .inl fn1)), (a2, .inr (8, [.int 4, .ref wa2, .ref na2])), (wa2, .inl (cI, 4, .inl (upd (upd (upd (upd fw2 0 3) 1 3) 2 3) 3 3))), (na2, .inl (cI, 4, .inl (upd (upd (upd (upd fn2 0 1) 1 1) 2 1) 3 1))), (al, .inr (4, [mc, .ref ed, .int (nI cc)]))] H42 := hP
  replace hD : va_D A [(ot, .inl (cI, 4, .inl fo)), (r6, .inr (8, [.int 4, .ref wb7, .ref nb8])), (wb7, .inl (cI, 4, .inl fb9)), (nb8, .inl (cI, 4, .inl gb10)), (mo, .inr (9, [th, .ref al, md, rf, kn])), (ed, .inl (cO, 10, .inr (.inr (.inr (.inr ee))))), (a0, .inr (8, [.int 4, .ref wa0, .ref na0])), (wa0, .inl (cI, 4, .inl fw0)), (na0, .inl (cI, 4, .inl fn0)), (a1, .inr (8, [.int 4, .ref wa1, .ref na1])), (wa1, .inl (cI, 4, .inl fw1)), (na1, .inl (cI, 4, .inl fn1)), (a2, .inr (8, [.int 4, .ref wa2, .ref na2])), (wa2, .inl (cI, 4, .inl (upd (upd (upd (upd fw2 0 3) 1 3) 2 3) 3 3))), (na2, .inl (cI, 4, .inl (upd (upd (upd (upd fn2 0 1) 1 1) 2 1) 3 1))), (al, .inr (4, [mc, .ref ed, .int (nI cc)]))] := hD
  refine W.widen (k := 6) (n := 17) (by omega) (by omega) ?_
  refine lv_icmp_ge (tgt := 101) hx hb dX4_areHung_72 (by decide) (fun c9 => ?_) (fun c9 => ?_)
  rotate_left
  · exact absurd (by rw [hcc3]; decide) c9
  refine lv_iconst (v := 0) hx hb dX4_areHung_101 (by decide) ?_
  refine lv_istore (lv' := [(6, .int 0), (5, .int 1), (4, .ref r6), (3, .ref a2), (0, .ref mo), (1, .int 2), (2, .ref ot)]) hx hb dX4_areHung_102 hl (by decide) rfl (fun ls hl => ?_)
  refine lv_iload hx hb dX4_areHung_104 (lv_at hl 0 rfl) ?_
  refine lv_aload_n hx hb dX4_areHung_106 rfl (lv_at hl 3 rfl) ?_
  have hPc := hP.sub (ws' := [(a2, .inr (8, [.int 4, .ref wa2, .ref na2])), (wa2, .inl (cI, 4, .inl (upd (upd (upd (upd fw2 0 3) 1 3) 2 3) 3 3)))]) [12, 13] rfl
  have hDc := hD.sub (ws' := [(a2, .inr (8, [.int 4, .ref wa2, .ref na2])), (wa2, .inl (cI, 4, .inl (upd (upd (upd (upd fw2 0 3) 1 3) 2 3) 3 3)))]) [12, 13] (by decide) rfl
  have hFc := va_free (wc := [(a2, .inr (8, [.int 4, .ref wa2, .ref na2])), (wa2, .inl (cI, 4, .inl (upd (upd (upd (upd fw2 0 3) 1 3) 2 3) 3 3)))]) hD hS hA [12, 13] rfl
  have hDv := hDc.self (sz := H42.size)
  have hpre := zpre (xs' := []) (av := [.ref a2]) hPc hK (hDc.weaken (fun _ _ _ h => h)) hZ hS hFc (fun r hr => by cases hr)
  refine va_calli (va_runV (As := []) (rest := [.int 0]) ⟨hx, hb, hml, hown, hts⟩ (k_rlen l dC dI cI cB cR cO zk a2 wa2 na2 (upd (upd (upd (upd fw2 0 3) 1 3) 2 3) 3 3) H42.size ) (cwV 0 hts gX4_areHung_X3_length rfl rfl rfl (by decide +kernel) ⟨Nat.le_of_ble_eq_true rfl, Nat.le_of_ble_eq_true rfl⟩) ⟨zblind, (zrecv_8 hK hPc (q0 := 0) rfl), hpre⟩ rfl rfl hl.1 rfl (lv_room (Nat.le_of_ble_eq_true rfl)) dX4_areHung_107 ⟨Nat.le_of_ble_eq_true rfl, Nat.le_of_ble_eq_true rfl⟩) hS (fun q _ h => hFc q h) hFc (fun r45 u t H44 locs ht hvm hw hB hz1 hk1 hS => ?_)
  obtain rfl : 4 = r45 := (show r45 = 4 from hw).symm
  obtain ⟨hP1, hK1, hD1, hz2⟩ := hB
  rw [ht] at hP1 hz2
  have hPD9 := va_join (wr := [(ot, .inl (cI, 4, .inl fo)), (r6, .inr (8, [.int 4, .ref wb7, .ref nb8])), (wb7, .inl (cI, 4, .inl fb9)), (nb8, .inl (cI, 4, .inl gb10)), (mo, .inr (9, [th, .ref al, md, rf, kn])), (ed, .inl (cO, 10, .inr (.inr (.inr (.inr ee))))), (a0, .inr (8, [.int 4, .ref wa0, .ref na0])), (wa0, .inl (cI, 4, .inl fw0)), (na0, .inl (cI, 4, .inl fn0)), (a1, .inr (8, [.int 4, .ref wa1, .ref na1])), (wa1, .inl (cI, 4, .inl fw1)), (na1, .inl (cI, 4, .inl fn1)), (na2, .inl (cI, 4, .inl (upd (upd (upd (upd fn2 0 1) 1 1) 2 1) 3 1))), (al, .inr (4, [mc, .ref ed, .int (nI cc)]))]) (w1 := [(a2, .inr (8, [.int 4, .ref wa2, .ref na2])), (wa2, .inl (cI, 4, .inl (upd (upd (upd (upd fw2 0 3) 1 3) 2 3) 3 3)))]) hP hD [12, 13] [0, 1, 2, 3, 4, 5, 6, 7, 8, 9, 10, 11, 14, 15] rfl rfl (by decide) (by decide) hk1 hFc hP1 hD1
  clear hPc hDc hFc hDv hpre hP hD hP1 hK1 hD1
  obtain ⟨hP, hD⟩ := hPD9
  replace hz : s.heap.size + 3 ≤ H44.size := by omega
  clear hz2
  replace hP : va_P (dC, dI) vwCl [(ot, .inl (cI, 4, .inl fo)), (r6, .inr (8, [.int 4, .ref wb7, .ref nb8])), (wb7, .inl (cI, 4, .inl fb9)), (nb8, .inl (cI, 4, .inl gb10)), (mo, .inr (9, [th, .ref al, md, rf, kn])), (ed, .inl (cO, 10, .inr (.inr (.inr (.inr ee))))), (a0, .inr (8, [.int 4, .ref wa0, .ref na0])), (wa0, .inl (cI, 4, .inl fw0)), (na0, .inl (cI, 4, .inl fn0)), (a1, .inr (8, [.int 4, .ref wa1, .ref na1])), (wa1, .inl (cI, 4, .inl fw1)), (na1, .inl (cI, 4, .inl fn1)), (na2, .inl (cI, 4, .inl (upd (upd (upd (upd fn2 0 1) 1 1) 2 1) 3 1))), (al, .inr (4, [mc, .ref ed, .int (nI cc)])), (a2, .inr (8, [.int 4, .ref wa2, .ref na2])), (wa2, .inl (cI, 4, .inl (upd (upd (upd (upd fw2 0 3) 1 3) 2 3) 3 3)))] H44 := hP
  replace hD : va_D A [(ot, .inl (cI, 4, .inl fo)), (r6, .inr (8, [.int 4, .ref wb7, .ref nb8])), (wb7, .inl (cI, 4, .inl fb9)), (nb8, .inl (cI, 4, .inl gb10)), (mo, .inr (9, [th, .ref al, md, rf, kn])), (ed, .inl (cO, 10, .inr (.inr (.inr (.inr ee))))), (a0, .inr (8, [.int 4, .ref wa0, .ref na0])), (wa0, .inl (cI, 4, .inl fw0)), (na0, .inl (cI, 4, .inl fn0)), (a1, .inr (8, [.int 4, .ref wa1, .ref na1])), (wa1, .inl (cI, 4, .inl fw1)), (na1, .inl (cI, 4, .inl fn1)), (na2, .inl (cI, 4, .inl (upd (upd (upd (upd fn2 0 1) 1 1) 2 1) 3 1))), (al, .inr (4, [mc, .ref ed, .int (nI cc)])), (a2, .inr (8, [.int 4, .ref wa2, .ref na2])), (wa2, .inl (cI, 4, .inl (upd (upd (upd (upd fw2 0 3) 1 3) 2 3) 3 3)))] := hD
  refine W.widen (k := 6) (n := 17) (by omega) (by omega) ?_
  refine lv_icmp_ge (tgt := 146) hx hb dX4_areHung_110 (by decide) (fun c9 => ?_) (fun c9 => ?_)
  · exact absurd c9 (by decide)
  refine lv_iload hx hb dX4_areHung_113 (lv_at hl 1 rfl) ?_
  refine lv_if_ne (tgt := 146) hx hb dX4_areHung_115 (by decide) (fun c9 => ?_) (fun c9 => ?_)
  rotate_left
  · exact absurd c9 (by decide)
  refine lv_iload hx hb dX4_areHung_146 (lv_at hl 1 rfl) ?_
  have hP9 := hP.sub (ws' := [(mo, .inr (9, [th, .ref al, md, rf, kn])), (al, .inr (4, [mc, .ref ed, .int (nI cc)])), (ed, .inl (cO, 10, .inr (.inr (.inr (.inr ee))))), (a0, .inr (8, [.int 4, .ref wa0, .ref na0])), (wa0, .inl (cI, 4, .inl fw0)), (na0, .inl (cI, 4, .inl fn0)), (a1, .inr (8, [.int 4, .ref wa1, .ref na1])), (wa1, .inl (cI, 4, .inl fw1)), (na1, .inl (cI, 4, .inl fn1)), (a2, .inr (8, [.int 4, .ref wa2, .ref na2])), (wa2, .inl (cI, 4, .inl (upd (upd (upd (upd fw2 0 3) 1 3) 2 3) 3 3))), (na2, .inl (cI, 4, .inl (upd (upd (upd (upd fn2 0 1) 1 1) 2 1) 3 1))), (ot, .inl (cI, 4, .inl fo))]) [4, 13, 5, 6, 7, 8, 9, 10, 11, 14, 15, 12, 0] rfl
  have hD9 := hD.sub (ws' := [(mo, .inr (9, [th, .ref al, md, rf, kn])), (al, .inr (4, [mc, .ref ed, .int (nI cc)])), (ed, .inl (cO, 10, .inr (.inr (.inr (.inr ee))))), (a0, .inr (8, [.int 4, .ref wa0, .ref na0])), (wa0, .inl (cI, 4, .inl fw0)), (na0, .inl (cI, 4, .inl fn0)), (a1, .inr (8, [.int 4, .ref wa1, .ref na1])), (wa1, .inl (cI, 4, .inl fw1)), (na1, .inl (cI, 4, .inl fn1)), (a2, .inr (8, [.int 4, .ref wa2, .ref na2])), (wa2, .inl (cI, 4, .inl (upd (upd (upd (upd fw2 0 3) 1 3) 2 3) 3 3))), (na2, .inl (cI, 4, .inl (upd (upd (upd (upd fn2 0 1) 1 1) 2 1) 3 1))), (ot, .inl (cI, 4, .inl fo))]) [4, 13, 5, 6, 7, 8, 9, 10, 11, 14, 15, 12, 0] (by decide) rfl
  exact W.zret (v := 1) hx hb hr (by decide +kernel) (fun t ht hW => ⟨⟨_, (), rfl, rfl, ⟨_, _, ⟨by rw [ht]; exact hP9, va_K.moved hW.alike hK, hD9, by rw [ht]; exact hz⟩, fun i hi => by rcases (show i = 0 ∨ i = 1 ∨ i = 2 ∨ i = 3 by omega) with rfl | rfl | rfl | rfl <;> rfl, fun i hi => by rcases (show i = 0 ∨ i = 1 ∨ i = 2 ∨ i = 3 by omega) with rfl | rfl | rfl | rfl <;> rfl⟩⟩, hS.F ht⟩) hS.2.2 dX4_areHung_148

set_option maxHeartbeats 4000000 in
set_option maxRecDepth 100000 in
theorem k_nw3 (l : Launch) (dC : Nat → ClassId) (dI : Nat → Nat → Nat) (cI cB cR cO : ClassId) (zk : Nat → Nat) (mo al ed cc : Nat) (ee : Nat → Option Nat) (th md rf kn mc : Value) (a3 wa3 na3 : Nat) (fw3 : Nat → Int32) (sz : Nat) (hcc : 3 < cc) (hcc2 : cc ≤ 10) (he3 : ee 3 = some a3) : Met l yX4_nowhere wsX4_nowhere ({ frames := 3, cells := 1, slots := 4, locals := 64 }) (va_Pc [.ref mo, .int 3] (zPre (dC, dI) (zT cI cB cR cO) zk [] [(mo, .inr (9, [th, .ref al, md, rf, kn])), (al, .inr (4, [mc, .ref ed, .int (nI cc)])), (ed, .inl (cO, 10, .inr (.inr (.inr (.inr ee))))), (a3, .inr (8, [.int 4, .ref wa3, .ref na3])), (wa3, .inl (cI, 4, .inl fw3))] sz)) (va_Qr (fun _ : Unit => True) (fun _ ra t => ∃ (fo : Nat → Int32), zEnd (dC, dI) (zT cI cB cR cO) (va_A [(mo, .inr (9, [th, .ref al, md, rf, kn])), (al, .inr (4, [mc, .ref ed, .int (nI cc)])), (ed, .inl (cO, 10, .inr (.inr (.inr (.inr ee))))), (a3, .inr (8, [.int 4, .ref wa3, .ref na3])), (wa3, .inl (cI, 4, .inl fw3))] sz) [(mo, .inr (9, [th, .ref al, md, rf, kn])), (al, .inr (4, [mc, .ref ed, .int (nI cc)])), (ed, .inl (cO, 10, .inr (.inr (.inr (.inr ee))))), (a3, .inr (8, [.int 4, .ref wa3, .ref na3])), (wa3, .inl (cI, 4, .inl fw3)), (ra, .inl (cI, 4, .inl fo))] sz 1 t) (va_A [(mo, .inr (9, [th, .ref al, md, rf, kn])), (al, .inr (4, [mc, .ref ed, .int (nI cc)])), (ed, .inl (cO, 10, .inr (.inr (.inr (.inr ee))))), (a3, .inr (8, [.int 4, .ref wa3, .ref na3])), (wa3, .inl (cI, 4, .inl fw3))] sz)) 1 4 (va_A [(mo, .inr (9, [th, .ref al, md, rf, kn])), (al, .inr (4, [mc, .ref ed, .int (nI cc)])), (ed, .inl (cO, 10, .inr (.inr (.inr (.inr ee))))), (a3, .inr (8, [.int 4, .ref wa3, .ref na3])), (wa3, .inl (cI, 4, .inl fw3))] sz) := by
  refine Met.ofW (cc := cX4_nowhere) (maxL := 4) (ret := (some (.array .int))) (by decide) rfl ?_
  intro p e s mY args below meth c s₁ B hml hv
  obtain ⟨rfl, hsz, hP, hK, hD0, hZ⟩ := hv
  have hx := B.exec
  have hb := B.bytes
  have hr := B.returns
  have hts := atoms_spec (ws := wsX4_nowhere) B.pre
  have hown : s.vm.findClass RX4 = some mY.cls := findClass_of_methodNamed B.named
  have hlocks := B.notSynchronized
  subst hsz
  have hD := hD0.self (sz := s.heap.size)
  generalize hAe : va_A [(mo, .inr (9, [th, .ref al, md, rf, kn])), (al, .inr (4, [mc, .ref ed, .int (nI cc)])), (ed, .inl (cO, 10, .inr (.inr (.inr (.inr ee))))), (a3, .inr (8, [.int 4, .ref wa3, .ref na3])), (wa3, .inl (cI, 4, .inl fw3))] s.heap.size = A at hD hZ ⊢
  have hA : ∀ q : Nat, s.heap.size ≤ q → A q := fun q h => by rw [← hAe]; exact Or.inr h
  have hS : va_S A s.heap s.heap [] := va_S.rf
  have hz : s.heap.size + 0 ≤ s.heap.size := Nat.le_refl _
  have hl := lv_entry ([.ref mo, .int 3]) (n := 4) (Nat.le_of_ble_eq_true rfl)
  rw [lg_entry_eq]
  generalize (lg_sl ([.ref mo, .int 3]) ++ List.replicate (4 - (lg_sl ([.ref mo, .int 3])).length) Slot.unset).toArray = ls at hl ⊢
  have hl : lv_has ls 4 [(0, .ref mo), (1, .int 3)] := hl
  have hP : va_P (dC, dI) vwCl [(mo, .inr (9, [th, .ref al, md, rf, kn])), (al, .inr (4, [mc, .ref ed, .int (nI cc)])), (ed, .inl (cO, 10, .inr (.inr (.inr (.inr ee))))), (a3, .inr (8, [.int 4, .ref wa3, .ref na3])), (wa3, .inl (cI, 4, .inl fw3))] s.heap := hP
  have hD : va_D A [(mo, .inr (9, [th, .ref al, md, rf, kn])), (al, .inr (4, [mc, .ref ed, .int (nI cc)])), (ed, .inl (cO, 10, .inr (.inr (.inr (.inr ee))))), (a3, .inr (8, [.int 4, .ref wa3, .ref na3])), (wa3, .inl (cI, 4, .inl fw3))] := hD
  refine lv_aload_n hx hb dX4_nowhere_0 rfl (lv_at hl 0 rfl) ?_
  refine va_get (D := (dC, dI)) (ci := 9) (v := .ref al) (C := RX4) (T := TX4) (N := 5) hx hb hts hi_X4_nowhere_X4 hown hK hP 0 rfl rfl 1 (by decide) (hts (.fieldLink RX4 10 "DeeprowsModel" "rows" "Ljava/util/ArrayList;") (List.mem_cons_of_mem _ zw_1134)) (fun _ h9 => h9) rfl dX4_nowhere_1 ?_
  refine lv_iload_n hx hb dX4_nowhere_4 rfl (lv_at hl 1 rfl) ?_
  have hPc := hP.sub (ws' := [(al, .inr (4, [mc, .ref ed, .int (nI cc)])), (ed, .inl (cO, 10, .inr (.inr (.inr (.inr ee)))))]) [1, 2] rfl
  have hDc := hD.sub (ws' := [(al, .inr (4, [mc, .ref ed, .int (nI cc)])), (ed, .inl (cO, 10, .inr (.inr (.inr (.inr ee)))))]) [1, 2] (by decide) rfl
  have hFc := va_free (wc := [(al, .inr (4, [mc, .ref ed, .int (nI cc)])), (ed, .inl (cO, 10, .inr (.inr (.inr (.inr ee)))))]) hD hS hA [1, 2] rfl
  have hDv := hDc.self (sz := s.heap.size)
  have hpre := zpre (xs' := []) (av := [.ref al, .int 3]) hPc hK (hDc.weaken (fun _ _ _ h => h)) hZ hS hFc (fun r hr => by cases hr)
  refine va_callr (va_runV (As := [.int 3]) (rest := []) ⟨hx, hb, hml, hown, hts⟩ (k_get l dC dI cI cB cR cO zk al ed 3 cc 10 a3 ee mc s.heap.size (by omega) hcc2 (by decide) he3) (cwV 1 hts gX4_nowhere_Jx4a65c_get_915e3 rfl rfl rfl (by decide +kernel) ⟨Nat.le_of_ble_eq_true rfl, Nat.le_of_ble_eq_true rfl⟩) ⟨zblind, (zrecv_4 hK hPc (q0 := 0) rfl), hpre⟩ rfl rfl hl.1 rfl (lv_room (Nat.le_of_ble_eq_true rfl)) dX4_nowhere_5 ⟨Nat.le_of_ble_eq_true rfl, Nat.le_of_ble_eq_true rfl⟩) hS (fun q _ h => hFc q h) hFc (fun u r2 t H1 locs ht hvm hw hB hz1 hk1 hS => ?_)
  obtain ⟨⟨hP1, hK1, hD1, hz2⟩, her2⟩ := hB
  rw [ht] at hP1 hz2
  have hPD9 := va_join (wr := [(mo, .inr (9, [th, .ref al, md, rf, kn])), (a3, .inr (8, [.int 4, .ref wa3, .ref na3])), (wa3, .inl (cI, 4, .inl fw3))]) (w1 := [(al, .inr (4, [mc, .ref ed, .int (nI cc)])), (ed, .inl (cO, 10, .inr (.inr (.inr (.inr ee)))))]) hP hD [1, 2] [0, 3, 4] rfl rfl (by decide) (by decide) hk1 hFc hP1 hD1
  clear hPc hDc hFc hDv hpre hP hD hP1 hK1 hD1
  obtain ⟨hP, hD⟩ := hPD9
  replace hz : s.heap.size + 0 ≤ H1.size := by omega
  clear hz2
  replace hP : va_P (dC, dI) vwCl [(mo, .inr (9, [th, .ref al, md, rf, kn])), (a3, .inr (8, [.int 4, .ref wa3, .ref na3])), (wa3, .inl (cI, 4, .inl fw3)), (al, .inr (4, [mc, .ref ed, .int (nI cc)])), (ed, .inl (cO, 10, .inr (.inr (.inr (.inr ee)))))] H1 := hP
  replace hD : va_D A [(mo, .inr (9, [th, .ref al, md, rf, kn])), (a3, .inr (8, [.int 4, .ref wa3, .ref na3])), (wa3, .inl (cI, 4, .inl fw3)), (al, .inr (4, [mc, .ref ed, .int (nI cc)])), (ed, .inl (cO, 10, .inr (.inr (.inr (.inr ee)))))] := hD
  refine W.widen (k := 0) (n := 0) (by omega) (by omega) ?_
  obtain rfl := her2.symm
  refine va_castE hx hb hown (hts (.classLink RX4 40 "DeeprowsModel$Row") (List.mem_cons_of_mem _ zw_1165)) (zrecv_8 hK hP (q0 := 1) rfl) dX4_nowhere_8 ?_
  have hPc := hP.sub (ws' := [(a3, .inr (8, [.int 4, .ref wa3, .ref na3])), (wa3, .inl (cI, 4, .inl fw3))]) [1, 2] rfl
  have hDc := hD.sub (ws' := [(a3, .inr (8, [.int 4, .ref wa3, .ref na3])), (wa3, .inl (cI, 4, .inl fw3))]) [1, 2] (by decide) rfl
  have hFc := va_free (wc := [(a3, .inr (8, [.int 4, .ref wa3, .ref na3])), (wa3, .inl (cI, 4, .inl fw3))]) hD hS hA [1, 2] rfl
  have hDv := hDc.self (sz := H1.size)
  have hpre := zpre (xs' := []) (av := [.ref a3]) hPc hK (hDc.weaken (fun _ _ _ h => h)) hZ hS hFc (fun r hr => by cases hr)
  refine va_calli (va_runV (As := []) (rest := []) ⟨hx, hb, hml, hown, hts⟩ (k_rlen l dC dI cI cB cR cO zk a3 wa3 na3 fw3 H1.size ) (cwV 0 hts gX4_nowhere_X3_length rfl rfl rfl (by decide +kernel) ⟨Nat.le_of_ble_eq_true rfl, Nat.le_of_ble_eq_true rfl⟩) ⟨zblind, (zrecv_8 hK hPc (q0 := 0) rfl), hpre⟩ rfl rfl hl.1 rfl (lv_room (Nat.le_of_ble_eq_true rfl)) dX4_nowhere_11 ⟨Nat.le_of_ble_eq_true rfl, Nat.le_of_ble_eq_true rfl⟩) hS (fun q _ h => hFc q h) hFc (fun r4 u t H3 locs ht hvm hw hB hz1 hk1 hS => ?_)
  obtain rfl : 4 = r4 := (show r4 = 4 from hw).symm
  obtain ⟨hP1, hK1, hD1, hz2⟩ := hB
  rw [ht] at hP1 hz2
  have hPD9 := va_join (wr := [(mo, .inr (9, [th, .ref al, md, rf, kn])), (al, .inr (4, [mc, .ref ed, .int (nI cc)])), (ed, .inl (cO, 10, .inr (.inr (.inr (.inr ee)))))]) (w1 := [(a3, .inr (8, [.int 4, .ref wa3, .ref na3])), (wa3, .inl (cI, 4, .inl fw3))]) hP hD [1, 2] [0, 3, 4] rfl rfl (by decide) (by decide) hk1 hFc hP1 hD1
  clear hPc hDc hFc hDv hpre hP hD hP1 hK1 hD1
  obtain ⟨hP, hD⟩ := hPD9
  replace hz : s.heap.size + 0 ≤ H3.size := by omega
  clear hz2
  replace hP : va_P (dC, dI) vwCl [(mo, .inr (9, [th, .ref al, md, rf, kn])), (al, .inr (4, [mc, .ref ed, .int (nI cc)])), (ed, .inl (cO, 10, .inr (.inr (.inr (.inr ee))))), (a3, .inr (8, [.int 4, .ref wa3, .ref na3])), (wa3, .inl (cI, 4, .inl fw3))] H3 := hP
  replace hD : va_D A [(mo, .inr (9, [th, .ref al, md, rf, kn])), (al, .inr (4, [mc, .ref ed, .int (nI cc)])), (ed, .inl (cO, 10, .inr (.inr (.inr (.inr ee))))), (a3, .inr (8, [.int 4, .ref wa3, .ref na3])), (wa3, .inl (cI, 4, .inl fw3))] := hD
  refine W.widen (k := 0) (n := 0) (by omega) (by omega) ?_
  refine zw_newa (atype := .int) (ty := .int) (N' := 4) hx hb (hts (.arrayClass .int) (List.mem_cons_of_mem _ zw_137)) rfl (by first | exact Or.inl rfl | exact Or.inr rfl) hK hP hD hS hA 0 rfl (by decide) (by decide) (Nat.le_of_ble_eq_true rfl) (Nat.le_of_ble_eq_true rfl) (Nat.le_of_ble_eq_true rfl) dX4_nowhere_14 hz (fun q5 H6 hP hD hS hz => ?_)
  replace hP : va_P (dC, dI) vwCl [(mo, .inr (9, [th, .ref al, md, rf, kn])), (al, .inr (4, [mc, .ref ed, .int (nI cc)])), (ed, .inl (cO, 10, .inr (.inr (.inr (.inr ee))))), (a3, .inr (8, [.int 4, .ref wa3, .ref na3])), (wa3, .inl (cI, 4, .inl fw3)), (q5, .inl (cI, 4, .inl (fun _ => 0)))] H6 := hP
  replace hD : va_D A [(mo, .inr (9, [th, .ref al, md, rf, kn])), (al, .inr (4, [mc, .ref ed, .int (nI cc)])), (ed, .inl (cO, 10, .inr (.inr (.inr (.inr ee))))), (a3, .inr (8, [.int 4, .ref wa3, .ref na3])), (wa3, .inl (cI, 4, .inl fw3)), (q5, .inl (cI, 4, .inl (fun _ => 0)))] := hD
  refine W.widen (k := 1) (n := 4) (by omega) (by omega) ?_
  refine lv_astore_n (lv' := [(2, .ref q5), (0, .ref mo), (1, .int 3)]) hx hb dX4_nowhere_16 rfl hl (by decide) rfl (fun ls hl => ?_)
  refine lv_iconst (v := 0) hx hb dX4_nowhere_17 (by decide) ?_
  refine lv_istore_n (lv' := [(3, .int 0), (2, .ref q5), (0, .ref mo), (1, .int 3)]) hx hb dX4_nowhere_18 rfl hl (by decide) rfl (fun ls hl => ?_)
  refine lv_iload_n hx hb dX4_nowhere_19 rfl (lv_at hl 0 rfl) ?_
  refine lv_aload_n hx hb dX4_nowhere_20 rfl (lv_at hl 1 rfl) ?_
  refine va_alen (D := (dC, dI)) (cl := vwCl) (v := 4) hx hb hK hP 5 0 rfl rfl rfl dX4_nowhere_21 ?_
  refine lv_icmp_ge (tgt := 35) hx hb dX4_nowhere_22 (by decide) (fun c9 => ?_) (fun c9 => ?_)
  · exact absurd c9 (by decide)
  refine lv_aload_n hx hb dX4_nowhere_25 rfl (lv_at hl 1 rfl) ?_
  refine lv_iload_n hx hb dX4_nowhere_26 rfl (lv_at hl 0 rfl) ?_
  refine lv_iconst (v := (-1)) hx hb dX4_nowhere_27 (by decide) ?_
  refine va_iast (D := (dC, dI)) (cl := vwCl) hx hb hK hP hD (zS0 hS) 5 0 rfl rfl (by unfold vp_in; decide) dX4_nowhere_28 (fun H7 locs hP hD hS1 => ?_)
  have hz : s.heap.size + 1 ≤ H7.size := Nat.le_trans hz hS1.1
  have hS := zSS hS hS1
  replace hP : va_P (dC, dI) vwCl [(mo, .inr (9, [th, .ref al, md, rf, kn])), (al, .inr (4, [mc, .ref ed, .int (nI cc)])), (ed, .inl (cO, 10, .inr (.inr (.inr (.inr ee))))), (a3, .inr (8, [.int 4, .ref wa3, .ref na3])), (wa3, .inl (cI, 4, .inl fw3)), (q5, .inl (cI, 4, .inl (upd (fun _ => 0) 0 (-1))))] H7 := hP
  replace hD : va_D A [(mo, .inr (9, [th, .ref al, md, rf, kn])), (al, .inr (4, [mc, .ref ed, .int (nI cc)])), (ed, .inl (cO, 10, .inr (.inr (.inr (.inr ee))))), (a3, .inr (8, [.int 4, .ref wa3, .ref na3])), (wa3, .inl (cI, 4, .inl fw3)), (q5, .inl (cI, 4, .inl (upd (fun _ => 0) 0 (-1))))] := hD
  refine lv_iinc (v := 1) (lv' := [(3, .int 1), (2, .ref q5), (0, .ref mo), (1, .int 3)]) hx hb dX4_nowhere_29 hl (k := 0) rfl (by decide) (by decide) rfl (fun ls hl => ?_)
  refine lv_goto (tgt := 19) hx hb dX4_nowhere_32 (by decide) ?_
  refine lv_iload_n hx hb dX4_nowhere_19 rfl (lv_at hl 0 rfl) ?_
  refine lv_aload_n hx hb dX4_nowhere_20 rfl (lv_at hl 1 rfl) ?_
  refine va_alen (D := (dC, dI)) (cl := vwCl) (v := 4) hx hb hK hP 5 0 rfl rfl rfl dX4_nowhere_21 ?_
  refine lv_icmp_ge (tgt := 35) hx hb dX4_nowhere_22 (by decide) (fun c9 => ?_) (fun c9 => ?_)
  · exact absurd c9 (by decide)
  refine lv_aload_n hx hb dX4_nowhere_25 rfl (lv_at hl 1 rfl) ?_
  refine lv_iload_n hx hb dX4_nowhere_26 rfl (lv_at hl 0 rfl) ?_
  refine lv_iconst (v := (-1)) hx hb dX4_nowhere_27 (by decide) ?_
  refine va_iast (D := (dC, dI)) (cl := vwCl) hx hb hK hP hD (zS0 hS) 5 0 rfl rfl (by unfold vp_in; decide) dX4_nowhere_28 (fun H8 locs hP hD hS1 => ?_)
  have hz : s.heap.size + 1 ≤ H8.size := Nat.le_trans hz hS1.1
  have hS := zSS hS hS1
  replace hP : va_P (dC, dI) vwCl [(mo, .inr (9, [th, .ref al, md, rf, kn])), (al, .inr (4, [mc, .ref ed, .int (nI cc)])), (ed, .inl (cO, 10, .inr (.inr (.inr (.inr ee))))), (a3, .inr (8, [.int 4, .ref wa3, .ref na3])), (wa3, .inl (cI, 4, .inl fw3)), (q5, .inl (cI, 4, .inl (upd (upd (fun _ => 0) 0 (-1)) 1 (-1))))] H8 := hP
  replace hD : va_D A [(mo, .inr (9, [th, .ref al, md, rf, kn])), (al, .inr (4, [mc, .ref ed, .int (nI cc)])), (ed, .inl (cO, 10, .inr (.inr (.inr (.inr ee))))), (a3, .inr (8, [.int 4, .ref wa3, .ref na3])), (wa3, .inl (cI, 4, .inl fw3)), (q5, .inl (cI, 4, .inl (upd (upd (fun _ => 0) 0 (-1)) 1 (-1))))] := hD
  refine lv_iinc (v := 2) (lv' := [(3, .int 2), (2, .ref q5), (0, .ref mo), (1, .int 3)]) hx hb dX4_nowhere_29 hl (k := 0) rfl (by decide) (by decide) rfl (fun ls hl => ?_)
  refine lv_goto (tgt := 19) hx hb dX4_nowhere_32 (by decide) ?_
  refine lv_iload_n hx hb dX4_nowhere_19 rfl (lv_at hl 0 rfl) ?_
  refine lv_aload_n hx hb dX4_nowhere_20 rfl (lv_at hl 1 rfl) ?_
  refine va_alen (D := (dC, dI)) (cl := vwCl) (v := 4) hx hb hK hP 5 0 rfl rfl rfl dX4_nowhere_21 ?_
  refine lv_icmp_ge (tgt := 35) hx hb dX4_nowhere_22 (by decide) (fun c9 => ?_) (fun c9 => ?_)
  · exact absurd c9 (by decide)
  refine lv_aload_n hx hb dX4_nowhere_25 rfl (lv_at hl 1 rfl) ?_
  refine lv_iload_n hx hb dX4_nowhere_26 rfl (lv_at hl 0 rfl) ?_
  refine lv_iconst (v := (-1)) hx hb dX4_nowhere_27 (by decide) ?_
  refine va_iast (D := (dC, dI)) (cl := vwCl) hx hb hK hP hD (zS0 hS) 5 0 rfl rfl (by unfold vp_in; decide) dX4_nowhere_28 (fun H9 locs hP hD hS1 => ?_)
  have hz : s.heap.size + 1 ≤ H9.size := Nat.le_trans hz hS1.1
  have hS := zSS hS hS1
  replace hP : va_P (dC, dI) vwCl [(mo, .inr (9, [th, .ref al, md, rf, kn])), (al, .inr (4, [mc, .ref ed, .int (nI cc)])), (ed, .inl (cO, 10, .inr (.inr (.inr (.inr ee))))), (a3, .inr (8, [.int 4, .ref wa3, .ref na3])), (wa3, .inl (cI, 4, .inl fw3)), (q5, .inl (cI, 4, .inl (upd (upd (upd (fun _ => 0) 0 (-1)) 1 (-1)) 2 (-1))))] H9 := hP
  replace hD : va_D A [(mo, .inr (9, [th, .ref al, md, rf, kn])), (al, .inr (4, [mc, .ref ed, .int (nI cc)])), (ed, .inl (cO, 10, .inr (.inr (.inr (.inr ee))))), (a3, .inr (8, [.int 4, .ref wa3, .ref na3])), (wa3, .inl (cI, 4, .inl fw3)), (q5, .inl (cI, 4, .inl (upd (upd (upd (fun _ => 0) 0 (-1)) 1 (-1)) 2 (-1))))] := hD
  refine lv_iinc (v := 3) (lv' := [(3, .int 3), (2, .ref q5), (0, .ref mo), (1, .int 3)]) hx hb dX4_nowhere_29 hl (k := 0) rfl (by decide) (by decide) rfl (fun ls hl => ?_)
  refine lv_goto (tgt := 19) hx hb dX4_nowhere_32 (by decide) ?_
  refine lv_iload_n hx hb dX4_nowhere_19 rfl (lv_at hl 0 rfl) ?_
  refine lv_aload_n hx hb dX4_nowhere_20 rfl (lv_at hl 1 rfl) ?_
  refine va_alen (D := (dC, dI)) (cl := vwCl) (v := 4) hx hb hK hP 5 0 rfl rfl rfl dX4_nowhere_21 ?_
  refine lv_icmp_ge (tgt := 35) hx hb dX4_nowhere_22 (by decide) (fun c9 => ?_) (fun c9 => ?_)
  · exact absurd c9 (by decide)
  refine lv_aload_n hx hb dX4_nowhere_25 rfl (lv_at hl 1 rfl) ?_
  refine lv_iload_n hx hb dX4_nowhere_26 rfl (lv_at hl 0 rfl) ?_
  refine lv_iconst (v := (-1)) hx hb dX4_nowhere_27 (by decide) ?_
  refine va_iast (D := (dC, dI)) (cl := vwCl) hx hb hK hP hD (zS0 hS) 5 0 rfl rfl (by unfold vp_in; decide) dX4_nowhere_28 (fun H10 locs hP hD hS1 => ?_)
  have hz : s.heap.size + 1 ≤ H10.size := Nat.le_trans hz hS1.1
  have hS := zSS hS hS1
  replace hP : va_P (dC, dI) vwCl [(mo, .inr (9, [th, .ref al, md, rf, kn])), (al, .inr (4, [mc, .ref ed, .int (nI cc)])), (ed, .inl (cO, 10, .inr (.inr (.inr (.inr ee))))), (a3, .inr (8, [.int 4, .ref wa3, .ref na3])), (wa3, .inl (cI, 4, .inl fw3)), (q5, .inl (cI, 4, .inl (upd (upd (upd (upd (fun _ => 0) 0 (-1)) 1 (-1)) 2 (-1)) 3 (-1))))] H10 := hP
  replace hD : va_D A [(mo, .inr (9, [th, .ref al, md, rf, kn])), (al, .inr (4, [mc, .ref ed, .int (nI cc)])), (ed, .inl (cO, 10, .inr (.inr (.inr (.inr ee))))), (a3, .inr (8, [.int 4, .ref wa3, .ref na3])), (wa3, .inl (cI, 4, .inl fw3)), (q5, .inl (cI, 4, .inl (upd (upd (upd (upd (fun _ => 0) 0 (-1)) 1 (-1)) 2 (-1)) 3 (-1))))] := hD
  refine lv_iinc (v := 4) (lv' := [(3, .int 4), (2, .ref q5), (0, .ref mo), (1, .int 3)]) hx hb dX4_nowhere_29 hl (k := 0) rfl (by decide) (by decide) rfl (fun ls hl => ?_)
  refine lv_goto (tgt := 19) hx hb dX4_nowhere_32 (by decide) ?_
  refine lv_iload_n hx hb dX4_nowhere_19 rfl (lv_at hl 0 rfl) ?_
  refine lv_aload_n hx hb dX4_nowhere_20 rfl (lv_at hl 1 rfl) ?_
  refine va_alen (D := (dC, dI)) (cl := vwCl) (v := 4) hx hb hK hP 5 0 rfl rfl rfl dX4_nowhere_21 ?_
  refine lv_icmp_ge (tgt := 35) hx hb dX4_nowhere_22 (by decide) (fun c9 => ?_) (fun c9 => ?_)
  rotate_left
  · exact absurd (by decide) c9
  refine lv_aload_n hx hb dX4_nowhere_35 rfl (lv_at hl 1 rfl) ?_
  have hP9 := hP.sub (ws' := [(mo, .inr (9, [th, .ref al, md, rf, kn])), (al, .inr (4, [mc, .ref ed, .int (nI cc)])), (ed, .inl (cO, 10, .inr (.inr (.inr (.inr ee))))), (a3, .inr (8, [.int 4, .ref wa3, .ref na3])), (wa3, .inl (cI, 4, .inl fw3)), (q5, .inl (cI, 4, .inl (upd (upd (upd (upd (fun _ => 0) 0 (-1)) 1 (-1)) 2 (-1)) 3 (-1))))]) [0, 1, 2, 3, 4, 5] rfl
  have hD9 := hD.sub (ws' := [(mo, .inr (9, [th, .ref al, md, rf, kn])), (al, .inr (4, [mc, .ref ed, .int (nI cc)])), (ed, .inl (cO, 10, .inr (.inr (.inr (.inr ee))))), (a3, .inr (8, [.int 4, .ref wa3, .ref na3])), (wa3, .inl (cI, 4, .inl fw3)), (q5, .inl (cI, 4, .inl (upd (upd (upd (upd (fun _ => 0) 0 (-1)) 1 (-1)) 2 (-1)) 3 (-1))))]) [0, 1, 2, 3, 4, 5] (by decide) rfl
  exact W.aret hx hb hr (by first | exact Or.inl ⟨_, rfl⟩ | exact Or.inr ⟨_, rfl⟩) (Or.inr ⟨_, rfl⟩) (fun t ht hW => ⟨⟨(), _, rfl, trivial, ⟨_, ⟨by rw [ht]; exact hP9, va_K.moved hW.alike hK, hD9, by rw [ht]; exact hz⟩⟩⟩, hS.F ht⟩) hS.2.2 dX4_nowhere_36

set_option maxHeartbeats 4000000 in
set_option maxRecDepth 100000 in
theorem k_aH3 (l : Launch) (dC : Nat → ClassId) (dI : Nat → Nat → Nat) (cI cB cR cO : ClassId) (zk : Nat → Nat) (mo al ed cc : Nat) (ee : Nat → Option Nat) (th md rf kn mc : Value) (a0 wa0 na0 a1 wa1 na1 a2 wa2 na2 a3 wa3 na3 : Nat) (fw0 fn0 fw1 fn1 fw2 fn2 fw3 fn3 : Nat → Int32) (ot : Nat) (fo : Nat → Int32) (sz : Nat) (hcc : 3 < cc) (hcc2 : cc ≤ 10) (hcc3 : cc = 4) (hw0 : ∀ i, i < 4 → fw0 i = 0) (hn0 : ∀ i, i < 4 → fn0 i = (-1)) (he0 : ee 0 = some a0) (hw1 : ∀ i, i < 4 → fw1 i = 3) (hn1 : ∀ i, i < 4 → fn1 i = 0) (he1 : ee 1 = some a1) (hw2 : ∀ i, i < 4 → fw2 i = 3) (hn2 : ∀ i, i < 4 → fn2 i = 1) (he2 : ee 2 = some a2) (hw3 : ∀ i, i < 4 → fw3 i = 0) (hn3 : ∀ i, i < 4 → fn3 i = -1) (he3 : ee 3 = some a3) (ho : ∀ i, i < 4 → fo i = 2) : Met l yX4_areHung wsX4_areHung ({ frames := 4, cells := 7, slots := 21, locals := 106 }) (va_Pc [.ref mo, .int 3, .ref ot] (zPre (dC, dI) (zT cI cB cR cO) zk [] [(mo, .inr (9, [th, .ref al, md, rf, kn])), (al, .inr (4, [mc, .ref ed, .int (nI cc)])), (ed, .inl (cO, 10, .inr (.inr (.inr (.inr ee))))), (a0, .inr (8, [.int 4, .ref wa0, .ref na0])), (wa0, .inl (cI, 4, .inl fw0)), (na0, .inl (cI, 4, .inl fn0)), (a1, .inr (8, [.int 4, .ref wa1, .ref na1])), (wa1, .inl (cI, 4, .inl fw1)), (na1, .inl (cI, 4, .inl fn1)), (a2, .inr (8, [.int 4, .ref wa2, .ref na2])), (wa2, .inl (cI, 4, .inl fw2)), (na2, .inl (cI, 4, .inl fn2)), (a3, .inr (8, [.int 4, .ref wa3, .ref na3])), (wa3, .inl (cI, 4, .inl fw3)), (na3, .inl (cI, 4, .inl fn3)), (ot, .inl (cI, 4, .inl fo))] sz)) (va_Qi (fun r (_ : Unit) => r = 1) (fun _ t => ∃ (fwz : Nat → Int32), ∃ (fnz : Nat → Int32), zEnd (dC, dI) (zT cI cB cR cO) (va_A [(mo, .inr (9, [th, .ref al, md, rf, kn])), (al, .inr (4, [mc, .ref ed, .int (nI cc)])), (ed, .inl (cO, 10, .inr (.inr (.inr (.inr ee))))), (a0, .inr (8, [.int 4, .ref wa0, .ref na0])), (wa0, .inl (cI, 4, .inl fw0)), (na0, .inl (cI, 4, .inl fn0)), (a1, .inr (8, [.int 4, .ref wa1, .ref na1])), (wa1, .inl (cI, 4, .inl fw1)), (na1, .inl (cI, 4, .inl fn1)), (a2, .inr (8, [.int 4, .ref wa2, .ref na2])), (wa2, .inl (cI, 4, .inl fw2)), (na2, .inl (cI, 4, .inl fn2)), (a3, .inr (8, [.int 4, .ref wa3, .ref na3])), (wa3, .inl (cI, 4, .inl fw3)), (na3, .inl (cI, 4, .inl fn3)), (ot, .inl (cI, 4, .inl fo))] sz) [(mo, .inr (9, [th, .ref al, md, rf, kn])), (al, .inr (4, [mc, .ref ed, .int (nI cc)])), (ed, .inl (cO, 10, .inr (.inr (.inr (.inr ee))))), (a0, .inr (8, [.int 4, .ref wa0, .ref na0])), (wa0, .inl (cI, 4, .inl fw0)), (na0, .inl (cI, 4, .inl fn0)), (a1, .inr (8, [.int 4, .ref wa1, .ref na1])), (wa1, .inl (cI, 4, .inl fw1)), (na1, .inl (cI, 4, .inl fn1)), (a2, .inr (8, [.int 4, .ref wa2, .ref na2])), (wa2, .inl (cI, 4, .inl fw2)), (na2, .inl (cI, 4, .inl fn2)), (a3, .inr (8, [.int 4, .ref wa3, .ref na3])), (wa3, .inl (cI, 4, .inl fwz)), (na3, .inl (cI, 4, .inl fnz)), (ot, .inl (cI, 4, .inl fo))] sz 3 t ∧ (∀ i, i < 4 → fwz i = 3) ∧ (∀ i, i < 4 → fnz i = 2)) (va_A [(mo, .inr (9, [th, .ref al, md, rf, kn])), (al, .inr (4, [mc, .ref ed, .int (nI cc)])), (ed, .inl (cO, 10, .inr (.inr (.inr (.inr ee))))), (a0, .inr (8, [.int 4, .ref wa0, .ref na0])), (wa0, .inl (cI, 4, .inl fw0)), (na0, .inl (cI, 4, .inl fn0)), (a1, .inr (8, [.int 4, .ref wa1, .ref na1])), (wa1, .inl (cI, 4, .inl fw1)), (na1, .inl (cI, 4, .inl fn1)), (a2, .inr (8, [.int 4, .ref wa2, .ref na2])), (wa2, .inl (cI, 4, .inl fw2)), (na2, .inl (cI, 4, .inl fn2)), (a3, .inr (8, [.int 4, .ref wa3, .ref na3])), (wa3, .inl (cI, 4, .inl fw3)), (na3, .inl (cI, 4, .inl fn3)), (ot, .inl (cI, 4, .inl fo))] sz)) 7 21 (va_A [(mo, .inr (9, [th, .ref al, md, rf, kn])), (al, .inr (4, [mc, .ref ed, .int (nI cc)])), (ed, .inl (cO, 10, .inr (.inr (.inr (.inr ee))))), (a0, .inr (8, [.int 4, .ref wa0, .ref na0])), (wa0, .inl (cI, 4, .inl fw0)), (na0, .inl (cI, 4, .inl fn0)), (a1, .inr (8, [.int 4, .ref wa1, .ref na1])), (wa1, .inl (cI, 4, .inl fw1)), (na1, .inl (cI, 4, .inl fn1)), (a2, .inr (8, [.int 4, .ref wa2, .ref na2])), (wa2, .inl (cI, 4, .inl fw2)), (na2, .inl (cI, 4, .inl fn2)), (a3, .inr (8, [.int 4, .ref wa3, .ref na3])), (wa3, .inl (cI, 4, .inl fw3)), (na3, .inl (cI, 4, .inl fn3)), (ot, .inl (cI, 4, .inl fo))] sz) := by
  refine Met.ofW (cc := cX4_areHung) (maxL := 7) (ret := (some .boolean)) (by decide) rfl ?_
  intro p e s mY args below meth c s₁ B hml hv
  obtain ⟨rfl, hsz, hP, hK, hD0, hZ⟩ := hv
  have hx := B.exec
  have hb := B.bytes
  have hr := B.returns
  have hts := atoms_spec (ws := wsX4_areHung) B.pre
  have hown : s.vm.findClass RX4 = some mY.cls := findClass_of_methodNamed B.named
  have hlocks := B.notSynchronized
  subst hsz
  have hD := hD0.self (sz := s.heap.size)
  generalize hAe : va_A [(mo, .inr (9, [th, .ref al, md, rf, kn])), (al, .inr (4, [mc, .ref ed, .int (nI cc)])), (ed, .inl (cO, 10, .inr (.inr (.inr (.inr ee))))), (a0, .inr (8, [.int 4, .ref wa0, .ref na0])), (wa0, .inl (cI, 4, .inl fw0)), (na0, .inl (cI, 4, .inl fn0)), (a1, .inr (8, [.int 4, .ref wa1, .ref na1])), (wa1, .inl (cI, 4, .inl fw1)), (na1, .inl (cI, 4, .inl fn1)), (a2, .inr (8, [.int 4, .ref wa2, .ref na2])), (wa2, .inl (cI, 4, .inl fw2)), (na2, .inl (cI, 4, .inl fn2)), (a3, .inr (8, [.int 4, .ref wa3, .ref na3])), (wa3, .inl (cI, 4, .inl fw3)), (na3, .inl (cI, 4, .inl fn3)), (ot, .inl (cI, 4, .inl fo))] s.heap.size = A at hD hZ ⊢
  have hA : ∀ q : Nat, s.heap.size ≤ q → A q := fun q h => by rw [← hAe]; exact Or.inr h
  have hS : va_S A s.heap s.heap [] := va_S.rf
  have hz : s.heap.size + 0 ≤ s.heap.size := Nat.le_refl _
  have hl := lv_entry ([.ref mo, .int 3, .ref ot]) (n := 7) (Nat.le_of_ble_eq_true rfl)
  rw [lg_entry_eq]
  generalize (lg_sl ([.ref mo, .int 3, .ref ot]) ++ List.replicate (7 - (lg_sl ([.ref mo, .int 3, .ref ot])).length) Slot.unset).toArray = ls at hl ⊢
  have hl : lv_has ls 7 [(0, .ref mo), (1, .int 3), (2, .ref ot)] := hl
  have hP : va_P (dC, dI) vwCl [(mo, .inr (9, [th, .ref al, md, rf, kn])), (al, .inr (4, [mc, .ref ed, .int (nI cc)])), (ed, .inl (cO, 10, .inr (.inr (.inr (.inr ee))))), (a0, .inr (8, [.int 4, .ref wa0, .ref na0])), (wa0, .inl (cI, 4, .inl fw0)), (na0, .inl (cI, 4, .inl fn0)), (a1, .inr (8, [.int 4, .ref wa1, .ref na1])), (wa1, .inl (cI, 4, .inl fw1)), (na1, .inl (cI, 4, .inl fn1)), (a2, .inr (8, [.int 4, .ref wa2, .ref na2])), (wa2, .inl (cI, 4, .inl fw2)), (na2, .inl (cI, 4, .inl fn2)), (a3, .inr (8, [.int 4, .ref wa3, .ref na3])), (wa3, .inl (cI, 4, .inl fw3)), (na3, .inl (cI, 4, .inl fn3)), (ot, .inl (cI, 4, .inl fo))] s.heap := hP
  have hD : va_D A [(mo, .inr (9, [th, .ref al, md, rf, kn])), (al, .inr (4, [mc, .ref ed, .int (nI cc)])), (ed, .inl (cO, 10, .inr (.inr (.inr (.inr ee))))), (a0, .inr (8, [.int 4, .ref wa0, .ref na0])), (wa0, .inl (cI, 4, .inl fw0)), (na0, .inl (cI, 4, .inl fn0)), (a1, .inr (8, [.int 4, .ref wa1, .ref na1])), (wa1, .inl (cI, 4, .inl fw1)), (na1, .inl (cI, 4, .inl fn1)), (a2, .inr (8, [.int 4, .ref wa2, .ref na2])), (wa2, .inl (cI, 4, .inl fw2)), (na2, .inl (cI, 4, .inl fn2)), (a3, .inr (8, [.int 4, .ref wa3, .ref na3])), (wa3, .inl (cI, 4, .inl fw3)), (na3, .inl (cI, 4, .inl fn3)), (ot, .inl (cI, 4, .inl fo))] := hD
  refine lv_aload_n hx hb dX4_areHung_0 rfl (lv_at hl 0 rfl) ?_
  refine va_get (D := (dC, dI)) (ci := 9) (v := .ref al) (C := RX4) (T := TX4) (N := 5) hx hb hts hi_X4_areHung_X4 hown hK hP 0 rfl rfl 1 (by decide) (hts (.fieldLink RX4 10 "DeeprowsModel" "rows" "Ljava/util/ArrayList;") (List.mem_cons_of_mem _ zw_1134)) (fun _ h9 => h9) rfl dX4_areHung_1 ?_
  refine lv_iload_n hx hb dX4_areHung_4 rfl (lv_at hl 1 rfl) ?_
  have hPc := hP.sub (ws' := [(al, .inr (4, [mc, .ref ed, .int (nI cc)])), (ed, .inl (cO, 10, .inr (.inr (.inr (.inr ee)))))]) [1, 2] rfl
  have hDc := hD.sub (ws' := [(al, .inr (4, [mc, .ref ed, .int (nI cc)])), (ed, .inl (cO, 10, .inr (.inr (.inr (.inr ee)))))]) [1, 2] (by decide) rfl
  have hFc := va_free (wc := [(al, .inr (4, [mc, .ref ed, .int (nI cc)])), (ed, .inl (cO, 10, .inr (.inr (.inr (.inr ee)))))]) hD hS hA [1, 2] rfl
  have hDv := hDc.self (sz := s.heap.size)
  have hpre := zpre (xs' := []) (av := [.ref al, .int 3]) hPc hK (hDc.weaken (fun _ _ _ h => h)) hZ hS hFc (fun r hr => by cases hr)
  refine va_callr (va_runV (As := [.int 3]) (rest := []) ⟨hx, hb, hml, hown, hts⟩ (k_get l dC dI cI cB cR cO zk al ed 3 cc 10 a3 ee mc s.heap.size (by omega) hcc2 (by decide) he3) (cwV 1 hts gX4_areHung_Jx4a65c_get_915e3 rfl rfl rfl (by decide +kernel) ⟨Nat.le_of_ble_eq_true rfl, Nat.le_of_ble_eq_true rfl⟩) ⟨zblind, (zrecv_4 hK hPc (q0 := 0) rfl), hpre⟩ rfl rfl hl.1 rfl (lv_room (Nat.le_of_ble_eq_true rfl)) dX4_areHung_5 ⟨Nat.le_of_ble_eq_true rfl, Nat.le_of_ble_eq_true rfl⟩) hS (fun q _ h => hFc q h) hFc (fun u r2 t H1 locs ht hvm hw hB hz1 hk1 hS => ?_)
  obtain ⟨⟨hP1, hK1, hD1, hz2⟩, her2⟩ := hB
  rw [ht] at hP1 hz2
  have hPD9 := va_join (wr := [(mo, .inr (9, [th, .ref al, md, rf, kn])), (a0, .inr (8, [.int 4, .ref wa0, .ref na0])), (wa0, .inl (cI, 4, .inl fw0)), (na0, .inl (cI, 4, .inl fn0)), (a1, .inr (8, [.int 4, .ref wa1, .ref na1])), (wa1, .inl (cI, 4, .inl fw1)), (na1, .inl (cI, 4, .inl fn1)), (a2, .inr (8, [.int 4, .ref wa2, .ref na2])), (wa2, .inl (cI, 4, .inl fw2)), (na2, .inl (cI, 4, .inl fn2)), (a3, .inr (8, [.int 4, .ref wa3, .ref na3])), (wa3, .inl (cI, 4, .inl fw3)), (na3, .inl (cI, 4, .inl fn3)), (ot, .inl (cI, 4, .inl fo))]) (w1 := [(al, .inr (4, [mc, .ref ed, .int (nI cc)])), (ed, .inl (cO, 10, .inr (.inr (.inr (.inr ee)))))]) hP hD [1, 2] [0, 3, 4, 5, 6, 7, 8, 9, 10, 11, 12, 13, 14, 15] rfl rfl (by decide) (by decide) hk1 hFc hP1 hD1
  clear hPc hDc hFc hDv hpre hP hD hP1 hK1 hD1
  obtain ⟨hP, hD⟩ := hPD9
  replace hz : s.heap.size + 0 ≤ H1.size := by omega
  clear hz2
  replace hP : va_P (dC, dI) vwCl [(mo, .inr (9, [th, .ref al, md, rf, kn])), (a0, .inr (8, [.int 4, .ref wa0, .ref na0])), (wa0, .inl (cI, 4, .inl fw0)), (na0, .inl (cI, 4, .inl fn0)), (a1, .inr (8, [.int 4, .ref wa1, .ref na1])), (wa1, .inl (cI, 4, .inl fw1)), (na1, .inl (cI, 4, .inl fn1)), (a2, .inr (8, [.int 4, .ref wa2, .ref na2])), (wa2, .inl (cI, 4, .inl fw2)), (na2, .inl (cI, 4, .inl fn2)), (a3, .inr (8, [.int 4, .ref wa3, .ref na3])), (wa3, .inl (cI, 4, .inl fw3)), (na3, .inl (cI, 4, .inl fn3)), (ot, .inl (cI, 4, .inl fo)), (al, .inr (4, [mc, .ref ed, .int (nI cc)])), (ed, .inl (cO, 10, .inr (.inr (.inr (.inr ee)))))] H1 := hP
  replace hD : va_D A [(mo, .inr (9, [th, .ref al, md, rf, kn])), (a0, .inr (8, [.int 4, .ref wa0, .ref na0])), (wa0, .inl (cI, 4, .inl fw0)), (na0, .inl (cI, 4, .inl fn0)), (a1, .inr (8, [.int 4, .ref wa1, .ref na1])), (wa1, .inl (cI, 4, .inl fw1)), (na1, .inl (cI, 4, .inl fn1)), (a2, .inr (8, [.int 4, .ref wa2, .ref na2])), (wa2, .inl (cI, 4, .inl fw2)), (na2, .inl (cI, 4, .inl fn2)), (a3, .inr (8, [.int 4, .ref wa3, .ref na3])), (wa3, .inl (cI, 4, .inl fw3)), (na3, .inl (cI, 4, .inl fn3)), (ot, .inl (cI, 4, .inl fo)), (al, .inr (4, [mc, .ref ed, .int (nI cc)])), (ed, .inl (cO, 10, .inr (.inr (.inr (.inr ee)))))] := hD
  refine W.widen (k := 0) (n := 0) (by omega) (by omega) ?_
  obtain rfl := her2.symm
  refine va_castE hx hb hown (hts (.classLink RX4 40 "DeeprowsModel$Row") (List.mem_cons_of_mem _ zw_1165)) (zrecv_8 hK hP (q0 := 10) rfl) dX4_areHung_8 ?_
  refine lv_astore_n (lv' := [(3, .ref a3), (0, .ref mo), (1, .int 3), (2, .ref ot)]) hx hb dX4_areHung_11 rfl hl (by decide) rfl (fun ls hl => ?_)
  refine lv_aload_n hx hb dX4_areHung_12 rfl (lv_at hl 0 rfl) ?_
  refine lv_aload_n hx hb dX4_areHung_13 rfl (lv_at hl 0 rfl) ?_
  have hPc := hP.sub (ws' := [(a3, .inr (8, [.int 4, .ref wa3, .ref na3])), (wa3, .inl (cI, 4, .inl fw3))]) [10, 11] rfl
  have hDc := hD.sub (ws' := [(a3, .inr (8, [.int 4, .ref wa3, .ref na3])), (wa3, .inl (cI, 4, .inl fw3))]) [10, 11] (by decide) rfl
  have hFc := va_free (wc := [(a3, .inr (8, [.int 4, .ref wa3, .ref na3])), (wa3, .inl (cI, 4, .inl fw3))]) hD hS hA [10, 11] rfl
  have hDv := hDc.self (sz := H1.size)
  have hpre := zpre (xs' := []) (av := [.ref a3]) hPc hK (hDc.weaken (fun _ _ _ h => h)) hZ hS hFc (fun r hr => by cases hr)
  refine va_calli (va_runV (As := []) (rest := [.ref a3]) ⟨hx, hb, hml, hown, hts⟩ (k_rlen l dC dI cI cB cR cO zk a3 wa3 na3 fw3 H1.size ) (cwV 0 hts gX4_areHung_X3_length rfl rfl rfl (by decide +kernel) ⟨Nat.le_of_ble_eq_true rfl, Nat.le_of_ble_eq_true rfl⟩) ⟨zblind, (zrecv_8 hK hPc (q0 := 0) rfl), hpre⟩ rfl rfl hl.1 rfl (lv_room (Nat.le_of_ble_eq_true rfl)) dX4_areHung_14 ⟨Nat.le_of_ble_eq_true rfl, Nat.le_of_ble_eq_true rfl⟩) hS (fun q _ h => hFc q h) hFc (fun r4 u t H3 locs ht hvm hw hB hz1 hk1 hS => ?_)
  obtain rfl : 4 = r4 := (show r4 = 4 from hw).symm
  obtain ⟨hP1, hK1, hD1, hz2⟩ := hB
  rw [ht] at hP1 hz2
  have hPD9 := va_join (wr := [(mo, .inr (9, [th, .ref al, md, rf, kn])), (a0, .inr (8, [.int 4, .ref wa0, .ref na0])), (wa0, .inl (cI, 4, .inl fw0)), (na0, .inl (cI, 4, .inl fn0)), (a1, .inr (8, [.int 4, .ref wa1, .ref na1])), (wa1, .inl (cI, 4, .inl fw1)), (na1, .inl (cI, 4, .inl fn1)), (a2, .inr (8, [.int 4, .ref wa2, .ref na2])), (wa2, .inl (cI, 4, .inl fw2)), (na2, .inl (cI, 4, .inl fn2)), (na3, .inl (cI, 4, .inl fn3)), (ot, .inl (cI, 4, .inl fo)), (al, .inr (4, [mc, .ref ed, .int (nI cc)])), (ed, .inl (cO, 10, .inr (.inr (.inr (.inr ee)))))]) (w1 := [(a3, .inr (8, [.int 4, .ref wa3, .ref na3])), (wa3, .inl (cI, 4, .inl fw3))]) hP hD [10, 11] [0, 1, 2, 3, 4, 5, 6, 7, 8, 9, 12, 13, 14, 15] rfl rfl (by decide) (by decide) hk1 hFc hP1 hD1
  clear hPc hDc hFc hDv hpre hP hD hP1 hK1 hD1
  obtain ⟨hP, hD⟩ := hPD9
  replace hz : s.heap.size + 0 ≤ H3.size := by omega
  clear hz2
  replace hP : va_P (dC, dI) vwCl [(mo, .inr (9, [th, .ref al, md, rf, kn])), (a0, .inr (8, [.int 4, .ref wa0, .ref na0])), (wa0, .inl (cI, 4, .inl fw0)), (na0, .inl (cI, 4, .inl fn0)), (a1, .inr (8, [.int 4, .ref wa1, .ref na1])), (wa1, .inl (cI, 4, .inl fw1)), (na1, .inl (cI, 4, .inl fn1)), (a2, .inr (8, [.int 4, .ref wa2, .ref na2])), (wa2, .inl (cI, 4, .inl fw2)), (na2, .inl (cI, 4, .inl fn2)), (na3, .inl (cI, 4, .inl fn3)), (ot, .inl (cI, 4, .inl fo)), (al, .inr (4, [mc, .ref ed, .int (nI cc)])), (ed, .inl (cO, 10, .inr (.inr (.inr (.inr ee))))), (a3, .inr (8, [.int 4, .ref wa3, .ref na3])), (wa3, .inl (cI, 4, .inl fw3))] H3 := hP
  replace hD : va_D A [(mo, .inr (9, [th, .ref al, md, rf, kn])), (a0, .inr (8, [.int 4, .ref wa0, .ref na0])), (wa0, .inl (cI, 4, .inl fw0)), (na0, .inl (cI, 4, .inl fn0)), (a1, .inr (8, [.int 4, .ref wa1, .ref na1])), (wa1, .inl (cI, 4, .inl fw1)), (na1, .inl (cI, 4, .inl fn1)), (a2, .inr (8, [.int 4, .ref wa2, .ref na2])), (wa2, .inl (cI, 4, .inl fw2)), (na2, .inl (cI, 4, .inl fn2)), (na3, .inl (cI, 4, .inl fn3)), (ot, .inl (cI, 4, .inl fo)), (al, .inr (4, [mc, .ref ed, .int (nI cc)])), (ed, .inl (cO, 10, .inr (.inr (.inr (.inr ee))))), (a3, .inr (8, [.int 4, .ref wa3, .ref na3])), (wa3, .inl (cI, 4, .inl fw3))] := hD
  refine W.widen (k := 0) (n := 0) (by omega) (by omega) ?_
  have hPc := hP.sub (ws' := [(a3, .inr (8, [.int 4, .ref wa3, .ref na3])), (wa3, .inl (cI, 4, .inl fw3)), (na3, .inl (cI, 4, .inl fn3))]) [14, 15, 10] rfl
  have hDc := hD.sub (ws' := [(a3, .inr (8, [.int 4, .ref wa3, .ref na3])), (wa3, .inl (cI, 4, .inl fw3)), (na3, .inl (cI, 4, .inl fn3))]) [14, 15, 10] (by decide) rfl
  have hFc := va_free (wc := [(a3, .inr (8, [.int 4, .ref wa3, .ref na3])), (wa3, .inl (cI, 4, .inl fw3)), (na3, .inl (cI, 4, .inl fn3))]) hD hS hA [14, 15, 10] rfl
  have hDv := hDc.self (sz := H3.size)
  have hpre := zpre (xs' := []) (av := [.ref a3, .int 4]) hPc hK (hDc.weaken (fun _ _ _ h => h)) hZ hS hFc (fun r hr => by cases hr)
  refine va_callr (va_runV (As := [.int 4]) (rest := []) ⟨hx, hb, hml, hown, hts⟩ (k_mtw l dC dI cI cB cR cO zk a3 wa3 na3 fw3 fn3 H3.size hw3 hn3) (cwV 1 hts gX4_areHung_X3_twin rfl rfl rfl (by decide +kernel) ⟨Nat.le_of_ble_eq_true rfl, Nat.le_of_ble_eq_true rfl⟩) ⟨zblind, (zrecv_8 hK hPc (q0 := 0) rfl), hpre⟩ rfl rfl hl.1 rfl (lv_room (Nat.le_of_ble_eq_true rfl)) dX4_areHung_17 ⟨Nat.le_of_ble_eq_true rfl, Nat.le_of_ble_eq_true rfl⟩) hS (fun q _ h => hFc q h) hFc (fun u r6 t H5 locs ht hvm hw hB hz1 hk1 hS => ?_)
  obtain ⟨wb7, nb8, fb9, gb10, ⟨hP1, hK1, hD1, hz2⟩⟩ := hB
  rw [ht] at hP1 hz2
  have hPD9 := va_join (wr := [(mo, .inr (9, [th, .ref al, md, rf, kn])), (a0, .inr (8, [.int 4, .ref wa0, .ref na0])), (wa0, .inl (cI, 4, .inl fw0)), (na0, .inl (cI, 4, .inl fn0)), (a1, .inr (8, [.int 4, .ref wa1, .ref na1])), (wa1, .inl (cI, 4, .inl fw1)), (na1, .inl (cI, 4, .inl fn1)), (a2, .inr (8, [.int 4, .ref wa2, .ref na2])), (wa2, .inl (cI, 4, .inl fw2)), (na2, .inl (cI, 4, .inl fn2)), (ot, .inl (cI, 4, .inl fo)), (al, .inr (4, [mc, .ref ed, .int (nI cc)])), (ed, .inl (cO, 10, .inr (.inr (.inr (.inr ee)))))]) (w1 := [(a3, .inr (8, [.int 4, .ref wa3, .ref na3])), (wa3, .inl (cI, 4, .inl fw3)), (na3, .inl (cI, 4, .inl fn3)), (r6, .inr (8, [.int 4, .ref wb7, .ref nb8])), (wb7, .inl (cI, 4, .inl fb9)), (nb8, .inl (cI, 4, .inl gb10))]) hP hD [14, 15, 10] [0, 1, 2, 3, 4, 5, 6, 7, 8, 9, 11, 12, 13] rfl rfl (by decide) (by decide) hk1 hFc hP1 hD1
  clear hPc hDc hFc hDv hpre hP hD hP1 hK1 hD1
  obtain ⟨hP, hD⟩ := hPD9
  replace hz : s.heap.size + 3 ≤ H5.size := by omega
  clear hz2
  replace hP : va_P (dC, dI) vwCl [(mo, .inr (9, [th, .ref al, md, rf, kn])), (a0, .inr (8, [.int 4, .ref wa0, .ref na0])), (wa0, .inl (cI, 4, .inl fw0)), (na0, .inl (cI, 4, .inl fn0)), (a1, .inr (8, [.int 4, .ref wa1, .ref na1])), (wa1, .inl (cI, 4, .inl fw1)), (na1, .inl (cI, 4, .inl fn1)), (a2, .inr (8, [.int 4, .ref wa2, .ref na2])), (wa2, .inl (cI, 4, .inl fw2)), (na2, .inl (cI, 4, .inl fn2)), (ot, .inl (cI, 4, .inl fo)), (al, .inr (4, [mc, .ref ed, .int (nI cc)])), (ed, .inl (cO, 10, .inr (.inr (.inr (.inr ee))))), (a3, .inr (8, [.int 4, .ref wa3, .ref na3])), (wa3, .inl (cI, 4, .inl fw3)), (na3, .inl (cI, 4, .inl fn3)), (r6, .inr (8, [.int 4, .ref wb7, .ref nb8])), (wb7, .inl (cI, 4, .inl fb9)), (nb8, .inl (cI, 4, .inl gb10))] H5 := hP
  replace hD : va_D A [(mo, .inr (9, [th, .ref al, md, rf, kn])), (a0, .inr (8, [.int 4, .ref wa0, .ref na0])), (wa0, .inl (cI, 4, .inl fw0)), (na0, .inl (cI, 4, .inl fn0)), (a1, .inr (8, [.int 4, .ref wa1, .ref na1])), (wa1, .inl (cI, 4, .inl fw1)), (na1, .inl (cI, 4, .inl fn1)), (a2, .inr (8, [.int 4, .ref wa2, .ref na2])), (wa2, .inl (cI, 4, .inl fw2)), (na2, .inl (cI, 4, .inl fn2)), (ot, .inl (cI, 4, .inl fo)), (al, .inr (4, [mc, .ref ed, .int (nI cc)])), (ed, .inl (cO, 10, .inr (.inr (.inr (.inr ee))))), (a3, .inr (8, [.int 4, .ref wa3, .ref na3])), (wa3, .inl (cI, 4, .inl fw3)), (na3, .inl (cI, 4, .inl fn3)), (r6, .inr (8, [.int 4, .ref wb7, .ref nb8])), (wb7, .inl (cI, 4, .inl fb9)), (nb8, .inl (cI, 4, .inl gb10))] := hD
  refine W.widen (k := 3) (n := 11) (by omega) (by omega) ?_
  refine lv_astore (lv' := [(4, .ref r6), (3, .ref a3), (0, .ref mo), (1, .int 3), (2, .ref ot)]) hx hb dX4_areHung_20 hl (by decide) rfl (fun ls hl => ?_)
  refine lv_iconst (v := 0) hx hb dX4_areHung_22 (by decide) ?_
  refine lv_istore (lv' := [(5, .int 0), (4, .ref r6), (3, .ref a3), (0, .ref mo), (1, .int 3), (2, .ref ot)]) hx hb dX4_areHung_23 hl (by decide) rfl (fun ls hl => ?_)
  refine lv_iload hx hb dX4_areHung_25 (lv_at hl 0 rfl) ?_
  refine lv_aload_n hx hb dX4_areHung_27 rfl (lv_at hl 5 rfl) ?_
  refine va_alen (D := (dC, dI)) (cl := vwCl) (v := 4) hx hb hK hP 10 0 rfl rfl rfl dX4_areHung_28 ?_
  refine lv_icmp_ge (tgt := 57) hx hb dX4_areHung_29 (by decide) (fun c9 => ?_) (fun c9 => ?_)
  · exact absurd c9 (by decide)
  refine lv_aload_n hx hb dX4_areHung_32 rfl (lv_at hl 5 rfl) ?_
  refine lv_iload hx hb dX4_areHung_33 (lv_at hl 0 rfl) ?_
  refine va_iald (D := (dC, dI)) (cl := vwCl) hx hb hK hP 10 0 rfl rfl (by unfold vp_in; decide) dX4_areHung_35 ?_
  refine lv_topi (fun v11 ev11 => ?_)
  obtain rfl : v11 = 2 := ev11.trans (ho 0 (by decide))
  refine lv_iconst (v := (-1)) hx hb dX4_areHung_36 (by decide) ?_
  refine lv_icmp_eq (tgt := 51) hx hb dX4_areHung_37 (by decide) (fun c9 => ?_) (fun c9 => ?_)
  · exact absurd c9 (by decide)
  refine lv_aload_n hx hb dX4_areHung_40 rfl (lv_at hl 2 rfl) ?_
  refine lv_iload hx hb dX4_areHung_41 (lv_at hl 0 rfl) ?_
  refine lv_iconst (v := 3) hx hb dX4_areHung_43 (by decide) ?_
  refine lv_aload_n hx hb dX4_areHung_44 rfl (lv_at hl 5 rfl) ?_
  refine lv_iload hx hb dX4_areHung_45 (lv_at hl 0 rfl) ?_
  refine va_iald (D := (dC, dI)) (cl := vwCl) hx hb hK hP 10 0 rfl rfl (by unfold vp_in; decide) dX4_areHung_47 ?_
  refine lv_topi (fun v12 ev12 => ?_)
  obtain rfl : v12 = 2 := ev12.trans (ho 0 (by decide))
  have hPc := hP.sub (ws' := [(a3, .inr (8, [.int 4, .ref wa3, .ref na3])), (wa3, .inl (cI, 4, .inl fw3)), (na3, .inl (cI, 4, .inl fn3))]) [13, 14, 15] rfl
  have hDc := hD.sub (ws' := [(a3, .inr (8, [.int 4, .ref wa3, .ref na3])), (wa3, .inl (cI, 4, .inl fw3)), (na3, .inl (cI, 4, .inl fn3))]) [13, 14, 15] (by decide) rfl
  have hFc := va_free (wc := [(a3, .inr (8, [.int 4, .ref wa3, .ref na3])), (wa3, .inl (cI, 4, .inl fw3)), (na3, .inl (cI, 4, .inl fn3))]) hD hS hA [13, 14, 15] rfl
  have hDv := hDc.self (sz := H5.size)
  have hpre := zpre (xs' := []) (av := [.ref a3, .int 0, .int 3, .int 2]) hPc hK (hDc.weaken (fun _ _ _ h => h)) hZ hS hFc (fun r hr => by cases hr)
  refine va_callv (va_runV (As := [.int 0, .int 3, .int 2]) (rest := []) ⟨hx, hb, hml, hown, hts⟩ (k_mp0 l dC dI cI cB cR cO zk a3 wa3 na3 fw3 fn3 3 2 H5.size ) (cwV 3 hts gX4_areHung_X3_put rfl rfl rfl (by decide +kernel) ⟨Nat.le_of_ble_eq_true rfl, Nat.le_of_ble_eq_true rfl⟩) ⟨zblind, (zrecv_8 hK hPc (q0 := 0) rfl), hpre⟩ rfl rfl hl.1 rfl (lv_room (Nat.le_of_ble_eq_true rfl)) dX4_areHung_48 ⟨Nat.le_of_ble_eq_true rfl, Nat.le_of_ble_eq_true rfl⟩) hS (fun q _ h => hFc q h) hFc (fun u t H13 locs ht hvm hw hB hz1 hk1 hS => ?_)
  obtain ⟨hP1, hK1, hD1, hz2⟩ := hB
  rw [ht] at hP1 hz2
  have hPD9 := va_join (wr := [(mo, .inr (9, [th, .ref al, md, rf, kn])), (a0, .inr (8, [.int 4, .ref wa0, .ref na0])), (wa0, .inl (cI, 4, .inl fw0)), (na0, .inl (cI, 4, .inl fn0)), (a1, .inr (8, [.int 4, .ref wa1, .ref na1])), (wa1, .inl (cI, 4, .inl fw1)), (na1, .inl (cI, 4, .inl fn1)), (a2, .inr (8, [.int 4, .ref wa2, .ref na2])), (wa2, .inl (cI, 4, .inl fw2)), (na2, .inl (cI, 4, .inl fn2)), (ot, .inl (cI, 4, .inl fo)), (al, .inr (4, [mc, .ref ed, .int (nI cc)])), (ed, .inl (cO, 10, .inr (.inr (.inr (.inr ee))))), (r6, .inr (8, [.int 4, .ref wb7, .ref nb8])), (wb7, .inl (cI, 4, .inl fb9)), (nb8, .inl (cI, 4, .inl gb10))]) (w1 := [(a3, .inr (8, [.int 4, .ref wa3, .ref na3])), (wa3, .inl (cI, 4, .inl (upd fw3 0 3))), (na3, .inl (cI, 4, .inl (upd fn3 0 2)))]) hP hD [13, 14, 15] [0, 1, 2, 3, 4, 5, 6, 7, 8, 9, 10, 11, 12, 16, 17, 18] rfl rfl (by decide) (by decide) hk1 hFc hP1 hD1
  clear hPc hDc hFc hDv hpre hP hD hP1 hK1 hD1
  obtain ⟨hP, hD⟩ := hPD9
  replace hz : s.heap.size + 3 ≤ H13.size := by omega
  clear hz2
  replace hP : va_P (dC, dI) vwCl [(mo, .inr (9, [th, .ref al, md, rf, kn])), (a0, .inr (8, [.int 4, .ref wa0, .ref na0])), (wa0, .inl (cI, 4, .inl fw0)), (na0, .inl (cI, 4, .inl fn0)), (a1, .inr (8, [.int 4, .ref wa1, .ref na1])), (wa1, .inl (cI, 4, .inl fw1)), (na1, .inl (cI, 4, .inl fn1)), (a2, .inr (8, [.int 4, .ref wa2, .ref na2])), (wa2, .inl (cI, 4, .inl fw2)), (na2, .inl (cI, 4, .inl fn2)), (ot, .inl (cI, 4, .inl fo)), (al, .inr (4, [mc, .ref ed, .int (nI cc)])), (ed, .inl (cO, 10, .inr (.inr (.inr (.inr ee))))), (r6, .inr (8, [.int 4, .ref wb7, .ref nb8])), (wb7, .inl (cI, 4, .inl fb9)), (nb8, .inl (cI, 4, .inl gb10)), (a3, .inr (8, [.int 4, .ref wa3, .ref na3])), (wa3, .inl (cI, 4, .inl (upd fw3 0 3))), (na3, .inl (cI, 4, .inl (upd fn3 0 2)))] H13 := hP
  replace hD : va_D A [(mo, .inr (9, [th, .ref al, md, rf, kn])), (a0, .inr (8, [.int 4, .ref wa0, .ref na0])), (wa0, .inl (cI, 4, .inl fw0)), (na0, .inl (cI, 4, .inl fn0)), (a1, .inr (8, [.int 4, .ref wa1, .ref na1])), (wa1, .inl (cI, 4, .inl fw1)), (na1, .inl (cI, 4, .inl fn1)), (a2, .inr (8, [.int 4, .ref wa2, .ref na2])), (wa2, .inl (cI, 4, .inl fw2)), (na2, .inl (cI, 4, .inl fn2)), (ot, .inl (cI, 4, .inl fo)), (al, .inr (4, [mc, .ref ed, .int (nI cc)])), (ed, .inl (cO, 10, .inr (.inr (.inr (.inr ee))))), (r6, .inr (8, [.int 4, .ref wb7, .ref nb8])), (wb7, .inl (cI, 4, .inl fb9)), (nb8, .inl (cI, 4, .inl gb10)), (a3, .inr (8, [.int 4, .ref wa3, .ref na3])), (wa3, .inl (cI, 4, .inl (upd fw3 0 3))), (na3, .inl (cI, 4, .inl (upd fn3 0 2)))] := hD
  refine W.widen (k := 3) (n := 11) (by omega) (by omega) ?_
  refine lv_iinc (v := 1) (lv' := [(5, .int 1), (4, .ref r6), (3, .ref a3), (0, .ref mo), (1, .int 3), (2, .ref ot)]) hx hb dX4_areHung_51 hl (k := 0) rfl (by decide) (by decide) rfl (fun ls hl => ?_)
  refine lv_goto (tgt := 25) hx hb dX4_areHung_54 (by decide) ?_
  refine lv_iload hx hb dX4_areHung_25 (lv_at hl 0 rfl) ?_
  refine lv_aload_n hx hb dX4_areHung_27 rfl (lv_at hl 5 rfl) ?_
  refine va_alen (D := (dC, dI)) (cl := vwCl) (v := 4) hx hb hK hP 10 0 rfl rfl rfl dX4_areHung_28 ?_
  refine lv_icmp_ge (tgt := 57) hx hb dX4_areHung_29 (by decide) (fun c9 => ?_) (fun c9 => ?_)
  · exact absurd c9 (by decide)
  refine lv_aload_n hx hb dX4_areHung_32 rfl (lv_at hl 5 rfl) ?_
  refine lv_iload hx hb dX4_areHung_33 (lv_at hl 0 rfl) ?_
  refine va_iald (D := (dC, dI)) (cl := vwCl) hx hb hK hP 10 0 rfl rfl (by unfold vp_in; decide) dX4_areHung_35 ?_
  refine lv_topi (fun v15 ev15 => ?_)
  obtain rfl : v15 = 2 := ev15.trans (ho 1 (by decide))
  refine lv_iconst (v := (-1)) hx hb dX4_areHung_36 (by decide) ?_
  refine lv_icmp_eq (tgt := 51) hx hb dX4_areHung_37 (by decide) (fun c9 => ?_) (fun c9 => ?_)
  · exact absurd c9 (by decide)
  refine lv_aload_n hx hb dX4_areHung_40 rfl (lv_at hl 2 rfl) ?_
  refine lv_iload hx hb dX4_areHung_41 (lv_at hl 0 rfl) ?_
  refine lv_iconst (v := 3) hx hb dX4_areHung_43 (by decide) ?_
  refine lv_aload_n hx hb dX4_areHung_44 rfl (lv_at hl 5 rfl) ?_
  refine lv_iload hx hb dX4_areHung_45 (lv_at hl 0 rfl) ?_
  refine va_iald (D := (dC, dI)) (cl := vwCl) hx hb hK hP 10 0 rfl rfl (by unfold vp_in; decide) dX4_areHung_47 ?_
  refine lv_topi (fun v16 ev16 => ?_)
  obtain rfl : v16 = 2 := ev16.trans (ho 1 (by decide))
  have hPc := hP.sub (ws' := [(a3, .inr (8, [.int 4, .ref wa3, .ref na3])), (wa3, .inl (cI, 4, .inl (upd fw3 0 3))), (na3, .inl (cI, 4, .inl (upd fn3 0 2)))]) [16, 17, 18] rfl
  have hDc := hD.sub (ws' := [(a3, .inr (8, [.int 4, .ref wa3, .ref na3])), (wa3, .inl (cI, 4, .inl (upd fw3 0 3))), (na3, .inl (cI, 4, .inl (upd fn3 0 2)))]) [16, 17, 18] (by decide) rfl
  have hFc := va_free (wc := [(a3, .inr (8, [.int 4, .ref wa3, .ref na3])), (wa3, .inl (cI, 4, .inl (upd fw3 0 3))), (na3, .inl (cI, 4, .inl (upd fn3 0 2)))]) hD hS hA [16, 17, 18] rfl
  have hDv := hDc.self (sz := H13.size)
  have hpre := zpre (xs' := []) (av := [.ref a3, .int 1, .int 3, .int 2]) hPc hK (hDc.weaken (fun _ _ _ h => h)) hZ hS hFc (fun r hr => by cases hr)
  refine va_callv (va_runV (As := [.int 1, .int 3, .int 2]) (rest := []) ⟨hx, hb, hml, hown, hts⟩ (k_mp1 l dC dI cI cB cR cO zk a3 wa3 na3 (upd fw3 0 3) (upd fn3 0 2) 3 2 H13.size ) (cwV 3 hts gX4_areHung_X3_put rfl rfl rfl (by decide +kernel) ⟨Nat.le_of_ble_eq_true rfl, Nat.le_of_ble_eq_true rfl⟩) ⟨zblind, (zrecv_8 hK hPc (q0 := 0) rfl), hpre⟩ rfl rfl hl.1 rfl (lv_room (Nat.le_of_ble_eq_true rfl)) dX4_areHung_48 ⟨Nat.le_of_ble_eq_true rfl, Nat.le_of_ble_eq_true rfl⟩) hS (fun q _ h => hFc q h) hFc (fun u t H17 locs ht hvm hw hB hz1 hk1 hS => ?_)
  obtain ⟨hP1, hK1, hD1, hz2⟩ := hB
  rw [ht] at hP1 hz2
  have hPD9 := va_join (wr := [(mo, .inr (9, [th, .ref al, md, rf, kn])), (a0, .inr (8, [.int 4, .ref wa0, .ref na0])), (wa0, .inl (cI, 4, .inl fw0)), (na0, .inl (cI, 4, .inl fn0)), (a1, .inr (8, [.int 4, .ref wa1, .ref na1])), (wa1, .inl (cI, 4, .inl fw1)), (na1, .inl (cI, 4, .inl fn1)), (a2, .inr (8, [.int 4, .ref wa2, .ref na2])), (wa2, .inl (cI, 4, .inl fw2)), (na2, .inl (cI, 4, .inl fn2)), (ot, .inl (cI, 4, .inl fo)), (al, .inr (4, [mc, .ref ed, .int (nI cc)])), (ed, .inl (cO, 10, .inr (.inr (.inr (.inr ee))))), (r6, .inr (8, [.int 4, .ref wb7, .ref nb8])), (wb7, .inl (cI, 4, .inl fb9)), (nb8, .inl (cI, 4, .inl gb10))]) (w1 := [(a3, .inr (8, [.int 4, .ref wa3, .ref na3])), (wa3, .inl (cI, 4, .inl (upd (upd fw3 0 3) 1 3))), (na3, .inl (cI, 4, .inl (upd (upd fn3 0 2) 1 2)))]) hP hD [16, 17, 18] [0, 1, 2, 3, 4, 5, 6, 7, 8, 9, 10, 11, 12, 13, 14, 15] rfl rfl (by decide) (by decide) hk1 hFc hP1 hD1
  clear hPc hDc hFc hDv hpre hP hD hP1 hK1 hD1
  obtain ⟨hP, hD⟩ := hPD9
  replace hz : s.heap.size + 3 ≤ H17.size := by omega
  clear hz2
  replace hP : va_P (dC, dI) vwCl [(mo, .inr (9, [th, .ref al, md, rf, kn])), (a0, .inr (8, [.int 4, .ref wa0, .ref na0])), (wa0, .inl (cI, 4, .inl fw0)), (na0, .inl (cI, 4, .inl fn0)), (a1, .inr (8, [.int 4, .ref wa1, .ref na1])), (wa1, .inl (cI, 4, .inl fw1)), (na1, .inl (cI, 4, .inl fn1)), (a2, .inr (8, [.int 4, .ref wa2, .ref na2])), (wa2, .inl (cI, 4, .inl fw2)), (na2, .inl (cI, 4, .inl fn2)), (ot, .inl (cI, 4, .inl fo)), (al, .inr (4, [mc, .ref ed, .int (nI cc)])), (ed, .inl (cO, 10, .inr (.inr (.inr (.inr ee))))), (r6, .inr (8, [.int 4, .ref wb7, .ref nb8])), (wb7, .inl (cI, 4, .inl fb9)), (nb8, .inl (cI, 4, .inl gb10)), (a3, .inr (8, [.int 4, .ref wa3, .ref na3])), (wa3, .inl (cI, 4, .inl (upd (upd fw3 0 3) 1 3))), (na3, .inl (cI, 4, .inl (upd (upd fn3 0 2) 1 2)))] H17 := hP
  replace hD : va_D A [(mo, .inr (9, [th, .ref al, md, rf, kn])), (a0, .inr (8, [.int 4, .ref wa0, .ref na0])), (wa0, .inl (cI, 4, .inl fw0)), (na0, .inl (cI, 4, .inl fn0)), (a1, .inr (8, [.int 4, .ref wa1, .ref na1])), (wa1, .inl (cI, 4, .inl fw1)), (na1, .inl (cI, 4, .inl fn1)), (a2, .inr (8, [.int 4, .ref wa2, .ref na2])), (wa2, .inl (cI, 4, .inl fw2)), (na2, .inl (cI, 4, .inl fn2)), (ot, .inl (cI, 4, .inl fo)), (al, .inr (4, [mc, .ref ed, .int (nI cc)])), (ed, .inl (cO, 10, .inr (.inr (.inr (.inr ee))))), (r6, .inr (8, [.int 4, .ref wb7, .ref nb8])), (wb7, .inl (cI, 4, .inl fb9)), (nb8, .inl (cI, 4, .inl gb10)), (a3, .inr (8, [.int 4, .ref wa3, .ref na3])), (wa3, .inl (cI, 4, .inl (upd (upd fw3 0 3) 1 3))), (na3, .inl (cI, 4, .inl (upd (upd fn3 0 2) 1 2)))] := hD
  refine W.widen (k := 3) (n := 11) (by omega) (by omega) ?_
  refine lv_iinc (v := 2) (lv' := [(5, .int 2), (4, .ref r6), (3, .ref a3), (0, .ref mo), (1, .int 3), (2, .ref ot)]) hx hb dX4_areHung_51 hl (k := 0) rfl (by decide) (by decide) rfl (fun ls hl => ?_)
  refine lv_goto (tgt := 25) hx hb dX4_areHung_54 (by decide) ?_
  refine lv_iload hx hb dX4_areHung_25 (lv_at hl 0 rfl) ?_
  refine lv_aload_n hx hb dX4_areHung_27 rfl (lv_at hl 5 rfl) ?_
  refine va_alen (D := (dC, dI)) (cl := vwCl) (v := 4) hx hb hK hP 10 0 rfl rfl rfl dX4_areHung_28 ?_
  refine lv_icmp_ge (tgt := 57) hx hb dX4_areHung_29 (by decide) (fun c9 => ?_) (fun c9 => ?_)
  · exact absurd c9 (by decide)
  refine lv_aload_n hx hb dX4_areHung_32 rfl (lv_at hl 5 rfl) ?_
  refine lv_iload hx hb dX4_areHung_33 (lv_at hl 0 rfl) ?_
  refine va_iald (D := (dC, dI)) (cl := vwCl) hx hb hK hP 10 0 rfl rfl (by unfold vp_in; decide) dX4_areHung_35 ?_
  refine lv_topi (fun v19 ev19 => ?_)
  obtain rfl : v19 = 2 := ev19.trans (ho 2 (by decide))
  refine lv_iconst (v := (-1)) hx hb dX4_areHung_36 (by decide) ?_
  refine lv_icmp_eq (tgt := 51) hx hb dX4_areHung_37 (by decide) (fun c9 => ?_) (fun c9 => ?_)
  · exact absurd c9 (by decide)
  refine lv_aload_n hx hb dX4_areHung_40 rfl (lv_at hl 2 rfl) ?_
  refine lv_iload hx hb dX4_areHung_41 (lv_at hl 0 rfl) ?_
  refine lv_iconst (v := 3) hx hb dX4_areHung_43 (by decide) ?_
  refine lv_aload_n hx hb dX4_areHung_44 rfl (lv_at hl 5 rfl) ?_
  refine lv_iload hx hb dX4_areHung_45 (lv_at hl 0 rfl) ?_
  refine va_iald (D := (dC, dI)) (cl := vwCl) hx hb hK hP 10 0 rfl rfl (by unfold vp_in; decide) dX4_areHung_47 ?_
  refine lv_topi (fun v20 ev20 => ?_)
  obtain rfl : v20 = 2 := ev20.trans (ho 2 (by decide))
  have hPc := hP.sub (ws' := [(a3, .inr (8, [.int 4, .ref wa3, .ref na3])), (wa3, .inl (cI, 4, .inl (upd (upd fw3 0 3) 1 3))), (na3, .inl (cI, 4, .inl (upd (upd fn3 0 2) 1 2)))]) [16, 17, 18] rfl
  have hDc := hD.sub (ws' := [(a3, .inr (8, [.int 4, .ref wa3, .ref na3])), (wa3, .inl (cI, 4, .inl (upd (upd fw3 0 3) 1 3))), (na3, .inl (cI, 4, .inl (upd (upd fn3 0 2) 1 2)))]) [16, 17, 18] (by decide) rfl
  have hFc := va_free (wc := [(a3, .inr (8, [.int 4, .ref wa3, .ref na3])), (wa3, .inl (cI, 4, .inl (upd (upd fw3 0 3) 1 3))), (na3, .inl (cI, 4, .inl (upd (upd fn3 0 2) 1 2)))]) hD hS hA [16, 17, 18] rfl
  have hDv := hDc.self (sz := H17.size)
  have hpre := zpre (xs' := []) (av := [.ref a3, .int 2, .int 3, .int 2]) hPc hK (hDc.weaken (fun _ _ _ h => h)) hZ hS hFc (fun r hr => by cases hr)
  refine va_callv (va_runV (As := [.int 2, .int 3, .int 2]) (rest := []) ⟨hx, hb, hml, hown, hts⟩ (k_mp2 l dC dI cI cB cR cO zk a3 wa3 na3 (upd (upd fw3 0 3) 1 3) (upd (upd fn3 0 2) 1 2) 3 2 H17.size ) (cwV 3 hts gX4_areHung_X3_put rfl rfl rfl (by decide +kernel) ⟨Nat.le_of_ble_eq_true rfl, Nat.le_of_ble_eq_true rfl⟩) ⟨zblind, (zrecv_8 hK hPc (q0 := 0) rfl), hpre⟩ rfl rfl hl.1 rfl (lv_room (Nat.le_of_ble_eq_true rfl)) dX4_areHung_48 ⟨Nat.le_of_ble_eq_true rfl, Nat.le_of_ble_eq_true rfl⟩) hS (fun q _ h => hFc q h) hFc (fun u t H21 locs ht hvm hw hB hz1 hk1 hS => ?_)
  obtain ⟨hP1, hK1, hD1, hz2⟩ := hB
  rw [ht] at hP1 hz2
  have hPD9 := va_join (wr := [(mo, .inr (9, [th, .ref al, md, rf, kn])), (a0, .inr (8, [.int 4, .ref wa0, .ref na0])), (wa0, .inl (cI, 4, .inl fw0)), (na0, .inl (cI, 4, .inl fn0)), (a1, .inr (8, [.int 4, .ref wa1, .ref na1])), (wa1, .inl (cI, 4, .inl fw1)), (na1, .inl (cI, 4, .inl fn1)), (a2, .inr (8, [.int 4, .ref wa2, .ref na2])), (wa2, .inl (cI, 4, .inl fw2)), (na2, .inl (cI, 4, .inl fn2)), (ot, .inl (cI, 4, .inl fo)), (al, .inr (4, [mc, .ref ed, .int (nI cc)])), (ed, .inl (cO, 10, .inr (.inr (.inr (.inr ee))))), (r6, .inr (8, [.int 4, .ref wb7, .ref nb8])), (wb7, .inl (cI, 4, .inl fb9)), (nb8, .inl (cI, 4, .inl gb10))]) (w1 := [(a3, .inr (8, [.int 4, .ref wa3, .ref na3])), (wa3, .inl (cI, 4, .inl (upd (upd (upd fw3 0 3) 1 3) 2 3))), (na3, .inl (cI, 4, .inl (upd (upd (upd fn3 0 2) 1 2) 2 2)))]) hP hD [16, 17, 18] [0, 1, 2, 3, 4, 5, 6, 7, 8, 9, 10, 11, 12, 13, 14, 15] rfl rfl (by decide) (by decide) hk1 hFc hP1 hD1
  clear hPc hDc hFc hDv hpre hP hD hP1 hK1 hD1
  obtain ⟨hP, hD⟩ := hPD9
  replace hz : s.heap.size + 3 ≤ H21.size := by omega
  clear hz2
  replace hP : va_P (dC, dI) vwCl [(mo, .inr (9, [th, .ref al, md, rf, kn])), (a0, .inr (8, [.int 4, .ref wa0, .ref na0])), (wa0, .inl (cI, 4, .inl fw0)), (na0, .inl (cI, 4, .inl fn0)), (a1, .inr (8, [.int 4, .ref wa1, .ref na1])), (wa1, .inl (cI, 4, .inl fw1)), (na1, .inl (cI, 4, .inl fn1)), (a2, .inr (8, [.int 4, .ref wa2, .ref na2])), (wa2, .inl (cI, 4, .inl fw2)), (na2, .inl (cI, 4, .inl fn2)), (ot, .inl (cI, 4, .inl fo)), (al, .inr (4, [mc, .ref ed, .int (nI cc)])), (ed, .inl (cO, 10, .inr (.inr (.inr (.inr ee))))), (r6, .inr (8, [.int 4, .ref wb7, .ref nb8])), (wb7, .inl (cI, 4, .inl fb9)), (nb8, .inl (cI, 4, .inl gb10)), (a3, .inr (8, [.int 4, .ref wa3, .ref na3])), (wa3, .inl (cI, 4, .inl (upd (upd (upd fw3 0 3) 1 3) 2 3))), (na3, .inl (cI, 4, .inl (upd (upd (upd fn3 0 2) 1 2) 2 2)))] H21 := hP
  replace hD : va_D A [(mo, .inr (9, [th, .ref al, md, rf, kn])), (a0, .inr (8, [.int 4, .ref wa0, .ref na0])), (wa0, .inl (cI, 4, .inl fw0)), (na0, .inl (cI, 4, .inl fn0)), (a1, .inr (8, [.int 4, .ref wa1, .ref na1])), (wa1, .inl (cI, 4, .inl fw1)), (na1, .inl (cI, 4, .inl fn1)), (a2, .inr (8, [.int 4, .ref wa2, .ref na2])), (wa2, .inl (cI, 4, .inl fw2)), (na2, .inl (cI, 4, .inl fn2)), (ot, .inl (cI, 4, .inl fo)), (al, .inr (4, [mc, .ref ed, .int (nI cc)])), (ed, .inl (cO, 10, .inr (.inr (.inr (.inr ee))))), (r6, .inr (8, [.int 4, .ref wb7, .ref nb8])), (wb7, .inl (cI, 4, .inl fb9)), (nb8, .inl (cI, 4, .inl gb10)), (a3, .inr (8, [.int 4, .ref wa3, .ref na3])), (wa3, .inl (cI, 4, .inl (upd (upd (upd fw3 0 3) 1 3) 2 3))), (na3, .inl (cI, 4, .inl (upd (upd (upd fn3 0 2) 1 2) 2 2)))] := hD
  refine W.widen (k := 3) (n := 11) (by omega) (by omega) ?_
  refine lv_iinc (v := 3) (lv' := [(5, .int 3), (4, .ref r6), (3, .ref a3), (0, .ref mo), (1, .int 3), (2, .ref ot)]) hx hb dX4_areHung_51 hl (k := 0) rfl (by decide) (by decide) rfl (fun ls hl => ?_)
  refine lv_goto (tgt := 25) hx hb dX4_areHung_54 (by decide) ?_
  refine lv_iload hx hb dX4_areHung_25 (lv_at hl 0 rfl) ?_
  refine lv_aload_n hx hb dX4_areHung_27 rfl (lv_at hl 5 rfl) ?_
  refine va_alen (D := (dC, dI)) (cl := vwCl) (v := 4) hx hb hK hP 10 0 rfl rfl rfl dX4_areHung_28 ?_
  refine lv_icmp_ge (tgt := 57) hx hb dX4_areHung_29 (by decide) (fun c9 => ?_) (fun c9 => ?_)
  · exact absurd c9 (by decide)
  refine lv_aload_n hx hb dX4_areHung_32 rfl (lv_at hl 5 rfl) ?_
  refine lv_iload hx hb dX4_areHung_33 (lv_at hl 0 rfl) ?_
  refine va_iald (D := (dC, dI)) (cl := vwCl) hx hb hK hP 10 0 rfl rfl (by unfold vp_in; decide) dX4_areHung_35 ?_
  refine lv_topi (fun v23 ev23 => ?_)
  obtain rfl : v23 = 2 := ev23.trans (ho 3 (by decide))
  refine lv_iconst (v := (-1)) hx hb dX4_areHung_36 (by decide) ?_
  refine lv_icmp_eq (tgt := 51) hx hb dX4_areHung_37 (by decide) (fun c9 => ?_) (fun c9 => ?_)
  · exact absurd c9 (by decide)
  refine lv_aload_n hx hb dX4_areHung_40 rfl (lv_at hl 2 rfl) ?_
  refine lv_iload hx hb dX4_areHung_41 (lv_at hl 0 rfl) ?_
  refine lv_iconst (v := 3) hx hb dX4_areHung_43 (by decide) ?_
  refine lv_aload_n hx hb dX4_areHung_44 rfl (lv_at hl 5 rfl) ?_
  refine lv_iload hx hb dX4_areHung_45 (lv_at hl 0 rfl) ?_
  refine va_iald (D := (dC, dI)) (cl := vwCl) hx hb hK hP 10 0 rfl rfl (by unfold vp_in; decide) dX4_areHung_47 ?_
  refine lv_topi (fun v24 ev24 => ?_)
  obtain rfl : v24 = 2 := ev24.trans (ho 3 (by decide))
  have hPc := hP.sub (ws' := [(a3, .inr (8, [.int 4, .ref wa3, .ref na3])), (wa3, .inl (cI, 4, .inl (upd (upd (upd fw3 0 3) 1 3) 2 3))), (na3, .inl (cI, 4, .inl (upd (upd (upd fn3 0 2) 1 2) 2 2)))]) [16, 17, 18] rfl
  have hDc := hD.sub (ws' := [(a3, .inr (8, [.int 4, .ref wa3, .ref na3])), (wa3, .inl (cI, 4, .inl (upd (upd (upd fw3 0 3) 1 3) 2 3))), (na3, .inl (cI, 4, .inl (upd (upd (upd fn3 0 2) 1 2) 2 2)))]) [16, 17, 18] (by decide) rfl
  have hFc := va_free (wc := [(a3, .inr (8, [.int 4, .ref wa3, .ref na3])), (wa3, .inl (cI, 4, .inl (upd (upd (upd fw3 0 3) 1 3) 2 3))), (na3, .inl (cI, 4, .inl (upd (upd (upd fn3 0 2) 1 2) 2 2)))]) hD hS hA [16, 17, 18] rfl
  have hDv := hDc.self (sz := H21.size)
  have hpre := zpre (xs' := []) (av := [.ref a3, .int 3, .int 3, .int 2]) hPc hK (hDc.weaken (fun _ _ _ h => h)) hZ hS hFc (fun r hr => by cases hr)
  refine va_callv (va_runV (As := [.int 3, .int 3, .int 2]) (rest := []) ⟨hx, hb, hml, hown, hts⟩ (k_mp3 l dC dI cI cB cR cO zk a3 wa3 na3 (upd (upd (upd fw3 0 3) 1 3) 2 3) (upd (upd (upd fn3 0 2) 1 2) 2 2) 3 2 H21.size ) (cwV 3 hts gX4_areHung_X3_put rfl rfl rfl (by decide +kernel) ⟨Nat.le_of_ble_eq_true rfl, Nat.le_of_ble_eq_true rfl⟩) ⟨zblind, (zrecv_8 hK hPc (q0 := 0) rfl), hpre⟩ rfl rfl hl.1 rfl (lv_room (Nat.le_of_ble_eq_true rfl)) dX4_areHung_48 ⟨Nat.le_of_ble_eq_true rfl, Nat.le_of_ble_eq_true rfl⟩) hS (fun q _ h => hFc q h) hFc (fun u t H25 locs ht hvm hw hB hz1 hk1 hS => ?_)
  obtain ⟨hP1, hK1, hD1, hz2⟩ := hB
  rw [ht] at hP1 hz2
  have hPD9 := va_join (wr := [(mo, .inr (9, [th, .ref al, md, rf, kn])), (a0, .inr (8, [.int 4, .ref wa0, .ref na0])), (wa0, .inl (cI, 4, .inl fw0)), (na0, .inl (cI, 4, .inl fn0)), (a1, .inr (8, [.int 4, .ref wa1, .ref na1])), (wa1, .inl (cI, 4, .inl fw1)), (na1, .inl (cI, 4, .inl fn1)), (a2, .inr (8, [.int 4, .ref wa2, .ref na2])), (wa2, .inl (cI, 4, .inl fw2)), (na2, .inl (cI, 4, .inl fn2)), (ot, .inl (cI, 4, .inl fo)), (al, .inr (4, [mc, .ref ed, .int (nI cc)])), (ed, .inl (cO, 10, .inr (.inr (.inr (.inr ee))))), (r6, .inr (8, [.int 4, .ref wb7, .ref nb8])), (wb7, .inl (cI, 4, .inl fb9)), (nb8, .inl (cI, 4, .inl gb10))]) (w1 := [(a3, .inr (8, [.int 4, .ref wa3, .ref na3])), (wa3, .inl (cI, 4, .inl (upd (upd (upd (upd fw3 0 3) 1 3) 2 3) 3 3))), (na3, .inl (cI, 4, .inl (upd (upd (upd (upd fn3 0 2) 1 2) 2 2) 3 2)))]) hP hD [16, 17, 18] [0, 1, 2, 3, 4, 5, 6, 7, 8, 9, 10, 11, 12, 13, 14, 15] rfl rfl (by decide) (by decide) hk1 hFc hP1 hD1
  clear hPc hDc hFc hDv hpre hP hD hP1 hK1 hD1
  obtain ⟨hP, hD⟩ := hPD9
  replace hz : s.heap.size + 3 ≤ H25.size := by omega
  clear hz2
  replace hP : va_P (dC, dI) vwCl [(mo, .inr (9, [th, .ref al, md, rf, kn])), (a0, .inr (8, [.int 4, .ref wa0, .ref na0])), (wa0, .inl (cI, 4, .inl fw0)), (na0, .inl (cI, 4, .inl fn0)), (a1, .inr (8, [.int 4, .ref wa1, .ref na1])), (wa1, .inl (cI, 4, .inl fw1)), (na1, .inl (cI, 4, .inl fn1)), (a2, .inr (8, [.int 4, .ref wa2, .ref na2])), (wa2, .inl (cI, 4, .inl fw2)), (na2, .inl (cI, 4, .inl fn2)), (ot, .inl (cI, 4, .inl fo)), (al, .inr (4, [mc, .ref ed, .int (nI cc)])), (ed, .inl (cO, 10, .inr (.inr (.inr (.inr ee))))), (r6, .inr (8, [.int 4, .ref wb7, .ref nb8])), (wb7, .inl (cI, 4, .inl fb9)), (nb8, .inl (cI, 4, .inl gb10)), (a3, .inr (8, [.int 4, .ref wa3, .ref na3])), (wa3, .inl (cI, 4, .inl (upd (upd (upd (upd fw3 0 3) 1 3) 2 3) 3 3))), (na3, .inl (cI, 4, .inl (upd (upd (upd (upd fn3 0 2) 1 2) 2 2) 3 2)))] H25 := hP
  replace hD : va_D A [(mo, .inr (9, [th, .ref al, md, rf, kn])), (a0, .inr (8, [.int 4, .ref wa0, .ref na0])), (wa0, .inl (cI, 4, .inl fw0)), (na0, .inl (cI, 4, .inl fn0)), (a1, .inr (8, [.int 4, .ref wa1, .ref na1])), (wa1, .inl (cI, 4, .inl fw1)), (na1, .inl (cI, 4, .inl fn1)), (a2, .inr (8, [.int 4, .ref wa2, .ref na2])), (wa2, .inl (cI, 4, .inl fw2)), (na2, .inl (cI, 4, .inl fn2)), (ot, .inl (cI, 4, .inl fo)), (al, .inr (4, [mc, .ref ed, .int (nI cc)])), (ed, .inl (cO, 10, .inr (.inr (.inr (.inr ee))))), (r6, .inr (8, [.int 4, .ref wb7, .ref nb8])), (wb7, .inl (cI, 4, .inl fb9)), (nb8, .inl (cI, 4, .inl gb10)), (a3, .inr (8, [.int 4, .ref wa3, .ref na3])), (wa3, .inl (cI, 4, .inl (upd (upd (upd (upd fw3 0 3) 1 3) 2 3) 3 3))), (na3, .inl (cI, 4, .inl (upd (upd (upd (upd fn3 0 2) 1 2) 2 2) 3 2)))] := hD
  refine W.widen (k := 3) (n := 11) (by omega) (by omega) ?_
  refine lv_iinc (v := 4) (lv' := [(5, .int 4), (4, .ref r6), (3, .ref a3), (0, .ref mo), (1, .int 3), (2, .ref ot)]) hx hb dX4_areHung_51 hl (k := 0) rfl (by decide) (by decide) rfl (fun ls hl => ?_)
  refine lv_goto (tgt := 25) hx hb dX4_areHung_54 (by decide) ?_
  refine lv_iload hx hb dX4_areHung_25 (lv_at hl 0 rfl) ?_
  refine lv_aload_n hx hb dX4_areHung_27 rfl (lv_at hl 5 rfl) ?_
  refine va_alen (D := (dC, dI)) (cl := vwCl) (v := 4) hx hb hK hP 10 0 rfl rfl rfl dX4_areHung_28 ?_
  refine lv_icmp_ge (tgt := 57) hx hb dX4_areHung_29 (by decide) (fun c9 => ?_) (fun c9 => ?_)
  rotate_left
  · exact absurd (by decide) c9
  refine lv_iconst (v := 1) hx hb dX4_areHung_57 (by decide) ?_
  refine lv_istore (lv' := [(5, .int 1), (4, .ref r6), (3, .ref a3), (0, .ref mo), (1, .int 3), (2, .ref ot)]) hx hb dX4_areHung_58 hl (by decide) rfl (fun ls hl => ?_)
  refine lv_iconst (v := 0) hx hb dX4_areHung_60 (by decide) ?_
  refine lv_istore (lv' := [(6, .int 0), (5, .int 1), (4, .ref r6), (3, .ref a3), (0, .ref mo), (1, .int 3), (2, .ref ot)]) hx hb dX4_areHung_61 hl (by decide) rfl (fun ls hl => ?_)
  refine lv_iload hx hb dX4_areHung_63 (lv_at hl 0 rfl) ?_
  refine lv_aload_n hx hb dX4_areHung_65 rfl (lv_at hl 4 rfl) ?_
  refine va_get (D := (dC, dI)) (ci := 9) (v := .ref al) (C := RX4) (T := TX4) (N := 5) hx hb hts hi_X4_areHung_X4 hown hK hP 0 rfl rfl 1 (by decide) (hts (.fieldLink RX4 10 "DeeprowsModel" "rows" "Ljava/util/ArrayList;") (List.mem_cons_of_mem _ zw_1134)) (fun _ h9 => h9) rfl dX4_areHung_66 ?_
  have hPc := hP.sub (ws' := [(al, .inr (4, [mc, .ref ed, .int (nI cc)]))]) [11] rfl
  have hDc := hD.sub (ws' := [(al, .inr (4, [mc, .ref ed, .int (nI cc)]))]) [11] (by decide) rfl
  have hFc := va_free (wc := [(al, .inr (4, [mc, .ref ed, .int (nI cc)]))]) hD hS hA [11] rfl
  have hDv := hDc.self (sz := H25.size)
  have hpre := zpre (xs' := []) (av := [.ref al]) hPc hK (hDc.weaken (fun _ _ _ h => h)) hZ hS hFc (fun r hr => by cases hr)
  refine va_calli (va_runV (As := []) (rest := [.int 0]) ⟨hx, hb, hml, hown, hts⟩ (k_size l dC dI cI cB cR cO zk al ed (nI cc) mc H25.size ) (cwV 0 hts gX4_areHung_Jx4a65c_size_8abf5 rfl rfl rfl (by decide +kernel) ⟨Nat.le_of_ble_eq_true rfl, Nat.le_of_ble_eq_true rfl⟩) ⟨zblind, (zrecv_4 hK hPc (q0 := 0) rfl), hpre⟩ rfl rfl hl.1 rfl (lv_room (Nat.le_of_ble_eq_true rfl)) dX4_areHung_69 ⟨Nat.le_of_ble_eq_true rfl, Nat.le_of_ble_eq_true rfl⟩) hS (fun q _ h => hFc q h) hFc (fun r28 u t H27 locs ht hvm hw hB hz1 hk1 hS => ?_)
  obtain rfl : (nI cc) = r28 := (show r28 = (nI cc) from hw).symm
  obtain ⟨hP1, hK1, hD1, hz2⟩ := hB
  rw [ht] at hP1 hz2
  have hPD9 := va_join (wr := [(mo, .inr (9, [th, .ref al, md, rf, kn])), (a0, .inr (8, [.int 4, .ref wa0, .ref na0])), (wa0, .inl (cI, 4, .inl fw0)), (na0, .inl (cI, 4, .inl fn0)), (a1, .inr (8, [.int 4, .ref wa1, .ref na1])), (wa1, .inl (cI, 4, .inl fw1)), (na1, .inl (cI, 4, .inl fn1)), (a2, .inr (8, [.int 4, .ref wa2, .ref na2])), (wa2, .inl (cI, 4, .inl fw2)), (na2, .inl (cI, 4, .inl fn2)), (ot, .inl (cI, 4, .inl fo)), (ed, .inl (cO, 10, .inr (.inr (.inr (.inr ee))))), (r6, .inr (8, [.int 4, .ref wb7, .ref nb8])), (wb7, .inl (cI, 4, .inl fb9)), (nb8, .inl (cI, 4, .inl gb10)), (a3, .inr (8, [.int 4, .ref wa3, .ref na3])), (wa3, .inl (cI, 4, .inl (upd (upd (upd (upd fw3 0 3) 1 3) 2 3) 3 3))), (na3, .inl (cI, 4, .inl (upd (upd (upd (upd fn3 0 2) 1 2) 2 2) 3 2)))]) (w1 := [(al, .inr (4, [mc, .ref ed, .int (nI cc)]))]) hP hD [11] [0, 1, 2, 3, 4, 5, 6, 7, 8, 9, 10, 12, 13, 14, 15, 16, 17, 18] rfl rfl (by decide) (by decide) hk1 hFc hP1 hD1
  clear hPc hDc hFc hDv hpre hP hD hP1 hK1 hD1
  obtain ⟨hP, hD⟩ := hPD9
  replace hz : s.heap.size + 3 ≤ H27.size := by omega
  clear hz2
  replace hP : va_P (dC, dI) vwCl [(mo, .inr (9, [th, .ref al, md, rf, kn])), (a0, .inr (8, [.int 4, .ref wa0, .ref na0])), (wa0, .inl (cI, 4, .inl fw0)), (na0, .inl (cI, 4, .inl fn0)), (a1, .inr (8, [.int 4, .ref wa1, .ref na1])), (wa1, .inl (cI, 4, .inl fw1)), (na1, .inl (cI, 4, .inl fn1)), (a2, .inr (8, [.int 4, .ref wa2, .ref na2])), (wa2, .inl (cI, 4, .inl fw2)), (na2, .inl (cI, 4, .inl fn2)), (ot, .inl (cI, 4, .inl fo)), (ed, .inl (cO, 10, .inr (.inr (.inr (.inr ee))))), (r6, .inr (8, [.int 4, .ref wb7, .ref nb8])), (wb7, .inl (cI, 4, .inl fb9)), (nb8, .inl (cI, 4, .inl gb10)), (a3, .inr (8, [.int 4, .ref wa3, .ref na3])), (wa3, .inl (cI, 4, .inl (upd (upd (upd (upd fw3 0 3) 1 3) 2 3) 3 3))), (na3, .inl (cI, 4, .inl (upd (upd (upd (upd fn3 0 2) 1 2) 2 2) 3 2))), (al, .inr (4, [mc, .ref ed, .int (nI cc)]))] H27 := hP
  replace hD : va_D A [(mo, .inr (9, [th, .ref al, md, rf, kn])), (a0, .inr (8, [.int 4, .ref wa0, .ref na0])), (wa0, .inl (cI, 4, .inl fw0)), (na0, .inl (cI, 4, .inl fn0)), (a1, .inr (8, [.int 4, .ref wa1, .ref na1])), (wa1, .inl (cI, 4, .inl fw1)), (na1, .inl (cI, 4, .inl fn1)), (a2, .inr (8, [.int 4, .ref wa2, .ref na2])), (wa2, .inl (cI, 4, .inl fw2)), (na2, .inl (cI, 4, .inl fn2)), (ot, .inl (cI, 4, .inl fo)), (ed, .inl (cO, 10, .inr (.inr (.inr (.inr ee))))), (r6, .inr (8, [.int 4, .ref wb7, .ref nb8])), (wb7, .inl (cI, 4, .inl fb9)), (nb8, .inl (cI, 4, .inl gb10)), (a3, .inr (8, [.int 4, .ref wa3, .ref na3])), (wa3, .inl (cI, 4, .inl (upd (upd (upd (upd fw3 0 3) 1 3) 2 3) 3 3))), (na3, .inl (cI, 4, .inl (upd (upd (upd (upd fn3 0 2) 1 2) 2 2) 3 2))), (al, .inr (4, [mc, .ref ed, .int (nI cc)]))] := hD
  refine W.widen (k := 3) (n := 11) (by omega) (by omega) ?_
  refine lv_icmp_ge (tgt := 101) hx hb dX4_areHung_72 (by decide) (fun c9 => ?_) (fun c9 => ?_)
  · exact absurd c9 (by rw [hcc3]; decide)
  refine lv_iload hx hb dX4_areHung_75 (lv_at hl 1 rfl) ?_
  refine lv_aload_n hx hb dX4_areHung_77 rfl (lv_at hl 4 rfl) ?_
  refine lv_iload hx hb dX4_areHung_78 (lv_at hl 0 rfl) ?_
  have hPc := hP.sub (ws' := [(mo, .inr (9, [th, .ref al, md, rf, kn])), (al, .inr (4, [mc, .ref ed, .int (nI cc)])), (ed, .inl (cO, 10, .inr (.inr (.inr (.inr ee))))), (a0, .inr (8, [.int 4, .ref wa0, .ref na0])), (wa0, .inl (cI, 4, .inl fw0)), (na0, .inl (cI, 4, .inl fn0))]) [0, 18, 11, 1, 2, 3] rfl
  have hDc := hD.sub (ws' := [(mo, .inr (9, [th, .ref al, md, rf, kn])), (al, .inr (4, [mc, .ref ed, .int (nI cc)])), (ed, .inl (cO, 10, .inr (.inr (.inr (.inr ee))))), (a0, .inr (8, [.int 4, .ref wa0, .ref na0])), (wa0, .inl (cI, 4, .inl fw0)), (na0, .inl (cI, 4, .inl fn0))]) [0, 18, 11, 1, 2, 3] (by decide) rfl
  have hFc := va_free (wc := [(mo, .inr (9, [th, .ref al, md, rf, kn])), (al, .inr (4, [mc, .ref ed, .int (nI cc)])), (ed, .inl (cO, 10, .inr (.inr (.inr (.inr ee))))), (a0, .inr (8, [.int 4, .ref wa0, .ref na0])), (wa0, .inl (cI, 4, .inl fw0)), (na0, .inl (cI, 4, .inl fn0))]) hD hS hA [0, 18, 11, 1, 2, 3] rfl
  have hDv := hDc.self (sz := H27.size)
  have hpre := zpre (xs' := []) (av := [.ref mo, .int 0]) hPc hK (hDc.weaken (fun _ _ _ h => h)) hZ hS hFc (fun r hr => by cases hr)
  refine va_calli (va_runV (As := [.int 0]) (rest := [.int 1]) ⟨hx, hb, hml, hown, hts⟩ (k_dO0 l dC dI cI cB cR cO zk mo al ed cc ee th md rf kn mc a0 wa0 na0 fw0 fn0 H27.size (by omega) hcc2 hw0 hn0 he0) (cwV 1 hts gX4_areHung_X4_depthOf rfl rfl rfl (by decide +kernel) ⟨Nat.le_of_ble_eq_true rfl, Nat.le_of_ble_eq_true rfl⟩) ⟨zblind, (zrecv_9 hK hPc (q0 := 0) rfl), hpre⟩ rfl rfl hl.1 rfl (lv_room (Nat.le_of_ble_eq_true rfl)) dX4_areHung_80 ⟨Nat.le_of_ble_eq_true rfl, Nat.le_of_ble_eq_true rfl⟩) hS (fun q _ h => hFc q h) hFc (fun r30 u t H29 locs ht hvm hw hB hz1 hk1 hS => ?_)
  obtain rfl : 1 = r30 := (show r30 = 1 from hw).symm
  obtain ⟨hP1, hK1, hD1, hz2⟩ := hB
  rw [ht] at hP1 hz2
  have hPD9 := va_join (wr := [(a1, .inr (8, [.int 4, .ref wa1, .ref na1])), (wa1, .inl (cI, 4, .inl fw1)), (na1, .inl (cI, 4, .inl fn1)), (a2, .inr (8, [.int 4, .ref wa2, .ref na2])), (wa2, .inl (cI, 4, .inl fw2)), (na2, .inl (cI, 4, .inl fn2)), (ot, .inl (cI, 4, .inl fo)), (r6, .inr (8, [.int 4, .ref wb7, .ref nb8])), (wb7, .inl (cI, 4, .inl fb9)), (nb8, .inl (cI, 4, .inl gb10)), (a3, .inr (8, [.int 4, .ref wa3, .ref na3])), (wa3, .inl (cI, 4, .inl (upd (upd (upd (upd fw3 0 3) 1 3) 2 3) 3 3))), (na3, .inl (cI, 4, .inl (upd (upd (upd (upd fn3 0 2) 1 2) 2 2) 3 2)))]) (w1 := [(mo, .inr (9, [th, .ref al, md, rf, kn])), (al, .inr (4, [mc, .ref ed, .int (nI cc)])), (ed, .inl (cO, 10, .inr (.inr (.inr (.inr ee))))), (a0, .inr (8, [.int 4, .ref wa0, .ref na0])), (wa0, .inl (cI, 4, .inl fw0)), (na0, .inl (cI, 4, .inl fn0))]) hP hD [0, 18, 11, 1, 2, 3] [4, 5, 6, 7, 8, 9, 10, 12, 13, 14, 15, 16, 17] rfl rfl (by decide) (by decide) hk1 hFc hP1 hD1
  clear hPc hDc hFc hDv hpre hP hD hP1 hK1 hD1
  obtain ⟨hP, hD⟩ := hPD9
  replace hz : s.heap.size + 3 ≤ H29.size := by omega
  clear hz2
  replace hP : va_P (dC, dI) vwCl [(a1, .inr (8, [.int 4, .ref wa1, .ref na1])), (wa1, .inl (cI, 4, .inl fw1)), (na1, .inl (cI, 4, .inl fn1)), (a2, .inr (8, [.int 4, .ref wa2, .ref na2])), (wa2, .inl (cI, 4, .inl fw2)), (na2, .inl (cI, 4, .inl fn2)), (ot, .inl (cI, 4, .inl fo)), (r6, .inr (8, [.int 4, .ref wb7, .ref nb8])), (wb7, .inl (cI, 4, .inl fb9)), (nb8, .inl (cI, 4, .inl gb10)), (a3, .inr (8, [.int 4, .ref wa3, .ref na3])), (wa3, .inl (cI, 4, .inl (upd (upd (upd (upd fw3 0 3) 1 3) 2 3) 3 3))), (na3, .inl (cI, 4, .inl (upd (upd (upd (upd fn3 0 2) 1 2) 2 2) 3 2))), (mo, .inr (9, [th, .ref al, md, rf, kn])), (al, .inr (4, [mc, .ref ed, .int (nI cc)])), (ed, .inl (cO, 10, .inr (.inr (.inr (.inr ee))))), (a0, .inr (8, [.int 4, .ref wa0, .ref na0])), (wa0, .inl (cI, 4, .inl fw0)), (na0, .inl (cI, 4, .inl fn0))] H29 := hP
  replace hD : va_D A [(a1, .inr (8, [.int 4, .ref wa1, .ref na1])), (wa1, .inl (cI, 4, .inl fw1)), (na1, .inl (cI, 4, .inl fn1)), (a2, .inr (8, [.int 4, .ref wa2, .ref na2])), (wa2, .inl (cI, 4, .inl fw2)), (na2, .inl (cI, 4, .inl fn2)), (ot, .inl (cI, 4, .inl fo)), (r6, .inr (8, [.int 4, .ref wb7, .ref nb8])), (wb7, .inl (cI, 4, .inl fb9)), (nb8, .inl (cI, 4, .inl gb10)), (a3, .inr (8, [.int 4, .ref wa3, .ref na3])), (wa3, .inl (cI, 4, .inl (upd (upd (upd (upd fw3 0 3) 1 3) 2 3) 3 3))), (na3, .inl (cI, 4, .inl (upd (upd (upd (upd fn3 0 2) 1 2) 2 2) 3 2))), (mo, .inr (9, [th, .ref al, md, rf, kn])), (al, .inr (4, [mc, .ref ed, .int (nI cc)])), (ed, .inl (cO, 10, .inr (.inr (.inr (.inr ee))))), (a0, .inr (8, [.int 4, .ref wa0, .ref na0])), (wa0, .inl (cI, 4, .inl fw0)), (na0, .inl (cI, 4, .inl fn0))] := hD
  refine W.widen (k := 4) (n := 12) (by omega) (by omega) ?_
  refine lv_iconst (v := 4) hx hb dX4_areHung_83 (by decide) ?_
  refine lv_icmp_gt (tgt := 91) hx hb dX4_areHung_84 (by decide) (fun c9 => ?_) (fun c9 => ?_)
  · exact absurd c9 (by decide)
  refine lv_iconst (v := 1) hx hb dX4_areHung_87 (by decide) ?_
  refine lv_goto (tgt := 92) hx hb dX4_areHung_88 (by decide) ?_
  refine lv_iand hx hb dX4_areHung_92 ?_
  refine lv_topi (fun v31 ev31 => ?_)
  obtain rfl : v31 = 1 := ev31.trans (by decide)
  refine lv_istore (lv' := [(5, .int 1), (6, .int 0), (4, .ref r6), (3, .ref a3), (0, .ref mo), (1, .int 3), (2, .ref ot)]) hx hb dX4_areHung_93 hl (by decide) rfl (fun ls hl => ?_)
  refine lv_iinc (v := 1) (lv' := [(6, .int 1), (5, .int 1), (4, .ref r6), (3, .ref a3), (0, .ref mo), (1, .int 3), (2, .ref ot)]) hx hb dX4_areHung_95 hl (k := 1) rfl (by decide) (by decide) rfl (fun ls hl => ?_)
  refine lv_goto (tgt := 63) hx hb dX4_areHung_98 (by decide) ?_
  refine lv_iload hx hb dX4_areHung_63 (lv_at hl 0 rfl) ?_
  refine lv_aload_n hx hb dX4_areHung_65 rfl (lv_at hl 4 rfl) ?_
  refine va_get (D := (dC, dI)) (ci := 9) (v := .ref al) (C := RX4) (T := TX4) (N := 5) hx hb hts hi_X4_areHung_X4 hown hK hP 13 rfl rfl 1 (by decide) (hts (.fieldLink RX4 10 "DeeprowsModel" "rows" "Ljava/util/ArrayList;") (List.mem_cons_of_mem _ zw_1134)) (fun _ h9 => h9) rfl dX4_areHung_66 ?_
  have hPc := hP.sub (ws' := [(al, .inr (4, [mc, .ref ed, .int (nI cc)]))]) [14] rfl
  have hDc := hD.sub (ws' := [(al, .inr (4, [mc, .ref ed, .int (nI cc)]))]) [14] (by decide) rfl
  have hFc := va_free (wc := [(al, .inr (4, [mc, .ref ed, .int (nI cc)]))]) hD hS hA [14] rfl
  have hDv := hDc.self (sz := H29.size)
  have hpre := zpre (xs' := []) (av := [.ref al]) hPc hK (hDc.weaken (fun _ _ _ h => h)) hZ hS hFc (fun r hr => by cases hr)
  refine va_calli (va_runV (As := []) (rest := [.int 1]) ⟨hx, hb, hml, hown, hts⟩ (k_size l dC dI cI cB cR cO zk al ed (nI cc) mc H29.size ) (cwV 0 hts gX4_areHung_Jx4a65c_size_8abf5 rfl rfl rfl (by decide +kernel) ⟨Nat.le_of_ble_eq_true rfl, Nat.le_of_ble_eq_true rfl⟩) ⟨zblind, (zrecv_4 hK hPc (q0 := 0) rfl), hpre⟩ rfl rfl hl.1 rfl (lv_room (Nat.le_of_ble_eq_true rfl)) dX4_areHung_69 ⟨Nat.le_of_ble_eq_true rfl, Nat.le_of_ble_eq_true rfl⟩) hS (fun q _ h => hFc q h) hFc (fun r33 u t H32 locs ht hvm hw hB hz1 hk1 hS => ?_)
  obtain rfl : (nI cc) = r33 := (show r33 = (nI cc) from hw).symm
  obtain ⟨hP1, hK1, hD1, hz2⟩ := hB
  rw [ht] at hP1 hz2
  have hPD9 := va_join (wr := [(a1, .inr (8, [.int 4, .ref wa1, .ref na1])), (wa1, .inl (cI, 4, .inl fw1)), (na1, .inl (cI, 4, .inl fn1)), (a2, .inr (8, [.int 4, .ref wa2, .ref na2])), (wa2, .inl (cI, 4, .inl fw2)), (na2, .inl (cI, 4, .inl fn2)), (ot, .inl (cI, 4, .inl fo)), (r6, .inr (8, [.int 4, .ref wb7, .ref nb8])), (wb7, .inl (cI, 4, .inl fb9)), (nb8, .inl (cI, 4, .inl gb10)), (a3, .inr (8, [.int 4, .ref wa3, .ref na3])), (wa3, .inl (cI, 4, .inl (upd (upd (upd (upd fw3 0 3) 1 3) 2 3) 3 3))), (na3, .inl (cI, 4, .inl (upd (upd (upd (upd fn3 0 2) 1 2) 2 2) 3 2))), (mo, .inr (9, [th, .ref al, md, rf, kn])), (ed, .inl (cO, 10, .inr (.inr (.inr (.inr ee))))), (a0, .inr (8, [.int 4, .ref wa0, .ref na0])), (wa0, .inl (cI, 4, .inl fw0)), (na0, .inl (cI, 4, .inl fn0))]) (w1 := [(al, .inr (4, [mc, .ref ed, .int (nI cc)]))]) hP hD [14] [0, 1, 2, 3, 4, 5, 6, 7, 8, 9, 10, 11, 12, 13, 15, 16, 17, 18] rfl rfl (by decide) (by decide) hk1 hFc hP1 hD1
  clear hPc hDc hFc hDv hpre hP hD hP1 hK1 hD1
  obtain ⟨hP, hD⟩ := hPD9
  replace hz : s.heap.size + 3 ≤ H32.size := by omega
  clear hz2
  replace hP : va_P (dC, dI) vwCl [(a1, .inr (8, [.int 4, .ref wa1, .ref na1])), (wa1, .inl (cI, 4, .inl fw1)), (na1, .inl (cI, 4, .inl fn1)), (a2, .inr (8, [.int 4, .ref wa2, .ref na2])), (wa2, .inl (cI, 4, .inl fw2)), (na2, .inl (cI, 4, .inl fn2)), (ot, .inl (cI, 4, .inl fo)), (r6, .inr (8, [.int 4, .ref wb7, .ref nb8])), (wb7, .inl (cI, 4, .inl fb9)), (nb8, .inl (cI, 4, .inl gb10)), (a3, .inr (8, [.int 4, .ref wa3, .ref na3])), (wa3, .inl (cI, 4, .inl (upd (upd (upd (upd fw3 0 3) 1 3) 2 3) 3 3))), (na3, .inl (cI, 4, .inl (upd (upd (upd (upd fn3 0 2) 1 2) 2 2) 3 2))), (mo, .inr (9, [th, .ref al, md, rf, kn])), (ed, .inl (cO, 10, .inr (.inr (.inr (.inr ee))))), (a0, .inr (8, [.int 4, .ref wa0, .ref na0])), (wa0, .inl (cI, 4, .inl fw0)), (na0, .inl (cI, 4, .inl fn0)), (al, .inr (4, [mc, .ref ed, .int (nI cc)]))] H32 := hP
  replace hD : va_D A [(a1, .inr (8, [.int 4, .ref wa1, .ref na1])), (wa1, .inl (cI, 4, .inl fw1)), (na1, .inl (cI, 4, .inl fn1)), (a2, .inr (8, [.int 4, .ref wa2, .ref na2])), (wa2, .inl (cI, 4, .inl fw2)), (na2, .inl (cI, 4, .inl fn2)), (ot, .inl (cI, 4, .inl fo)), (r6, .inr (8, [.int 4, .ref wb7, .ref nb8])), (wb7, .inl (cI, 4, .inl fb9)), (nb8, .inl (cI, 4, .inl gb10)), (a3, .inr (8, [.int 4, .ref wa3, .ref na3])), (wa3, .inl (cI, 4, .inl (upd (upd (upd (upd fw3 0 3) 1 3) 2 3) 3 3))), (na3, .inl (cI, 4, .inl (upd (upd (upd (upd fn3 0 2) 1 2) 2 2) 3 2))), (mo, .inr (9, [th, .ref al, md, rf, kn])), (ed, .inl (cO, 10, .inr (.inr (.inr (.inr ee))))), (a0, .inr (8, [.int 4, .ref wa0, .ref na0])), (wa0, .inl (cI, 4, .inl fw0)), (na0, .inl (cI, 4, .inl fn0)), (al, .inr (4, [mc, .ref ed, .int (nI cc)]))] := hD
  refine W.widen (k := 4) (n := 12) (by omega) (by omega) ?_
  refine lv_icmp_ge (tgt := 101) hx hb dX4_areHung_72 (by decide) (fun c9 => ?_) (fun c9 => ?_)
  · exact absurd c9 (by rw [hcc3]; decide)
  refine lv_iload hx hb dX4_areHung_75 (lv_at hl 1 rfl) ?_
  refine lv_aload_n hx hb dX4_areHung_77 rfl (lv_at hl 4 rfl) ?_
  refine lv_iload hx hb dX4_areHung_78 (lv_at hl 0 rfl) ?_
  have hPc := hP.sub (ws' := [(mo, .inr (9, [th, .ref al, md, rf, kn])), (al, .inr (4, [mc, .ref ed, .int (nI cc)])), (ed, .inl (cO, 10, .inr (.inr (.inr (.inr ee))))), (a0, .inr (8, [.int 4, .ref wa0, .ref na0])), (wa0, .inl (cI, 4, .inl fw0)), (na0, .inl (cI, 4, .inl fn0)), (a1, .inr (8, [.int 4, .ref wa1, .ref na1])), (wa1, .inl (cI, 4, .inl fw1)), (na1, .inl (cI, 4, .inl fn1))]) [13, 18, 14, 15, 16, 17, 0, 1, 2] rfl
  have hDc := hD.sub (ws' := [(mo, .inr (9, [th, .ref al, md, rf, kn])), (al, .inr (4, [mc, .ref ed, .int (nI cc)])), (ed, .inl (cO, 10, .inr (.inr (.inr (.inr ee))))), (a0, .inr (8, [.int 4, .ref wa0, .ref na0])), (wa0, .inl (cI, 4, .inl fw0)), (na0, .inl (cI, 4, .inl fn0)), (a1, .inr (8, [.int 4, .ref wa1, .ref na1])), (wa1, .inl (cI, 4, .inl fw1)), (na1, .inl (cI, 4, .inl fn1))]) [13, 18, 14, 15, 16, 17, 0, 1, 2] (by decide) rfl
  have hFc := va_free (wc := [(mo, .inr (9, [th, .ref al, md, rf, kn])), (al, .inr (4, [mc, .ref ed, .int (nI cc)])), (ed, .inl (cO, 10, .inr (.inr (.inr (.inr ee))))), (a0, .inr (8, [.int 4, .ref wa0, .ref na0])), (wa0, .inl (cI, 4, .inl fw0)), (na0, .inl (cI, 4, .inl fn0)), (a1, .inr (8, [.int 4, .ref wa1, .ref na1])), (wa1, .inl (cI, 4, .inl fw1)), (na1, .inl (cI, 4, .inl fn1))]) hD hS hA [13, 18, 14, 15, 16, 17, 0, 1, 2] rfl
  have hDv := hDc.self (sz := H32.size)
  have hpre := zpre (xs' := []) (av := [.ref mo, .int 1]) hPc hK (hDc.weaken (fun _ _ _ h => h)) hZ hS hFc (fun r hr => by cases hr)
  refine va_calli (va_runV (As := [.int 1]) (rest := [.int 1]) ⟨hx, hb, hml, hown, hts⟩ (k_dO1 l dC dI cI cB cR cO zk mo al ed cc ee th md rf kn mc a0 wa0 na0 a1 wa1 na1 fw0 fn0 fw1 fn1 H32.size (by omega) hcc2 hw0 hn0 he0 hw1 hn1 he1) (cwV 1 hts gX4_areHung_X4_depthOf rfl rfl rfl (by decide +kernel) ⟨Nat.le_of_ble_eq_true rfl, Nat.le_of_ble_eq_true rfl⟩) ⟨zblind, (zrecv_9 hK hPc (q0 := 0) rfl), hpre⟩ rfl rfl hl.1 rfl (lv_room (Nat.le_of_ble_eq_true rfl)) dX4_areHung_80 ⟨Nat.le_of_ble_eq_true rfl, Nat.le_of_ble_eq_true rfl⟩) hS (fun q _ h => hFc q h) hFc (fun r35 u t H34 locs ht hvm hw hB hz1 hk1 hS => ?_)
  obtain rfl : 2 = r35 := (show r35 = 2 from hw).symm
  obtain ⟨hP1, hK1, hD1, hz2⟩ := hB
  rw [ht] at hP1 hz2
  have hPD9 := va_join (wr := [(a2, .inr (8, [.int 4, .ref wa2, .ref na2])), (wa2, .inl (cI, 4, .inl fw2)), (na2, .inl (cI, 4, .inl fn2)), (ot, .inl (cI, 4, .inl fo)), (r6, .inr (8, [.int 4, .ref wb7, .ref nb8])), (wb7, .inl (cI, 4, .inl fb9)), (nb8, .inl (cI, 4, .inl gb10)), (a3, .inr (8, [.int 4, .ref wa3, .ref na3])), (wa3, .inl (cI, 4, .inl (upd (upd (upd (upd fw3 0 3) 1 3) 2 3) 3 3))), (na3, .inl (cI, 4, .inl (upd (upd (upd (upd fn3 0 2) 1 2) 2 2) 3 2)))]) (w1 := [(mo, .inr (9, [th, .ref al, md, rf, kn])), (al, .inr (4, [mc, .ref ed, .int (nI cc)])), (ed, .inl (cO, 10, .inr (.inr (.inr (.inr ee))))), (a0, .inr (8, [.int 4, .ref wa0, .ref na0])), (wa0, .inl (cI, 4, .inl fw0)), (na0, .inl (cI, 4, .inl fn0)), (a1, .inr (8, [.int 4, .ref wa1, .ref na1])), (wa1, .inl (cI, 4, .inl fw1)), (na1, .inl (cI, 4, .inl fn1))]) hP hD [13, 18, 14, 15, 16, 17, 0, 1, 2] [3, 4, 5, 6, 7, 8, 9, 10, 11, 12] rfl rfl (by decide) (by decide) hk1 hFc hP1 hD1
  clear hPc hDc hFc hDv hpre hP hD hP1 hK1 hD1
  obtain ⟨hP, hD⟩ := hPD9
  replace hz : s.heap.size + 3 ≤ H34.size := by omega
  clear hz2
  replace hP : va_P (dC, dI) vwCl [(a2, .inr (8, [.int 4, .ref wa2, .ref na2])), (wa2, .inl (cI, 4, .inl fw2)), (na2, .inl (cI, 4, .inl fn2)), (ot, .inl (cI, 4, .inl fo)), (r6, .inr (8, [.int 4, .ref wb7, .ref nb8])), (wb7, .inl (cI, 4, .inl fb9)), (nb8, .inl (cI, 4, .inl gb10)), (a3, .inr (8, [.int 4, .ref wa3, .ref na3])), (wa3, .inl (cI, 4, .inl (upd (upd (upd (upd fw3 0 3) 1 3) 2 3) 3 3))), (na3, .inl (cI, 4, .inl (upd (upd (upd (upd fn3 0 2) 1 2) 2 2) 3 2))), (mo, .inr (9, [th, .ref al, md, rf, kn])), (al, .inr (4, [mc, .ref ed, .int (nI cc)])), (ed, .inl (cO, 10, .inr (.inr (.inr (.inr ee))))), (a0, .inr (8, [.int 4, .ref wa0, .ref na0])), (wa0, .inl (cI, 4, .inl fw0)), (na0, .inl (cI, 4, .inl fn0)), (a1, .inr (8, [.int 4, .ref wa1, .ref na1])), (wa1, .inl (cI, 4, .inl fw1)), (na1, .inl (cI, 4, .inl fn1))] H34 := hP
  replace hD : va_D A [(a2, .inr (8, [.int 4, .ref wa2, .ref na2])), (wa2, .inl (cI, 4, .inl fw2)), (na2, .inl (cI, 4, .inl fn2)), (ot, .inl (cI, 4, .inl fo)), (r6, .inr (8, [.int 4, .ref wb7, .ref nb8])), (wb7, .inl (cI, 4, .inl fb9)), (nb8, .inl (cI, 4, .inl gb10)), (a3, .inr (8, [.int 4, .ref wa3, .ref na3])), (wa3, .inl (cI, 4, .inl (upd (upd (upd (upd fw3 0 3) 1 3) 2 3) 3 3))), (na3, .inl (cI, 4, .inl (upd (upd (upd (upd fn3 0 2) 1 2) 2 2) 3 2))), (mo, .inr (9, [th, .ref al, md, rf, kn])), (al, .inr (4, [mc, .ref ed, .int (nI cc)])), (ed, .inl (cO, 10, .inr (.inr (.inr (.inr ee))))), (a0, .inr (8, [.int 4, .ref wa0, .ref na0])), (wa0, .inl (cI, 4, .inl fw0)), (na0, .inl (cI, 4, .inl fn0)), (a1, .inr (8, [.int 4, .ref wa1, .ref na1])), (wa1, .inl (cI, 4, .inl fw1)), (na1, .inl (cI, 4, .inl fn1))] := hD
  refine W.widen (k := 5) (n := 14) (by omega) (by omega) ?_
  refine lv_iconst (v := 4) hx hb dX4_areHung_83 (by decide) ?_
  refine lv_icmp_gt (tgt := 91) hx hb dX4_areHung_84 (by decide) (fun c9 => ?_) (fun c9 => ?_)
  · exact absurd c9 (by decide)
  refine lv_iconst (v := 1) hx hb dX4_areHung_87 (by decide) ?_
  refine lv_goto (tgt := 92) hx hb dX4_areHung_88 (by decide) ?_
  refine lv_iand hx hb dX4_areHung_92 ?_
  refine lv_topi (fun v36 ev36 => ?_)
  obtain rfl : v36 = 1 := ev36.trans (by decide)
  refine lv_istore (lv' := [(5, .int 1), (6, .int 1), (4, .ref r6), (3, .ref a3), (0, .ref mo), (1, .int 3), (2, .ref ot)]) hx hb dX4_areHung_93 hl (by decide) rfl (fun ls hl => ?_)
  refine lv_iinc (v := 2) (lv' := [(6, .int 2), (5, .int 1), (4, .ref r6), (3, .ref a3), (0, .ref mo), (1, .int 3), (2, .ref ot)]) hx hb dX4_areHung_95 hl (k := 1) rfl (by decide) (by decide) rfl (fun ls hl => ?_)
  refine lv_goto (tgt := 63) hx hb dX4_areHung_98 (by decide) ?_
  refine lv_iload hx hb dX4_areHung_63 (lv_at hl 0 rfl) ?_
  refine lv_aload_n hx hb dX4_areHung_65 rfl (lv_at hl 4 rfl) ?_
  refine va_get (D := (dC, dI)) (ci := 9) (v := .ref al) (C := RX4) (T := TX4) (N := 5) hx hb hts hi_X4_areHung_X4 hown hK hP 10 rfl rfl 1 (by decide) (hts (.fieldLink RX4 10 "DeeprowsModel" "rows" "Ljava/util/ArrayList;") (List.mem_cons_of_mem _ zw_1134)) (fun _ h9 => h9) rfl dX4_areHung_66 ?_
  have hPc := hP.sub (ws' := [(al, .inr (4, [mc, .ref ed, .int (nI cc)]))]) [11] rfl
  have hDc := hD.sub (ws' := [(al, .inr (4, [mc, .ref ed, .int (nI cc)]))]) [11] (by decide) rfl
  have hFc := va_free (wc := [(al, .inr (4, [mc, .ref ed, .int (nI cc)]))]) hD hS hA [11] rfl
  have hDv := hDc.self (sz := H34.size)
  have hpre := zpre (xs' := []) (av := [.ref al]) hPc hK (hDc.weaken (fun _ _ _ h => h)) hZ hS hFc (fun r hr => by cases hr)
  refine va_calli (va_runV (As := []) (rest := [.int 2]) ⟨hx, hb, hml, hown, hts⟩ (k_size l dC dI cI cB cR cO zk al ed (nI cc) mc H34.size ) (cwV 0 hts gX4_areHung_Jx4a65c_size_8abf5 rfl rfl rfl (by decide +kernel) ⟨Nat.le_of_ble_eq_true rfl, Nat.le_of_ble_eq_true rfl⟩) ⟨zblind, (zrecv_4 hK hPc (q0 := 0) rfl), hpre⟩ rfl rfl hl.1 rfl (lv_room (Nat.le_of_ble_eq_true rfl)) dX4_areHung_69 ⟨Nat.le_of_ble_eq_true rfl, Nat.le_of_ble_eq_true rfl⟩) hS (fun q _ h => hFc q h) hFc (fun r38 u t H37 locs ht hvm hw hB hz1 hk1 hS => ?_)
  obtain rfl : (nI cc) = r38 := (show r38 = (nI cc) from hw).symm
  obtain ⟨hP1, hK1, hD1, hz2⟩ := hB
  rw [ht] at hP1 hz2
  have hPD9 := va_join (wr := [(a2, .inr (8, [.int 4, .ref wa2, .ref na2])), (wa2, .inl (cI, 4, .inl fw2)), (na2, .inl (cI, 4, .inl fn2)), (ot, .inl (cI, 4, .inl fo)), (r6, .inr (8, [.int 4, .ref wb7, .ref nb8])), (wb7, .inl (cI, 4, .inl fb9)), (nb8, .inl (cI, 4, .inl gb10)), (a3, .inr (8, [.int 4, .ref wa3, .ref na3])), (wa3, .inl (cI, 4, .inl (upd (upd (upd (upd fw3 0 3) 1 3) 2 3) 3 3))), (na3, .inl (cI, 4, .inl (upd (upd (upd (upd fn3 0 2) 1 2) 2 2) 3 2))), (mo, .inr (9, [th, .ref al, md, rf, kn])), (ed, .inl (cO, 10, .inr (.inr (.inr (.inr ee))))), (a0, .inr (8, [.int 4, .ref wa0, .ref na0])), (wa0, .inl (cI, 4, .inl fw0)), (na0, .inl (cI, 4, .inl fn0)), (a1, .inr (8, [.int 4, .ref wa1, .ref na1])), (wa1, .inl (cI, 4, .inl fw1)), (na1, .inl (cI, 4, .inl fn1))]) (w1 := [(al, .inr (4, [mc, .ref ed, .int (nI cc)]))]) hP hD [11] [0, 1, 2, 3, 4, 5, 6, 7, 8, 9, 10, 12, 13, 14, 15, 16, 17, 18] rfl rfl (by decide) (by decide) hk1 hFc hP1 hD1
  clear hPc hDc hFc hDv hpre hP hD hP1 hK1 hD1
  obtain ⟨hP, hD⟩ := hPD9
  replace hz : s.heap.size + 3 ≤ H37.size := by omega
  clear hz2
  replace hP : va_P (dC, dI) vwCl [(a2, .inr (8, [.int 4, .ref wa2, .ref na2])), (wa2, .inl (cI, 4, .inl fw2)), (na2, .inl (cI, 4, .inl fn2)), (ot, .inl (cI, 4, .inl fo)), (r6, .inr (8, [.int 4, .ref wb7, .ref nb8])), (wb7, .inl (cI, 4, .inl fb9)), (nb8, .inl (cI, 4, .inl gb10)), (a3, .inr (8, [.int 4, .ref wa3, .ref na3])), (wa3, .inl (cI, 4, .inl (upd (upd (upd (upd fw3 0 3) 1 3) 2 3) 3 3))), (na3, .inl (cI, 4, .inl (upd (upd (upd (upd fn3 0 2) 1 2) 2 2) 3 2))), (mo, .inr (9, [th, .ref al, md, rf, kn])), (ed, .inl (cO, 10, .inr (.inr (.inr (.inr ee))))), (a0, .inr (8, [.int 4, .ref wa0, .ref na0])), (wa0, .inl (cI, 4, .inl fw0)), (na0, .inl (cI, 4, .inl fn0)), (a1, .inr (8, [.int 4, .ref wa1, .ref na1])), (wa1, .inl (cI, 4, .inl fw1)), (na1, .inl (cI, 4, .inl fn1)), (al, .inr (4, [mc, .ref ed, .int (nI cc)]))] H37 := hP
  replace hD : va_D A [(a2, .inr (8, [.int 4, .ref wa2, .ref na2])), (wa2, .inl (cI, 4, .inl fw2)), (na2, .inl (cI, 4, .inl fn2)), (ot, .inl (cI, 4, .inl fo)), (r6, .inr (8, [.int 4, .ref wb7, .ref nb8])), (wb7, .inl (cI, 4, .inl fb9)), (nb8, .inl (cI, 4, .inl gb10)), (a3, .inr (8, [.int 4, .ref wa3, .ref na3])), (wa3, .inl (cI, 4, .inl (upd (upd (upd (upd fw3 0 3) 1 3) 2 3) 3 3))), (na3, .inl (cI, 4, .inl (upd (upd (upd (upd fn3 0 2) 1 2) 2 2) 3 2))), (mo, .inr (9, [th, .ref al, md, rf, kn])), (ed, .inl (cO, 10, .inr (.inr (.inr (.inr ee))))), (a0, .inr (8, [.int 4, .ref wa0, .ref na0])), (wa0, .inl (cI, 4, .inl fw0)), (na0, .inl (cI, 4, .inl fn0)), (a1, .inr (8, [.int 4, .ref wa1, .ref na1])), (wa1, .inl (cI, 4, .inl fw1)), (na1, .inl (cI, 4, .inl fn1)), (al, .inr (4, [mc, .ref ed, .int (nI cc)]))] := hD
  refine W.widen (k := 5) (n := 14) (by omega) (by omega) ?_
  refine lv_icmp_ge (tgt := 101) hx hb dX4_areHung_72 (by decide) (fun c9 => ?_) (fun c9 => ?_)
  · exact absurd c9 (by rw [hcc3]; decide)
  refine lv_iload hx hb dX4_areHung_75 (lv_at hl 1 rfl) ?_
  refine lv_aload_n hx hb dX4_areHung_77 rfl (lv_at hl 4 rfl) ?_
  refine lv_iload hx hb dX4_areHung_78 (lv_at hl 0 rfl) ?_
  have hPc := hP.sub (ws' := [(mo, .inr (9, [th, .ref al, md, rf, kn])), (al, .inr (4, [mc, .ref ed, .int (nI cc)])), (ed, .inl (cO, 10, .inr (.inr (.inr (.inr ee))))), (a0, .inr (8, [.int 4, .ref wa0, .ref na0])), (wa0, .inl (cI, 4, .inl fw0)), (na0, .inl (cI, 4, .inl fn0)), (a1, .inr (8, [.int 4, .ref wa1, .ref na1])), (wa1, .inl (cI, 4, .inl fw1)), (na1, .inl (cI, 4, .inl fn1)), (a2, .inr (8, [.int 4, .ref wa2, .ref na2])), (wa2, .inl (cI, 4, .inl fw2)), (na2, .inl (cI, 4, .inl fn2))]) [10, 18, 11, 12, 13, 14, 15, 16, 17, 0, 1, 2] rfl
  have hDc := hD.sub (ws' := [(mo, .inr (9, [th, .ref al, md, rf, kn])), (al, .inr (4, [mc, .ref ed, .int (nI cc)])), (ed, .inl (cO, 10, .inr (.inr (.inr (.inr ee))))), (a0, .inr (8, [.int 4, .ref wa0, .ref na0])), (wa0, .inl (cI, 4, .inl fw0)), (na0, .inl (cI, 4, .inl fn0)), (a1, .inr (8, [.int 4, .ref wa1, .ref na1])), (wa1, .inl (cI, 4, .inl fw1)), (na1, .inl (cI, 4, .inl fn1)), (a2, .inr (8, [.int 4, .ref wa2, .ref na2])), (wa2, .inl (cI, 4, .inl fw2)), (na2, .inl (cI, 4, .inl fn2))]) [10, 18, 11, 12, 13, 14, 15, 16, 17, 0, 1, 2] (by decide) rfl
  have hFc := va_free (wc := [(mo, .inr (9, [th, .ref al, md, rf, kn])), (al, .inr (4, [mc, .ref ed, .int (nI cc)])), (ed, .inl (cO, 10, .inr (.inr (.inr (.inr ee))))), (a0, .inr (8, [.int 4, .ref wa0, .ref na0])), (wa0, .inl (cI, 4, .inl fw0)), (na0, .inl (cI, 4, .inl fn0)), (a1, .inr (8, [.int 4, .ref wa1, .ref na1])), (wa1, .inl (cI, 4, .inl fw1)), (na1, .inl (cI, 4, .inl fn1)), (a2, .inr (8, [.int 4, .ref wa2, .ref na2])), (wa2, .inl (cI, 4, .inl fw2)), (na2, .inl (cI, 4, .inl fn2))]) hD hS hA [10, 18, 11, 12, 13, 14, 15, 16, 17, 0, 1, 2] rfl
  have hDv := hDc.self (sz := H37.size)
  have hpre := zpre (xs' := []) (av := [.ref mo, .int 2]) hPc hK (hDc.weaken (fun _ _ _ h => h)) hZ hS hFc (fun r hr => by cases hr)
  refine va_calli (va_runV (As := [.int 2]) (rest := [.int 1]) ⟨hx, hb, hml, hown, hts⟩ (k_dO2 l dC dI cI cB cR cO zk mo al ed cc ee th md rf kn mc a0 wa0 na0 a1 wa1 na1 a2 wa2 na2 fw0 fn0 fw1 fn1 fw2 fn2 H37.size (by omega) hcc2 hw0 hn0 he0 hw1 hn1 he1 hw2 hn2 he2) (cwV 1 hts gX4_areHung_X4_depthOf rfl rfl rfl (by decide +kernel) ⟨Nat.le_of_ble_eq_true rfl, Nat.le_of_ble_eq_true rfl⟩) ⟨zblind, (zrecv_9 hK hPc (q0 := 0) rfl), hpre⟩ rfl rfl hl.1 rfl (lv_room (Nat.le_of_ble_eq_true rfl)) dX4_areHung_80 ⟨Nat.le_of_ble_eq_true rfl, Nat.le_of_ble_eq_true rfl⟩) hS (fun q _ h => hFc q h) hFc (fun r40 u t H39 locs ht hvm hw hB hz1 hk1 hS => ?_)
  obtain rfl : 3 = r40 := (show r40 = 3 from hw).symm
  obtain ⟨hP1, hK1, hD1, hz2⟩ := hB
  rw [ht] at hP1 hz2
  have hPD9 := va_join (wr := [(ot, .inl (cI, 4, .inl fo)), (r6, .inr (8, [.int 4, .ref wb7, .ref nb8])), (wb7, .inl (cI, 4, .inl fb9)), (nb8, .inl (cI, 4, .inl gb10)), (a3, .inr (8, [.int 4, .ref wa3, .ref na3])), (wa3, .inl (cI, 4, .inl (upd (upd (upd (upd fw3 0 3) 1 3) 2 3) 3 3))), (na3, .inl (cI, 4, .inl (upd (upd (upd (upd fn3 0 2) 1 2) 2 2) 3 2)))]) (w1 := [(mo, .inr (9, [th, .ref al, md, rf, kn])), (al, .inr (4, [mc, .ref ed, .int (nI cc)])), (ed, .inl (cO, 10, .inr (.inr (.inr (.inr ee))))), (a0, .inr (8, [.int 4, .ref wa0, .ref na0])), (wa0, .inl (cI, 4, .inl fw0)), (na0, .inl (cI, 4, .inl fn0)), (a1, .inr (8, [.int 4, .ref wa1, .ref na1])), (wa1, .inl (cI, 4, .inl fw1)), (na1, .inl (cI, 4, .inl fn1)), (a2, .inr (8, [.int 4, .ref wa2, .ref na2])), (wa2, .inl (cI, 4, .inl fw2)), (na2, .inl (cI, 4, .inl fn2))]) hP hD [10, 18, 11, 12, 13, 14, 15, 16, 17, 0, 1, 2] [3, 4, 5, 6, 7, 8, 9] rfl rfl (by decide) (by decide) hk1 hFc hP1 hD1
  clear hPc hDc hFc hDv hpre hP hD hP1 hK1 hD1
  obtain ⟨hP, hD⟩ := hPD9
  replace hz : s.heap.size + 3 ≤ H39.size := by omega
  clear hz2
  replace hP : va_P (dC, dI) vwCl [(ot, .inl (cI, 4, .inl fo)), (r6, .inr (8, [.int 4, .ref wb7, .ref nb8])), (wb7, .inl (cI, 4, .inl fb9)), (nb8, .inl (cI, 4, .inl gb10)), (a3, .inr (8, [.int 4, .ref wa3, .ref na3])), (wa3, .inl (cI, 4, .inl (upd (upd (upd (upd fw3 0 3) 1 3) 2 3) 3 3))), (na3, .inl (cI, 4, .inl (upd (upd (upd (upd fn3 0 2) 1 2) 2 2) 3 2))), (mo, .inr (9, [th, .ref al, md, rf, kn])), (al, .inr (4, [mc, .ref ed, .int (nI cc)])), (ed, .inl (cO, 10, .inr (.inr (.inr (.inr ee))))), (a0, .inr (8, [.int 4, .ref wa0, .ref na0])), (wa0, .inl (cI, 4, .inl fw0)), (na0, .inl (cI, 4, .inl fn0)), (a1, .inr (8, [.int 4, .ref wa1, .ref na1])), (wa1, .inl (cI, 4, .inl fw1)), (na1, .inl (cI, 4, .inl fn1)), (a2, .inr (8, [.int 4, .ref wa2, .ref na2])), (wa2, .inl (cI, 4, .inl fw2)), (na2, .inl (cI, 4, .inl fn2))] H39 := hP
  replace hD : va_D A [(ot, .inl (cI, 4, .inl fo)), (r6, .inr (8, [.int 4, .ref wb7, .ref nb8])), (wb7, .inl (cI, 4, .inl fb9)), (nb8, .inl (cI, 4, .inl gb10)), (a3, .inr (8, [.int 4, .ref wa3, .ref na3])), (wa3, .inl (cI, 4, .inl (upd (upd (upd (upd fw3 0 3) 1 3) 2 3) 3 3))), (na3, .inl (cI, 4, .inl (upd (upd (upd (upd fn3 0 2) 1 2) 2 2) 3 2))), (mo, .inr (9, [th, .ref al, md, rf, kn])), (al, .inr (4, [mc, .ref ed, .int (nI cc)])), (ed, .inl (cO, 10, .inr (.inr (.inr (.inr ee))))), (a0, .inr (8, [.int 4, .ref wa0, .ref na0])), (wa0, .inl (cI, 4, .inl fw0)), (na0, .inl (cI, 4, .inl fn0)), (a1, .inr (8, [.int 4, .ref wa1, .ref na1])), (wa1, .inl (cI, 4, .inl fw1)), (na1, .inl (cI, 4, .inl fn1)), (a2, .inr (8, [.int 4, .ref wa2, .ref na2])), (wa2, .inl (cI, 4, .inl fw2)), (na2, .inl (cI, 4, .inl fn2))] := hD
  refine W.widen (k := 6) (n := 17) (by omega) (by omega) ?_
  refine lv_iconst (v := 4) hx hb dX4_areHung_83 (by decide) ?_
  refine lv_icmp_gt (tgt := 91) hx hb dX4_areHung_84 (by decide) (fun c9 => ?_) (fun c9 => ?_)
  · exact absurd c9 (by decide)
  refine lv_iconst (v := 1) hx hb dX4_areHung_87 (by decide) ?_
  refine lv_goto (tgt := 92) hx hb dX4_areHung_88 (by decide) ?_
  refine lv_iand hx hb dX4_areHung_92 ?_
  refine lv_topi (fun v41 ev41 => ?_)
  obtain rfl : v41 = 1 := ev41.trans (by decide)
  refine lv_istore (lv' := [(5, .int 1), (6, .int 2), (4, .ref r6), (3, .ref a3), (0, .ref mo), (1, .int 3), (2, .ref ot)]) hx hb dX4_areHung_93 hl (by decide) rfl (fun ls hl => ?_)
  refine lv_iinc (v := 3) (lv' := [(6, .int 3), (5, .int 1), (4, .ref r6), (3, .ref a3), (0, .ref mo), (1, .int 3), (2, .ref ot)]) hx hb dX4_areHung_95 hl (k := 1) rfl (by decide) (by decide) rfl (fun ls hl => ?_)
  refine lv_goto (tgt := 63) hx hb dX4_areHung_98 (by decide) ?_
  refine lv_iload hx hb dX4_areHung_63 (lv_at hl 0 rfl) ?_
  refine lv_aload_n hx hb dX4_areHung_65 rfl (lv_at hl 4 rfl) ?_
  refine va_get (D := (dC, dI)) (ci := 9) (v := .ref al) (C := RX4) (T := TX4) (N := 5) hx hb hts hi_X4_areHung_X4 hown hK hP 7 rfl rfl 1 (by decide) (hts (.fieldLink RX4 10 "DeeprowsModel" "rows" "Ljava/util/ArrayList;") (List.mem_cons_of_mem _ zw_1134)) (fun _ h9 => h9) rfl dX4_areHung_66 ?_
  have hPc := hP.sub (ws' := [(al, .inr (4, [mc, .ref ed, .int (nI cc)]))]) [8] rfl
  have hDc := hD.sub (ws' := [(al, .inr (4, [mc, .ref ed, .int (nI cc)]))]) [8] (by decide) rfl
  have hFc := va_free (wc := [(al, .inr (4, [mc, .ref ed, .int (nI cc)]))]) hD hS hA [8] rfl
  have hDv := hDc.self (sz := H39.size)
  have hpre := zpre (xs' := []) (av := [.ref al]) hPc hK (hDc.weaken (fun _ _ _ h => h)) hZ hS hFc (fun r hr => by cases hr)
  refine va_calli (va_runV (As := []) (rest := [.int 3]) ⟨hx, hb, hml, hown, hts⟩ (k_size l dC dI cI cB cR cO zk al ed (nI cc) mc H39.size ) (cwV 0 hts gX4_areHung_Jx4a65c_size_8abf5 rfl rfl rfl (by decide +kernel) ⟨Nat.le_of_ble_eq_true rfl, Nat.le_of_ble_eq_true rfl⟩) ⟨zblind, (zrecv_4 hK hPc (q0 := 0) rfl), hpre⟩ rfl rfl hl.1 rfl (lv_room (Nat.le_of_ble_eq_true rfl)) dX4_areHung_69 ⟨Nat.le_of_ble_eq_true rfl, Nat.le_of_ble_eq_true rfl⟩) hS (fun q _ h => hFc q h) hFc (fun r43 u t H42 locs ht hvm hw hB hz1 hk1 hS => ?_)
  obtain rfl : (nI cc) = r43 := (show r43 = (nI cc) from hw).symm
  obtain ⟨hP1, hK1, hD1, hz2⟩ := hB
  rw [ht] at hP1 hz2
  have hPD9 := va_join (wr := [(ot, .inl (cI, 4, .inl fo)), (r6, .inr (8, [.int 4, .ref wb7, .ref nb8])), (wb7, .inl (cI, 4, .inl fb9)), (nb8, .inl (cI, 4, .inl gb10)), (a3, .inr (8, [.int 4, .ref wa3, .ref na3])), (wa3, .inl (cI, 4, .inl (upd (upd (upd (upd fw3 0 3) 1 3) 2 3) 3 3))), (na3, .inl (cI, 4, .inl (upd (upd (upd (upd fn3 0 2) 1 2) 2 2) 3 2))), (mo, .inr (9, [th, .ref al, md, rf, kn])), (ed, .inl (cO, 10, .inr (.inr (.inr (.inr ee))))), (a0, .inr (8, [.int 4, .ref wa0, .ref na0])), (wa0, .inl (cI, 4, .inl fw0)), (na0, .inl (cI, 4, .inl fn0)), (a1, .inr (8, [.int 4, .ref wa1, .ref na1])), (wa1, .inl (cI, 4, .inl fw1)), (na1, .inl (cI, 4, .inl fn1)), (a2, .inr (8, [.int 4, .ref wa2, .ref na2])), (wa2, .inl (cI, 4, .inl fw2)), (na2, .inl (cI, 4, .inl fn2))]) (w1 := [(al, .inr (4, [mc, .ref ed, .int (nI cc)]))]) hP hD [8] [0, 1, 2, 3, 4, 5, 6, 7, 9, 10, 11, 12, 13, 14, 15, 16, 17, 18] rfl rfl (by decide) (by decide) hk1 hFc hP1 hD1
  clear hPc hDc hFc hDv hpre hP hD hP1 hK1 hD1
  obtain ⟨hP, hD⟩ := hPD9
  replace hz : s.heap.size + 3 ≤ H42.size := by omega
  clear hz2
  replace hP : va_P (dC, dI) vwCl [(ot, .inl (cI, 4, .inl fo)), (r6, .inr (8, [.int 4, .ref wb7, .ref nb8])), (wb7, .inl (cI, 4, .inl fb9)), (nb8, .inl (cI, 4, .inl gb10)), (a3, .inr (8, [.int 4, .ref wa3, .ref na3])), (wa3, .inl (cI, 4, .inl (upd (upd (upd (upd fw3 0 3) 1 3) 2 3) 3 3))), (na3, .inl (cI, 4, .inl (upd (upd (upd (upd fn3 0 2) 1 2) 2 2) 3 2))), (mo, .inr (9, [th, .ref al, md, rf, kn])), (ed, .inl (cO, 10, .inr (.inr (.inr (.inr ee))))), (a0, .inr (8, [.int 4, .ref wa0, .ref na0])), (wa0, .inl (cI, 4, .inl fw0)), (na0, .inl (cI, 4, .inl fn0)), (a1, .inr (8, [.int 4, .ref wa1, .ref na1])), (wa1, .inl (cI, 4, .inl fw1)), (na1, .inl (cI, 4, .inl fn1)), (a2, .inr (8, [.int 4, .ref wa2, .ref na2])), (wa2, .inl (cI, 4, .inl fw2)), (na2, .inl (cI, 4, .inl fn2)), (al, .inr (4, [mc, .ref ed, .int (nI cc)]))] H42 := hP
  replace hD : va_D A [(ot, .inl (cI, 4, .inl fo)), (r6, .inr (8, [.int 4, .ref wb7, .ref nb8])), (wb7, .inl (cI, 4, .inl fb9)), (nb8, .inl (cI, 4, .inl gb10)), (a3, .inr (8, [.int 4, .ref wa3, .ref na3])), (wa3, .inl (cI, 4, .inl (upd (upd (upd (upd fw3 0 3) 1 3) 2 3) 3 3))), (na3, .inl (cI, 4, .inl (upd (upd (upd (upd fn3 0 2) 1 2) 2 2) 3 2))), (mo, .inr (9, [th, .ref al, md, rf, kn])), (ed, .inl (cO, 10, .inr (.inr (.inr (.inr ee))))), (a0, .inr (8, [.int 4, .ref wa0, .ref na0])), (wa0, .inl (cI, 4, .inl fw0)), (na0, .inl (cI, 4, .inl fn0)), (a1, .inr (8, [.int 4, .ref wa1, .ref na1])), (wa1, .inl (cI, 4, .inl fw1)), (na1, .inl (cI, 4, .inl fn1)), (a2, .inr (8, [.int 4, .ref wa2, .ref na2])), (wa2, .inl (cI, 4, .inl fw2)), (na2, .inl (cI, 4, .inl fn2)), (al, .inr (4, [mc, .ref ed, .int (nI cc)]))] := hD
  refine W.widen (k := 6) (n := 17) (by omega) (by omega) ?_
  refine lv_icmp_ge (tgt := 101) hx hb dX4_areHung_72 (by decide) (fun c9 => ?_) (fun c9 => ?_)
  · exact absurd c9 (by rw [hcc3]; decide)
  refine lv_iload hx hb dX4_areHung_75 (lv_at hl 1 rfl) ?_
  refine lv_aload_n hx hb dX4_areHung_77 rfl (lv_at hl 4 rfl) ?_
  refine lv_iload hx hb dX4_areHung_78 (lv_at hl 0 rfl) ?_
  have hPc := hP.sub (ws' := [(mo, .inr (9, [th, .ref al, md, rf, kn])), (al, .inr (4, [mc, .ref ed, .int (nI cc)])), (ed, .inl (cO, 10, .inr (.inr (.inr (.inr ee))))), (a0, .inr (8, [.int 4, .ref wa0, .ref na0])), (wa0, .inl (cI, 4, .inl fw0)), (na0, .inl (cI, 4, .inl fn0)), (a1, .inr (8, [.int 4, .ref wa1, .ref na1])), (wa1, .inl (cI, 4, .inl fw1)), (na1, .inl (cI, 4, .inl fn1)), (a2, .inr (8, [.int 4, .ref wa2, .ref na2])), (wa2, .inl (cI, 4, .inl fw2)), (na2, .inl (cI, 4, .inl fn2)), (a3, .inr (8, [.int 4, .ref wa3, .ref na3])), (wa3, .inl (cI, 4, .inl (upd (upd (upd (upd fw3 0 3) 1 3) 2 3) 3 3))), (na3, .inl (cI, 4, .inl (upd (upd (upd (upd fn3 0 2) 1 2) 2 2) 3 2)))]) [7, 18, 8, 9, 10, 11, 12, 13, 14, 15, 16, 17, 4, 5, 6] rfl
  have hDc := hD.sub (ws' := [(mo, .inr (9, [th, .ref al, md, rf, kn])), (al, .inr (4, [mc, .ref ed, .int (nI cc)])), (ed, .inl (cO, 10, .inr (.inr (.inr (.inr ee))))), (a0, .inr (8, [.int 4, .ref wa0, .ref na0])), (wa0, .inl (cI, 4, .inl fw0)), (na0, .inl (cI, 4, .inl fn0)), (a1, .inr (8, [.int 4, .ref wa1, .ref na1])), (wa1, .inl (cI, 4, .inl fw1)), (na1, .inl (cI, 4, .inl fn1)), (a2, .inr (8, [.int 4, .ref wa2, .ref na2])), (wa2, .inl (cI, 4, .inl fw2)), (na2, .inl (cI, 4, .inl fn2)), (a3, .inr (8, [.int 4, .ref wa3, .ref na3])), (wa3, .inl (cI, 4, .inl (upd (upd (upd (upd fw3 0 3) 1 3) 2 3) 3 3))), (na3, .inl (cI, 4, .inl (upd (upd (upd (upd fn3 0 2) 1 2) 2 2) 3 2)))]) [7, 18, 8, 9, 10, 11, 12, 13, 14, 15, 16, 17, 4, 5, 6] (by decide) rfl
  have hFc := va_free (wc := [(mo, .inr (9, [th, .ref al, md, rf, kn])), (al, .inr (4, [mc, .ref ed, .int (nI cc)])), (ed, .inl (cO, 10, .inr (.inr (.inr (.inr ee))))), (a0, .inr (8, [.int 4, .ref wa0, .ref na0])), (wa0, .inl (cI, 4, .inl fw0)), (na0, .inl (cI, 4, .inl fn0)), (a1, .inr (8, [.int 4, .ref wa1, .ref na1])), (wa1, .inl (cI, 4, .inl fw1)), (na1, .inl (cI, 4, .inl fn1)), (a2, .inr (8, [.int 4, .ref wa2, .ref na2])), (wa2, .inl (cI, 4, .inl fw2)), (na2, .inl (cI, 4, .inl fn2)), (a3, .inr (8, [.int 4, .ref wa3, .ref na3])), (wa3, .inl (cI, 4, .inl (upd (upd (upd (upd fw3 0 3) 1 3) 2 3) 3 3))), (na3, .inl (cI, 4, .inl (upd (upd (upd (upd fn3 0 2) 1 2) 2 2) 3 2)))]) hD hS hA [7, 18, 8, 9, 10, 11, 12, 13, 14, 15, 16, 17, 4, 5, 6] rfl
  have hDv := hDc.self (sz := H42.size)
  have hpre := zpre (xs' := []) (av := [.ref mo, .int 3]) hPc hK (hDc.weaken (fun _ _ _ h => h)) hZ hS hFc (fun r hr => by cases hr)
  refine va_calli (va_runV (As := [.int 3]) (rest := [.int 1]) ⟨hx, hb, hml, hown, hts⟩ (k_dO3 l dC dI cI cB cR cO zk mo al ed cc ee th md rf kn mc a0 wa0 na0 a1 wa1 na1 a2 wa2 na2 a3 wa3 na3 fw0 fn0 fw1 fn1 fw2 fn2 (upd (upd (upd (upd fw3 0 3) 1 3) 2 3) 3 3) (upd (upd (upd (upd fn3 0 2) 1 2) 2 2) 3 2) H42.size (by omega) hcc2 hw0 hn0 he0 hw1 hn1 he1 hw2 hn2 he2 (fun i hi => by rcases (show i = 0 ∨ i = 1 ∨ i = 2 ∨ i = 3 by omega) with rfl | rfl | rfl | rfl <;> rfl) (fun i hi => by rcases (show i = 0 ∨ i = 1 ∨ i = 2 ∨ i = 3 by omega) with rfl | rfl | rfl | rfl <;> rfl) he3) (cwV 1 hts gX4_areHung_X4_depthOf rfl rfl rfl (by decide +kernel) ⟨Nat.le_of_ble_eq_true rfl, Nat.le_of_ble_eq_true rfl⟩) ⟨zblind, (zrecv_9 hK hPc (q0 := 0) rfl), hpre⟩ rfl rfl hl.1 rfl (lv_room (Nat.le_of_ble_eq_true rfl)) dX4_areHung_80 ⟨Nat.le_of_ble_eq_true rfl, Nat.le_of_ble_eq_true rfl⟩) hS (fun q _ h => hFc q h) hFc (fun r45 u t H44 locs ht hvm hw hB hz1 hk1 hS => ?_)
  obtain rfl : 4 = r45 := (show r45 = 4 from hw).symm
  obtain ⟨hP1, hK1, hD1, hz2⟩ := hB
  rw [ht] at hP1 hz2
  have hPD9 := va_join (wr := [(ot, .inl (cI, 4, .inl fo)), (r6, .inr (8, [.int 4, .ref wb7, .ref nb8])), (wb7, .inl (cI, 4, .inl fb9)), (nb8, .inl (cI, 4, .inl gb10))]) (w1 := [(mo, .inr (9, [th, .ref al, md, rf, kn])), (al, .inr (4, [mc, .ref ed, .int (nI cc)])), (ed, .inl (cO, 10, .inr (.inr (.inr (.inr ee))))), (a0, .inr (8, [.int 4, .ref wa0, .ref na0])), (wa0, .inl (cI, 4, .inl fw0)), (na0, .inl (cI, 4, .inl fn0)), (a1, .inr (8, [.int 4, .ref wa1, .ref na1])), (wa1, .inl (cI, 4, .inl fw1)), (na1, .inl (cI, 4, .inl fn1)), (a2, .inr (8, [.int 4, .ref wa2, .ref na2])), (wa2, .inl (cI, 4, .inl fw2)), (na2, .inl (cI, 4, .inl fn2)), (a3, .inr (8, [.int 4, .ref wa3, .ref na3])), (wa3, .inl (cI, 4, .inl (upd (upd (upd (upd fw3 0 3) 1 3) 2 3) 3 3))), (na3, .inl (cI, 4, .inl (upd (upd (upd (upd fn3 0 2) 1 2) 2 2) 3 2)))]) hP hD [7, 18, 8, 9, 10, 11, 12, 13, 14, 15, 16, 17, 4, 5, 6] [0, 1, 2, 3] rfl rfl (by decide) (by decide) hk1 hFc hP1 hD1
  clear hPc hDc hFc hDv hpre hP hD hP1 hK1 hD1
  obtain ⟨hP, hD⟩ := hPD9
  replace hz : s.heap.size + 3 ≤ H44.size := by omega
  clear hz2
  replace hP : va_P (dC, dI) vwCl [(ot, .inl (cI, 4, .inl fo)), (r6, .inr (8, [.int 4, .ref wb7, .ref nb8])), (wb7, .inl (cI, 4, .inl fb9)), (nb8, .inl (cI, 4, .inl gb10)), (mo, .inr (9, [th, .ref al, md, rf, kn])), (al, .inr (4, [mc, .ref ed, .int (nI cc)])), (ed, .inl (cO, 10, .inr (.inr (.inr (.inr ee))))), (a0, .inr (8, [.int 4, .ref wa0, .ref na0])), (wa0, .inl (cI, 4, .inl fw0)), (na0, .inl (cI, 4, .inl fn0)), (a1, .inr (8, [.int 4, .ref wa1, .ref na1])), (wa1, .inl (cI, 4, .inl fw1)), (na1, .inl (cI, 4, .inl fn1)), (a2, .inr (8, [.int 4, .ref wa2, .ref na2])), (wa2, .inl (cI, 4, .inl fw2)), (na2, .inl (cI, 4, .inl fn2)), (a3, .inr (8, [.int 4, .ref wa3, .ref na3])), (wa3, .inl (cI, 4, .inl (upd (upd (upd (upd fw3 0 3) 1 3) 2 3) 3 3))), (na3, .inl (cI, 4, .inl (upd (upd (upd (upd fn3 0 2) 1 2) 2 2) 3 2)))] H44 := hP
  replace hD : va_D A [(ot, .inl (cI, 4, .inl fo)), (r6, .inr (8, [.int 4, .ref wb7, .ref nb8])), (wb7, .inl (cI, 4, .inl fb9)), (nb8, .inl (cI, 4, .inl gb10)), (mo, .inr (9, [th, .ref al, md, rf, kn])), (al, .inr (4, [mc, .ref ed, .int (nI cc)])), (ed, .inl (cO, 10, .inr (.inr (.inr (.inr ee))))), (a0, .inr (8, [.int 4, .ref wa0, .ref na0])), (wa0, .inl (cI, 4, .inl fw0)), (na0, .inl (cI, 4, .inl fn0)), (a1, .inr (8, [.int 4, .ref wa1, .ref na1])), (wa1, .inl (cI, 4, .inl fw1)), (na1, .inl (cI, 4, .inl fn1)), (a2, .inr (8, [.int 4, .ref wa2, .ref na2])), (wa2, .inl (cI, 4, .inl fw2)), (na2, .inl (cI, 4, .inl fn2)), (a3, .inr (8, [.int 4, .ref wa3, .ref na3])), (wa3, .inl (cI, 4, .inl (upd (upd (upd (upd fw3 0 3) 1 3) 2 3) 3 3))), (na3, .inl (cI, 4, .inl (upd (upd (upd (upd fn3 0 2) 1 2) 2 2) 3 2)))] := hD
  refine W.widen (k := 7) (n := 21) (by omega) (by omega) ?_
  refine lv_iconst (v := 4) hx hb dX4_areHung_83 (by decide) ?_
  refine lv_icmp_gt (tgt := 91) hx hb dX4_areHung_84 (by decide) (fun c9 => ?_) (fun c9 => ?_)
  · exact absurd c9 (by decide)
  refine lv_iconst (v := 1) hx hb dX4_areHung_87 (by decide) ?_
  refine lv_goto (tgt := 92) hx hb dX4_areHung_88 (by decide) ?_
  refine lv_iand hx hb dX4_areHung_92 ?_
  refine lv_topi (fun v46 ev46 => ?_)
  obtain rfl : v46 = 1 := ev46.trans (by decide)
  refine lv_istore (lv' := [(5, .int 1), (6, .int 3), (4, .ref r6), (3, .ref a3), (0, .ref mo), (1, .int 3), (2, .ref ot)]) hx hb dX4_areHung_93 hl (by decide) rfl (fun ls hl => ?_)
  refine lv_iinc (v := 4) (lv' := [(6, .int 4), (5, .int 1), (4, .ref r6), (3, .ref a3), (0, .ref mo), (1, .int 3), (2, .ref ot)]) hx hb dX4_areHung_95 hl (k := 1) rfl (by decide) (by decide) rfl (fun ls hl => ?_)
  refine lv_goto (tgt := 63) hx hb dX4_areHung_98 (by decide) ?_
  refine lv_iload hx hb dX4_areHung_63 (lv_at hl 0 rfl) ?_
  refine lv_aload_n hx hb dX4_areHung_65 rfl (lv_at hl 4 rfl) ?_
  refine va_get (D := (dC, dI)) (ci := 9) (v := .ref al) (C := RX4) (T := TX4) (N := 5) hx hb hts hi_X4_areHung_X4 hown hK hP 4 rfl rfl 1 (by decide) (hts (.fieldLink RX4 10 "DeeprowsModel" "rows" "Ljava/util/ArrayList;") (List.mem_cons_of_mem _ zw_1134)) (fun _ h9 => h9) rfl dX4_areHung_66 ?_
  have hPc := hP.sub (ws' := [(al, .inr (4, [mc, .ref ed, .int (nI cc)]))]) [5] rfl
  have hDc := hD.sub (ws' := [(al, .inr (4, [mc, .ref ed, .int (nI cc)]))]) [5] (by decide) rfl
  have hFc := va_free (wc := [(al, .inr (4, [mc, .ref ed, .int (nI cc)]))]) hD hS hA [5] rfl
  have hDv := hDc.self (sz := H44.size)
  have hpre := zpre (xs' := []) (av := [.ref al]) hPc hK (hDc.weaken (fun _ _ _ h => h)) hZ hS hFc (fun r hr => by cases hr)
  refine va_calli (va_runV (As := []) (rest := [.int 4]) ⟨hx, hb, hml, hown, hts⟩ (k_size l dC dI cI cB cR cO zk al ed (nI cc) mc H44.size ) (cwV 0 hts gX4_areHung_Jx4a65c_size_8abf5 rfl rfl rfl (by decide +kernel) ⟨Nat.le_of_ble_eq_true rfl, Nat.le_of_ble_eq_true rfl⟩) ⟨zblind, (zrecv_4 hK hPc (q0 := 0) rfl), hpre⟩ rfl rfl hl.1 rfl (lv_room (Nat.le_of_ble_eq_true rfl)) dX4_areHung_69 ⟨Nat.le_of_ble_eq_true rfl, Nat.le_of_ble_eq_true rfl⟩) hS (fun q _ h => hFc q h) hFc (fun r48 u t H47 locs ht hvm hw hB hz1 hk1 hS => ?_)
  obtain rfl : (nI cc) = r48 := (show r48 = (nI cc) from hw).symm
  obtain ⟨hP1, hK1, hD1, hz2⟩ := hB
  rw [ht] at hP1 hz2
  have hPD9 := va_join (wr := [(ot, .inl (cI, 4, .inl fo)), (r6, .inr (8, [.int 4, .ref wb7, .ref nb8])), (wb7, .inl (cI, 4, .inl fb9)), (nb8, .inl (cI, 4, .inl gb10)), (mo, .inr (9, [th, .ref al, md, rf, kn])), (ed, .inl (cO, 10, .inr (.inr (.inr (.inr ee))))), (a0, .inr (8, [.int 4, .ref wa0, .ref na0])), (wa0, .inl (cI, 4, .inl fw0)), (na0, .inl (cI, 4, .inl fn0)), (a1, .inr (8, [.int 4, .ref wa1, .ref na1])), (wa1, .inl (cI, 4, .inl fw1)), (na1, .inl (cI, 4, .inl fn1)), (a2, .inr (8, [.int 4, .ref wa2, .ref na2])), (wa2, .inl (cI, 4, .inl fw2)), (na2, .inl (cI, 4, .inl fn2)), (a3, .inr (8, [.int 4, .ref wa3, .ref na3])), (wa3, .inl (cI, 4, .inl (upd (upd (upd (upd fw3 0 3) 1 3) 2 3) 3 3))), (na3, .inl (cI, 4, .inl (upd (upd (upd (upd fn3 0 2) 1 2) 2 2) 3 2)))]) (w1 := [(al, .inr (4, [mc, .ref ed, .int (nI cc)]))]) hP hD [5] [0, 1, 2, 3, 4, 6, 7, 8, 9, 10, 11, 12, 13, 14, 15, 16, 17, 18] rfl rfl (by decide) (by decide) hk1 hFc hP1 hD1
  clear hPc hDc hFc hDv hpre hP hD hP1 hK1 hD1
  obtain ⟨hP, hD⟩ := hPD9
  replace hz : s.heap.size + 3 ≤ H47.size := by omega
  clear hz2
  replace hP : va_P (dC, dI) vwCl [(ot, .inl (cI, 4, .inl fo)), (r6, .inr (8, [.int 4, .ref wb7, .ref nb8])), (wb7, .inl (cI, 4, .inl fb9)), (nb8, .inl (cI, 4, .inl gb10)), (mo, .inr (9, [th, .ref al, md, rf, kn])), (ed, .inl (cO, 10, .inr (.inr (.inr (.inr ee))))), (a0, .inr (8, [.int 4, .ref wa0, .ref na0])), (wa0, .inl (cI, 4, .inl fw0)), (na0, .inl (cI, 4, .inl fn0)), (a1, .inr (8, [.int 4, .ref wa1, .ref na1])), (wa1, .inl (cI, 4, .inl fw1)), (na1, .inl (cI, 4, .inl fn1)), (a2, .inr (8, [.int 4, .ref wa2, .ref na2])), (wa2, .inl (cI, 4, .inl fw2)), (na2, .inl (cI, 4, .inl fn2)), (a3, .inr (8, [.int 4, .ref wa3, .ref na3])), (wa3, .inl (cI, 4, .inl (upd (upd (upd (upd fw3 0 3) 1 3) 2 3) 3 3))), (na3, .inl (cI, 4, .inl (upd (upd (upd (upd fn3 0 2) 1 2) 2 2) 3 2))), (al, .inr (4, [mc, .ref ed, .int (nI cc)]))] H47 := hP
  replace hD : va_D A [(ot, .inl (cI, 4, .inl fo)), (r6, .inr (8, [.int 4, .ref wb7, .ref nb8])), (wb7, .inl (cI, 4, .inl fb9)), (nb8, .inl (cI, 4, .inl gb10)), (mo, .inr (9, [th, .ref al, md, rf, kn])), (ed, .inl (cO, 10, .inr (.inr (.inr (.inr ee))))), (a0, .inr (8, [.int 4, .ref wa0, .ref na0])), (wa0, .inl (cI, 4, .inl fw0)), (na0, .inl (cI, 4, .inl fn0)), (a1, .inr (8, [.int 4, .ref wa1, .ref na1])), (wa1, .inl (cI, 4, .inl fw1)), (na1, .inl (cI, 4, .inl fn1)), (a2, .inr (8, [.int 4, .ref wa2, .ref na2])), (wa2, .inl (cI, 4, .inl fw2)), (na2, .inl (cI, 4, .inl fn2)), (a3, .inr (8, [.int 4, .ref wa3, .ref na3])), (wa3, .inl (cI, 4, .inl (upd (upd (upd (upd fw3 0 3) 1 3) 2 3) 3 3))), (na3, .inl (cI, 4, .inl (upd (upd (upd (upd fn3 0 2) 1 2) 2 2) 3 2))), (al, .inr (4, [mc, .ref ed, .int (nI cc)]))] := hD
  refine W.widen (k := 7) (n := 21) (by omega) (by omega) ?_
  refine lv_icmp_ge (tgt := 101) hx hb dX4_areHung_72 (by decide) (fun c9 => ?_) (fun c9 => ?_)
  rotate_left
  · exact absurd (by rw [hcc3]; decide) c9
  refine lv_iconst (v := 0) hx hb dX4_areHung_101 (by decide) ?_
  refine lv_istore (lv' := [(6, .int 0), (5, .int 1), (4, .ref r6), (3, .ref a3), (0, .ref mo), (1, .int 3), (2, .ref ot)]) hx hb dX4_areHung_102 hl (by decide) rfl (fun ls hl => ?_)
  refine lv_iload hx hb dX4_areHung_104 (lv_at hl 0 rfl) ?_
  refine lv_aload_n hx hb dX4_areHung_106 rfl (lv_at hl 3 rfl) ?_
  have hPc := hP.sub (ws' := [(a3, .inr (8, [.int 4, .ref wa3, .ref na3])), (wa3, .inl (cI, 4, .inl (upd (upd (upd (upd fw3 0 3) 1 3) 2 3) 3 3)))]) [15, 16] rfl
  have hDc := hD.sub (ws' := [(a3, .inr (8, [.int 4, .ref wa3, .ref na3])), (wa3, .inl (cI, 4, .inl (upd (upd (upd (upd fw3 0 3) 1 3) 2 3) 3 3)))]) [15, 16] (by decide) rfl
  have hFc := va_free (wc := [(a3, .inr (8, [.int 4, .ref wa3, .ref na3])), (wa3, .inl (cI, 4, .inl (upd (upd (upd (upd fw3 0 3) 1 3) 2 3) 3 3)))]) hD hS hA [15, 16] rfl
  have hDv := hDc.self (sz := H47.size)
  have hpre := zpre (xs' := []) (av := [.ref a3]) hPc hK (hDc.weaken (fun _ _ _ h => h)) hZ hS hFc (fun r hr => by cases hr)
  refine va_calli (va_runV (As := []) (rest := [.int 0]) ⟨hx, hb, hml, hown, hts⟩ (k_rlen l dC dI cI cB cR cO zk a3 wa3 na3 (upd (upd (upd (upd fw3 0 3) 1 3) 2 3) 3 3) H47.size ) (cwV 0 hts gX4_areHung_X3_length rfl rfl rfl (by decide +kernel) ⟨Nat.le_of_ble_eq_true rfl, Nat.le_of_ble_eq_true rfl⟩) ⟨zblind, (zrecv_8 hK hPc (q0 := 0) rfl), hpre⟩ rfl rfl hl.1 rfl (lv_room (Nat.le_of_ble_eq_true rfl)) dX4_areHung_107 ⟨Nat.le_of_ble_eq_true rfl, Nat.le_of_ble_eq_true rfl⟩) hS (fun q _ h => hFc q h) hFc (fun r50 u t H49 locs ht hvm hw hB hz1 hk1 hS => ?_)
  obtain rfl : 4 = r50 := (show r50 = 4 from hw).symm
  obtain ⟨hP1, hK1, hD1, hz2⟩ := hB
  rw [ht] at hP1 hz2
  have hPD9 := va_join (wr := [(ot, .inl (cI, 4, .inl fo)), (r6, .inr (8, [.int 4, .ref wb7, .ref nb8])), (wb7, .inl (cI, 4, .inl fb9)), (nb8, .inl (cI, 4, .inl gb10)), (mo, .inr (9, [th, .ref al, md, rf, kn])), (ed, .inl (cO, 10, .inr (.inr (.inr (.inr ee))))), (a0, .inr (8, [.int 4, .ref wa0, .ref na0])), (wa0, .inl (cI, 4, .inl fw0)), (na0, .inl (cI, 4, .inl fn0)), (a1, .inr (8, [.int 4, .ref wa1, .ref na1])), (wa1, .inl (cI, 4, .inl fw1)), (na1, .inl (cI, 4, .inl fn1)), (a2, .inr (8, [.int 4, .ref wa2, .ref na2])), (wa2, .inl (cI, 4, .inl fw2)), (na2, .inl (cI, 4, .inl fn2)), (na3, .inl (cI, 4, .inl (upd (upd (upd (upd fn3 0 2) 1 2) 2 2) 3 2))), (al, .inr (4, [mc, .ref ed, .int (nI cc)]))]) (w1 := [(a3, .inr (8, [.int 4, .ref wa3, .ref na3])), (wa3, .inl (cI, 4, .inl (upd (upd (upd (upd fw3 0 3) 1 3) 2 3) 3 3)))]) hP hD [15, 16] [0, 1, 2, 3, 4, 5, 6, 7, 8, 9, 10, 11, 12, 13, 14, 17, 18] rfl rfl (by decide) (by decide) hk1 hFc hP1 hD1
  clear hPc hDc hFc hDv hpre hP hD hP1 hK1 hD1
  obtain ⟨hP, hD⟩ := hPD9
  replace hz : s.heap.size + 3 ≤ H49.size := by omega
  clear hz2
  replace hP : va_P (dC, dI) vwCl [(ot, .inl (cI, 4, .inl fo)), (r6, .inr (8, [.int 4, .ref wb7, .ref nb8])), (wb7, .inl (cI, 4, .inl fb9)), (nb8, .inl (cI, 4, .inl gb10)), (mo, .inr (9, [th, .ref al, md, rf, kn])), (ed, .inl (cO, 10, .inr (.inr (.inr (.inr ee))))), (a0, .inr (8, [.int 4, .ref wa0, .ref na0])), (wa0, .inl (cI, 4, .inl fw0)), (na0, .inl (cI, 4, .inl fn0)), (a1, .inr (8, [.int 4, .ref wa1, .ref na1])), (wa1, .inl (cI, 4, .inl fw1)), (na1, .inl (cI, 4, .inl fn1)), (a2, .inr (8, [.int 4, .ref wa2, .ref na2])), (wa2, .inl (cI, 4, .inl fw2)), (na2, .inl (cI, 4, .inl fn2)), (na3, .inl (cI, 4, .inl (upd (upd (upd (upd fn3 0 2) 1 2) 2 2) 3 2))), (al, .inr (4, [mc, .ref ed, .int (nI cc)])), (a3, .inr (8, [.int 4, .ref wa3, .ref na3])), (wa3, .inl (cI, 4, .inl (upd (upd (upd (upd fw3 0 3) 1 3) 2 3) 3 3)))] H49 := hP
  replace hD : va_D A [(ot, .inl (cI, 4, .inl fo)), (r6, .inr (8, [.int 4, .ref wb7, .ref nb8])), (wb7, .inl (cI, 4, .inl fb9)), (nb8, .inl (cI, 4, .inl gb10)), (mo, .inr (9, [th, .ref al, md, rf, kn])), (ed, .inl (cO, 10, .inr (.inr (.inr (.inr ee))))), (a0, .inr (8, [.int 4, .ref wa0, .ref na0])), (wa0, .inl (cI, 4, .inl fw0)), (na0, .inl (cI, 4, .inl fn0)), (a1, .inr (8, [.int 4, .ref wa1, .ref na1])), (wa1, .inl (cI, 4, .inl fw1)), (na1, .inl (cI, 4, .inl fn1)), (a2, .inr (8, [.int 4, .ref wa2, .ref na2])), (wa2, .inl (cI, 4, .inl fw2)), (na2, .inl (cI, 4, .inl fn2)), (na3, .inl (cI, 4, .inl (upd (upd (upd (upd fn3 0 2) 1 2) 2 2) 3 2))), (al, .inr (4, [mc, .ref ed, .int (nI cc)])), (a3, .inr (8, [.int 4, .ref wa3, .ref na3])), (wa3, .inl (cI, 4, .inl (upd (upd (upd (upd fw3 0 3) 1 3) 2 3) 3 3)))] := hD
  refine W.widen (k := 7) (n := 21) (by omega) (by omega) ?_
  refine lv_icmp_ge (tgt := 146) hx hb dX4_areHung_110 (by decide) (fun c9 => ?_) (fun c9 => ?_)
  · exact absurd c9 (by decide)
  refine lv_iload hx hb dX4_areHung_113 (lv_at hl 1 rfl) ?_
  refine lv_if_ne (tgt := 146) hx hb dX4_areHung_115 (by decide) (fun c9 => ?_) (fun c9 => ?_)
  rotate_left
  · exact absurd c9 (by decide)
  refine lv_iload hx hb dX4_areHung_146 (lv_at hl 1 rfl) ?_
  have hP9 := hP.sub (ws' := [(mo, .inr (9, [th, .ref al, md, rf, kn])), (al, .inr (4, [mc, .ref ed, .int (nI cc)])), (ed, .inl (cO, 10, .inr (.inr (.inr (.inr ee))))), (a0, .inr (8, [.int 4, .ref wa0, .ref na0])), (wa0, .inl (cI, 4, .inl fw0)), (na0, .inl (cI, 4, .inl fn0)), (a1, .inr (8, [.int 4, .ref wa1, .ref na1])), (wa1, .inl (cI, 4, .inl fw1)), (na1, .inl (cI, 4, .inl fn1)), (a2, .inr (8, [.int 4, .ref wa2, .ref na2])), (wa2, .inl (cI, 4, .inl fw2)), (na2, .inl (cI, 4, .inl fn2)), (a3, .inr (8, [.int 4, .ref wa3, .ref na3])), (wa3, .inl (cI, 4, .inl (upd (upd (upd (upd fw3 0 3) 1 3) 2 3) 3 3))), (na3, .inl (cI, 4, .inl (upd (upd (upd (upd fn3 0 2) 1 2) 2 2) 3 2))), (ot, .inl (cI, 4, .inl fo))]) [4, 16, 5, 6, 7, 8, 9, 10, 11, 12, 13, 14, 17, 18, 15, 0] rfl
  have hD9 := hD.sub (ws' := [(mo, .inr (9, [th, .ref al, md, rf, kn])), (al, .inr (4, [mc, .ref ed, .int (nI cc)])), (ed, .inl (cO, 10, .inr (.inr (.inr (.inr ee))))), (a0, .inr (8, [.int 4, .ref wa0, .ref na0])), (wa0, .inl (cI, 4, .inl fw0)), (na0, .inl (cI, 4, .inl fn0)), (a1, .inr (8, [.int 4, .ref wa1, .ref na1])), (wa1, .inl (cI, 4, .inl fw1)), (na1, .inl (cI, 4, .inl fn1)), (a2, .inr (8, [.int 4, .ref wa2, .ref na2])), (wa2, .inl (cI, 4, .inl fw2)), (na2, .inl (cI, 4, .inl fn2)), (a3, .inr (8, [.int 4, .ref wa3, .ref na3])), (wa3, .inl (cI, 4, .inl (upd (upd (upd (upd fw3 0 3) 1 3) 2 3) 3 3))), (na3, .inl (cI, 4, .inl (upd (upd (upd (upd fn3 0 2) 1 2) 2 2) 3 2))), (ot, .inl (cI, 4, .inl fo))]) [4, 16, 5, 6, 7, 8, 9, 10, 11, 12, 13, 14, 17, 18, 15, 0] (by decide) rfl
  exact W.zret (v := 1) hx hb hr (by decide +kernel) (fun t ht hW => ⟨⟨_, (), rfl, rfl, ⟨_, _, ⟨by rw [ht]; exact hP9, va_K.moved hW.alike hK, hD9, by rw [ht]; exact hz⟩, fun i hi => by rcases (show i = 0 ∨ i = 1 ∨ i = 2 ∨ i = 3 by omega) with rfl | rfl | rfl | rfl <;> rfl, fun i hi => by rcases (show i = 0 ∨ i = 1 ∨ i = 2 ∨ i = 3 by omega) with rfl | rfl | rfl | rfl <;> rfl⟩⟩, hS.F ht⟩) hS.2.2 dX4_areHung_148
