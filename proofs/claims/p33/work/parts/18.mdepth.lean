theorem hi_X4_depthOf_X4 : ∀ w ∈ u_ws RX4 TX4 5, w ∈ wsX4_depthOf := fun w h => List.mem_cons_of_mem _ (zhi_X4 w h)
set_option maxHeartbeats 4000000 in
set_option maxRecDepth 100000 in
theorem k_dO0 (l : Launch) (dC : Nat → ClassId) (dI : Nat → Nat → Nat) (cI cB cR cO : ClassId) (zk : Nat → Nat) (mo al ed cc : Nat) (ee : Nat → Option Nat) (th md rf kn mc : Value) (a0 wa0 na0 : Nat) (fw0 fn0 : Nat → Int32) (sz : Nat) (hcc : 0 < cc) (hcc2 : cc ≤ 10) (hw0 : ∀ i, i < 4 → fw0 i = 0) (hn0 : ∀ i, i < 4 → fn0 i = (-1)) (he0 : ee 0 = some a0) : Met l yX4_depthOf wsX4_depthOf ({ frames := 3, cells := 1, slots := 1, locals := 64 }) (va_Pc [.ref mo, .int 0] (zPre (dC, dI) (zT cI cB cR cO) zk [] [(mo, .inr (9, [th, .ref al, md, rf, kn])), (al, .inr (4, [mc, .ref ed, .int (nI cc)])), (ed, .inl (cO, 10, .inr (.inr (.inr (.inr ee))))), (a0, .inr (8, [.int 4, .ref wa0, .ref na0])), (wa0, .inl (cI, 4, .inl fw0)), (na0, .inl (cI, 4, .inl fn0))] sz)) (va_Qi (fun r (_ : Unit) => r = 1) (fun _ t => zEnd (dC, dI) (zT cI cB cR cO) (va_A [(mo, .inr (9, [th, .ref al, md, rf, kn])), (al, .inr (4, [mc, .ref ed, .int (nI cc)])), (ed, .inl (cO, 10, .inr (.inr (.inr (.inr ee))))), (a0, .inr (8, [.int 4, .ref wa0, .ref na0])), (wa0, .inl (cI, 4, .inl fw0)), (na0, .inl (cI, 4, .inl fn0))] sz) [(mo, .inr (9, [th, .ref al, md, rf, kn])), (al, .inr (4, [mc, .ref ed, .int (nI cc)])), (ed, .inl (cO, 10, .inr (.inr (.inr (.inr ee))))), (a0, .inr (8, [.int 4, .ref wa0, .ref na0])), (wa0, .inl (cI, 4, .inl fw0)), (na0, .inl (cI, 4, .inl fn0))] sz 1 t) (va_A [(mo, .inr (9, [th, .ref al, md, rf, kn])), (al, .inr (4, [mc, .ref ed, .int (nI cc)])), (ed, .inl (cO, 10, .inr (.inr (.inr (.inr ee))))), (a0, .inr (8, [.int 4, .ref wa0, .ref na0])), (wa0, .inl (cI, 4, .inl fw0)), (na0, .inl (cI, 4, .inl fn0))] sz)) 1 1 (va_A [(mo, .inr (9, [th, .ref al, md, rf, kn])), (al, .inr (4, [mc, .ref ed, .int (nI cc)])), (ed, .inl (cO, 10, .inr (.inr (.inr (.inr ee))))), (a0, .inr (8, [.int 4, .ref wa0, .ref na0])), (wa0, .inl (cI, 4, .inl fw0)), (na0, .inl (cI, 4, .inl fn0))] sz) := by
  refine Met.ofW (cc := cX4_depthOf) (maxL := 6) (ret := (some .int)) (by decide) rfl ?_
  intro p e s mY args below meth c s₁ B hml hv
  obtain ⟨rfl, hsz, hP, hK, hD0, hZ⟩ := hv
  have hx := B.exec
  have hb := B.bytes
  have hr := B.returns
  have hts := atoms_spec (ws := wsX4_depthOf) B.pre
  have hown : s.vm.findClass RX4 = some mY.cls := findClass_of_methodNamed B.named
  have hlocks := B.notSynchronized
  subst hsz
  have hD := hD0.self (sz := s.heap.size)
  generalize hAe : va_A [(mo, .inr (9, [th, .ref al, md, rf, kn])), (al, .inr (4, [mc, .ref ed, .int (nI cc)])), (ed, .inl (cO, 10, .inr (.inr (.inr (.inr ee))))), (a0, .inr (8, [.int 4, .ref wa0, .ref na0])), (wa0, .inl (cI, 4, .inl fw0)), (na0, .inl (cI, 4, .inl fn0))] s.heap.size = A at hD hZ ⊢
  have hA : ∀ q : Nat, s.heap.size ≤ q → A q := fun q h => by rw [← hAe]; exact Or.inr h
  have hS : va_S A s.heap s.heap [] := va_S.rf
  have hz : s.heap.size + 0 ≤ s.heap.size := Nat.le_refl _
  have hl := lv_entry ([.ref mo, .int 0]) (n := 6) (Nat.le_of_ble_eq_true rfl)
  rw [lg_entry_eq]
  generalize (lg_sl ([.ref mo, .int 0]) ++ List.replicate (6 - (lg_sl ([.ref mo, .int 0])).length) Slot.unset).toArray = ls at hl ⊢
  have hl : lv_has ls 6 [(0, .ref mo), (1, .int 0)] := hl
  have hP : va_P (dC, dI) vwCl [(mo, .inr (9, [th, .ref al, md, rf, kn])), (al, .inr (4, [mc, .ref ed, .int (nI cc)])), (ed, .inl (cO, 10, .inr (.inr (.inr (.inr ee))))), (a0, .inr (8, [.int 4, .ref wa0, .ref na0])), (wa0, .inl (cI, 4, .inl fw0)), (na0, .inl (cI, 4, .inl fn0))] s.heap := hP
  have hD : va_D A [(mo, .inr (9, [th, .ref al, md, rf, kn])), (al, .inr (4, [mc, .ref ed, .int (nI cc)])), (ed, .inl (cO, 10, .inr (.inr (.inr (.inr ee))))), (a0, .inr (8, [.int 4, .ref wa0, .ref na0])), (wa0, .inl (cI, 4, .inl fw0)), (na0, .inl (cI, 4, .inl fn0))] := hD
  refine lv_iload_n hx hb dX4_depthOf_0 rfl (lv_at hl 1 rfl) ?_
  refine lv_iconst (v := 1) hx hb dX4_depthOf_1 (by decide) ?_
  refine lv_iadd hx hb dX4_depthOf_2 ?_
  refine lv_topi (fun v1 ev1 => ?_)
  obtain rfl : v1 = 1 := ev1.trans (by decide)
  refine zw_newa (atype := .int) (ty := .int) (N' := 1) hx hb (hts (.arrayClass .int) (List.mem_cons_of_mem _ zw_137)) rfl (by first | exact Or.inl rfl | exact Or.inr rfl) hK hP hD hS hA 0 rfl (by decide) (by decide) (Nat.le_of_ble_eq_true rfl) (Nat.le_of_ble_eq_true rfl) (Nat.le_of_ble_eq_true rfl) dX4_depthOf_3 hz (fun q2 H3 hP hD hS hz => ?_)
  replace hP : va_P (dC, dI) vwCl [(mo, .inr (9, [th, .ref al, md, rf, kn])), (al, .inr (4, [mc, .ref ed, .int (nI cc)])), (ed, .inl (cO, 10, .inr (.inr (.inr (.inr ee))))), (a0, .inr (8, [.int 4, .ref wa0, .ref na0])), (wa0, .inl (cI, 4, .inl fw0)), (na0, .inl (cI, 4, .inl fn0)), (q2, .inl (cI, 1, .inl (fun _ => 0)))] H3 := hP
  replace hD : va_D A [(mo, .inr (9, [th, .ref al, md, rf, kn])), (al, .inr (4, [mc, .ref ed, .int (nI cc)])), (ed, .inl (cO, 10, .inr (.inr (.inr (.inr ee))))), (a0, .inr (8, [.int 4, .ref wa0, .ref na0])), (wa0, .inl (cI, 4, .inl fw0)), (na0, .inl (cI, 4, .inl fn0)), (q2, .inl (cI, 1, .inl (fun _ => 0)))] := hD
  refine W.widen (k := 1) (n := 1) (by omega) (by omega) ?_
  refine lv_astore_n (lv' := [(2, .ref q2), (0, .ref mo), (1, .int 0)]) hx hb dX4_depthOf_5 rfl hl (by decide) rfl (fun ls hl => ?_)
  refine lv_iconst (v := 0) hx hb dX4_depthOf_6 (by decide) ?_
  refine lv_istore_n (lv' := [(3, .int 0), (2, .ref q2), (0, .ref mo), (1, .int 0)]) hx hb dX4_depthOf_7 rfl hl (by decide) rfl (fun ls hl => ?_)
  refine lv_iload_n hx hb dX4_depthOf_8 rfl (lv_at hl 0 rfl) ?_
  refine lv_iload_n hx hb dX4_depthOf_9 rfl (lv_at hl 3 rfl) ?_
  refine lv_icmp_gt (tgt := 86) hx hb dX4_depthOf_10 (by decide) (fun c9 => ?_) (fun c9 => ?_)
  · exact absurd c9 (by decide)
  refine lv_aload_n hx hb dX4_depthOf_13 rfl (lv_at hl 2 rfl) ?_
  refine va_get (D := (dC, dI)) (ci := 9) (v := .ref al) (C := RX4) (T := TX4) (N := 5) hx hb hts hi_X4_depthOf_X4 hown hK hP 0 rfl rfl 1 (by decide) (hts (.fieldLink RX4 10 "DeeprowsModel" "rows" "Ljava/util/ArrayList;") (List.mem_cons_of_mem _ zw_1134)) (fun _ h9 => h9) rfl dX4_depthOf_14 ?_
  refine lv_iload_n hx hb dX4_depthOf_17 rfl (lv_at hl 0 rfl) ?_
  have hPc := hP.sub (ws' := [(al, .inr (4, [mc, .ref ed, .int (nI cc)])), (ed, .inl (cO, 10, .inr (.inr (.inr (.inr ee)))))]) [1, 2] rfl
  have hDc := hD.sub (ws' := [(al, .inr (4, [mc, .ref ed, .int (nI cc)])), (ed, .inl (cO, 10, .inr (.inr (.inr (.inr ee)))))]) [1, 2] (by decide) rfl
  have hFc := va_free (wc := [(al, .inr (4, [mc, .ref ed, .int (nI cc)])), (ed, .inl (cO, 10, .inr (.inr (.inr (.inr ee)))))]) hD hS hA [1, 2] rfl
  have hDv := hDc.self (sz := H3.size)
  have hpre := zpre (xs' := []) (av := [.ref al, .int 0]) hPc hK (hDc.weaken (fun _ _ _ h => h)) hZ hS hFc (fun r hr => by cases hr)
  refine va_callr (va_runV (As := [.int 0]) (rest := []) ⟨hx, hb, hml, hown, hts⟩ (k_get l dC dI cI cB cR cO zk al ed 0 cc 10 a0 ee mc H3.size (by omega) hcc2 (by decide) he0) (cwV 1 hts gX4_depthOf_Jx4a65c_get_915e3 rfl rfl rfl (by decide +kernel) ⟨Nat.le_of_ble_eq_true rfl, Nat.le_of_ble_eq_true rfl⟩) ⟨zblind, (zrecv_4 hK hPc (q0 := 0) rfl), hpre⟩ rfl rfl hl.1 rfl (lv_room (Nat.le_of_ble_eq_true rfl)) dX4_depthOf_18 ⟨Nat.le_of_ble_eq_true rfl, Nat.le_of_ble_eq_true rfl⟩) hS (fun q _ h => hFc q h) hFc (fun u r5 t H4 locs ht hvm hw hB hz1 hk1 hS => ?_)
  obtain ⟨⟨hP1, hK1, hD1, hz2⟩, her5⟩ := hB
  rw [ht] at hP1 hz2
  have hPD9 := va_join (wr := [(mo, .inr (9, [th, .ref al, md, rf, kn])), (a0, .inr (8, [.int 4, .ref wa0, .ref na0])), (wa0, .inl (cI, 4, .inl fw0)), (na0, .inl (cI, 4, .inl fn0)), (q2, .inl (cI, 1, .inl (fun _ => 0)))]) (w1 := [(al, .inr (4, [mc, .ref ed, .int (nI cc)])), (ed, .inl (cO, 10, .inr (.inr (.inr (.inr ee)))))]) hP hD [1, 2] [0, 3, 4, 5, 6] rfl rfl (by decide) (by decide) hk1 hFc hP1 hD1
  clear hPc hDc hFc hDv hpre hP hD hP1 hK1 hD1
  obtain ⟨hP, hD⟩ := hPD9
  replace hz : s.heap.size + 1 ≤ H4.size := by omega
  clear hz2
  replace hP : va_P (dC, dI) vwCl [(mo, .inr (9, [th, .ref al, md, rf, kn])), (a0, .inr (8, [.int 4, .ref wa0, .ref na0])), (wa0, .inl (cI, 4, .inl fw0)), (na0, .inl (cI, 4, .inl fn0)), (q2, .inl (cI, 1, .inl (fun _ => 0))), (al, .inr (4, [mc, .ref ed, .int (nI cc)])), (ed, .inl (cO, 10, .inr (.inr (.inr (.inr ee)))))] H4 := hP
  replace hD : va_D A [(mo, .inr (9, [th, .ref al, md, rf, kn])), (a0, .inr (8, [.int 4, .ref wa0, .ref na0])), (wa0, .inl (cI, 4, .inl fw0)), (na0, .inl (cI, 4, .inl fn0)), (q2, .inl (cI, 1, .inl (fun _ => 0))), (al, .inr (4, [mc, .ref ed, .int (nI cc)])), (ed, .inl (cO, 10, .inr (.inr (.inr (.inr ee)))))] := hD
  refine W.widen (k := 1) (n := 1) (by omega) (by omega) ?_
  obtain rfl := her5.symm
  refine va_castE hx hb hown (hts (.classLink RX4 40 "DeeprowsModel$Row") (List.mem_cons_of_mem _ zw_1165)) (zrecv_8 hK hP (q0 := 1) rfl) dX4_depthOf_21 ?_
  refine lv_astore (lv' := [(4, .ref a0), (3, .int 0), (2, .ref q2), (0, .ref mo), (1, .int 0)]) hx hb dX4_depthOf_24 hl (by decide) rfl (fun ls hl => ?_)
  refine lv_aload_n hx hb dX4_depthOf_26 rfl (lv_at hl 2 rfl) ?_
  refine lv_iload_n hx hb dX4_depthOf_27 rfl (lv_at hl 1 rfl) ?_
  refine lv_iconst (v := 1) hx hb dX4_depthOf_28 (by decide) ?_
  refine va_iast (D := (dC, dI)) (cl := vwCl) hx hb hK hP hD (zS0 hS) 4 0 rfl rfl (by unfold vp_in; decide) dX4_depthOf_29 (fun H6 locs hP hD hS1 => ?_)
  have hz : s.heap.size + 1 ≤ H6.size := Nat.le_trans hz hS1.1
  have hS := zSS hS hS1
  replace hP : va_P (dC, dI) vwCl [(mo, .inr (9, [th, .ref al, md, rf, kn])), (a0, .inr (8, [.int 4, .ref wa0, .ref na0])), (wa0, .inl (cI, 4, .inl fw0)), (na0, .inl (cI, 4, .inl fn0)), (q2, .inl (cI, 1, .inl (upd (fun _ => 0) 0 1))), (al, .inr (4, [mc, .ref ed, .int (nI cc)])), (ed, .inl (cO, 10, .inr (.inr (.inr (.inr ee)))))] H6 := hP
  replace hD : va_D A [(mo, .inr (9, [th, .ref al, md, rf, kn])), (a0, .inr (8, [.int 4, .ref wa0, .ref na0])), (wa0, .inl (cI, 4, .inl fw0)), (na0, .inl (cI, 4, .inl fn0)), (q2, .inl (cI, 1, .inl (upd (fun _ => 0) 0 1))), (al, .inr (4, [mc, .ref ed, .int (nI cc)])), (ed, .inl (cO, 10, .inr (.inr (.inr (.inr ee)))))] := hD
  refine lv_iconst (v := 0) hx hb dX4_depthOf_30 (by decide) ?_
  refine lv_istore (lv' := [(5, .int 0), (4, .ref a0), (3, .int 0), (2, .ref q2), (0, .ref mo), (1, .int 0)]) hx hb dX4_depthOf_31 hl (by decide) rfl (fun ls hl => ?_)
  refine lv_iload hx hb dX4_depthOf_33 (lv_at hl 0 rfl) ?_
  refine lv_aload hx hb dX4_depthOf_35 (lv_at hl 1 rfl) ?_
  have hPc := hP.sub (ws' := [(a0, .inr (8, [.int 4, .ref wa0, .ref na0])), (wa0, .inl (cI, 4, .inl fw0))]) [1, 2] rfl
  have hDc := hD.sub (ws' := [(a0, .inr (8, [.int 4, .ref wa0, .ref na0])), (wa0, .inl (cI, 4, .inl fw0))]) [1, 2] (by decide) rfl
  have hFc := va_free (wc := [(a0, .inr (8, [.int 4, .ref wa0, .ref na0])), (wa0, .inl (cI, 4, .inl fw0))]) hD hS hA [1, 2] rfl
  have hDv := hDc.self (sz := H6.size)
  have hpre := zpre (xs' := []) (av := [.ref a0]) hPc hK (hDc.weaken (fun _ _ _ h => h)) hZ hS hFc (fun r hr => by cases hr)
  refine va_calli (va_runV (As := []) (rest := [.int 0]) ⟨hx, hb, hml, hown, hts⟩ (k_rlen l dC dI cI cB cR cO zk a0 wa0 na0 fw0 H6.size ) (cwV 0 hts gX4_depthOf_X3_length rfl rfl rfl (by decide +kernel) ⟨Nat.le_of_ble_eq_true rfl, Nat.le_of_ble_eq_true rfl⟩) ⟨zblind, (zrecv_8 hK hPc (q0 := 0) rfl), hpre⟩ rfl rfl hl.1 rfl (lv_room (Nat.le_of_ble_eq_true rfl)) dX4_depthOf_37 ⟨Nat.le_of_ble_eq_true rfl, Nat.le_of_ble_eq_true rfl⟩) hS (fun q _ h => hFc q h) hFc (fun r8 u t H7 locs ht hvm hw hB hz1 hk1 hS => ?_)
  obtain rfl : 4 = r8 := (show r8 = 4 from hw).symm
  obtain ⟨hP1, hK1, hD1, hz2⟩ := hB
  rw [ht] at hP1 hz2
  have hPD9 := va_join (wr := [(mo, .inr (9, [th, .ref al, md, rf, kn])), (na0, .inl (cI, 4, .inl fn0)), (q2, .inl (cI, 1, .inl (upd (fun _ => 0) 0 1))), (al, .inr (4, [mc, .ref ed, .int (nI cc)])), (ed, .inl (cO, 10, .inr (.inr (.inr (.inr ee)))))]) (w1 := [(a0, .inr (8, [.int 4, .ref wa0, .ref na0])), (wa0, .inl (cI, 4, .inl fw0))]) hP hD [1, 2] [0, 3, 4, 5, 6] rfl rfl (by decide) (by decide) hk1 hFc hP1 hD1
  clear hPc hDc hFc hDv hpre hP hD hP1 hK1 hD1
  obtain ⟨hP, hD⟩ := hPD9
  replace hz : s.heap.size + 1 ≤ H7.size := by omega
  clear hz2
  replace hP : va_P (dC, dI) vwCl [(mo, .inr (9, [th, .ref al, md, rf, kn])), (na0, .inl (cI, 4, .inl fn0)), (q2, .inl (cI, 1, .inl (upd (fun _ => 0) 0 1))), (al, .inr (4, [mc, .ref ed, .int (nI cc)])), (ed, .inl (cO, 10, .inr (.inr (.inr (.inr ee))))), (a0, .inr (8, [.int 4, .ref wa0, .ref na0])), (wa0, .inl (cI, 4, .inl fw0))] H7 := hP
  replace hD : va_D A [(mo, .inr (9, [th, .ref al, md, rf, kn])), (na0, .inl (cI, 4, .inl fn0)), (q2, .inl (cI, 1, .inl (upd (fun _ => 0) 0 1))), (al, .inr (4, [mc, .ref ed, .int (nI cc)])), (ed, .inl (cO, 10, .inr (.inr (.inr (.inr ee))))), (a0, .inr (8, [.int 4, .ref wa0, .ref na0])), (wa0, .inl (cI, 4, .inl fw0))] := hD
  refine W.widen (k := 1) (n := 1) (by omega) (by omega) ?_
  refine lv_icmp_ge (tgt := 80) hx hb dX4_depthOf_40 (by decide) (fun c9 => ?_) (fun c9 => ?_)
  · exact absurd c9 (by decide)
  refine lv_aload hx hb dX4_depthOf_43 (lv_at hl 1 rfl) ?_
  refine lv_iload hx hb dX4_depthOf_45 (lv_at hl 0 rfl) ?_
  have hPc := hP.sub (ws' := [(a0, .inr (8, [.int 4, .ref wa0, .ref na0])), (wa0, .inl (cI, 4, .inl fw0))]) [5, 6] rfl
  have hDc := hD.sub (ws' := [(a0, .inr (8, [.int 4, .ref wa0, .ref na0])), (wa0, .inl (cI, 4, .inl fw0))]) [5, 6] (by decide) rfl
  have hFc := va_free (wc := [(a0, .inr (8, [.int 4, .ref wa0, .ref na0])), (wa0, .inl (cI, 4, .inl fw0))]) hD hS hA [5, 6] rfl
  have hDv := hDc.self (sz := H7.size)
  have hpre := zpre (xs' := []) (av := [.ref a0, .int 0]) hPc hK (hDc.weaken (fun _ _ _ h => h)) hZ hS hFc (fun r hr => by cases hr)
  refine va_calli (va_runV (As := [.int 0]) (rest := []) ⟨hx, hb, hml, hown, hts⟩ (k_mh0_0 l dC dI cI cB cR cO zk a0 wa0 na0 fw0 H7.size (hw0 0 (by decide))) (cwV 1 hts gX4_depthOf_X3_hangs rfl rfl rfl (by decide +kernel) ⟨Nat.le_of_ble_eq_true rfl, Nat.le_of_ble_eq_true rfl⟩) ⟨zblind, (zrecv_8 hK hPc (q0 := 0) rfl), hpre⟩ rfl rfl hl.1 rfl (lv_room (Nat.le_of_ble_eq_true rfl)) dX4_depthOf_47 ⟨Nat.le_of_ble_eq_true rfl, Nat.le_of_ble_eq_true rfl⟩) hS (fun q _ h => hFc q h) hFc (fun r10 u t H9 locs ht hvm hw hB hz1 hk1 hS => ?_)
  obtain rfl : 0 = r10 := (show r10 = 0 from hw).symm
  obtain ⟨hP1, hK1, hD1, hz2⟩ := hB
  rw [ht] at hP1 hz2
  have hPD9 := va_join (wr := [(mo, .inr (9, [th, .ref al, md, rf, kn])), (na0, .inl (cI, 4, .inl fn0)), (q2, .inl (cI, 1, .inl (upd (fun _ => 0) 0 1))), (al, .inr (4, [mc, .ref ed, .int (nI cc)])), (ed, .inl (cO, 10, .inr (.inr (.inr (.inr ee)))))]) (w1 := [(a0, .inr (8, [.int 4, .ref wa0, .ref na0])), (wa0, .inl (cI, 4, .inl fw0))]) hP hD [5, 6] [0, 1, 2, 3, 4] rfl rfl (by decide) (by decide) hk1 hFc hP1 hD1
  clear hPc hDc hFc hDv hpre hP hD hP1 hK1 hD1
  obtain ⟨hP, hD⟩ := hPD9
  replace hz : s.heap.size + 1 ≤ H9.size := by omega
  clear hz2
  replace hP : va_P (dC, dI) vwCl [(mo, .inr (9, [th, .ref al, md, rf, kn])), (na0, .inl (cI, 4, .inl fn0)), (q2, .inl (cI, 1, .inl (upd (fun _ => 0) 0 1))), (al, .inr (4, [mc, .ref ed, .int (nI cc)])), (ed, .inl (cO, 10, .inr (.inr (.inr (.inr ee))))), (a0, .inr (8, [.int 4, .ref wa0, .ref na0])), (wa0, .inl (cI, 4, .inl fw0))] H9 := hP
  replace hD : va_D A [(mo, .inr (9, [th, .ref al, md, rf, kn])), (na0, .inl (cI, 4, .inl fn0)), (q2, .inl (cI, 1, .inl (upd (fun _ => 0) 0 1))), (al, .inr (4, [mc, .ref ed, .int (nI cc)])), (ed, .inl (cO, 10, .inr (.inr (.inr (.inr ee))))), (a0, .inr (8, [.int 4, .ref wa0, .ref na0])), (wa0, .inl (cI, 4, .inl fw0))] := hD
  refine W.widen (k := 1) (n := 1) (by omega) (by omega) ?_
  refine lv_if_eq (tgt := 74) hx hb dX4_depthOf_50 (by decide) (fun c9 => ?_) (fun c9 => ?_)
  rotate_left
  · exact absurd (by decide) c9
  refine lv_iinc (v := 1) (lv' := [(5, .int 1), (4, .ref a0), (3, .int 0), (2, .ref q2), (0, .ref mo), (1, .int 0)]) hx hb dX4_depthOf_74 hl (k := 0) rfl (by decide) (by decide) rfl (fun ls hl => ?_)
  refine lv_goto (tgt := 33) hx hb dX4_depthOf_77 (by decide) ?_
  refine lv_iload hx hb dX4_depthOf_33 (lv_at hl 0 rfl) ?_
  refine lv_aload hx hb dX4_depthOf_35 (lv_at hl 1 rfl) ?_
  have hPc := hP.sub (ws' := [(a0, .inr (8, [.int 4, .ref wa0, .ref na0])), (wa0, .inl (cI, 4, .inl fw0))]) [5, 6] rfl
  have hDc := hD.sub (ws' := [(a0, .inr (8, [.int 4, .ref wa0, .ref na0])), (wa0, .inl (cI, 4, .inl fw0))]) [5, 6] (by decide) rfl
  have hFc := va_free (wc := [(a0, .inr (8, [.int 4, .ref wa0, .ref na0])), (wa0, .inl (cI, 4, .inl fw0))]) hD hS hA [5, 6] rfl
  have hDv := hDc.self (sz := H9.size)
  have hpre := zpre (xs' := []) (av := [.ref a0]) hPc hK (hDc.weaken (fun _ _ _ h => h)) hZ hS hFc (fun r hr => by cases hr)
  refine va_calli (va_runV (As := []) (rest := [.int 1]) ⟨hx, hb, hml, hown, hts⟩ (k_rlen l dC dI cI cB cR cO zk a0 wa0 na0 fw0 H9.size ) (cwV 0 hts gX4_depthOf_X3_length rfl rfl rfl (by decide +kernel) ⟨Nat.le_of_ble_eq_true rfl, Nat.le_of_ble_eq_true rfl⟩) ⟨zblind, (zrecv_8 hK hPc (q0 := 0) rfl), hpre⟩ rfl rfl hl.1 rfl (lv_room (Nat.le_of_ble_eq_true rfl)) dX4_depthOf_37 ⟨Nat.le_of_ble_eq_true rfl, Nat.le_of_ble_eq_true rfl⟩) hS (fun q _ h => hFc q h) hFc (fun r12 u t H11 locs ht hvm hw hB hz1 hk1 hS => ?_)
  obtain rfl : 4 = r12 := (show r12 = 4 from hw).symm
  obtain ⟨hP1, hK1, hD1, hz2⟩ := hB
  rw [ht] at hP1 hz2
  have hPD9 := va_join (wr := [(mo, .inr (9, [th, .ref al, md, rf, kn])), (na0, .inl (cI, 4, .inl fn0)), (q2, .inl (cI, 1, .inl (upd (fun _ => 0) 0 1))), (al, .inr (4, [mc, .ref ed, .int (nI cc)])), (ed, .inl (cO, 10, .inr (.inr (.inr (.inr ee)))))]) (w1 := [(a0, .inr (8, [.int 4, .ref wa0, .ref na0])), (wa0, .inl (cI, 4, .inl fw0))]) hP hD [5, 6] [0, 1, 2, 3, 4] rfl rfl (by decide) (by decide) hk1 hFc hP1 hD1
  clear hPc hDc hFc hDv hpre hP hD hP1 hK1 hD1
  obtain ⟨hP, hD⟩ := hPD9
  replace hz : s.heap.size + 1 ≤ H11.size := by omega
  clear hz2
  replace hP : va_P (dC, dI) vwCl [(mo, .inr (9, [th, .ref al, md, rf, kn])), (na0, .inl (cI, 4, .inl fn0)), (q2, .inl (cI, 1, .inl (upd (fun _ => 0) 0 1))), (al, .inr (4, [mc, .ref ed, .int (nI cc)])), (ed, .inl (cO, 10, .inr (.inr (.inr (.inr ee))))), (a0, .inr (8, [.int 4, .ref wa0, .ref na0])), (wa0, .inl (cI, 4, .inl fw0))] H11 := hP
  replace hD : va_D A [(mo, .inr (9, [th, .ref al, md, rf, kn])), (na0, .inl (cI, 4, .inl fn0)), (q2, .inl (cI, 1, .inl (upd (fun _ => 0) 0 1))), (al, .inr (4, [mc, .ref ed, .int (nI cc)])), (ed, .inl (cO, 10, .inr (.inr (.inr (.inr ee))))), (a0, .inr (8, [.int 4, .ref wa0, .ref na0])), (wa0, .inl (cI, 4, .inl fw0))] := hD
  refine W.widen (k := 1) (n := 1) (by omega) (by omega) ?_
  refine lv_icmp_ge (tgt := 80) hx hb dX4_depthOf_40 (by decide) (fun c9 => ?_) (fun c9 => ?_)
  · exact absurd c9 (by decide)
  refine lv_aload hx hb dX4_depthOf_43 (lv_at hl 1 rfl) ?_
  refine lv_iload hx hb dX4_depthOf_45 (lv_at hl 0 rfl) ?_
  have hPc := hP.sub (ws' := [(a0, .inr (8, [.int 4, .ref wa0, .ref na0])), (wa0, .inl (cI, 4, .inl fw0))]) [5, 6] rfl
  have hDc := hD.sub (ws' := [(a0, .inr (8, [.int 4, .ref wa0, .ref na0])), (wa0, .inl (cI, 4, .inl fw0))]) [5, 6] (by decide) rfl
  have hFc := va_free (wc := [(a0, .inr (8, [.int 4, .ref wa0, .ref na0])), (wa0, .inl (cI, 4, .inl fw0))]) hD hS hA [5, 6] rfl
  have hDv := hDc.self (sz := H11.size)
  have hpre := zpre (xs' := []) (av := [.ref a0, .int 1]) hPc hK (hDc.weaken (fun _ _ _ h => h)) hZ hS hFc (fun r hr => by cases hr)
  refine va_calli (va_runV (As := [.int 1]) (rest := []) ⟨hx, hb, hml, hown, hts⟩ (k_mh1_0 l dC dI cI cB cR cO zk a0 wa0 na0 fw0 H11.size (hw0 1 (by decide))) (cwV 1 hts gX4_depthOf_X3_hangs rfl rfl rfl (by decide +kernel) ⟨Nat.le_of_ble_eq_true rfl, Nat.le_of_ble_eq_true rfl⟩) ⟨zblind, (zrecv_8 hK hPc (q0 := 0) rfl), hpre⟩ rfl rfl hl.1 rfl (lv_room (Nat.le_of_ble_eq_true rfl)) dX4_depthOf_47 ⟨Nat.le_of_ble_eq_true rfl, Nat.le_of_ble_eq_true rfl⟩) hS (fun q _ h => hFc q h) hFc (fun r14 u t H13 locs ht hvm hw hB hz1 hk1 hS => ?_)
  obtain rfl : 0 = r14 := (show r14 = 0 from hw).symm
  obtain ⟨hP1, hK1, hD1, hz2⟩ := hB
  rw [ht] at hP1 hz2
  have hPD9 := va_join (wr := [(mo, .inr (9, [th, .ref al, md, rf, kn])), (na0, .inl (cI, 4, .inl fn0)), (q2, .inl (cI, 1, .inl (upd (fun _ => 0) 0 1))), (al, .inr (4, [mc, .ref ed, .int (nI cc)])), (ed, .inl (cO, 10, .inr (.inr (.inr (.inr ee)))))]) (w1 := [(a0, .inr (8, [.int 4, .ref wa0, .ref na0])), (wa0, .inl (cI, 4, .inl fw0))]) hP hD [5, 6] [0, 1, 2, 3, 4] rfl rfl (by decide) (by decide) hk1 hFc hP1 hD1
  clear hPc hDc hFc hDv hpre hP hD hP1 hK1 hD1
  obtain ⟨hP, hD⟩ := hPD9
  replace hz : s.heap.size + 1 ≤ H13.size := by omega
  clear hz2
  replace hP : va_P (dC, dI) vwCl [(mo, .inr (9, [th, .ref al, md, rf, kn])), (na0, .inl (cI, 4, .inl fn0)), (q2, .inl (cI, 1, .inl (upd (fun _ => 0) 0 1))), (al, .inr (4, [mc, .ref ed, .int (nI cc)])), (ed, .inl (cO, 10, .inr (.inr (.inr (.inr ee))))), (a0, .inr (8, [.int 4, .ref wa0, .ref na0])), (wa0, .inl (cI, 4, .inl fw0))] H13 := hP
  replace hD : va_D A [(mo, .inr (9, [th, .ref al, md, rf, kn])), (na0, .inl (cI, 4, .inl fn0)), (q2, .inl (cI, 1, .inl (upd (fun _ => 0) 0 1))), (al, .inr (4, [mc, .ref ed, .int (nI cc)])), (ed, .inl (cO, 10, .inr (.inr (.inr (.inr ee))))), (a0, .inr (8, [.int 4, .ref wa0, .ref na0])), (wa0, .inl (cI, 4, .inl fw0))] := hD
  refine W.widen (k := 1) (n := 1) (by omega) (by omega) ?_
  refine lv_if_eq (tgt := 74) hx hb dX4_depthOf_50 (by decide) (fun c9 => ?_) (fun c9 => ?_)
  rotate_left
  · exact absurd (by decide) c9
  refine lv_iinc (v := 2) (lv' := [(5, .int 2), (4, .ref a0), (3, .int 0), (2, .ref q2), (0, .ref mo), (1, .int 0)]) hx hb dX4_depthOf_74 hl (k := 0) rfl (by decide) (by decide) rfl (fun ls hl => ?_)
  refine lv_goto (tgt := 33) hx hb dX4_depthOf_77 (by decide) ?_
  refine lv_iload hx hb dX4_depthOf_33 (lv_at hl 0 rfl) ?_
  refine lv_aload hx hb dX4_depthOf_35 (lv_at hl 1 rfl) ?_
  have hPc := hP.sub (ws' := [(a0, .inr (8, [.int 4, .ref wa0, .ref na0])), (wa0, .inl (cI, 4, .inl fw0))]) [5, 6] rfl
  have hDc := hD.sub (ws' := [(a0, .inr (8, [.int 4, .ref wa0, .ref na0])), (wa0, .inl (cI, 4, .inl fw0))]) [5, 6] (by decide) rfl
  have hFc := va_free (wc := [(a0, .inr (8, [.int 4, .ref wa0, .ref na0])), (wa0, .inl (cI, 4, .inl fw0))]) hD hS hA [5, 6] rfl
  have hDv := hDc.self (sz := H13.size)
  have hpre := zpre (xs' := []) (av := [.ref a0]) hPc hK (hDc.weaken (fun _ _ _ h => h)) hZ hS hFc (fun r hr => by cases hr)
  refine va_calli (va_runV (As := []) (rest := [.int 2]) ⟨hx, hb, hml, hown, hts⟩ (k_rlen l dC dI cI cB cR cO zk a0 wa0 na0 fw0 H13.size ) (cwV 0 hts gX4_depthOf_X3_length rfl rfl rfl (by decide +kernel) ⟨Nat.le_of_ble_eq_true rfl, Nat.le_of_ble_eq_true rfl⟩) ⟨zblind, (zrecv_8 hK hPc (q0 := 0) rfl), hpre⟩ rfl rfl hl.1 rfl (lv_room (Nat.le_of_ble_eq_true rfl)) dX4_depthOf_37 ⟨Nat.le_of_ble_eq_true rfl, Nat.le_of_ble_eq_true rfl⟩) hS (fun q _ h => hFc q h) hFc (fun r16 u t H15 locs ht hvm hw hB hz1 hk1 hS => ?_)
  obtain rfl : 4 = r16 := (show r16 = 4 from hw).symm
  obtain ⟨hP1, hK1, hD1, hz2⟩ := hB
  rw [ht] at hP1 hz2
  have hPD9 := va_join (wr := [(mo, .inr (9, [th, .ref al, md, rf, kn])), (na0, .inl (cI, 4, .inl fn0)), (q2, .inl (cI, 1, .inl (upd (fun _ => 0) 0 1))), (al, .inr (4, [mc, .ref ed, .int (nI cc)])), (ed, .inl (cO, 10, .inr (.inr (.inr (.inr ee)))))]) (w1 := [(a0, .inr (8, [.int 4, .ref wa0, .ref na0])), (wa0, .inl (cI, 4, .inl fw0))]) hP hD [5, 6] [0, 1, 2, 3, 4] rfl rfl (by decide) (by decide) hk1 hFc hP1 hD1
  clear hPc hDc hFc hDv hpre hP hD hP1 hK1 hD1
  obtain ⟨hP, hD⟩ := hPD9
  replace hz : s.heap.size + 1 ≤ H15.size := by omega
  clear hz2
  replace hP : va_P (dC, dI) vwCl [(mo, .inr (9, [th, .ref al, md, rf, kn])), (na0, .inl (cI, 4, .inl fn0)), (q2, .inl (cI, 1, .inl (upd (fun _ => 0) 0 1))), (al, .inr (4, [mc, .ref ed, .int (nI cc)])), (ed, .inl (cO, 10, .inr (.inr (.inr (.inr ee))))), (a0, .inr (8, [.int 4, .ref wa0, .ref na0])), (wa0, .inl (cI, 4, .inl fw0))] H15 := hP
  replace hD : va_D A [(mo, .inr (9, [th, .ref al, md, rf, kn])), (na0, .inl (cI, 4, .inl fn0)), (q2, .inl (cI, 1, .inl (upd (fun _ => 0) 0 1))), (al, .inr (4, [mc, .ref ed, .int (nI cc)])), (ed, .inl (cO, 10, .inr (.inr (.inr (.inr ee))))), (a0, .inr (8, [.int 4, .ref wa0, .ref na0])), (wa0, .inl (cI, 4, .inl fw0))] := hD
  refine W.widen (k := 1) (n := 1) (by omega) (by omega) ?_
  refine lv_icmp_ge (tgt := 80) hx hb dX4_depthOf_40 (by decide) (fun c9 => ?_) (fun c9 => ?_)
  · exact absurd c9 (by decide)
  refine lv_aload hx hb dX4_depthOf_43 (lv_at hl 1 rfl) ?_
  refine lv_iload hx hb dX4_depthOf_45 (lv_at hl 0 rfl) ?_
  have hPc := hP.sub (ws' := [(a0, .inr (8, [.int 4, .ref wa0, .ref na0])), (wa0, .inl (cI, 4, .inl fw0))]) [5, 6] rfl
  have hDc := hD.sub (ws' := [(a0, .inr (8, [.int 4, .ref wa0, .ref na0])), (wa0, .inl (cI, 4, .inl fw0))]) [5, 6] (by decide) rfl
  have hFc := va_free (wc := [(a0, .inr (8, [.int 4, .ref wa0, .ref na0])), (wa0, .inl (cI, 4, .inl fw0))]) hD hS hA [5, 6] rfl
  have hDv := hDc.self (sz := H15.size)
  have hpre := zpre (xs' := []) (av := [.ref a0, .int 2]) hPc hK (hDc.weaken (fun _ _ _ h => h)) hZ hS hFc (fun r hr => by cases hr)
  refine va_calli (va_runV (As := [.int 2]) (rest := []) ⟨hx, hb, hml, hown, hts⟩ (k_mh2_0 l dC dI cI cB cR cO zk a0 wa0 na0 fw0 H15.size (hw0 2 (by decide))) (cwV 1 hts gX4_depthOf_X3_hangs rfl rfl rfl (by decide +kernel) ⟨Nat.le_of_ble_eq_true rfl, Nat.le_of_ble_eq_true rfl⟩) ⟨zblind, (zrecv_8 hK hPc (q0 := 0) rfl), hpre⟩ rfl rfl hl.1 rfl (lv_room (Nat.le_of_ble_eq_true rfl)) dX4_depthOf_47 ⟨Nat.le_of_ble_eq_true rfl, Nat.le_of_ble_eq_true rfl⟩) hS (fun q _ h => hFc q h) hFc (fun r18 u t H17 locs ht hvm hw hB hz1 hk1 hS => ?_)
  obtain rfl : 0 = r18 := (show r18 = 0 from hw).symm
  obtain ⟨hP1, hK1, hD1, hz2⟩ := hB
  rw [ht] at hP1 hz2
  have hPD9 := va_join (wr := [(mo, .inr (9, [th, .ref al, md, rf, kn])), (na0, .inl (cI, 4, .inl fn0)), (q2, .inl (cI, 1, .inl (upd (fun _ => 0) 0 1))), (al, .inr (4, [mc, .ref ed, .int (nI cc)])), (ed, .inl (cO, 10, .inr (.inr (.inr (.inr ee)))))]) (w1 := [(a0, .inr (8, [.int 4, .ref wa0, .ref na0])), (wa0, .inl (cI, 4, .inl fw0))]) hP hD [5, 6] [0, 1, 2, 3, 4] rfl rfl (by decide) (by decide) hk1 hFc hP1 hD1
  clear hPc hDc hFc hDv hpre hP hD hP1 hK1 hD1
  obtain ⟨hP, hD⟩ := hPD9
  replace hz : s.heap.size + 1 ≤ H17.size := by omega
  clear hz2
  replace hP : va_P (dC, dI) vwCl [(mo, .inr (9, [th, .ref al, md, rf, kn])), (na0, .inl (cI, 4, .inl fn0)), (q2, .inl (cI, 1, .inl (upd (fun _ => 0) 0 1))), (al, .inr (4, [mc, .ref ed, .int (nI cc)])), (ed, .inl (cO, 10, .inr (.inr (.inr (.inr ee))))), (a0, .inr (8, [.int 4, .ref wa0, .ref na0])), (wa0, .inl (cI, 4, .inl fw0))] H17 := hP
  replace hD : va_D A [(mo, .inr (9, [th, .ref al, md, rf, kn])), (na0, .inl (cI, 4, .inl fn0)), (q2, .inl (cI, 1, .inl (upd (fun _ => 0) 0 1))), (al, .inr (4, [mc, .ref ed, .int (nI cc)])), (ed, .inl (cO, 10, .inr (.inr (.inr (.inr ee))))), (a0, .inr (8, [.int 4, .ref wa0, .ref na0])), (wa0, .inl (cI, 4, .inl fw0))] := hD
  refine W.widen (k := 1) (n := 1) (by omega) (by omega) ?_
  refine lv_if_eq (tgt := 74) hx hb dX4_depthOf_50 (by decide) (fun c9 => ?_) (fun c9 => ?_)
  rotate_left
  · exact absurd (by decide) c9
  refine lv_iinc (v := 3) (lv' := [(5, .int 3), (4, .ref a0), (3, .int 0), (2, .ref q2), (0, .ref mo), (1, .int 0)]) hx hb dX4_depthOf_74 hl (k := 0) rfl (by decide) (by decide) rfl (fun ls hl => ?_)
  refine lv_goto (tgt := 33) hx hb dX4_depthOf_77 (by decide) ?_
  refine lv_iload hx hb dX4_depthOf_33 (lv_at hl 0 rfl) ?_
  refine lv_aload hx hb dX4_depthOf_35 (lv_at hl 1 rfl) ?_
  have hPc := hP.sub (ws' := [(a0, .inr (8, [.int 4, .ref wa0, .ref na0])), (wa0, .inl (cI, 4, .inl fw0))]) [5, 6] rfl
  have hDc := hD.sub (ws' := [(a0, .inr (8, [.int 4, .ref wa0, .ref na0])), (wa0, .inl (cI, 4, .inl fw0))]) [5, 6] (by decide) rfl
  have hFc := va_free (wc := [(a0, .inr (8, [.int 4, .ref wa0, .ref na0])), (wa0, .inl (cI, 4, .inl fw0))]) hD hS hA [5, 6] rfl
  have hDv := hDc.self (sz := H17.size)
  have hpre := zpre (xs' := []) (av := [.ref a0]) hPc hK (hDc.weaken (fun _ _ _ h => h)) hZ hS hFc (fun r hr => by cases hr)
  refine va_calli (va_runV (As := []) (rest := [.int 3]) ⟨hx, hb, hml, hown, hts⟩ (k_rlen l dC dI cI cB cR cO zk a0 wa0 na0 fw0 H17.size ) (cwV 0 hts gX4_depthOf_X3_length rfl rfl rfl (by decide +kernel) ⟨Nat.le_of_ble_eq_true rfl, Nat.le_of_ble_eq_true rfl⟩) ⟨zblind, (zrecv_8 hK hPc (q0 := 0) rfl), hpre⟩ rfl rfl hl.1 rfl (lv_room (Nat.le_of_ble_eq_true rfl)) dX4_depthOf_37 ⟨Nat.le_of_ble_eq_true rfl, Nat.le_of_ble_eq_true rfl⟩) hS (fun q _ h => hFc q h) hFc (fun r20 u t H19 locs ht hvm hw hB hz1 hk1 hS => ?_)
  obtain rfl : 4 = r20 := (show r20 = 4 from hw).symm
  obtain ⟨hP1, hK1, hD1, hz2⟩ := hB
  rw [ht] at hP1 hz2
  have hPD9 := va_join (wr := [(mo, .inr (9, [th, .ref al, md, rf, kn])), (na0, .inl (cI, 4, .inl fn0)), (q2, .inl (cI, 1, .inl (upd (fun _ => 0) 0 1))), (al, .inr (4, [mc, .ref ed, .int (nI cc)])), (ed, .inl (cO, 10, .inr (.inr (.inr (.inr ee)))))]) (w1 := [(a0, .inr (8, [.int 4, .ref wa0, .ref na0])), (wa0, .inl (cI, 4, .inl fw0))]) hP hD [5, 6] [0, 1, 2, 3, 4] rfl rfl (by decide) (by decide) hk1 hFc hP1 hD1
  clear hPc hDc hFc hDv hpre hP hD hP1 hK1 hD1
  obtain ⟨hP, hD⟩ := hPD9
  replace hz : s.heap.size + 1 ≤ H19.size := by omega
  clear hz2
  replace hP : va_P (dC, dI) vwCl [(mo, .inr (9, [th, .ref al, md, rf, kn])), (na0, .inl (cI, 4, .inl fn0)), (q2, .inl (cI, 1, .inl (upd (fun _ => 0) 0 1))), (al, .inr (4, [mc, .ref ed, .int (nI cc)])), (ed, .inl (cO, 10, .inr (.inr (.inr (.inr ee))))), (a0, .inr (8, [.int 4, .ref wa0, .ref na0])), (wa0, .inl (cI, 4, .inl fw0))] H19 := hP
  replace hD : va_D A [(mo, .inr (9, [th, .ref al, md, rf, kn])), (na0, .inl (cI, 4, .inl fn0)), (q2, .inl (cI, 1, .inl (upd (fun _ => 0) 0 1))), (al, .inr (4, [mc, .ref ed, .int (nI cc)])), (ed, .inl (cO, 10, .inr (.inr (.inr (.inr ee))))), (a0, .inr (8, [.int 4, .ref wa0, .ref na0])), (wa0, .inl (cI, 4, .inl fw0))] := hD
  refine W.widen (k := 1) (n := 1) (by omega) (by omega) ?_
  refine lv_icmp_ge (tgt := 80) hx hb dX4_depthOf_40 (by decide) (fun c9 => ?_) (fun c9 => ?_)
  · exact absurd c9 (by decide)
  refine lv_aload hx hb dX4_depthOf_43 (lv_at hl 1 rfl) ?_
  refine lv_iload hx hb dX4_depthOf_45 (lv_at hl 0 rfl) ?_
  have hPc := hP.sub (ws' := [(a0, .inr (8, [.int 4, .ref wa0, .ref na0])), (wa0, .inl (cI, 4, .inl fw0))]) [5, 6] rfl
  have hDc := hD.sub (ws' := [(a0, .inr (8, [.int 4, .ref wa0, .ref na0])), (wa0, .inl (cI, 4, .inl fw0))]) [5, 6] (by decide) rfl
  have hFc := va_free (wc := [(a0, .inr (8, [.int 4, .ref wa0, .ref na0])), (wa0, .inl (cI, 4, .inl fw0))]) hD hS hA [5, 6] rfl
  have hDv := hDc.self (sz := H19.size)
  have hpre := zpre (xs' := []) (av := [.ref a0, .int 3]) hPc hK (hDc.weaken (fun _ _ _ h => h)) hZ hS hFc (fun r hr => by cases hr)
  refine va_calli (va_runV (As := [.int 3]) (rest := []) ⟨hx, hb, hml, hown, hts⟩ (k_mh3_0 l dC dI cI cB cR cO zk a0 wa0 na0 fw0 H19.size (hw0 3 (by decide))) (cwV 1 hts gX4_depthOf_X3_hangs rfl rfl rfl (by decide +kernel) ⟨Nat.le_of_ble_eq_true rfl, Nat.le_of_ble_eq_true rfl⟩) ⟨zblind, (zrecv_8 hK hPc (q0 := 0) rfl), hpre⟩ rfl rfl hl.1 rfl (lv_room (Nat.le_of_ble_eq_true rfl)) dX4_depthOf_47 ⟨Nat.le_of_ble_eq_true rfl, Nat.le_of_ble_eq_true rfl⟩) hS (fun q _ h => hFc q h) hFc (fun r22 u t H21 locs ht hvm hw hB hz1 hk1 hS => ?_)
  obtain rfl : 0 = r22 := (show r22 = 0 from hw).symm
  obtain ⟨hP1, hK1, hD1, hz2⟩ := hB
  rw [ht] at hP1 hz2
  have hPD9 := va_join (wr := [(mo, .inr (9, [th, .ref al, md, rf, kn])), (na0, .inl (cI, 4, .inl fn0)), (q2, .inl (cI, 1, .inl (upd (fun _ => 0) 0 1))), (al, .inr (4, [mc, .ref ed, .int (nI cc)])), (ed, .inl (cO, 10, .inr (.inr (.inr (.inr ee)))))]) (w1 := [(a0, .inr (8, [.int 4, .ref wa0, .ref na0])), (wa0, .inl (cI, 4, .inl fw0))]) hP hD [5, 6] [0, 1, 2, 3, 4] rfl rfl (by decide) (by decide) hk1 hFc hP1 hD1
  clear hPc hDc hFc hDv hpre hP hD hP1 hK1 hD1
  obtain ⟨hP, hD⟩ := hPD9
  replace hz : s.heap.size + 1 ≤ H21.size := by omega
  clear hz2
  replace hP : va_P (dC, dI) vwCl [(mo, .inr (9, [th, .ref al, md, rf, kn])), (na0, .inl (cI, 4, .inl fn0)), (q2, .inl (cI, 1, .inl (upd (fun _ => 0) 0 1))), (al, .inr (4, [mc, .ref ed, .int (nI cc)])), (ed, .inl (cO, 10, .inr (.inr (.inr (.inr ee))))), (a0, .inr (8, [.int 4, .ref wa0, .ref na0])), (wa0, .inl (cI, 4, .inl fw0))] H21 := hP
  replace hD : va_D A [(mo, .inr (9, [th, .ref al, md, rf, kn])), (na0, .inl (cI, 4, .inl fn0)), (q2, .inl (cI, 1, .inl (upd (fun _ => 0) 0 1))), (al, .inr (4, [mc, .ref ed, .int (nI cc)])), (ed, .inl (cO, 10, .inr (.inr (.inr (.inr ee))))), (a0, .inr (8, [.int 4, .ref wa0, .ref na0])), (wa0, .inl (cI, 4, .inl fw0))] := hD
  refine W.widen (k := 1) (n := 1) (by omega) (by omega) ?_
  refine lv_if_eq (tgt := 74) hx hb dX4_depthOf_50 (by decide) (fun c9 => ?_) (fun c9 => ?_)
  rotate_left
  · exact absurd (by decide) c9
  refine lv_iinc (v := 4) (lv' := [(5, .int 4), (4, .ref a0), (3, .int 0), (2, .ref q2), (0, .ref mo), (1, .int 0)]) hx hb dX4_depthOf_74 hl (k := 0) rfl (by decide) (by decide) rfl (fun ls hl => ?_)
  refine lv_goto (tgt := 33) hx hb dX4_depthOf_77 (by decide) ?_
  refine lv_iload hx hb dX4_depthOf_33 (lv_at hl 0 rfl) ?_
  refine lv_aload hx hb dX4_depthOf_35 (lv_at hl 1 rfl) ?_
  have hPc := hP.sub (ws' := [(a0, .inr (8, [.int 4, .ref wa0, .ref na0])), (wa0, .inl (cI, 4, .inl fw0))]) [5, 6] rfl
  have hDc := hD.sub (ws' := [(a0, .inr (8, [.int 4, .ref wa0, .ref na0])), (wa0, .inl (cI, 4, .inl fw0))]) [5, 6] (by decide) rfl
  have hFc := va_free (wc := [(a0, .inr (8, [.int 4, .ref wa0, .ref na0])), (wa0, .inl (cI, 4, .inl fw0))]) hD hS hA [5, 6] rfl
  have hDv := hDc.self (sz := H21.size)
  have hpre := zpre (xs' := []) (av := [.ref a0]) hPc hK (hDc.weaken (fun _ _ _ h => h)) hZ hS hFc (fun r hr => by cases hr)
  refine va_calli (va_runV (As := []) (rest := [.int 4]) ⟨hx, hb, hml, hown, hts⟩ (k_rlen l dC dI cI cB cR cO zk a0 wa0 na0 fw0 H21.size ) (cwV 0 hts gX4_depthOf_X3_length rfl rfl rfl (by decide +kernel) ⟨Nat.le_of_ble_eq_true rfl, Nat.le_of_ble_eq_true rfl⟩) ⟨zblind, (zrecv_8 hK hPc (q0 := 0) rfl), hpre⟩ rfl rfl hl.1 rfl (lv_room (Nat.le_of_ble_eq_true rfl)) dX4_depthOf_37 ⟨Nat.le_of_ble_eq_true rfl, Nat.le_of_ble_eq_true rfl⟩) hS (fun q _ h => hFc q h) hFc (fun r24 u t H23 locs ht hvm hw hB hz1 hk1 hS => ?_)
  obtain rfl : 4 = r24 := (show r24 = 4 from hw).symm
  obtain ⟨hP1, hK1, hD1, hz2⟩ := hB
  rw [ht] at hP1 hz2
  have hPD9 := va_join (wr := [(mo, .inr (9, [th, .ref al, md, rf, kn])), (na0, .inl (cI, 4, .inl fn0)), (q2, .inl (cI, 1, .inl (upd (fun _ => 0) 0 1))), (al, .inr (4, [mc, .ref ed, .int (nI cc)])), (ed, .inl (cO, 10, .inr (.inr (.inr (.inr ee)))))]) (w1 := [(a0, .inr (8, [.int 4, .ref wa0, .ref na0])), (wa0, .inl (cI, 4, .inl fw0))]) hP hD [5, 6] [0, 1, 2, 3, 4] rfl rfl (by decide) (by decide) hk1 hFc hP1 hD1
  clear hPc hDc hFc hDv hpre hP hD hP1 hK1 hD1
  obtain ⟨hP, hD⟩ := hPD9
  replace hz : s.heap.size + 1 ≤ H23.size := by omega
  clear hz2
  replace hP : va_P (dC, dI) vwCl [(mo, .inr (9, [th, .ref al, md, rf, kn])), (na0, .inl (cI, 4, .inl fn0)), (q2, .inl (cI, 1, .inl (upd (fun _ => 0) 0 1))), (al, .inr (4, [mc, .ref ed, .int (nI cc)])), (ed, .inl (cO, 10, .inr (.inr (.inr (.inr ee))))), (a0, .inr (8, [.int 4, .ref wa0, .ref na0])), (wa0, .inl (cI, 4, .inl fw0))] H23 := hP
  replace hD : va_D A [(mo, .inr (9, [th, .ref al, md, rf, kn])), (na0, .inl (cI, 4, .inl fn0)), (q2, .inl (cI, 1, .inl (upd (fun _ => 0) 0 1))), (al, .inr (4, [mc, .ref ed, .int (nI cc)])), (ed, .inl (cO, 10, .inr (.inr (.inr (.inr ee))))), (a0, .inr (8, [.int 4, .ref wa0, .ref na0])), (wa0, .inl (cI, 4, .inl fw0))] := hD
  refine W.widen (k := 1) (n := 1) (by omega) (by omega) ?_
  refine lv_icmp_ge (tgt := 80) hx hb dX4_depthOf_40 (by decide) (fun c9 => ?_) (fun c9 => ?_)
  rotate_left
  · exact absurd (by decide) c9
  refine lv_iinc (v := 1) (lv' := [(3, .int 1), (5, .int 4), (4, .ref a0), (2, .ref q2), (0, .ref mo), (1, .int 0)]) hx hb dX4_depthOf_80 hl (k := 2) rfl (by decide) (by decide) rfl (fun ls hl => ?_)
  refine lv_goto (tgt := 8) hx hb dX4_depthOf_83 (by decide) ?_
  refine lv_iload_n hx hb dX4_depthOf_8 rfl (lv_at hl 0 rfl) ?_
  refine lv_iload_n hx hb dX4_depthOf_9 rfl (lv_at hl 5 rfl) ?_
  refine lv_icmp_gt (tgt := 86) hx hb dX4_depthOf_10 (by decide) (fun c9 => ?_) (fun c9 => ?_)
  rotate_left
  · exact absurd (by decide) c9
  refine lv_aload_n hx hb dX4_depthOf_86 rfl (lv_at hl 3 rfl) ?_
  refine lv_iload_n hx hb dX4_depthOf_87 rfl (lv_at hl 5 rfl) ?_
  refine va_iald (D := (dC, dI)) (cl := vwCl) hx hb hK hP 2 0 rfl rfl (by unfold vp_in; decide) dX4_depthOf_88 ?_
  refine lv_topi (fun v25 ev25 => ?_)
  obtain rfl : v25 = 1 := ev25.trans (rfl)
  have hP9 := hP.sub (ws' := [(mo, .inr (9, [th, .ref al, md, rf, kn])), (al, .inr (4, [mc, .ref ed, .int (nI cc)])), (ed, .inl (cO, 10, .inr (.inr (.inr (.inr ee))))), (a0, .inr (8, [.int 4, .ref wa0, .ref na0])), (wa0, .inl (cI, 4, .inl fw0)), (na0, .inl (cI, 4, .inl fn0))]) [0, 3, 4, 5, 6, 1] rfl
  have hD9 := hD.sub (ws' := [(mo, .inr (9, [th, .ref al, md, rf, kn])), (al, .inr (4, [mc, .ref ed, .int (nI cc)])), (ed, .inl (cO, 10, .inr (.inr (.inr (.inr ee))))), (a0, .inr (8, [.int 4, .ref wa0, .ref na0])), (wa0, .inl (cI, 4, .inl fw0)), (na0, .inl (cI, 4, .inl fn0))]) [0, 3, 4, 5, 6, 1] (by decide) rfl
  exact W.iret (v := 1) hx hb hr (fun t ht hW => ⟨⟨_, (), rfl, rfl, ⟨by rw [ht]; exact hP9, va_K.moved hW.alike hK, hD9, by rw [ht]; exact hz⟩⟩, hS.F ht⟩) hS.2.2 dX4_depthOf_89

theorem hi_X4_depthOf_X3 : ∀ w ∈ u_ws RX3 TX3 3, w ∈ wsX4_depthOf := fun w h => List.mem_cons_of_mem _ (zhi_X3 w h)
set_option maxHeartbeats 4000000 in
set_option maxRecDepth 100000 in
theorem k_dO1 (l : Launch) (dC : Nat → ClassId) (dI : Nat → Nat → Nat) (cI cB cR cO : ClassId) (zk : Nat → Nat) (mo al ed cc : Nat) (ee : Nat → Option Nat) (th md rf kn mc : Value) (a0 wa0 na0 a1 wa1 na1 : Nat) (fw0 fn0 fw1 fn1 : Nat → Int32) (sz : Nat) (hcc : 1 < cc) (hcc2 : cc ≤ 10) (hw0 : ∀ i, i < 4 → fw0 i = 0) (hn0 : ∀ i, i < 4 → fn0 i = (-1)) (he0 : ee 0 = some a0) (hw1 : ∀ i, i < 4 → fw1 i = 3) (hn1 : ∀ i, i < 4 → fn1 i = 0) (he1 : ee 1 = some a1) : Met l yX4_depthOf wsX4_depthOf ({ frames := 3, cells := 1, slots := 2, locals := 64 }) (va_Pc [.ref mo, .int 1] (zPre (dC, dI) (zT cI cB cR cO) zk [] [(mo, .inr (9, [th, .ref al, md, rf, kn])), (al, .inr (4, [mc, .ref ed, .int (nI cc)])), (ed, .inl (cO, 10, .inr (.inr (.inr (.inr ee))))), (a0, .inr (8, [.int 4, .ref wa0, .ref na0])), (wa0, .inl (cI, 4, .inl fw0)), (na0, .inl (cI, 4, .inl fn0)), (a1, .inr (8, [.int 4, .ref wa1, .ref na1])), (wa1, .inl (cI, 4, .inl fw1)), (na1, .inl (cI, 4, .inl fn1))] sz)) (va_Qi (fun r (_ : Unit) => r = 2) (fun _ t => zEnd (dC, dI) (zT cI cB cR cO) (va_A [(mo, .inr (9, [th, .ref al, md, rf, kn])), (al, .inr (4, [mc, .ref ed, .int (nI cc)])), (ed, .inl (cO, 10, .inr (.inr (.inr (.inr ee))))), (a0, .inr (8, [.int 4, .ref wa0, .ref na0])), (wa0, .inl (cI, 4, .inl fw0)), (na0, .inl (cI, 4, .inl fn0)), (a1, .inr (8, [.int 4, .ref wa1, .ref na1])), (wa1, .inl (cI, 4, .inl fw1)), (na1, .inl (cI, 4, .inl fn1))] sz) [(mo, .inr (9, [th, .ref al, md, rf, kn])), (al, .inr (4, [mc, .ref ed, .int (nI cc)])), (ed, .inl (cO, 10, .inr (.inr (.inr (.inr ee))))), (a0, .inr (8, [.int 4, .ref wa0, .ref na0])), (wa0, .inl (cI, 4, .inl fw0)), (na0, .inl (cI, 4, .inl fn0)), (a1, .inr (8, [.int 4, .ref wa1, .ref na1])), (wa1, .inl (cI, 4, .inl fw1)), (na1, .inl (cI, 4, .inl fn1))] sz 1 t) (va_A [(mo, .inr (9, [th, .ref al, md, rf, kn])), (al, .inr (4, [mc, .ref ed, .int (nI cc)])), (ed, .inl (cO, 10, .inr (.inr (.inr (.inr ee))))), (a0, .inr (8, [.int 4, .ref wa0, .ref na0])), (wa0, .inl (cI, 4, .inl fw0)), (na0, .inl (cI, 4, .inl fn0)), (a1, .inr (8, [.int 4, .ref wa1, .ref na1])), (wa1, .inl (cI, 4, .inl fw1)), (na1, .inl (cI, 4, .inl fn1))] sz)) 1 2 (va_A [(mo, .inr (9, [th, .ref al, md, rf, kn])), (al, .inr (4, [mc, .ref ed, .int (nI cc)])), (ed, .inl (cO, 10, .inr (.inr (.inr (.inr ee))))), (a0, .inr (8, [.int 4, .ref wa0, .ref na0])), (wa0, .inl (cI, 4, .inl fw0)), (na0, .inl (cI, 4, .inl fn0)), (a1, .inr (8, [.int 4, .ref wa1, .ref na1])), (wa1, .inl (cI, 4, .inl fw1)), (na1, .inl (cI, 4, .inl fn1))] sz) := by
  refine Met.ofW (cc := cX4_depthOf) (maxL := 6) (ret := (some .int)) (by decide) rfl ?_
  intro p e s mY args below meth c s₁ B hml hv
  obtain ⟨rfl, hsz, hP, hK, hD0, hZ⟩ := hv
  have hx := B.exec
  have hb := B.bytes
  have hr := B.returns
  have hts := atoms_spec (ws := wsX4_depthOf) B.pre
  have hown : s.vm.findClass RX4 = some mY.cls := findClass_of_methodNamed B.named
  have hlocks := B.notSynchronized
  subst hsz
  have hD := hD0.self (sz := s.heap.size)
  generalize hAe : va_A [(mo, .inr (9, [th, .ref al, md, rf, kn])), (al, .inr (4, [mc, .ref ed, .int (nI cc)])), (ed, .inl (cO, 10, .inr (.inr (.inr (.inr ee))))), (a0, .inr (8, [.int 4, .ref wa0, .ref na0])), (wa0, .inl (cI, 4, .inl fw0)), (na0, .inl (cI, 4, .inl fn0)), (a1, .inr (8, [.int 4, .ref wa1, .ref na1])), (wa1, .inl (cI, 4, .inl fw1)), (na1, .inl (cI, 4, .inl fn1))] s.heap.size = A at hD hZ ⊢
  have hA : ∀ q : Nat, s.heap.size ≤ q → A q := fun q h => by rw [← hAe]; exact Or.inr h
  have hS : va_S A s.heap s.heap [] := va_S.rf
  have hz : s.heap.size + 0 ≤ s.heap.size := Nat.le_refl _
  have hl := lv_entry ([.ref mo, .int 1]) (n := 6) (Nat.le_of_ble_eq_true rfl)
  rw [lg_entry_eq]
  generalize (lg_sl ([.ref mo, .int 1]) ++ List.replicate (6 - (lg_sl ([.ref mo, .int 1])).length) Slot.unset).toArray = ls at hl ⊢
  have hl : lv_has ls 6 [(0, .ref mo), (1, .int 1)] := hl
  have hP : va_P (dC, dI) vwCl [(mo, .inr (9, [th, .ref al, md, rf, kn])), (al, .inr (4, [mc, .ref ed, .int (nI cc)])), (ed, .inl (cO, 10, .inr (.inr (.inr (.inr ee))))), (a0, .inr (8, [.int 4, .ref wa0, .ref na0])), (wa0, .inl (cI, 4, .inl fw0)), (na0, .inl (cI, 4, .inl fn0)), (a1, .inr (8, [.int 4, .ref wa1, .ref na1])), (wa1, .inl (cI, 4, .inl fw1)), (na1, .inl (cI, 4, .inl fn1))] s.heap := hP
  have hD : va_D A [(mo, .inr (9, [th, .ref al, md, rf, kn])), (al, .inr (4, [mc, .ref ed, .int (nI cc)])), (ed, .inl (cO, 10, .inr (.inr (.inr (.inr ee))))), (a0, .inr (8, [.int 4, .ref wa0, .ref na0])), (wa0, .inl (cI, 4, .inl fw0)), (na0, .inl (cI, 4, .inl fn0)), (a1, .inr (8, [.int 4, .ref wa1, .ref na1])), (wa1, .inl (cI, 4, .inl fw1)), (na1, .inl (cI, 4, .inl fn1))] := hD
  refine lv_iload_n hx hb dX4_depthOf_0 rfl (lv_at hl 1 rfl) ?_
  refine lv_iconst (v := 1) hx hb dX4_depthOf_1 (by decide) ?_
  refine lv_iadd hx hb dX4_depthOf_2 ?_
  refine lv_topi (fun v1 ev1 => ?_)
  obtain rfl : v1 = 2 := ev1.trans (by decide)
  refine zw_newa (atype := .int) (ty := .int) (N' := 2) hx hb (hts (.arrayClass .int) (List.mem_cons_of_mem _ zw_137)) rfl (by first | exact Or.inl rfl | exact Or.inr rfl) hK hP hD hS hA 0 rfl (by decide) (by decide) (Nat.le_of_ble_eq_true rfl) (Nat.le_of_ble_eq_true rfl) (Nat.le_of_ble_eq_true rfl) dX4_depthOf_3 hz (fun q2 H3 hP hD hS hz => ?_)
  replace hP : va_P (dC, dI) vwCl [(mo, .inr (9, [th, .ref al, md, rf, kn])), (al, .inr (4, [mc, .ref ed, .int (nI cc)])), (ed, .inl (cO, 10, .inr (.inr (.inr (.inr ee))))), (a0, .inr (8, [.int 4, .ref wa0, .ref na0])), (wa0, .inl (cI, 4, .inl fw0)), (na0, .inl (cI, 4, .inl fn0)), (a1, .inr (8, [.int 4, .ref wa1, .ref na1])), (wa1, .inl (cI, 4, .inl fw1)), (na1, .inl (cI, 4, .inl fn1)), (q2, .inl (cI, 2, .inl (fun _ => 0)))] H3 := hP
  replace hD : va_D A [(mo, .inr (9, [th, .ref al, md, rf, kn])), (al, .inr (4, [mc, .ref ed, .int (nI cc)])), (ed, .inl (cO, 10, .inr (.inr (.inr (.inr ee))))), (a0, .inr (8, [.int 4, .ref wa0, .ref na0])), (wa0, .inl (cI, 4, .inl fw0)), (na0, .inl (cI, 4, .inl fn0)), (a1, .inr (8, [.int 4, .ref wa1, .ref na1])), (wa1, .inl (cI, 4, .inl fw1)), (na1, .inl (cI, 4, .inl fn1)), (q2, .inl (cI, 2, .inl (fun _ => 0)))] := hD
  refine W.widen (k := 1) (n := 2) (by omega) (by omega) ?_
  refine lv_astore_n (lv' := [(2, .ref q2), (0, .ref mo), (1, .int 1)]) hx hb dX4_depthOf_5 rfl hl (by decide) rfl (fun ls hl => ?_)
  refine lv_iconst (v := 0) hx hb dX4_depthOf_6 (by decide) ?_
  refine lv_istore_n (lv' := [(3, .int 0), (2, .ref q2), (0, .ref mo), (1, .int 1)]) hx hb dX4_depthOf_7 rfl hl (by decide) rfl (fun ls hl => ?_)
  refine lv_iload_n hx hb dX4_depthOf_8 rfl (lv_at hl 0 rfl) ?_
  refine lv_iload_n hx hb dX4_depthOf_9 rfl (lv_at hl 3 rfl) ?_
  refine lv_icmp_gt (tgt := 86) hx hb dX4_depthOf_10 (by decide) (fun c9 => ?_) (fun c9 => ?_)
  · exact absurd c9 (by decide)
  refine lv_aload_n hx hb dX4_depthOf_13 rfl (lv_at hl 2 rfl) ?_
  refine va_get (D := (dC, dI)) (ci := 9) (v := .ref al) (C := RX4) (T := TX4) (N := 5) hx hb hts hi_X4_depthOf_X4 hown hK hP 0 rfl rfl 1 (by decide) (hts (.fieldLink RX4 10 "DeeprowsModel" "rows" "Ljava/util/ArrayList;") (List.mem_cons_of_mem _ zw_1134)) (fun _ h9 => h9) rfl dX4_depthOf_14 ?_
  refine lv_iload_n hx hb dX4_depthOf_17 rfl (lv_at hl 0 rfl) ?_
  have hPc := hP.sub (ws' := [(al, .inr (4, [mc, .ref ed, .int (nI cc)])), (ed, .inl (cO, 10, .inr (.inr (.inr (.inr ee)))))]) [1, 2] rfl
  have hDc := hD.sub (ws' := [(al, .inr (4, [mc, .ref ed, .int (nI cc)])), (ed, .inl (cO, 10, .inr (.inr (.inr (.inr ee)))))]) [1, 2] (by decide) rfl
  have hFc := va_free (wc := [(al, .inr (4, [mc, .ref ed, .int (nI cc)])), (ed, .inl (cO, 10, .inr (.inr (.inr (.inr ee)))))]) hD hS hA [1, 2] rfl
  have hDv := hDc.self (sz := H3.size)
  have hpre := zpre (xs' := []) (av := [.ref al, .int 0]) hPc hK (hDc.weaken (fun _ _ _ h => h)) hZ hS hFc (fun r hr => by cases hr)
  refine va_callr (va_runV (As := [.int 0]) (rest := []) ⟨hx, hb, hml, hown, hts⟩ (k_get l dC dI cI cB cR cO zk al ed 0 cc 10 a0 ee mc H3.size (by omega) hcc2 (by decide) he0) (cwV 1 hts gX4_depthOf_Jx4a65c_get_915e3 rfl rfl rfl (by decide +kernel) ⟨Nat.le_of_ble_eq_true rfl, Nat.le_of_ble_eq_true rfl⟩) ⟨zblind, (zrecv_4 hK hPc (q0 := 0) rfl), hpre⟩ rfl rfl hl.1 rfl (lv_room (Nat.le_of_ble_eq_true rfl)) dX4_depthOf_18 ⟨Nat.le_of_ble_eq_true rfl, Nat.le_of_ble_eq_true rfl⟩) hS (fun q _ h => hFc q h) hFc (fun u r5 t H4 locs ht hvm hw hB hz1 hk1 hS => ?_)
  obtain ⟨⟨hP1, hK1, hD1, hz2⟩, her5⟩ := hB
  rw [ht] at hP1 hz2
  have hPD9 := va_join (wr := [(mo, .inr (9, [th, .ref al, md, rf, kn])), (a0, .inr (8, [.int 4, .ref wa0, .ref na0])), (wa0, .inl (cI, 4, .inl fw0)), (na0, .inl (cI, 4, .inl fn0)), (a1, .inr (8, [.int 4, .ref wa1, .ref na1])), (wa1, .inl (cI, 4, .inl fw1)), (na1, .inl (cI, 4, .inl fn1)), (q2, .inl (cI, 2, .inl (fun _ => 0)))]) (w1 := [(al, .inr (4, [mc, .ref ed, .int (nI cc)])), (ed, .inl (cO, 10, .inr (.inr (.inr (.inr ee)))))]) hP hD [1, 2] [0, 3, 4, 5, 6, 7, 8, 9] rfl rfl (by decide) (by decide) hk1 hFc hP1 hD1
  clear hPc hDc hFc hDv hpre hP hD hP1 hK1 hD1
  obtain ⟨hP, hD⟩ := hPD9
  replace hz : s.heap.size + 1 ≤ H4.size := by omega
  clear hz2
  replace hP : va_P (dC, dI) vwCl [(mo, .inr (9, [th, .ref al, md, rf, kn])), (a0, .inr (8, [.int 4, .ref wa0, .ref na0])), (wa0, .inl (cI, 4, .inl fw0)), (na0, .inl (cI, 4, .inl fn0)), (a1, .inr (8, [.int 4, .ref wa1, .ref na1])), (wa1, .inl (cI, 4, .inl fw1)), (na1, .inl (cI, 4, .inl fn1)), (q2, .inl (cI, 2, .inl (fun _ => 0))), (al, .inr (4, [mc, .ref ed, .int (nI cc)])), (ed, .inl (cO, 10, .inr (.inr (.inr (.inr ee)))))] H4 := hP
  replace hD : va_D A [(mo, .inr (9, [th, .ref al, md, rf, kn])), (a0, .inr (8, [.int 4, .ref wa0, .ref na0])), (wa0, .inl (cI, 4, .inl fw0)), (na0, .inl (cI, 4, .inl fn0)), (a1, .inr (8, [.int 4, .ref wa1, .ref na1])), (wa1, .inl (cI, 4, .inl fw1)), (na1, .inl (cI, 4, .inl fn1)), (q2, .inl (cI, 2, .inl (fun _ => 0))), (al, .inr (4, [mc, .ref ed, .int (nI cc)])), (ed, .inl (cO, 10, .inr (.inr (.inr (.inr ee)))))] := hD
  refine W.widen (k := 1) (n := 2) (by omega) (by omega) ?_
  obtain rfl := her5.symm
  refine va_castE hx hb hown (hts (.classLink RX4 40 "DeeprowsModel$Row") (List.mem_cons_of_mem _ zw_1165)) (zrecv_8 hK hP (q0 := 1) rfl) dX4_depthOf_21 ?_
  refine lv_astore (lv' := [(4, .ref a0), (3, .int 0), (2, .ref q2), (0, .ref mo), (1, .int 1)]) hx hb dX4_depthOf_24 hl (by decide) rfl (fun ls hl => ?_)
  refine lv_aload_n hx hb dX4_depthOf_26 rfl (lv_at hl 2 rfl) ?_
  refine lv_iload_n hx hb dX4_depthOf_27 rfl (lv_at hl 1 rfl) ?_
  refine lv_iconst (v := 1) hx hb dX4_depthOf_28 (by decide) ?_
  refine va_iast (D := (dC, dI)) (cl := vwCl) hx hb hK hP hD (zS0 hS) 7 0 rfl rfl (by unfold vp_in; decide) dX4_depthOf_29 (fun H6 locs hP hD hS1 => ?_)
  have hz : s.heap.size + 1 ≤ H6.size := Nat.le_trans hz hS1.1
  have hS := zSS hS hS1
  replace hP : va_P (dC, dI) vwCl [(mo, .inr (9, [th, .ref al, md, rf, kn])), (a0, .inr (8, [.int 4, .ref wa0, .ref na0])), (wa0, .inl (cI, 4, .inl fw0)), (na0, .inl (cI, 4, .inl fn0)), (a1, .inr (8, [.int 4, .ref wa1, .ref na1])), (wa1, .inl (cI, 4, .inl fw1)), (na1, .inl (cI, 4, .inl fn1)), (q2, .inl (cI, 2, .inl (upd (fun _ => 0) 0 1))), (al, .inr (4, [mc, .ref ed, .int (nI cc)])), (ed, .inl (cO, 10, .inr (.inr (.inr (.inr ee)))))] H6 := hP
  replace hD : va_D A [(mo, .inr (9, [th, .ref al, md, rf, kn])), (a0, .inr (8, [.int 4, .ref wa0, .ref na0])), (wa0, .inl (cI, 4, .inl fw0)), (na0, .inl (cI, 4, .inl fn0)), (a1, .inr (8, [.int 4, .ref wa1, .ref na1])), (wa1, .inl (cI, 4, .inl fw1)), (na1, .inl (cI, 4, .inl fn1)), (q2, .inl (cI, 2, .inl (upd (fun _ => 0) 0 1))), (al, .inr (4, [mc, .ref ed, .int (nI cc)])), (ed, .inl (cO, 10, .inr (.inr (.inr (.inr ee)))))] := hD
  refine lv_iconst (v := 0) hx hb dX4_depthOf_30 (by decide) ?_
  refine lv_istore (lv' := [(5, .int 0), (4, .ref a0), (3, .int 0), (2, .ref q2), (0, .ref mo), (1, .int 1)]) hx hb dX4_depthOf_31 hl (by decide) rfl (fun ls hl => ?_)
  refine lv_iload hx hb dX4_depthOf_33 (lv_at hl 0 rfl) ?_
  refine lv_aload hx hb dX4_depthOf_35 (lv_at hl 1 rfl) ?_
  have hPc := hP.sub (ws' := [(a0, .inr (8, [.int 4, .ref wa0, .ref na0])), (wa0, .inl (cI, 4, .inl fw0))]) [1, 2] rfl
  have hDc := hD.sub (ws' := [(a0, .inr (8, [.int 4, .ref wa0, .ref na0])), (wa0, .inl (cI, 4, .inl fw0))]) [1, 2] (by decide) rfl
  have hFc := va_free (wc := [(a0, .inr (8, [.int 4, .ref wa0, .ref na0])), (wa0, .inl (cI, 4, .inl fw0))]) hD hS hA [1, 2] rfl
  have hDv := hDc.self (sz := H6.size)
  have hpre := zpre (xs' := []) (av := [.ref a0]) hPc hK (hDc.weaken (fun _ _ _ h => h)) hZ hS hFc (fun r hr => by cases hr)
  refine va_calli (va_runV (As := []) (rest := [.int 0]) ⟨hx, hb, hml, hown, hts⟩ (k_rlen l dC dI cI cB cR cO zk a0 wa0 na0 fw0 H6.size ) (cwV 0 hts gX4_depthOf_X3_length rfl rfl rfl (by decide +kernel) ⟨Nat.le_of_ble_eq_true rfl, Nat.le_of_ble_eq_true rfl⟩) ⟨zblind, (zrecv_8 hK hPc (q0 := 0) rfl), hpre⟩ rfl rfl hl.1 rfl (lv_room (Nat.le_of_ble_eq_true rfl)) dX4_depthOf_37 ⟨Nat.le_of_ble_eq_true rfl, Nat.le_of_ble_eq_true rfl⟩) hS (fun q _ h => hFc q h) hFc (fun r8 u t H7 locs ht hvm hw hB hz1 hk1 hS => ?_)
  obtain rfl : 4 = r8 := (show r8 = 4 from hw).symm
  obtain ⟨hP1, hK1, hD1, hz2⟩ := hB
  rw [ht] at hP1 hz2
  have hPD9 := va_join (wr := [(mo, .inr (9, [th, .ref al, md, rf, kn])), (na0, .inl (cI, 4, .inl fn0)), (a1, .inr (8, [.int 4, .ref wa1, .ref na1])), (wa1, .inl (cI, 4, .inl fw1)), (na1, .inl (cI, 4, .inl fn1)), (q2, .inl (cI, 2, .inl (upd (fun _ => 0) 0 1))), (al, .inr (4, [mc, .ref ed, .int (nI cc)])), (ed, .inl (cO, 10, .inr (.inr (.inr (.inr ee)))))]) (w1 := [(a0, .inr (8, [.int 4, .ref wa0, .ref na0])), (wa0, .inl (cI, 4, .inl fw0))]) hP hD [1, 2] [0, 3, 4, 5, 6, 7, 8, 9] rfl rfl (by decide) (by decide) hk1 hFc hP1 hD1
  clear hPc hDc hFc hDv hpre hP hD hP1 hK1 hD1
  obtain ⟨hP, hD⟩ := hPD9
  replace hz : s.heap.size + 1 ≤ H7.size := by omega
  clear hz2
  replace hP : va_P (dC, dI) vwCl [(mo, .inr (9, [th, .ref al, md, rf, kn])), (na0, .inl (cI, 4, .inl fn0)), (a1, .inr (8, [.int 4, .ref wa1, .ref na1])), (wa1, .inl (cI, 4, .inl fw1)), (na1, .inl (cI, 4, .inl fn1)), (q2, .inl (cI, 2, .inl (upd (fun _ => 0) 0 1))), (al, .inr (4, [mc, .ref ed, .int (nI cc)])), (ed, .inl (cO, 10, .inr (.inr (.inr (.inr ee))))), (a0, .inr (8, [.int 4, .ref wa0, .ref na0])), (wa0, .inl (cI, 4, .inl fw0))] H7 := hP
  replace hD : va_D A [(mo, .inr (9, [th, .ref al, md, rf, kn])), (na0, .inl (cI, 4, .inl fn0)), (a1, .inr (8, [.int 4, .ref wa1, .ref na1])), (wa1, .inl (cI, 4, .inl fw1)), (na1, .inl (cI, 4, .inl fn1)), (q2, .inl (cI, 2, .inl (upd (fun _ => 0) 0 1))), (al, .inr (4, [mc, .ref ed, .int (nI cc)])), (ed, .inl (cO, 10, .inr (.inr (.inr (.inr ee))))), (a0, .inr (8, [.int 4, .ref wa0, .ref na0])), (wa0, .inl (cI, 4, .inl fw0))] := hD
  refine W.widen (k := 1) (n := 2) (by omega) (by omega) ?_
  refine lv_icmp_ge (tgt := 80) hx hb dX4_depthOf_40 (by decide) (fun c9 => ?_) (fun c9 => ?_)
  · exact absurd c9 (by decide)
  refine lv_aload hx hb dX4_depthOf_43 (lv_at hl 1 rfl) ?_
  refine lv_iload hx hb dX4_depthOf_45 (lv_at hl 0 rfl) ?_
  have hPc := hP.sub (ws' := [(a0, .inr (8, [.int 4, .ref wa0, .ref na0])), (wa0, .inl (cI, 4, .inl fw0))]) [8, 9] rfl
  have hDc := hD.sub (ws' := [(a0, .inr (8, [.int 4, .ref wa0, .ref na0])), (wa0, .inl (cI, 4, .inl fw0))]) [8, 9] (by decide) rfl
  have hFc := va_free (wc := [(a0, .inr (8, [.int 4, .ref wa0, .ref na0])), (wa0, .inl (cI, 4, .inl fw0))]) hD hS hA [8, 9] rfl
  have hDv := hDc.self (sz := H7.size)
  have hpre := zpre (xs' := []) (av := [.ref a0, .int 0]) hPc hK (hDc.weaken (fun _ _ _ h => h)) hZ hS hFc (fun r hr => by cases hr)
  refine va_calli (va_runV (As := [.int 0]) (rest := []) ⟨hx, hb, hml, hown, hts⟩ (k_mh0_0 l dC dI cI cB cR cO zk a0 wa0 na0 fw0 H7.size (hw0 0 (by decide))) (cwV 1 hts gX4_depthOf_X3_hangs rfl rfl rfl (by decide +kernel) ⟨Nat.le_of_ble_eq_true rfl, Nat.le_of_ble_eq_true rfl⟩) ⟨zblind, (zrecv_8 hK hPc (q0 := 0) rfl), hpre⟩ rfl rfl hl.1 rfl (lv_room (Nat.le_of_ble_eq_true rfl)) dX4_depthOf_47 ⟨Nat.le_of_ble_eq_true rfl, Nat.le_of_ble_eq_true rfl⟩) hS (fun q _ h => hFc q h) hFc (fun r10 u t H9 locs ht hvm hw hB hz1 hk1 hS => ?_)
  obtain rfl : 0 = r10 := (show r10 = 0 from hw).symm
  obtain ⟨hP1, hK1, hD1, hz2⟩ := hB
  rw [ht] at hP1 hz2
  have hPD9 := va_join (wr := [(mo, .inr (9, [th, .ref al, md, rf, kn])), (na0, .inl (cI, 4, .inl fn0)), (a1, .inr (8, [.int 4, .ref wa1, .ref na1])), (wa1, .inl (cI, 4, .inl fw1)), (na1, .inl (cI, 4, .inl fn1)), (q2, .inl (cI, 2, .inl (upd (fun _ => 0) 0 1))), (al, .inr (4, [mc, .ref ed, .int (nI cc)])), (ed, .inl (cO, 10, .inr (.inr (.inr (.inr ee)))))]) (w1 := [(a0, .inr (8, [.int 4, .ref wa0, .ref na0])), (wa0, .inl (cI, 4, .inl fw0))]) hP hD [8, 9] [0, 1, 2, 3, 4, 5, 6, 7] rfl rfl (by decide) (by decide) hk1 hFc hP1 hD1
  clear hPc hDc hFc hDv hpre hP hD hP1 hK1 hD1
  obtain ⟨hP, hD⟩ := hPD9
  replace hz : s.heap.size + 1 ≤ H9.size := by omega
  clear hz2
  replace hP : va_P (dC, dI) vwCl [(mo, .inr (9, [th, .ref al, md, rf, kn])), (na0, .inl (cI, 4, .inl fn0)), (a1, .inr (8, [.int 4, .ref wa1, .ref na1])), (wa1, .inl (cI, 4, .inl fw1)), (na1, .inl (cI, 4, .inl fn1)), (q2, .inl (cI, 2, .inl (upd (fun _ => 0) 0 1))), (al, .inr (4, [mc, .ref ed, .int (nI cc)])), (ed, .inl (cO, 10, .inr (.inr (.inr (.inr ee))))), (a0, .inr (8, [.int 4, .ref wa0, .ref na0])), (wa0, .inl (cI, 4, .inl fw0))] H9 := hP
  replace hD : va_D A [(mo, .inr (9, [th, .ref al, md, rf, kn])), (na0, .inl (cI, 4, .inl fn0)), (a1, .inr (8, [.int 4, .ref wa1, .ref na1])), (wa1, .inl (cI, 4, .inl fw1)), (na1, .inl (cI, 4, .inl fn1)), (q2, .inl (cI, 2, .inl (upd (fun _ => 0) 0 1))), (al, .inr (4, [mc, .ref ed, .int (nI cc)])), (ed, .inl (cO, 10, .inr (.inr (.inr (.inr ee))))), (a0, .inr (8, [.int 4, .ref wa0, .ref na0])), (wa0, .inl (cI, 4, .inl fw0))] := hD
  refine W.widen (k := 1) (n := 2) (by omega) (by omega) ?_
  refine lv_if_eq (tgt := 74) hx hb dX4_depthOf_50 (by decide) (fun c9 => ?_) (fun c9 => ?_)
  rotate_left
  · exact absurd (by decide) c9
  refine lv_iinc (v := 1) (lv' := [(5, .int 1), (4, .ref a0), (3, .int 0), (2, .ref q2), (0, .ref mo), (1, .int 1)]) hx hb dX4_depthOf_74 hl (k := 0) rfl (by decide) (by decide) rfl (fun ls hl => ?_)
  refine lv_goto (tgt := 33) hx hb dX4_depthOf_77 (by decide) ?_
  refine lv_iload hx hb dX4_depthOf_33 (lv_at hl 0 rfl) ?_
  refine lv_aload hx hb dX4_depthOf_35 (lv_at hl 1 rfl) ?_
  have hPc := hP.sub (ws' := [(a0, .inr (8, [.int 4, .ref wa0, .ref na0])), (wa0, .inl (cI, 4, .inl fw0))]) [8, 9] rfl
  have hDc := hD.sub (ws' := [(a0, .inr (8, [.int 4, .ref wa0, .ref na0])), (wa0, .inl (cI, 4, .inl fw0))]) [8, 9] (by decide) rfl
  have hFc := va_free (wc := [(a0, .inr (8, [.int 4, .ref wa0, .ref na0])), (wa0, .inl (cI, 4, .inl fw0))]) hD hS hA [8, 9] rfl
  have hDv := hDc.self (sz := H9.size)
  have hpre := zpre (xs' := []) (av := [.ref a0]) hPc hK (hDc.weaken (fun _ _ _ h => h)) hZ hS hFc (fun r hr => by cases hr)
  refine va_calli (va_runV (As := []) (rest := [.int 1]) ⟨hx, hb, hml, hown, hts⟩ (k_rlen l dC dI cI cB cR cO zk a0 wa0 na0 fw0 H9.size ) (cwV 0 hts gX4_depthOf_X3_length rfl rfl rfl (by decide +kernel) ⟨Nat.le_of_ble_eq_true rfl, Nat.le_of_ble_eq_true rfl⟩) ⟨zblind, (zrecv_8 hK hPc (q0 := 0) rfl), hpre⟩ rfl rfl hl.1 rfl (lv_room (Nat.le_of_ble_eq_true rfl)) dX4_depthOf_37 ⟨Nat.le_of_ble_eq_true rfl, Nat.le_of_ble_eq_true rfl⟩) hS (fun q _ h => hFc q h) hFc (fun r12 u t H11 locs ht hvm hw hB hz1 hk1 hS => ?_)
  obtain rfl : 4 = r12 := (show r12 = 4 from hw).symm
  obtain ⟨hP1, hK1, hD1, hz2⟩ := hB
  rw [ht] at hP1 hz2
  have hPD9 := va_join (wr := [(mo, .inr (9, [th, .ref al, md, rf, kn])), (na0, .inl (cI, 4, .inl fn0)), (a1, .inr (8, [.int 4, .ref wa1, .ref na1])), (wa1, .inl (cI, 4, .inl fw1)), (na1, .inl (cI, 4, .inl fn1)), (q2, .inl (cI, 2, .inl (upd (fun _ => 0) 0 1))), (al, .inr (4, [mc, .ref ed, .int (nI cc)])), (ed, .inl (cO, 10, .inr (.inr (.inr (.inr ee)))))]) (w1 := [(a0, .inr (8, [.int 4, .ref wa0, .ref na0])), (wa0, .inl (cI, 4, .inl fw0))]) hP hD [8, 9] [0, 1, 2, 3, 4, 5, 6, 7] rfl rfl (by decide) (by decide) hk1 hFc hP1 hD1
  clear hPc hDc hFc hDv hpre hP hD hP1 hK1 hD1
  obtain ⟨hP, hD⟩ := hPD9
  replace hz : s.heap.size + 1 ≤ H11.size := by omega
  clear hz2
  replace hP : va_P (dC, dI) vwCl [(mo, .inr (9, [th, .ref al, md, rf, kn])), (na0, .inl (cI, 4, .inl fn0)), (a1, .inr (8, [.int 4, .ref wa1, .ref na1])), (wa1, .inl (cI, 4, .inl fw1)), (na1, .inl (cI, 4, .inl fn1)), (q2, .inl (cI, 2, .inl (upd (fun _ => 0) 0 1))), (al, .inr (4, [mc, .ref ed, .int (nI cc)])), (ed, .inl (cO, 10, .inr (.inr (.inr (.inr ee))))), (a0, .inr (8, [.int 4, .ref wa0, .ref na0])), (wa0, .inl (cI, 4, .inl fw0))] H11 := hP
  replace hD : va_D A [(mo, .inr (9, [th, .ref al, md, rf, kn])), (na0, .inl (cI, 4, .inl fn0)), (a1, .inr (8, [.int 4, .ref wa1, .ref na1])), (wa1, .inl (cI, 4, .inl fw1)), (na1, .inl (cI, 4, .inl fn1)), (q2, .inl (cI, 2, .inl (upd (fun _ => 0) 0 1))), (al, .inr (4, [mc, .ref ed, .int (nI cc)])), (ed, .inl (cO, 10, .inr (.inr (.inr (.inr ee))))), (a0, .inr (8, [.int 4, .ref wa0, .ref na0])), (wa0, .inl (cI, 4, .inl fw0))] := hD
  refine W.widen (k := 1) (n := 2) (by omega) (by omega) ?_
  refine lv_icmp_ge (tgt := 80) hx hb dX4_depthOf_40 (by decide) (fun c9 => ?_) (fun c9 => ?_)
  · exact absurd c9 (by decide)
  refine lv_aload hx hb dX4_depthOf_43 (lv_at hl 1 rfl) ?_
  refine lv_iload hx hb dX4_depthOf_45 (lv_at hl 0 rfl) ?_
  have hPc := hP.sub (ws' := [(a0, .inr (8, [.int 4, .ref wa0, .ref na0])), (wa0, .inl (cI, 4, .inl fw0))]) [8, 9] rfl
  have hDc := hD.sub (ws' := [(a0, .inr (8, [.int 4, .ref wa0, .ref na0])), (wa0, .inl (cI, 4, .inl fw0))]) [8, 9] (by decide) rfl
  have hFc := va_free (wc := [(a0, .inr (8, [.int 4, .ref wa0, .ref na0])), (wa0, .inl (cI, 4, .inl fw0))]) hD hS hA [8, 9] rfl
  have hDv := hDc.self (sz := H11.size)
  have hpre := zpre (xs' := []) (av := [.ref a0, .int 1]) hPc hK (hDc.weaken (fun _ _ _ h => h)) hZ hS hFc (fun r hr => by cases hr)
  refine va_calli (va_runV (As := [.int 1]) (rest := []) ⟨hx, hb, hml, hown, hts⟩ (k_mh1_0 l dC dI cI cB cR cO zk a0 wa0 na0 fw0 H11.size (hw0 1 (by decide))) (cwV 1 hts gX4_depthOf_X3_hangs rfl rfl rfl (by decide +kernel) ⟨Nat.le_of_ble_eq_true rfl, Nat.le_of_ble_eq_true rfl⟩) ⟨zblind, (zrecv_8 hK hPc (q0 := 0) rfl), hpre⟩ rfl rfl hl.1 rfl (lv_room (Nat.le_of_ble_eq_true rfl)) dX4_depthOf_47 ⟨Nat.le_of_ble_eq_true rfl, Nat.le_of_ble_eq_true rfl⟩) hS (fun q _ h => hFc q h) hFc (fun r14 u t H13 locs ht hvm hw hB hz1 hk1 hS => ?_)
  obtain rfl : 0 = r14 := (show r14 = 0 from hw).symm
  obtain ⟨hP1, hK1, hD1, hz2⟩ := hB
  rw [ht] at hP1 hz2
  have hPD9 := va_join (wr := [(mo, .inr (9, [th, .ref al, md, rf, kn])), (na0, .inl (cI, 4, .inl fn0)), (a1, .inr (8, [.int 4, .ref wa1, .ref na1])), (wa1, .inl (cI, 4, .inl fw1)), (na1, .inl (cI, 4, .inl fn1)), (q2, .inl (cI, 2, .inl (upd (fun _ => 0) 0 1))), (al, .inr (4, [mc, .ref ed, .int (nI cc)])), (ed, .inl (cO, 10, .inr (.inr (.inr (.inr ee)))))]) (w1 := [(a0, .inr (8, [.int 4, .ref wa0, .ref na0])), (wa0, .inl (cI, 4, .inl fw0))]) hP hD [8, 9] [0, 1, 2, 3, 4, 5, 6, 7] rfl rfl (by decide) (by decide) hk1 hFc hP1 hD1
  clear hPc hDc hFc hDv hpre hP hD hP1 hK1 hD1
  obtain ⟨hP, hD⟩ := hPD9
  replace hz : s.heap.size + 1 ≤ H13.size := by omega
  clear hz2
  replace hP : va_P (dC, dI) vwCl [(mo, .inr (9, [th, .ref al, md, rf, kn])), (na0, .inl (cI, 4, .inl fn0)), (a1, .inr (8, [.int 4, .ref wa1, .ref na1])), (wa1, .inl (cI, 4, .inl fw1)), (na1, .inl (cI, 4, .inl fn1)), (q2, .inl (cI, 2, .inl (upd (fun _ => 0) 0 1))), (al, .inr (4, [mc, .ref ed, .int (nI cc)])), (ed, .inl (cO, 10, .inr (.inr (.inr (.inr ee))))), (a0, .inr (8, [.int 4, .ref wa0, .ref na0])), (wa0, .inl (cI, 4, .inl fw0))] H13 := hP
  replace hD : va_D A [(mo, .inr (9, [th, .ref al, md, rf, kn])), (na0, .inl (cI, 4, .inl fn0)), (a1, .inr (8, [.int 4, .ref wa1, .ref na1])), (wa1, .inl (cI, 4, .inl fw1)), (na1, .inl (cI, 4, .inl fn1)), (q2, .inl (cI, 2, .inl (upd (fun _ => 0) 0 1))), (al, .inr (4, [mc, .ref ed, .int (nI cc)])), (ed, .inl (cO, 10, .inr (.inr (.inr (.inr ee))))), (a0, .inr (8, [.int 4, .ref wa0, .ref na0])), (wa0, .inl (cI, 4, .inl fw0))] := hD
  refine W.widen (k := 1) (n := 2) (by omega) (by omega) ?_
  refine lv_if_eq (tgt := 74) hx hb dX4_depthOf_50 (by decide) (fun c9 => ?_) (fun c9 => ?_)
  rotate_left
  · exact absurd (by decide) c9
  refine lv_iinc (v := 2) (lv' := [(5, .int 2), (4, .ref a0), (3, .int 0), (2, .ref q2), (0, .ref mo), (1, .int 1)]) hx hb dX4_depthOf_74 hl (k := 0) rfl (by decide) (by decide) rfl (fun ls hl => ?_)
  refine lv_goto (tgt := 33) hx hb dX4_depthOf_77 (by decide) ?_
  refine lv_iload hx hb dX4_depthOf_33 (lv_at hl 0 rfl) ?_
  refine lv_aload hx hb dX4_depthOf_35 (lv_at hl 1 rfl) ?_
  have hPc := hP.sub (ws' := [(a0, .inr (8, [.int 4, .ref wa0, .ref na0])), (wa0, .inl (cI, 4, .inl fw0))]) [8, 9] rfl
  have hDc := hD.sub (ws' := [(a0, .inr (8, [.int 4, .ref wa0, .ref na0])), (wa0, .inl (cI, 4, .inl fw0))]) [8, 9] (by decide) rfl
  have hFc := va_free (wc := [(a0, .inr (8, [.int 4, .ref wa0, .ref na0])), (wa0, .inl (cI, 4, .inl fw0))]) hD hS hA [8, 9] rfl
  have hDv := hDc.self (sz := H13.size)
  have hpre := zpre (xs' := []) (av := [.ref a0]) hPc hK (hDc.weaken (fun _ _ _ h => h)) hZ hS hFc (fun r hr => by cases hr)
  refine va_calli (va_runV (As := []) (rest := [.int 2]) ⟨hx, hb, hml, hown, hts⟩ (k_rlen l dC dI cI cB cR cO zk a0 wa0 na0 fw0 H13.size ) (cwV 0 hts gX4_depthOf_X3_length rfl rfl rfl (by decide +kernel) ⟨Nat.le_of_ble_eq_true rfl, Nat.le_of_ble_eq_true rfl⟩) ⟨zblind, (zrecv_8 hK hPc (q0 := 0) rfl), hpre⟩ rfl rfl hl.1 rfl (lv_room (Nat.le_of_ble_eq_true rfl)) dX4_depthOf_37 ⟨Nat.le_of_ble_eq_true rfl, Nat.le_of_ble_eq_true rfl⟩) hS (fun q _ h => hFc q h) hFc (fun r16 u t H15 locs ht hvm hw hB hz1 hk1 hS => ?_)
  obtain rfl : 4 = r16 := (show r16 = 4 from hw).symm
  obtain ⟨hP1, hK1, hD1, hz2⟩ := hB
  rw [ht] at hP1 hz2
  have hPD9 := va_join (wr := [(mo, .inr (9, [th, .ref al, md, rf, kn])), (na0, .inl (cI, 4, .inl fn0)), (a1, .inr (8, [.int 4, .ref wa1, .ref na1])), (wa1, .inl (cI, 4, .inl fw1)), (na1, .inl (cI, 4, .inl fn1)), (q2, .inl (cI, 2, .inl (upd (fun _ => 0) 0 1))), (al, .inr (4, [mc, .ref ed, .int (nI cc)])), (ed, .inl (cO, 10, .inr (.inr (.inr (.inr ee)))))]) (w1 := [(a0, .inr (8, [.int 4, .ref wa0, .ref na0])), (wa0, .inl (cI, 4, .inl fw0))]) hP hD [8, 9] [0, 1, 2, 3, 4, 5, 6, 7] rfl rfl (by decide) (by decide) hk1 hFc hP1 hD1
  clear hPc hDc hFc hDv hpre hP hD hP1 hK1 hD1
  obtain ⟨hP, hD⟩ := hPD9
  replace hz : s.heap.size + 1 ≤ H15.size := by omega
  clear hz2
  replace hP : va_P (dC, dI) vwCl [(mo, .inr (9, [th, .ref al, md, rf, kn])), (na0, .inl (cI, 4, .inl fn0)), (a1, .inr (8, [.int 4, .ref wa1, .ref na1])), (wa1, .inl (cI, 4, .inl fw1)), (na1, .inl (cI, 4, .inl fn1)), (q2, .inl (cI, 2, .inl (upd (fun _ => 0) 0 1))), (al, .inr (4, [mc, .ref ed, .int (nI cc)])), (ed, .inl (cO, 10, .inr (.inr (.inr (.inr ee))))), (a0, .inr (8, [.int 4, .ref wa0, .ref na0])), (wa0, .inl (cI, 4, .inl fw0))] H15 := hP
  replace hD : va_D A [(mo, .inr (9, [th, .ref al, md, rf, kn])), (na0, .inl (cI, 4, .inl fn0)), (a1, .inr (8, [.int 4, .ref wa1, .ref na1])), (wa1, .inl (cI, 4, .inl fw1)), (na1, .inl (cI, 4, .inl fn1)), (q2, .inl (cI, 2, .inl (upd (fun _ => 0) 0 1))), (al, .inr (4, [mc, .ref ed, .int (nI cc)])), (ed, .inl (cO, 10, .inr (.inr (.inr (.inr ee))))), (a0, .inr (8, [.int 4, .ref wa0, .ref na0])), (wa0, .inl (cI, 4, .inl fw0))] := hD
  refine W.widen (k := 1) (n := 2) (by omega) (by omega) ?_
  refine lv_icmp_ge (tgt := 80) hx hb dX4_depthOf_40 (by decide) (fun c9 => ?_) (fun c9 => ?_)
  · exact absurd c9 (by decide)
  refine lv_aload hx hb dX4_depthOf_43 (lv_at hl 1 rfl) ?_
  refine lv_iload hx hb dX4_depthOf_45 (lv_at hl 0 rfl) ?_
  have hPc := hP.sub (ws' := [(a0, .inr (8, [.int 4, .ref wa0, .ref na0])), (wa0, .inl (cI, 4, .inl fw0))]) [8, 9] rfl
  have hDc := hD.sub (ws' := [(a0, .inr (8, [.int 4, .ref wa0, .ref na0])), (wa0, .inl (cI, 4, .inl fw0))]) [8, 9] (by decide) rfl
  have hFc := va_free (wc := [(a0, .inr (8, [.int 4, .ref wa0, .ref na0])), (wa0, .inl (cI, 4, .inl fw0))]) hD hS hA [8, 9] rfl
  have hDv := hDc.self (sz := H15.size)
  have hpre := zpre (xs' := []) (av := [.ref a0, .int 2]) hPc hK (hDc.weaken (fun _ _ _ h => h)) hZ hS hFc (fun r hr => by cases hr)
  refine va_calli (va_runV (As := [.int 2]) (rest := []) ⟨hx, hb, hml, hown, hts⟩ (k_mh2_0 l dC dI cI cB cR cO zk a0 wa0 na0 fw0 H15.size (hw0 2 (by decide))) (cwV 1 hts gX4_depthOf_X3_hangs rfl rfl rfl (by decide +kernel) ⟨Nat.le_of_ble_eq_true rfl, Nat.le_of_ble_eq_true rfl⟩) ⟨zblind, (zrecv_8 hK hPc (q0 := 0) rfl), hpre⟩ rfl rfl hl.1 rfl (lv_room (Nat.le_of_ble_eq_true rfl)) dX4_depthOf_47 ⟨Nat.le_of_ble_eq_true rfl, Nat.le_of_ble_eq_true rfl⟩) hS (fun q _ h => hFc q h) hFc (fun r18 u t H17 locs ht hvm hw hB hz1 hk1 hS => ?_)
  obtain rfl : 0 = r18 := (show r18 = 0 from hw).symm
  obtain ⟨hP1, hK1, hD1, hz2⟩ := hB
  rw [ht] at hP1 hz2
  have hPD9 := va_join (wr := [(mo, .inr (9, [th, .ref al, md, rf, kn])), (na0, .inl (cI, 4, .inl fn0)), (a1, .inr (8, [.int 4, .ref wa1, .ref na1])), (wa1, .inl (cI, 4, .inl fw1)), (na1, .inl (cI, 4, .inl fn1)), (q2, .inl (cI, 2, .inl (upd (fun _ => 0) 0 1))), (al, .inr (4, [mc, .ref ed, .int (nI cc)])), (ed, .inl (cO, 10, .inr (.inr (.inr (.inr ee)))))]) (w1 := [(a0, .inr (8, [.int 4, .ref wa0, .ref na0])), (wa0, .inl (cI, 4, .inl fw0))]) hP hD [8, 9] [0, 1, 2, 3, 4, 5, 6, 7] rfl rfl (by decide) (by decide) hk1 hFc hP1 hD1
  clear hPc hDc hFc hDv hpre hP hD hP1 hK1 hD1
  obtain ⟨hP, hD⟩ := hPD9
  replace hz : s.heap.size + 1 ≤ H17.size := by omega
  clear hz2
  replace hP : va_P (dC, dI) vwCl [(mo, .inr (9, [th, .ref al, md, rf, kn])), (na0, .inl (cI, 4, .inl fn0)), (a1, .inr (8, [.int 4, .ref wa1, .ref na1])), (wa1, .inl (cI, 4, .inl fw1)), (na1, .inl (cI, 4, .inl fn1)), (q2, .inl (cI, 2, .inl (upd (fun _ => 0) 0 1))), (al, .inr (4, [mc, .ref ed, .int (nI cc)])), (ed, .inl (cO, 10, .inr (.inr (.inr (.inr ee))))), (a0, .inr (8, [.int 4, .ref wa0, .ref na0])), (wa0, .inl (cI, 4, .inl fw0))] H17 := hP
  replace hD : va_D A [(mo, .inr (9, [th, .ref al, md, rf, kn])), (na0, .inl (cI, 4, .inl fn0)), (a1, .inr (8, [.int 4, .ref wa1, .ref na1])), (wa1, .inl (cI, 4, .inl fw1)), (na1, .inl (cI, 4, .inl fn1)), (q2, .inl (cI, 2, .inl (upd (fun _ => 0) 0 1))), (al, .inr (4, [mc, .ref ed, .int (nI cc)])), (ed, .inl (cO, 10, .inr (.inr (.inr (.inr ee))))), (a0, .inr (8, [.int 4, .ref wa0, .ref na0])), (wa0, .inl (cI, 4, .inl fw0))] := hD
  refine W.widen (k := 1) (n := 2) (by omega) (by omega) ?_
  refine lv_if_eq (tgt := 74) hx hb dX4_depthOf_50 (by decide) (fun c9 => ?_) (fun c9 => ?_)
  rotate_left
  · exact absurd (by decide) c9
  refine lv_iinc (v := 3) (lv' := [(5, .int 3), (4, .ref a0), (3, .int 0), (2, .ref q2), (0, .ref mo), (1, .int 1)]) hx hb dX4_depthOf_74 hl (k := 0) rfl (by decide) (by decide) rfl (fun ls hl => ?_)
  refine lv_goto (tgt := 33) hx hb dX4_depthOf_77 (by decide) ?_
  refine lv_iload hx hb dX4_depthOf_33 (lv_at hl 0 rfl) ?_
  refine lv_aload hx hb dX4_depthOf_35 (lv_at hl 1 rfl) ?_
  have hPc := hP.sub (ws' := [(a0, .inr (8, [.int 4, .ref wa0, .ref na0])), (wa0, .inl (cI, 4, .inl fw0))]) [8, 9] rfl
  have hDc := hD.sub (ws' := [(a0, .inr (8, [.int 4, .ref wa0, .ref na0])), (wa0, .inl (cI, 4, .inl fw0))]) [8, 9] (by decide) rfl
  have hFc := va_free (wc := [(a0, .inr (8, [.int 4, .ref wa0, .ref na0])), (wa0, .inl (cI, 4, .inl fw0))]) hD hS hA [8, 9] rfl
  have hDv := hDc.self (sz := H17.size)
  have hpre := zpre (xs' := []) (av := [.ref a0]) hPc hK (hDc.weaken (fun _ _ _ h => h)) hZ hS hFc (fun r hr => by cases hr)
  refine va_calli (va_runV (As := []) (rest := [.int 3]) ⟨hx, hb, hml, hown, hts⟩ (k_rlen l dC dI cI cB cR cO zk a0 wa0 na0 fw0 H17.size ) (cwV 0 hts gX4_depthOf_X3_length rfl rfl rfl (by decide +kernel) ⟨Nat.le_of_ble_eq_true rfl, Nat.le_of_ble_eq_true rfl⟩) ⟨zblind, (zrecv_8 hK hPc (q0 := 0) rfl), hpre⟩ rfl rfl hl.1 rfl (lv_room (Nat.le_of_ble_eq_true rfl)) dX4_depthOf_37 ⟨Nat.le_of_ble_eq_true rfl, Nat.le_of_ble_eq_true rfl⟩) hS (fun q _ h => hFc q h) hFc (fun r20 u t H19 locs ht hvm hw hB hz1 hk1 hS => ?_)
  obtain rfl : 4 = r20 := (show r20 = 4 from hw).symm
  obtain ⟨hP1, hK1, hD1, hz2⟩ := hB
  rw [ht] at hP1 hz2
  have hPD9 := va_join (wr := [(mo, .inr (9, [th, .ref al, md, rf, kn])), (na0, .inl (cI, 4, .inl fn0)), (a1, .inr (8, [.int 4, .ref wa1, .ref na1])), (wa1, .inl (cI, 4, .inl fw1)), (na1, .inl (cI, 4, .inl fn1)), (q2, .inl (cI, 2, .inl (upd (fun _ => 0) 0 1))), (al, .inr (4, [mc, .ref ed, .int (nI cc)])), (ed, .inl (cO, 10, .inr (.inr (.inr (.inr ee)))))]) (w1 := [(a0, .inr (8, [.int 4, .ref wa0, .ref na0])), (wa0, .inl (cI, 4, .inl fw0))]) hP hD [8, 9] [0, 1, 2, 3, 4, 5, 6, 7] rfl rfl (by decide) (by decide) hk1 hFc hP1 hD1
  clear hPc hDc hFc hDv hpre hP hD hP1 hK1 hD1
  obtain ⟨hP, hD⟩ := hPD9
  replace hz : s.heap.size + 1 ≤ H19.size := by omega
  clear hz2
  replace hP : va_P (dC, dI) vwCl [(mo, .inr (9, [th, .ref al, md, rf, kn])), (na0, .inl (cI, 4, .inl fn0)), (a1, .inr (8, [.int 4, .ref wa1, .ref na1])), (wa1, .inl (cI, 4, .inl fw1)), (na1, .inl (cI, 4, .inl fn1)), (q2, .inl (cI, 2, .inl (upd (fun _ => 0) 0 1))), (al, .inr (4, [mc, .ref ed, .int (nI cc)])), (ed, .inl (cO, 10, .inr (.inr (.inr (.inr ee))))), (a0, .inr (8, [.int 4, .ref wa0, .ref na0])), (wa0, .inl (cI, 4, .inl fw0))] H19 := hP
  replace hD : va_D A [(mo, .inr (9, [th, .ref al, md, rf, kn])), (na0, .inl (cI, 4, .inl fn0)), (a1, .inr (8, [.int 4, .ref wa1, .ref na1])), (wa1, .inl (cI, 4, .inl fw1)), (na1, .inl (cI, 4, .inl fn1)), (q2, .inl (cI, 2, .inl (upd (fun _ => 0) 0 1))), (al, .inr (4, [mc, .ref ed, .int (nI cc)])), (ed, .inl (cO, 10, .inr (.inr (.inr (.inr ee))))), (a0, .inr (8, [.int 4, .ref wa0, .ref na0])), (wa0, .inl (cI, 4, .inl fw0))] := hD
  refine W.widen (k := 1) (n := 2) (by omega) (by omega) ?_
  refine lv_icmp_ge (tgt := 80) hx hb dX4_depthOf_40 (by decide) (fun c9 => ?_) (fun c9 => ?_)
  · exact absurd c9 (by decide)
  refine lv_aload hx hb dX4_depthOf_43 (lv_at hl 1 rfl) ?_
  refine lv_iload hx hb dX4_depthOf_45 (lv_at hl 0 rfl) ?_
  have hPc := hP.sub (ws' := [(a0, .inr (8, [.int 4, .ref wa0, .ref na0])), (wa0, .inl (cI, 4, .inl fw0))]) [8, 9] rfl
  have hDc := hD.sub (ws' := [(a0, .inr (8, [.int 4, .ref wa0, .ref na0])), (wa0, .inl (cI, 4, .inl fw0))]) [8, 9] (by decide) rfl
  have hFc := va_free (wc := [(a0, .inr (8, [.int 4, .ref wa0, .ref na0])), (wa0, .inl (cI, 4, .inl fw0))]) hD hS hA [8, 9] rfl
  have hDv := hDc.self (sz := H19.size)
  have hpre := zpre (xs' := []) (av := [.ref a0, .int 3]) hPc hK (hDc.weaken (fun _ _ _ h => h)) hZ hS hFc (fun r hr => by cases hr)
  refine va_calli (va_runV (As := [.int 3]) (rest := []) ⟨hx, hb, hml, hown, hts⟩ (k_mh3_0 l dC dI cI cB cR cO zk a0 wa0 na0 fw0 H19.size (hw0 3 (by decide))) (cwV 1 hts gX4_depthOf_X3_hangs rfl rfl rfl (by decide +kernel) ⟨Nat.le_of_ble_eq_true rfl, Nat.le_of_ble_eq_true rfl⟩) ⟨zblind, (zrecv_8 hK hPc (q0 := 0) rfl), hpre⟩ rfl rfl hl.1 rfl (lv_room (Nat.le_of_ble_eq_true rfl)) dX4_depthOf_47 ⟨Nat.le_of_ble_eq_true rfl, Nat.le_of_ble_eq_true rfl⟩) hS (fun q _ h => hFc q h) hFc (fun r22 u t H21 locs ht hvm hw hB hz1 hk1 hS => ?_)
  obtain rfl : 0 = r22 := (show r22 = 0 from hw).symm
  obtain ⟨hP1, hK1, hD1, hz2⟩ := hB
  rw [ht] at hP1 hz2
  have hPD9 := va_join (wr := [(mo, .inr (9, [th, .ref al, md, rf, kn])), (na0, .inl (cI, 4, .inl fn0)), (a1, .inr (8, [.int 4, .ref wa1, .ref na1])), (wa1, .inl (cI, 4, .inl fw1)), (na1, .inl (cI, 4, .inl fn1)), (q2, .inl (cI, 2, .inl (upd (fun _ => 0) 0 1))), (al, .inr (4, [mc, .ref ed, .int (nI cc)])), (ed, .inl (cO, 10, .inr (.inr (.inr (.inr ee)))))]) (w1 := [(a0, .inr (8, [.int 4, .ref wa0, .ref na0])), (wa0, .inl (cI, 4, .inl fw0))]) hP hD [8, 9] [0, 1, 2, 3, 4, 5, 6, 7] rfl rfl (by decide) (by decide) hk1 hFc hP1 hD1
  clear hPc hDc hFc hDv hpre hP hD hP1 hK1 hD1
  obtain ⟨hP, hD⟩ := hPD9
  replace hz : s.heap.size + 1 ≤ H21.size := by omega
  clear hz2
  replace hP : va_P (dC, dI) vwCl [(mo, .inr (9, [th, .ref al, md, rf, kn])), (na0, .inl (cI, 4, .inl fn0)), (a1, .inr (8, [.int 4, .ref wa1, .ref na1])), (wa1, .inl (cI, 4, .inl fw1)), (na1, .inl (cI, 4, .inl fn1)), (q2, .inl (cI, 2, .inl (upd (fun _ => 0) 0 1))), (al, .inr (4, [mc, .ref ed, .int (nI cc)])), (ed, .inl (cO, 10, .inr (.inr (.inr (.inr ee))))), (a0, .inr (8, [.int 4, .ref wa0, .ref na0])), (wa0, .inl (cI, 4, .inl fw0))] H21 := hP
  replace hD : va_D A [(mo, .inr (9, [th, .ref al, md, rf, kn])), (na0, .inl (cI, 4, .inl fn0)), (a1, .inr (8, [.int 4, .ref wa1, .ref na1])), (wa1, .inl (cI, 4, .inl fw1)), (na1, .inl (cI, 4, .inl fn1)), (q2, .inl (cI, 2, .inl (upd (fun _ => 0) 0 1))), (al, .inr (4, [mc, .ref ed, .int (nI cc)])), (ed, .inl (cO, 10, .inr (.inr (.inr (.inr ee))))), (a0, .inr (8, [.int 4, .ref wa0, .ref na0])), (wa0, .inl (cI, 4, .inl fw0))] := hD
  refine W.widen (k := 1) (n := 2) (by omega) (by omega) ?_
  refine lv_if_eq (tgt := 74) hx hb dX4_depthOf_50 (by decide) (fun c9 => ?_) (fun c9 => ?_)
  rotate_left
  · exact absurd (by decide) c9
  refine lv_iinc (v := 4) (lv' := [(5, .int 4), (4, .ref a0), (3, .int 0), (2, .ref q2), (0, .ref mo), (1, .int 1)]) hx hb dX4_depthOf_74 hl (k := 0) rfl (by decide) (by decide) rfl (fun ls hl => ?_)
  refine lv_goto (tgt := 33) hx hb dX4_depthOf_77 (by decide) ?_
  refine lv_iload hx hb dX4_depthOf_33 (lv_at hl 0 rfl) ?_
  refine lv_aload hx hb dX4_depthOf_35 (lv_at hl 1 rfl) ?_
  have hPc := hP.sub (ws' := [(a0, .inr (8, [.int 4, .ref wa0, .ref na0])), (wa0, .inl (cI, 4, .inl fw0))]) [8, 9] rfl
  have hDc := hD.sub (ws' := [(a0, .inr (8, [.int 4, .ref wa0, .ref na0])), (wa0, .inl (cI, 4, .inl fw0))]) [8, 9] (by decide) rfl
  have hFc := va_free (wc := [(a0, .inr (8, [.int 4, .ref wa0, .ref na0])), (wa0, .inl (cI, 4, .inl fw0))]) hD hS hA [8, 9] rfl
  have hDv := hDc.self (sz := H21.size)
  have hpre := zpre (xs' := []) (av := [.ref a0]) hPc hK (hDc.weaken (fun _ _ _ h => h)) hZ hS hFc (fun r hr => by cases hr)
  refine va_calli (va_runV (As := []) (rest := [.int 4]) ⟨hx, hb, hml, hown, hts⟩ (k_rlen l dC dI cI cB cR cO zk a0 wa0 na0 fw0 H21.size ) (cwV 0 hts gX4_depthOf_X3_length rfl rfl rfl (by decide +kernel) ⟨Nat.le_of_ble_eq_true rfl, Nat.le_of_ble_eq_true rfl⟩) ⟨zblind, (zrecv_8 hK hPc (q0 := 0) rfl), hpre⟩ rfl rfl hl.1 rfl (lv_room (Nat.le_of_ble_eq_true rfl)) dX4_depthOf_37 ⟨Nat.le_of_ble_eq_true rfl, Nat.le_of_ble_eq_true rfl⟩) hS (fun q _ h => hFc q h) hFc (fun r24 u t H23 locs ht hvm hw hB hz1 hk1 hS => ?_)
  obtain rfl : 4 = r24 := (show r24 = 4 from hw).symm
  obtain ⟨hP1, hK1, hD1, hz2⟩ := hB
  rw [ht] at hP1 hz2
  have hPD9 := va_join (wr := [(mo, .inr (9, [th, .ref al, md, rf, kn])), (na0, .inl (cI, 4, .inl fn0)), (a1, .inr (8, [.int 4, .ref wa1, .ref na1])), (wa1, .inl (cI, 4, .inl fw1)), (na1, .inl (cI, 4, .inl fn1)), (q2, .inl (cI, 2, .inl (upd (fun _ => 0) 0 1))), (al, .inr (4, [mc, .ref ed, .int (nI cc)])), (ed, .inl (cO, 10, .inr (.inr (.inr (.inr ee)))))]) (w1 := [(a0, .inr (8, [.int 4, .ref wa0, .ref na0])), (wa0, .inl (cI, 4, .inl fw0))]) hP hD [8, 9] [0, 1, 2, 3, 4, 5, 6, 7] rfl rfl (by decide) (by decide) hk1 hFc hP1 hD1
  clear hPc hDc hFc hDv hpre hP hD hP1 hK1 hD1
  obtain ⟨hP, hD⟩ := hPD9
  replace hz : s.heap.size + 1 ≤ H23.size := by omega
  clear hz2
  replace hP : va_P (dC, dI) vwCl [(mo, .inr (9, [th, .ref al, md, rf, kn])), (na0, .inl (cI, 4, .inl fn0)), (a1, .inr (8, [.int 4, .ref wa1, .ref na1])), (wa1, .inl (cI, 4, .inl fw1)), (na1, .inl (cI, 4, .inl fn1)), (q2, .inl (cI, 2, .inl (upd (fun _ => 0) 0 1))), (al, .inr (4, [mc, .ref ed, .int (nI cc)])), (ed, .inl (cO, 10, .inr (.inr (.inr (.inr ee))))), (a0, .inr (8, [.int 4, .ref wa0, .ref na0])), (wa0, .inl (cI, 4, .inl fw0))] H23 := hP
  replace hD : va_D A [(mo, .inr (9, [th, .ref al, md, rf, kn])), (na0, .inl (cI, 4, .inl fn0)), (a1, .inr (8, [.int 4, .ref wa1, .ref na1])), (wa1, .inl (cI, 4, .inl fw1)), (na1, .inl (cI, 4, .inl fn1)), (q2, .inl (cI, 2, .inl (upd (fun _ => 0) 0 1))), (al, .inr (4, [mc, .ref ed, .int (nI cc)])), (ed, .inl (cO, 10, .inr (.inr (.inr (.inr ee))))), (a0, .inr (8, [.int 4, .ref wa0, .ref na0])), (wa0, .inl (cI, 4, .inl fw0))] := hD
  refine W.widen (k := 1) (n := 2) (by omega) (by omega) ?_
  refine lv_icmp_ge (tgt := 80) hx hb dX4_depthOf_40 (by decide) (fun c9 => ?_) (fun c9 => ?_)
  rotate_left
  · exact absurd (by decide) c9
  refine lv_iinc (v := 1) (lv' := [(3, .int 1), (5, .int 4), (4, .ref a0), (2, .ref q2), (0, .ref mo), (1, .int 1)]) hx hb dX4_depthOf_80 hl (k := 2) rfl (by decide) (by decide) rfl (fun ls hl => ?_)
  refine lv_goto (tgt := 8) hx hb dX4_depthOf_83 (by decide) ?_
  refine lv_iload_n hx hb dX4_depthOf_8 rfl (lv_at hl 0 rfl) ?_
  refine lv_iload_n hx hb dX4_depthOf_9 rfl (lv_at hl 5 rfl) ?_
  refine lv_icmp_gt (tgt := 86) hx hb dX4_depthOf_10 (by decide) (fun c9 => ?_) (fun c9 => ?_)
  · exact absurd c9 (by decide)
  refine lv_aload_n hx hb dX4_depthOf_13 rfl (lv_at hl 4 rfl) ?_
  refine va_get (D := (dC, dI)) (ci := 9) (v := .ref al) (C := RX4) (T := TX4) (N := 5) hx hb hts hi_X4_depthOf_X4 hown hK hP 0 rfl rfl 1 (by decide) (hts (.fieldLink RX4 10 "DeeprowsModel" "rows" "Ljava/util/ArrayList;") (List.mem_cons_of_mem _ zw_1134)) (fun _ h9 => h9) rfl dX4_depthOf_14 ?_
  refine lv_iload_n hx hb dX4_depthOf_17 rfl (lv_at hl 0 rfl) ?_
  have hPc := hP.sub (ws' := [(al, .inr (4, [mc, .ref ed, .int (nI cc)])), (ed, .inl (cO, 10, .inr (.inr (.inr (.inr ee)))))]) [6, 7] rfl
  have hDc := hD.sub (ws' := [(al, .inr (4, [mc, .ref ed, .int (nI cc)])), (ed, .inl (cO, 10, .inr (.inr (.inr (.inr ee)))))]) [6, 7] (by decide) rfl
  have hFc := va_free (wc := [(al, .inr (4, [mc, .ref ed, .int (nI cc)])), (ed, .inl (cO, 10, .inr (.inr (.inr (.inr ee)))))]) hD hS hA [6, 7] rfl
  have hDv := hDc.self (sz := H23.size)
  have hpre := zpre (xs' := []) (av := [.ref al, .int 1]) hPc hK (hDc.weaken (fun _ _ _ h => h)) hZ hS hFc (fun r hr => by cases hr)
  refine va_callr (va_runV (As := [.int 1]) (rest := []) ⟨hx, hb, hml, hown, hts⟩ (k_get l dC dI cI cB cR cO zk al ed 1 cc 10 a1 ee mc H23.size (by omega) hcc2 (by decide) he1) (cwV 1 hts gX4_depthOf_Jx4a65c_get_915e3 rfl rfl rfl (by decide +kernel) ⟨Nat.le_of_ble_eq_true rfl, Nat.le_of_ble_eq_true rfl⟩) ⟨zblind, (zrecv_4 hK hPc (q0 := 0) rfl), hpre⟩ rfl rfl hl.1 rfl (lv_room (Nat.le_of_ble_eq_true rfl)) dX4_depthOf_18 ⟨Nat.le_of_ble_eq_true rfl, Nat.le_of_ble_eq_true rfl⟩) hS (fun q _ h => hFc q h) hFc (fun u r26 t H25 locs ht hvm hw hB hz1 hk1 hS => ?_)
  obtain ⟨⟨hP1, hK1, hD1, hz2⟩, her26⟩ := hB
  rw [ht] at hP1 hz2
  have hPD9 := va_join (wr := [(mo, .inr (9, [th, .ref al, md, rf, kn])), (na0, .inl (cI, 4, .inl fn0)), (a1, .inr (8, [.int 4, .ref wa1, .ref na1])), (wa1, .inl (cI, 4, .inl fw1)), (na1, .inl (cI, 4, .inl fn1)), (q2, .inl (cI, 2, .inl (upd (fun _ => 0) 0 1))), (a0, .inr (8, [.int 4, .ref wa0, .ref na0])), (wa0, .inl (cI, 4, .inl fw0))]) (w1 := [(al, .inr (4, [mc, .ref ed, .int (nI cc)])), (ed, .inl (cO, 10, .inr (.inr (.inr (.inr ee)))))]) hP hD [6, 7] [0, 1, 2, 3, 4, 5, 8, 9] rfl rfl (by decide) (by decide) hk1 hFc hP1 hD1
  clear hPc hDc hFc hDv hpre hP hD hP1 hK1 hD1
  obtain ⟨hP, hD⟩ := hPD9
  replace hz : s.heap.size + 1 ≤ H25.size := by omega
  clear hz2
  replace hP : va_P (dC, dI) vwCl [(mo, .inr (9, [th, .ref al, md, rf, kn])), (na0, .inl (cI, 4, .inl fn0)), (a1, .inr (8, [.int 4, .ref wa1, .ref na1])), (wa1, .inl (cI, 4, .inl fw1)), (na1, .inl (cI, 4, .inl fn1)), (q2, .inl (cI, 2, .inl (upd (fun _ => 0) 0 1))), (a0, .inr (8, [.int 4, .ref wa0, .ref na0])), (wa0, .inl (cI, 4, .inl fw0)), (al, .inr (4, [mc, .ref ed, .int (nI cc)])), (ed, .inl (cO, 10, .inr (.inr (.inr (.inr ee)))))] H25 := hP
  replace hD : va_D A [(mo, .inr (9, [th, .ref al, md, rf, kn])), (na0, .inl (cI, 4, .inl fn0)), (a1, .inr (8, [.int 4, .ref wa1, .ref na1])), (wa1, .inl (cI, 4, .inl fw1)), (na1, .inl (cI, 4, .inl fn1)), (q2, .inl (cI, 2, .inl (upd (fun _ => 0) 0 1))), (a0, .inr (8, [.int 4, .ref wa0, .ref na0])), (wa0, .inl (cI, 4, .inl fw0)), (al, .inr (4, [mc, .ref ed, .int (nI cc)])), (ed, .inl (cO, 10, .inr (.inr (.inr (.inr ee)))))] := hD
  refine W.widen (k := 1) (n := 2) (by omega) (by omega) ?_
  obtain rfl := her26.symm
  refine va_castE hx hb hown (hts (.classLink RX4 40 "DeeprowsModel$Row") (List.mem_cons_of_mem _ zw_1165)) (zrecv_8 hK hP (q0 := 2) rfl) dX4_depthOf_21 ?_
  refine lv_astore (lv' := [(4, .ref a1), (3, .int 1), (5, .int 4), (2, .ref q2), (0, .ref mo), (1, .int 1)]) hx hb dX4_depthOf_24 hl (by decide) rfl (fun ls hl => ?_)
  refine lv_aload_n hx hb dX4_depthOf_26 rfl (lv_at hl 3 rfl) ?_
  refine lv_iload_n hx hb dX4_depthOf_27 rfl (lv_at hl 1 rfl) ?_
  refine lv_iconst (v := 1) hx hb dX4_depthOf_28 (by decide) ?_
  refine va_iast (D := (dC, dI)) (cl := vwCl) hx hb hK hP hD (zS0 hS) 5 0 rfl rfl (by unfold vp_in; decide) dX4_depthOf_29 (fun H27 locs hP hD hS1 => ?_)
  have hz : s.heap.size + 1 ≤ H27.size := Nat.le_trans hz hS1.1
  have hS := zSS hS hS1
  replace hP : va_P (dC, dI) vwCl [(mo, .inr (9, [th, .ref al, md, rf, kn])), (na0, .inl (cI, 4, .inl fn0)), (a1, .inr (8, [.int 4, .ref wa1, .ref na1])), (wa1, .inl (cI, 4, .inl fw1)), (na1, .inl (cI, 4, .inl fn1)), (q2, .inl (cI, 2, .inl (upd (upd (fun _ => 0) 0 1) 1 1))), (a0, .inr (8, [.int 4, .ref wa0, .ref na0])), (wa0, .inl (cI, 4, .inl fw0)), (al, .inr (4, [mc, .ref ed, .int (nI cc)])), (ed, .inl (cO, 10, .inr (.inr (.inr (.inr ee)))))] H27 := hP
  replace hD : va_D A [(mo, .inr (9, [th, .ref al, md, rf, kn])), (na0, .inl (cI, 4, .inl fn0)), (a1, .inr (8, [.int 4, .ref wa1, .ref na1])), (wa1, .inl (cI, 4, .inl fw1)), (na1, .inl (cI, 4, .inl fn1)), (q2, .inl (cI, 2, .inl (upd (upd (fun _ => 0) 0 1) 1 1))), (a0, .inr (8, [.int 4, .ref wa0, .ref na0])), (wa0, .inl (cI, 4, .inl fw0)), (al, .inr (4, [mc, .ref ed, .int (nI cc)])), (ed, .inl (cO, 10, .inr (.inr (.inr (.inr ee)))))] := hD
  refine lv_iconst (v := 0) hx hb dX4_depthOf_30 (by decide) ?_
  refine lv_istore (lv' := [(5, .int 0), (4, .ref a1), (3, .int 1), (2, .ref q2), (0, .ref mo), (1, .int 1)]) hx hb dX4_depthOf_31 hl (by decide) rfl (fun ls hl => ?_)
  refine lv_iload hx hb dX4_depthOf_33 (lv_at hl 0 rfl) ?_
  refine lv_aload hx hb dX4_depthOf_35 (lv_at hl 1 rfl) ?_
  have hPc := hP.sub (ws' := [(a1, .inr (8, [.int 4, .ref wa1, .ref na1])), (wa1, .inl (cI, 4, .inl fw1))]) [2, 3] rfl
  have hDc := hD.sub (ws' := [(a1, .inr (8, [.int 4, .ref wa1, .ref na1])), (wa1, .inl (cI, 4, .inl fw1))]) [2, 3] (by decide) rfl
  have hFc := va_free (wc := [(a1, .inr (8, [.int 4, .ref wa1, .ref na1])), (wa1, .inl (cI, 4, .inl fw1))]) hD hS hA [2, 3] rfl
  have hDv := hDc.self (sz := H27.size)
  have hpre := zpre (xs' := []) (av := [.ref a1]) hPc hK (hDc.weaken (fun _ _ _ h => h)) hZ hS hFc (fun r hr => by cases hr)
  refine va_calli (va_runV (As := []) (rest := [.int 0]) ⟨hx, hb, hml, hown, hts⟩ (k_rlen l dC dI cI cB cR cO zk a1 wa1 na1 fw1 H27.size ) (cwV 0 hts gX4_depthOf_X3_length rfl rfl rfl (by decide +kernel) ⟨Nat.le_of_ble_eq_true rfl, Nat.le_of_ble_eq_true rfl⟩) ⟨zblind, (zrecv_8 hK hPc (q0 := 0) rfl), hpre⟩ rfl rfl hl.1 rfl (lv_room (Nat.le_of_ble_eq_true rfl)) dX4_depthOf_37 ⟨Nat.le_of_ble_eq_true rfl, Nat.le_of_ble_eq_true rfl⟩) hS (fun q _ h => hFc q h) hFc (fun r29 u t H28 locs ht hvm hw hB hz1 hk1 hS => ?_)
  obtain rfl : 4 = r29 := (show r29 = 4 from hw).symm
  obtain ⟨hP1, hK1, hD1, hz2⟩ := hB
  rw [ht] at hP1 hz2
  have hPD9 := va_join (wr := [(mo, .inr (9, [th, .ref al, md, rf, kn])), (na0, .inl (cI, 4, .inl fn0)), (na1, .inl (cI, 4, .inl fn1)), (q2, .inl (cI, 2, .inl (upd (upd (fun _ => 0) 0 1) 1 1))), (a0, .inr (8, [.int 4, .ref wa0, .ref na0])), (wa0, .inl (cI, 4, .inl fw0)), (al, .inr (4, [mc, .ref ed, .int (nI cc)])), (ed, .inl (cO, 10, .inr (.inr (.inr (.inr ee)))))]) (w1 := [(a1, .inr (8, [.int 4, .ref wa1, .ref na1])), (wa1, .inl (cI, 4, .inl fw1))]) hP hD [2, 3] [0, 1, 4, 5, 6, 7, 8, 9] rfl rfl (by decide) (by decide) hk1 hFc hP1 hD1
  clear hPc hDc hFc hDv hpre hP hD hP1 hK1 hD1
  obtain ⟨hP, hD⟩ := hPD9
  replace hz : s.heap.size + 1 ≤ H28.size := by omega
  clear hz2
  replace hP : va_P (dC, dI) vwCl [(mo, .inr (9, [th, .ref al, md, rf, kn])), (na0, .inl (cI, 4, .inl fn0)), (na1, .inl (cI, 4, .inl fn1)), (q2, .inl (cI, 2, .inl (upd (upd (fun _ => 0) 0 1) 1 1))), (a0, .inr (8, [.int 4, .ref wa0, .ref na0])), (wa0, .inl (cI, 4, .inl fw0)), (al, .inr (4, [mc, .ref ed, .int (nI cc)])), (ed, .inl (cO, 10, .inr (.inr (.inr (.inr ee))))), (a1, .inr (8, [.int 4, .ref wa1, .ref na1])), (wa1, .inl (cI, 4, .inl fw1))] H28 := hP
  replace hD : va_D A [(mo, .inr (9, [th, .ref al, md, rf, kn])), (na0, .inl (cI, 4, .inl fn0)), (na1, .inl (cI, 4, .inl fn1)), (q2, .inl (cI, 2, .inl (upd (upd (fun _ => 0) 0 1) 1 1))), (a0, .inr (8, [.int 4, .ref wa0, .ref na0])), (wa0, .inl (cI, 4, .inl fw0)), (al, .inr (4, [mc, .ref ed, .int (nI cc)])), (ed, .inl (cO, 10, .inr (.inr (.inr (.inr ee))))), (a1, .inr (8, [.int 4, .ref wa1, .ref na1])), (wa1, .inl (cI, 4, .inl fw1))] := hD
  refine W.widen (k := 1) (n := 2) (by omega) (by omega) ?_
  refine lv_icmp_ge (tgt := 80) hx hb dX4_depthOf_40 (by decide) (fun c9 => ?_) (fun c9 => ?_)
  · exact absurd c9 (by decide)
  refine lv_aload hx hb dX4_depthOf_43 (lv_at hl 1 rfl) ?_
  refine lv_iload hx hb dX4_depthOf_45 (lv_at hl 0 rfl) ?_
  have hPc := hP.sub (ws' := [(a1, .inr (8, [.int 4, .ref wa1, .ref na1])), (wa1, .inl (cI, 4, .inl fw1))]) [8, 9] rfl
  have hDc := hD.sub (ws' := [(a1, .inr (8, [.int 4, .ref wa1, .ref na1])), (wa1, .inl (cI, 4, .inl fw1))]) [8, 9] (by decide) rfl
  have hFc := va_free (wc := [(a1, .inr (8, [.int 4, .ref wa1, .ref na1])), (wa1, .inl (cI, 4, .inl fw1))]) hD hS hA [8, 9] rfl
  have hDv := hDc.self (sz := H28.size)
  have hpre := zpre (xs' := []) (av := [.ref a1, .int 0]) hPc hK (hDc.weaken (fun _ _ _ h => h)) hZ hS hFc (fun r hr => by cases hr)
  refine va_calli (va_runV (As := [.int 0]) (rest := []) ⟨hx, hb, hml, hown, hts⟩ (k_mh0_3 l dC dI cI cB cR cO zk a1 wa1 na1 fw1 H28.size (hw1 0 (by decide))) (cwV 1 hts gX4_depthOf_X3_hangs rfl rfl rfl (by decide +kernel) ⟨Nat.le_of_ble_eq_true rfl, Nat.le_of_ble_eq_true rfl⟩) ⟨zblind, (zrecv_8 hK hPc (q0 := 0) rfl), hpre⟩ rfl rfl hl.1 rfl (lv_room (Nat.le_of_ble_eq_true rfl)) dX4_depthOf_47 ⟨Nat.le_of_ble_eq_true rfl, Nat.le_of_ble_eq_true rfl⟩) hS (fun q _ h => hFc q h) hFc (fun r31 u t H30 locs ht hvm hw hB hz1 hk1 hS => ?_)
  obtain rfl : 1 = r31 := (show r31 = 1 from hw).symm
  obtain ⟨hP1, hK1, hD1, hz2⟩ := hB
  rw [ht] at hP1 hz2
  have hPD9 := va_join (wr := [(mo, .inr (9, [th, .ref al, md, rf, kn])), (na0, .inl (cI, 4, .inl fn0)), (na1, .inl (cI, 4, .inl fn1)), (q2, .inl (cI, 2, .inl (upd (upd (fun _ => 0) 0 1) 1 1))), (a0, .inr (8, [.int 4, .ref wa0, .ref na0])), (wa0, .inl (cI, 4, .inl fw0)), (al, .inr (4, [mc, .ref ed, .int (nI cc)])), (ed, .inl (cO, 10, .inr (.inr (.inr (.inr ee)))))]) (w1 := [(a1, .inr (8, [.int 4, .ref wa1, .ref na1])), (wa1, .inl (cI, 4, .inl fw1))]) hP hD [8, 9] [0, 1, 2, 3, 4, 5, 6, 7] rfl rfl (by decide) (by decide) hk1 hFc hP1 hD1
  clear hPc hDc hFc hDv hpre hP hD hP1 hK1 hD1
  obtain ⟨hP, hD⟩ := hPD9
  replace hz : s.heap.size + 1 ≤ H30.size := by omega
  clear hz2
  replace hP : va_P (dC, dI) vwCl [(mo, .inr (9, [th, .ref al, md, rf, kn])), (na0, .inl (cI, 4, .inl fn0)), (na1, .inl (cI, 4, .inl fn1)), (q2, .inl (cI, 2, .inl (upd (upd (fun _ => 0) 0 1) 1 1))), (a0, .inr (8, [.int 4, .ref wa0, .ref na0])), (wa0, .inl (cI, 4, .inl fw0)), (al, .inr (4, [mc, .ref ed, .int (nI cc)])), (ed, .inl (cO, 10, .inr (.inr (.inr (.inr ee))))), (a1, .inr (8, [.int 4, .ref wa1, .ref na1])), (wa1, .inl (cI, 4, .inl fw1))] H30 := hP
  replace hD : va_D A [(mo, .inr (9, [th, .ref al, md, rf, kn])), (na0, .inl (cI, 4, .inl fn0)), (na1, .inl (cI, 4, .inl fn1)), (q2, .inl (cI, 2, .inl (upd (upd (fun _ => 0) 0 1) 1 1))), (a0, .inr (8, [.int 4, .ref wa0, .ref na0])), (wa0, .inl (cI, 4, .inl fw0)), (al, .inr (4, [mc, .ref ed, .int (nI cc)])), (ed, .inl (cO, 10, .inr (.inr (.inr (.inr ee))))), (a1, .inr (8, [.int 4, .ref wa1, .ref na1])), (wa1, .inl (cI, 4, .inl fw1))] := hD
  refine W.widen (k := 1) (n := 2) (by omega) (by omega) ?_
  refine lv_if_eq (tgt := 74) hx hb dX4_depthOf_50 (by decide) (fun c9 => ?_) (fun c9 => ?_)
  · exact absurd c9 (by decide)
  refine lv_aload_n hx hb dX4_depthOf_53 rfl (lv_at hl 3 rfl) ?_
  refine lv_iload_n hx hb dX4_depthOf_54 rfl (lv_at hl 2 rfl) ?_
  refine lv_aload_n hx hb dX4_depthOf_55 rfl (lv_at hl 3 rfl) ?_
  refine lv_iload_n hx hb dX4_depthOf_56 rfl (lv_at hl 2 rfl) ?_
  refine va_iald (D := (dC, dI)) (cl := vwCl) hx hb hK hP 3 0 rfl rfl (by unfold vp_in; decide) dX4_depthOf_57 ?_
  refine lv_topi (fun v32 ev32 => ?_)
  obtain rfl : v32 = 1 := ev32.trans (rfl)
  refine lv_iconst (v := 1) hx hb dX4_depthOf_58 (by decide) ?_
  refine lv_aload_n hx hb dX4_depthOf_59 rfl (lv_at hl 3 rfl) ?_
  refine lv_aload hx hb dX4_depthOf_60 (lv_at hl 1 rfl) ?_
  refine va_get (D := (dC, dI)) (ci := 8) (v := .ref na1) (C := RX3) (T := TX3) (N := 3) hx hb hts hi_X4_depthOf_X3 hown hK hP 8 rfl rfl 2 (by decide) (hts (.fieldLink RX4 48 "DeeprowsModel$Row" "numbers" "[I") (List.mem_cons_of_mem _ zw_1180)) (fun _ h9 => h9) rfl dX4_depthOf_62 ?_
  refine lv_iload hx hb dX4_depthOf_65 (lv_at hl 0 rfl) ?_
  refine va_iald (D := (dC, dI)) (cl := vwCl) hx hb hK hP 2 0 rfl rfl (by unfold vp_in; decide) dX4_depthOf_67 ?_
  refine lv_topi (fun v33 ev33 => ?_)
  obtain rfl : v33 = 0 := ev33.trans (hn1 0 (by decide))
  refine va_iald (D := (dC, dI)) (cl := vwCl) hx hb hK hP 3 0 rfl rfl (by unfold vp_in; decide) dX4_depthOf_68 ?_
  refine lv_topi (fun v34 ev34 => ?_)
  obtain rfl : v34 = 1 := ev34.trans (rfl)
  refine lv_iadd hx hb dX4_depthOf_69 ?_
  refine lv_topi (fun v35 ev35 => ?_)
  obtain rfl : v35 = 2 := ev35.trans (by decide)
  refine va_mmax (x := 1) (y := 2) hx hb (hml.trans hl.1.symm) hown (hts (.methodLink RX4 52 Lib.Math.max.name) (List.mem_cons_of_mem _ zw_1264)) (hts (.static Lib.Math.max.name) (List.mem_cons_of_mem _ zw_271)) (hts (.initialized "java/lang/Math") (List.mem_cons_of_mem _ zw_58)) (hts (.code Lib.Math.max.name Lib.Math.max.code 2 (some .int)) (List.mem_cons_of_mem _ zw_272)) (Nat.le_of_ble_eq_true rfl) (Nat.le_of_ble_eq_true rfl) (Nat.le_of_ble_eq_true rfl) (Nat.le_of_ble_eq_true rfl) dX4_depthOf_70 ?_
  refine lv_topi (fun v36 ev36 => ?_)
  obtain rfl : v36 = 2 := ev36.trans (by decide)
  refine va_iast (D := (dC, dI)) (cl := vwCl) hx hb hK hP hD (zS0 hS) 3 0 rfl rfl (by unfold vp_in; decide) dX4_depthOf_73 (fun H37 locs hP hD hS1 => ?_)
  have hz : s.heap.size + 1 ≤ H37.size := Nat.le_trans hz hS1.1
  have hS := zSS hS hS1
  replace hP : va_P (dC, dI) vwCl [(mo, .inr (9, [th, .ref al, md, rf, kn])), (na0, .inl (cI, 4, .inl fn0)), (na1, .inl (cI, 4, .inl fn1)), (q2, .inl (cI, 2, .inl (upd (upd (upd (fun _ => 0) 0 1) 1 1) 1 2))), (a0, .inr (8, [.int 4, .ref wa0, .ref na0])), (wa0, .inl (cI, 4, .inl fw0)), (al, .inr (4, [mc, .ref ed, .int (nI cc)])), (ed, .inl (cO, 10, .inr (.inr (.inr (.inr ee))))), (a1, .inr (8, [.int 4, .ref wa1, .ref na1])), (wa1, .inl (cI, 4, .inl fw1))] H37 := hP
  replace hD : va_D A [(mo, .inr (9, [th, .ref al, md, rf, kn])), (na0, .inl (cI, 4, .inl fn0)), (na1, .inl (cI, 4, .inl fn1)), (q2, .inl (cI, 2, .inl (upd (upd (upd (fun _ => 0) 0 1) 1 1) 1 2))), (a0, .inr (8, [.int 4, .ref wa0, .ref na0])), (wa0, .inl (cI, 4, .inl fw0)), (al, .inr (4, [mc, .ref ed, .int (nI cc)])), (ed, .inl (cO, 10, .inr (.inr (.inr (.inr ee))))), (a1, .inr (8, [.int 4, .ref wa1, .ref na1])), (wa1, .inl (cI, 4, .inl fw1))] := hD
  refine lv_iinc (v := 1) (lv' := [(5, .int 1), (4, .ref a1), (3, .int 1), (2, .ref q2), (0, .ref mo), (1, .int 1)]) hx hb dX4_depthOf_74 hl (k := 0) rfl (by decide) (by decide) rfl (fun ls hl => ?_)
  refine lv_goto (tgt := 33) hx hb dX4_depthOf_77 (by decide) ?_
  refine lv_iload hx hb dX4_depthOf_33 (lv_at hl 0 rfl) ?_
  refine lv_aload hx hb dX4_depthOf_35 (lv_at hl 1 rfl) ?_
  have hPc := hP.sub (ws' := [(a1, .inr (8, [.int 4, .ref wa1, .ref na1])), (wa1, .inl (cI, 4, .inl fw1))]) [8, 9] rfl
  have hDc := hD.sub (ws' := [(a1, .inr (8, [.int 4, .ref wa1, .ref na1])), (wa1, .inl (cI, 4, .inl fw1))]) [8, 9] (by decide) rfl
  have hFc := va_free (wc := [(a1, .inr (8, [.int 4, .ref wa1, .ref na1])), (wa1, .inl (cI, 4, .inl fw1))]) hD hS hA [8, 9] rfl
  have hDv := hDc.self (sz := H37.size)
  have hpre := zpre (xs' := []) (av := [.ref a1]) hPc hK (hDc.weaken (fun _ _ _ h => h)) hZ hS hFc (fun r hr => by cases hr)
  refine va_calli (va_runV (As := []) (rest := [.int 1]) ⟨hx, hb, hml, hown, hts⟩ (k_rlen l dC dI cI cB cR cO zk a1 wa1 na1 fw1 H37.size ) (cwV 0 hts gX4_depthOf_X3_length rfl rfl rfl (by decide +kernel) ⟨Nat.le_of_ble_eq_true rfl, Nat.le_of_ble_eq_true rfl⟩) ⟨zblind, (zrecv_8 hK hPc (q0 := 0) rfl), hpre⟩ rfl rfl hl.1 rfl (lv_room (Nat.le_of_ble_eq_true rfl)) dX4_depthOf_37 ⟨Nat.le_of_ble_eq_true rfl, Nat.le_of_ble_eq_true rfl⟩) hS (fun q _ h => hFc q h) hFc (fun r39 u t H38 locs ht hvm hw hB hz1 hk1 hS => ?_)
  obtain rfl : 4 = r39 := (show r39 = 4 from hw).symm
  obtain ⟨hP1, hK1, hD1, hz2⟩ := hB
  rw [ht] at hP1 hz2
  have hPD9 := va_join (wr := [(mo, .inr (9, [th, .ref al, md, rf, kn])), (na0, .inl (cI, 4, .inl fn0)), (na1, .inl (cI, 4, .inl fn1)), (q2, .inl (cI, 2, .inl (upd (upd (upd (fun _ => 0) 0 1) 1 1) 1 2))), (a0, .inr (8, [.int 4, .ref wa0, .ref na0])), (wa0, .inl (cI, 4, .inl fw0)), (al, .inr (4, [mc, .ref ed, .int (nI cc)])), (ed, .inl (cO, 10, .inr (.inr (.inr (.inr ee)))))]) (w1 := [(a1, .inr (8, [.int 4, .ref wa1, .ref na1])), (wa1, .inl (cI, 4, .inl fw1))]) hP hD [8, 9] [0, 1, 2, 3, 4, 5, 6, 7] rfl rfl (by decide) (by decide) hk1 hFc hP1 hD1
  clear hPc hDc hFc hDv hpre hP hD hP1 hK1 hD1
  obtain ⟨hP, hD⟩ := hPD9
  replace hz : s.heap.size + 1 ≤ H38.size := by omega
  clear hz2
  replace hP : va_P (dC, dI) vwCl [(mo, .inr (9, [th, .ref al, md, rf, kn])), (na0, .inl (cI, 4, .inl fn0)), (na1, .inl (cI, 4, .inl fn1)), (q2, .inl (cI, 2, .inl (upd (upd (upd (fun _ => 0) 0 1) 1 1) 1 2))), (a0, .inr (8, [.int 4, .ref wa0, .ref na0])), (wa0, .inl (cI, 4, .inl fw0)), (al, .inr (4, [mc, .ref ed, .int (nI cc)])), (ed, .inl (cO, 10, .inr (.inr (.inr (.inr ee))))), (a1, .inr (8, [.int 4, .ref wa1, .ref na1])), (wa1, .inl (cI, 4, .inl fw1))] H38 := hP
  replace hD : va_D A [(mo, .inr (9, [th, .ref al, md, rf, kn])), (na0, .inl (cI, 4, .inl fn0)), (na1, .inl (cI, 4, .inl fn1)), (q2, .inl (cI, 2, .inl (upd (upd (upd (fun _ => 0) 0 1) 1 1) 1 2))), (a0, .inr (8, [.int 4, .ref wa0, .ref na0])), (wa0, .inl (cI, 4, .inl fw0)), (al, .inr (4, [mc, .ref ed, .int (nI cc)])), (ed, .inl (cO, 10, .inr (.inr (.inr (.inr ee))))), (a1, .inr (8, [.int 4, .ref wa1, .ref na1])), (wa1, .inl (cI, 4, .inl fw1))] := hD
  refine W.widen (k := 1) (n := 2) (by omega) (by omega) ?_
  refine lv_icmp_ge (tgt := 80) hx hb dX4_depthOf_40 (by decide) (fun c9 => ?_) (fun c9 => ?_)
  · exact absurd c9 (by decide)
  refine lv_aload hx hb dX4_depthOf_43 (lv_at hl 1 rfl) ?_
  refine lv_iload hx hb dX4_depthOf_45 (lv_at hl 0 rfl) ?_
  have hPc := hP.sub (ws' := [(a1, .inr (8, [.int 4, .ref wa1, .ref na1])), (wa1, .inl (cI, 4, .inl fw1))]) [8, 9] rfl
  have hDc := hD.sub (ws' := [(a1, .inr (8, [.int 4, .ref wa1, .ref na1])), (wa1, .inl (cI, 4, .inl fw1))]) [8, 9] (by decide) rfl
  have hFc := va_free (wc := [(a1, .inr (8, [.int 4, .ref wa1, .ref na1])), (wa1, .inl (cI, 4, .inl fw1))]) hD hS hA [8, 9] rfl
  have hDv := hDc.self (sz := H38.size)
  have hpre := zpre (xs' := []) (av := [.ref a1, .int 1]) hPc hK (hDc.weaken (fun _ _ _ h => h)) hZ hS hFc (fun r hr => by cases hr)
  refine va_calli (va_runV (As := [.int 1]) (rest := []) ⟨hx, hb, hml, hown, hts⟩ (k_mh1_3 l dC dI cI cB cR cO zk a1 wa1 na1 fw1 H38.size (hw1 1 (by decide))) (cwV 1 hts gX4_depthOf_X3_hangs rfl rfl rfl (by decide +kernel) ⟨Nat.le_of_ble_eq_true rfl, Nat.le_of_ble_eq_true rfl⟩) ⟨zblind, (zrecv_8 hK hPc (q0 := 0) rfl), hpre⟩ rfl rfl hl.1 rfl (lv_room (Nat.le_of_ble_eq_true rfl)) dX4_depthOf_47 ⟨Nat.le_of_ble_eq_true rfl, Nat.le_of_ble_eq_true rfl⟩) hS (fun q _ h => hFc q h) hFc (fun r41 u t H40 locs ht hvm hw hB hz1 hk1 hS => ?_)
  obtain rfl : 1 = r41 := (show r41 = 1 from hw).symm
  obtain ⟨hP1, hK1, hD1, hz2⟩ := hB
  rw [ht] at hP1 hz2
  have hPD9 := va_join (wr := [(mo, .inr (9, [th, .ref al, md, rf, kn])), (na0, .inl (cI, 4, .inl fn0)), (na1, .inl (cI, 4, .inl fn1)), (q2, .inl (cI, 2, .inl (upd (upd (upd (fun _ => 0) 0 1) 1 1) 1 2))), (a0, .inr (8, [.int 4, .ref wa0, .ref na0])), (wa0, .inl (cI, 4, .inl fw0)), (al, .inr (4, [mc, .ref ed, .int (nI cc)])), (ed, .inl (cO, 10, .inr (.inr (.inr (.inr ee)))))]) (w1 := [(a1, .inr (8, [.int 4, .ref wa1, .ref na1])), (wa1, .inl (cI, 4, .inl fw1))]) hP hD [8, 9] [0, 1, 2, 3, 4, 5, 6, 7] rfl rfl (by decide) (by decide) hk1 hFc hP1 hD1
  clear hPc hDc hFc hDv hpre hP hD hP1 hK1 hD1
  obtain ⟨hP, hD⟩ := hPD9
  replace hz : s.heap.size + 1 ≤ H40.size := by omega
  clear hz2
  replace hP : va_P (dC, dI) vwCl [(mo, .inr (9, [th, .ref al, md, rf, kn])), (na0, .inl (cI, 4, .inl fn0)), (na1, .inl (cI, 4, .inl fn1)), (q2, .inl (cI, 2, .inl (upd (upd (upd (fun _ => 0) 0 1) 1 1) 1 2))), (a0, .inr (8, [.int 4, .ref wa0, .ref na0])), (wa0, .inl (cI, 4, .inl fw0)), (al, .inr (4, [mc, .ref ed, .int (nI cc)])), (ed, .inl (cO, 10, .inr (.inr (.inr (.inr ee))))), (a1, .inr (8, [.int 4, .ref wa1, .ref na1])), (wa1, .inl (cI, 4, .inl fw1))] H40 := hP
  replace hD : va_D A [(mo, .inr (9, [th, .ref al, md, rf, kn])), (na0, .inl (cI, 4, .inl fn0)), (na1, .inl (cI, 4, .inl fn1)), (q2, .inl (cI, 2, .inl (upd (upd (upd (fun _ => 0) 0 1) 1 1) 1 2))), (a0, .inr (8, [.int 4, .ref wa0, .ref na0])), (wa0, .inl (cI, 4, .inl fw0)), (al, .inr (4, [mc, .ref ed, .int (nI cc)])), (ed, .inl (cO, 10, .inr (.inr (.inr (.inr ee))))), (a1, .inr (8, [.int 4, .ref wa1, .ref na1])), (wa1, .inl (cI, 4, .inl fw1))] := hD
  refine W.widen (k := 1) (n := 2) (by omega) (by omega) ?_
  refine lv_if_eq (tgt := 74) hx hb dX4_depthOf_50 (by decide) (fun c9 => ?_) (fun c9 => ?_)
  · exact absurd c9 (by decide)
  refine lv_aload_n hx hb dX4_depthOf_53 rfl (lv_at hl 3 rfl) ?_
  refine lv_iload_n hx hb dX4_depthOf_54 rfl (lv_at hl 2 rfl) ?_
  refine lv_aload_n hx hb dX4_depthOf_55 rfl (lv_at hl 3 rfl) ?_
  refine lv_iload_n hx hb dX4_depthOf_56 rfl (lv_at hl 2 rfl) ?_
  refine va_iald (D := (dC, dI)) (cl := vwCl) hx hb hK hP 3 0 rfl rfl (by unfold vp_in; decide) dX4_depthOf_57 ?_
  refine lv_topi (fun v42 ev42 => ?_)
  obtain rfl : v42 = 2 := ev42.trans (rfl)
  refine lv_iconst (v := 1) hx hb dX4_depthOf_58 (by decide) ?_
  refine lv_aload_n hx hb dX4_depthOf_59 rfl (lv_at hl 3 rfl) ?_
  refine lv_aload hx hb dX4_depthOf_60 (lv_at hl 1 rfl) ?_
  refine va_get (D := (dC, dI)) (ci := 8) (v := .ref na1) (C := RX3) (T := TX3) (N := 3) hx hb hts hi_X4_depthOf_X3 hown hK hP 8 rfl rfl 2 (by decide) (hts (.fieldLink RX4 48 "DeeprowsModel$Row" "numbers" "[I") (List.mem_cons_of_mem _ zw_1180)) (fun _ h9 => h9) rfl dX4_depthOf_62 ?_
  refine lv_iload hx hb dX4_depthOf_65 (lv_at hl 0 rfl) ?_
  refine va_iald (D := (dC, dI)) (cl := vwCl) hx hb hK hP 2 0 rfl rfl (by unfold vp_in; decide) dX4_depthOf_67 ?_
  refine lv_topi (fun v43 ev43 => ?_)
  obtain rfl : v43 = 0 := ev43.trans (hn1 1 (by decide))
  refine va_iald (D := (dC, dI)) (cl := vwCl) hx hb hK hP 3 0 rfl rfl (by unfold vp_in; decide) dX4_depthOf_68 ?_
  refine lv_topi (fun v44 ev44 => ?_)
  obtain rfl : v44 = 1 := ev44.trans (rfl)
  refine lv_iadd hx hb dX4_depthOf_69 ?_
  refine lv_topi (fun v45 ev45 => ?_)
  obtain rfl : v45 = 2 := ev45.trans (by decide)
  refine va_mmax (x := 2) (y := 2) hx hb (hml.trans hl.1.symm) hown (hts (.methodLink RX4 52 Lib.Math.max.name) (List.mem_cons_of_mem _ zw_1264)) (hts (.static Lib.Math.max.name) (List.mem_cons_of_mem _ zw_271)) (hts (.initialized "java/lang/Math") (List.mem_cons_of_mem _ zw_58)) (hts (.code Lib.Math.max.name Lib.Math.max.code 2 (some .int)) (List.mem_cons_of_mem _ zw_272)) (Nat.le_of_ble_eq_true rfl) (Nat.le_of_ble_eq_true rfl) (Nat.le_of_ble_eq_true rfl) (Nat.le_of_ble_eq_true rfl) dX4_depthOf_70 ?_
  refine lv_topi (fun v46 ev46 => ?_)
  obtain rfl : v46 = 2 := ev46.trans (by decide)
  refine va_iast (D := (dC, dI)) (cl := vwCl) hx hb hK hP hD (zS0 hS) 3 0 rfl rfl (by unfold vp_in; decide) dX4_depthOf_73 (fun H47 locs hP hD hS1 => ?_)
  have hz : s.heap.size + 1 ≤ H47.size := Nat.le_trans hz hS1.1
  have hS := zSS hS hS1
  replace hP : va_P (dC, dI) vwCl [(mo, .inr (9, [th, .ref al, md, rf, kn])), (na0, .inl (cI, 4, .inl fn0)), (na1, .inl (cI, 4, .inl fn1)), (q2, .inl (cI, 2, .inl (upd (upd (upd (upd (fun _ => 0) 0 1) 1 1) 1 2) 1 2))), (a0, .inr (8, [.int 4, .ref wa0, .ref na0])), (wa0, .inl (cI, 4, .inl fw0)), (al, .inr (4, [mc, .ref ed, .int (nI cc)])), (ed, .inl (cO, 10, .inr (.inr (.inr (.inr ee))))), (a1, .inr (8, [.int 4, .ref wa1, .ref na1])), (wa1, .inl (cI, 4, .inl fw1))] H47 := hP
  replace hD : va_D A [(mo, .inr (9, [th, .ref al, md, rf, kn])), (na0, .inl (cI, 4, .inl fn0)), (na1, .inl (cI, 4, .inl fn1)), (q2, .inl (cI, 2, .inl (upd (upd (upd (upd (fun _ => 0) 0 1) 1 1) 1 2) 1 2))), (a0, .inr (8, [.int 4, .ref wa0, .ref na0])), (wa0, .inl (cI, 4, .inl fw0)), (al, .inr (4, [mc, .ref ed, .int (nI cc)])), (ed, .inl (cO, 10, .inr (.inr (.inr (.inr ee))))), (a1, .inr (8, [.int 4, .ref wa1, .ref na1])), (wa1, .inl (cI, 4, .inl fw1))] := hD
  refine lv_iinc (v := 2) (lv' := [(5, .int 2), (4, .ref a1), (3, .int 1), (2, .ref q2), (0, .ref mo), (1, .int 1)]) hx hb dX4_depthOf_74 hl (k := 0) rfl (by decide) (by decide) rfl (fun ls hl => ?_)
  refine lv_goto (tgt := 33) hx hb dX4_depthOf_77 (by decide) ?_
  refine lv_iload hx hb dX4_depthOf_33 (lv_at hl 0 rfl) ?_
  refine lv_aload hx hb dX4_depthOf_35 (lv_at hl 1 rfl) ?_
  have hPc := hP.sub (ws' := [(a1, .inr (8, [.int 4, .ref wa1, .ref na1])), (wa1, .inl (cI, 4, .inl fw1))]) [8, 9] rfl
  have hDc := hD.sub (ws' := [(a1, .inr (8, [.int 4, .ref wa1, .ref na1])), (wa1, .inl (cI, 4, .inl fw1))]) [8, 9] (by decide) rfl
  have hFc := va_free (wc := [(a1, .inr (8, [.int 4, .ref wa1, .ref na1])), (wa1, .inl (cI, 4, .inl fw1))]) hD hS hA [8, 9] rfl
  have hDv := hDc.self (sz := H47.size)
  have hpre := zpre (xs' := []) (av := [.ref a1]) hPc hK (hDc.weaken (fun _ _ _ h => h)) hZ hS hFc (fun r hr => by cases hr)
  refine va_calli (va_runV (As := []) (rest := [.int 2]) ⟨hx, hb, hml, hown, hts⟩ (k_rlen l dC dI cI cB cR cO zk a1 wa1 na1 fw1 H47.size ) (cwV 0 hts gX4_depthOf_X3_length rfl rfl rfl (by decide +kernel) ⟨Nat.le_of_ble_eq_true rfl, Nat.le_of_ble_eq_true rfl⟩) ⟨zblind, (zrecv_8 hK hPc (q0 := 0) rfl), hpre⟩ rfl rfl hl.1 rfl (lv_room (Nat.le_of_ble_eq_true rfl)) dX4_depthOf_37 ⟨Nat.le_of_ble_eq_true rfl, Nat.le_of_ble_eq_true rfl⟩) hS (fun q _ h => hFc q h) hFc (fun r49 u t H48 locs ht hvm hw hB hz1 hk1 hS => ?_)
  obtain rfl : 4 = r49 := (show r49 = 4 from hw).symm
  obtain ⟨hP1, hK1, hD1, hz2⟩ := hB
  rw [ht] at hP1 hz2
  have hPD9 := va_join (wr := [(mo, .inr (9, [th, .ref al, md, rf, kn])), (na0, .inl (cI, 4, .inl fn0)), (na1, .inl (cI, 4, .inl fn1)), (q2, .inl (cI, 2, .inl (upd (upd (upd (upd (fun _ => 0) 0 1) 1 1) 1 2) 1 2))), (a0, .inr (8, [.int 4, .ref wa0, .ref na0])), (wa0, .inl (cI, 4, .inl fw0)), (al, .inr (4, [mc, .ref ed, .int (nI cc)])), (ed, .inl (cO, 10, .inr (.inr (.inr (.inr ee)))))]) (w1 := [(a1, .inr (8, [.int 4, .ref wa1, .ref na1])), (wa1, .inl (cI, 4, .inl fw1))]) hP hD [8, 9] [0, 1, 2, 3, 4, 5, 6, 7] rfl rfl (by decide) (by decide) hk1 hFc hP1 hD1
  clear hPc hDc hFc hDv hpre hP hD hP1 hK1 hD1
  obtain ⟨hP, hD⟩ := hPD9
  replace hz : s.heap.size + 1 ≤ H48.size := by omega
  clear hz2
  replace hP : va_P (dC, dI) vwCl [(mo, .inr (9, [th, .ref al, md, rf, kn])), (na0, .inl (cI, 4, .inl fn0)), (na1, .inl (cI, 4, .inl fn1)), (q2, .inl (cI, 2, .inl (upd (upd (upd (upd (fun _ => 0) 0 1) 1 1) 1 2) 1 2))), (a0, .inr (8, [.int 4, .ref wa0, .ref na0])), (wa0, .inl (cI, 4, .inl fw0)), (al, .inr (4, [mc, .ref ed, .int (nI cc)])), (ed, .inl (cO, 10, .inr (.inr (.inr (.inr ee))))), (a1, .inr (8, [.int 4, .ref wa1, .ref na1])), (wa1, .inl (cI, 4, .inl fw1))] H48 := hP
  replace hD : va_D A [(mo, .inr (9, [th, .ref al, md, rf, kn])), (na0, .inl (cI, 4, .inl fn0)), (na1, .inl (cI, 4, .inl fn1)), (q2, .inl (cI, 2, .inl (upd (upd (upd (upd (fun _ => 0) 0 1) 1 1) 1 2) 1 2))), (a0, .inr (8, [.int 4, .ref wa0, .ref na0])), (wa0, .inl (cI, 4, .inl fw0)), (al, .inr (4, [mc, .ref ed, .int (nI cc)])), (ed, .inl (cO, 10, .inr (.inr (.inr (.inr ee))))), (a1, .inr (8, [.int 4, .ref wa1, .ref na1])), (wa1, .inl (cI, 4, .inl fw1))] := hD
  refine W.widen (k := 1) (n := 2) (by omega) (by omega) ?_
  refine lv_icmp_ge (tgt := 80) hx hb dX4_depthOf_40 (by decide) (fun c9 => ?_) (fun c9 => ?_)
  · exact absurd c9 (by decide)
  refine lv_aload hx hb dX4_depthOf_43 (lv_at hl 1 rfl) ?_
  refine lv_iload hx hb dX4_depthOf_45 (lv_at hl 0 rfl) ?_
  have hPc := hP.sub (ws' := [(a1, .inr (8, [.int 4, .ref wa1, .ref na1])), (wa1, .inl (cI, 4, .inl fw1))]) [8, 9] rfl
  have hDc := hD.sub (ws' := [(a1, .inr (8, [.int 4, .ref wa1, .ref na1])), (wa1, .inl (cI, 4, .inl fw1))]) [8, 9] (by decide) rfl
  have hFc := va_free (wc := [(a1, .inr (8, [.int 4, .ref wa1, .ref na1])), (wa1, .inl (cI, 4, .inl fw1))]) hD hS hA [8, 9] rfl
  have hDv := hDc.self (sz := H48.size)
  have hpre := zpre (xs' := []) (av := [.ref a1, .int 2]) hPc hK (hDc.weaken (fun _ _ _ h => h)) hZ hS hFc (fun r hr => by cases hr)
  refine va_calli (va_runV (As := [.int 2]) (rest := []) ⟨hx, hb, hml, hown, hts⟩ (k_mh2_3 l dC dI cI cB cR cO zk a1 wa1 na1 fw1 H48.size (hw1 2 (by decide))) (cwV 1 hts gX4_depthOf_X3_hangs rfl rfl rfl (by decide +kernel) ⟨Nat.le_of_ble_eq_true rfl, Nat.le_of_ble_eq_true rfl⟩) ⟨zblind, (zrecv_8 hK hPc (q0 := 0) rfl), hpre⟩ rfl rfl hl.1 rfl (lv_room (Nat.le_of_ble_eq_true rfl)) dX4_depthOf_47 ⟨Nat.le_of_ble_eq_true rfl, Nat.le_of_ble_eq_true rfl⟩) hS (fun q _ h => hFc q h) hFc (fun r51 u t H50 locs ht hvm hw hB hz1 hk1 hS => ?_)
  obtain rfl : 1 = r51 := (show r51 = 1 from hw).symm
  obtain ⟨hP1, hK1, hD1, hz2⟩ := hB
  rw [ht] at hP1 hz2
  have hPD9 := va_join (wr := [(mo, .inr (9, [th, .ref al, md, rf, kn])), (na0, .inl (cI, 4, .inl fn0)), (na1, .inl (cI, 4, .inl fn1)), (q2, .inl (cI, 2, .inl (upd (upd (upd (upd (fun _ => 0) 0 1) 1 1) 1 2) 1 2))), (a0, .inr (8, [.int 4, .ref wa0, .ref na0])), (wa0, .inl (cI, 4, .inl fw0)), (al, .inr (4, [mc, .ref ed, .int (nI cc)])), (ed, .inl (cO, 10, .inr (.inr (.inr (.inr ee)))))]) (w1 := [(a1, .inr (8, [.int 4, .ref wa1, .ref na1])), (wa1, .inl (cI, 4, .inl fw1))]) hP hD [8, 9] [0, 1, 2, 3, 4, 5, 6, 7] rfl rfl (by decide) (by decide) hk1 hFc hP1 hD1
  clear hPc hDc hFc hDv hpre hP hD hP1 hK1 hD1
  obtain ⟨hP, hD⟩ := hPD9
  replace hz : s.heap.size + 1 ≤ H50.size := by omega
  clear hz2
  replace hP : va_P (dC, dI) vwCl [(mo, .inr (9, [th, .ref al, md, rf, kn])), (na0, .inl (cI, 4, .inl fn0)), (na1, .inl (cI, 4, .inl fn1)), (q2, .inl (cI, 2, .inl (upd (upd (upd (upd (fun _ => 0) 0 1) 1 1) 1 2) 1 2))), (a0, .inr (8, [.int 4, .ref wa0, .ref na0])), (wa0, .inl (cI, 4, .inl fw0)), (al, .inr (4, [mc, .ref ed, .int (nI cc)])), (ed, .inl (cO, 10, .inr (.inr (.inr (.inr ee))))), (a1, .inr (8, [.int 4, .ref wa1, .ref na1])), (wa1, .inl (cI, 4, .inl fw1))] H50 := hP
  replace hD : va_D A [(mo, .inr (9, [th, .ref al, md, rf, kn])), (na0, .inl (cI, 4, .inl fn0)), (na1, .inl (cI, 4, .inl fn1)), (q2, .inl (cI, 2, .inl (upd (upd (upd (upd (fun _ => 0) 0 1) 1 1) 1 2) 1 2))), (a0, .inr (8, [.int 4, .ref wa0, .ref na0])), (wa0, .inl (cI, 4, .inl fw0)), (al, .inr (4, [mc, .ref ed, .int (nI cc)])), (ed, .inl (cO, 10, .inr (.inr (.inr (.inr ee))))), (a1, .inr (8, [.int 4, .ref wa1, .ref na1])), (wa1, .inl (cI, 4, .inl fw1))] := hD
  refine W.widen (k := 1) (n := 2) (by omega) (by omega) ?_
  refine lv_if_eq (tgt := 74) hx hb dX4_depthOf_50 (by decide) (fun c9 => ?_) (fun c9 => ?_)
  · exact absurd c9 (by decide)
  refine lv_aload_n hx hb dX4_depthOf_53 rfl (lv_at hl 3 rfl) ?_
  refine lv_iload_n hx hb dX4_depthOf_54 rfl (lv_at hl 2 rfl) ?_
  refine lv_aload_n hx hb dX4_depthOf_55 rfl (lv_at hl 3 rfl) ?_
  refine lv_iload_n hx hb dX4_depthOf_56 rfl (lv_at hl 2 rfl) ?_
  refine va_iald (D := (dC, dI)) (cl := vwCl) hx hb hK hP 3 0 rfl rfl (by unfold vp_in; decide) dX4_depthOf_57 ?_
  refine lv_topi (fun v52 ev52 => ?_)
  obtain rfl : v52 = 2 := ev52.trans (rfl)
  refine lv_iconst (v := 1) hx hb dX4_depthOf_58 (by decide) ?_
  refine lv_aload_n hx hb dX4_depthOf_59 rfl (lv_at hl 3 rfl) ?_
  refine lv_aload hx hb dX4_depthOf_60 (lv_at hl 1 rfl) ?_
  refine va_get (D := (dC, dI)) (ci := 8) (v := .ref na1) (C := RX3) (T := TX3) (N := 3) hx hb hts hi_X4_depthOf_X3 hown hK hP 8 rfl rfl 2 (by decide) (hts (.fieldLink RX4 48 "DeeprowsModel$Row" "numbers" "[I") (List.mem_cons_of_mem _ zw_1180)) (fun _ h9 => h9) rfl dX4_depthOf_62 ?_
  refine lv_iload hx hb dX4_depthOf_65 (lv_at hl 0 rfl) ?_
  refine va_iald (D := (dC, dI)) (cl := vwCl) hx hb hK hP 2 0 rfl rfl (by unfold vp_in; decide) dX4_depthOf_67 ?_
  refine lv_topi (fun v53 ev53 => ?_)
  obtain rfl : v53 = 0 := ev53.trans (hn1 2 (by decide))
  refine va_iald (D := (dC, dI)) (cl := vwCl) hx hb hK hP 3 0 rfl rfl (by unfold vp_in; decide) dX4_depthOf_68 ?_
  refine lv_topi (fun v54 ev54 => ?_)
  obtain rfl : v54 = 1 := ev54.trans (rfl)
  refine lv_iadd hx hb dX4_depthOf_69 ?_
  refine lv_topi (fun v55 ev55 => ?_)
  obtain rfl : v55 = 2 := ev55.trans (by decide)
  refine va_mmax (x := 2) (y := 2) hx hb (hml.trans hl.1.symm) hown (hts (.methodLink RX4 52 Lib.Math.max.name) (List.mem_cons_of_mem _ zw_1264)) (hts (.static Lib.Math.max.name) (List.mem_cons_of_mem _ zw_271)) (hts (.initialized "java/lang/Math") (List.mem_cons_of_mem _ zw_58)) (hts (.code Lib.Math.max.name Lib.Math.max.code 2 (some .int)) (List.mem_cons_of_mem _ zw_272)) (Nat.le_of_ble_eq_true rfl) (Nat.le_of_ble_eq_true rfl) (Nat.le_of_ble_eq_true rfl) (Nat.le_of_ble_eq_true rfl) dX4_depthOf_70 ?_
  refine lv_topi (fun v56 ev56 => ?_)
  obtain rfl : v56 = 2 := ev56.trans (by decide)
  refine va_iast (D := (dC, dI)) (cl := vwCl) hx hb hK hP hD (zS0 hS) 3 0 rfl rfl (by unfold vp_in; decide) dX4_depthOf_73 (fun H57 locs hP hD hS1 => ?_)
  have hz : s.heap.size + 1 ≤ H57.size := Nat.le_trans hz hS1.1
  have hS := zSS hS hS1
  replace hP : va_P (dC, dI) vwCl [(mo, .inr (9, [th, .ref al, md, rf, kn])), (na0, .inl (cI, 4, .inl fn0)), (na1, .inl (cI, 4, .inl fn1)), (q2, .inl (cI, 2, .inl (upd (upd (upd (upd (upd (fun _ => 0) 0 1) 1 1) 1 2) 1 2) 1 2))), (a0, .inr (8, [.int 4, .ref wa0, .ref na0])), (wa0, .inl (cI, 4, .inl fw0)), (al, .inr (4, [mc, .ref ed, .int (nI cc)])), (ed, .inl (cO, 10, .inr (.inr (.inr (.inr ee))))), (a1, .inr (8, [.int 4, .ref wa1, .ref na1])), (wa1, .inl (cI, 4, .inl fw1))] H57 := hP
  replace hD : va_D A [(mo, .inr (9, [th, .ref al, md, rf, kn])), (na0, .inl (cI, 4, .inl fn0)), (na1, .inl (cI, 4, .inl fn1)), (q2, .inl (cI, 2, .inl (upd (upd (upd (upd (upd (fun _ => 0) 0 1) 1 1) 1 2) 1 2) 1 2))), (a0, .inr (8, [.int 4, .ref wa0, .ref na0])), (wa0, .inl (cI, 4, .inl fw0)), (al, .inr (4, [mc, .ref ed, .int (nI cc)])), (ed, .inl (cO, 10, .inr (.inr (.inr (.inr ee))))), (a1, .inr (8, [.int 4, .ref wa1, .ref na1])), (wa1, .inl (cI, 4, .inl fw1))] := hD
  refine lv_iinc (v := 3) (lv' := [(5, .int 3), (4, .ref a1), (3, .int 1), (2, .ref q2), (0, .ref mo), (1, .int 1)]) hx hb dX4_depthOf_74 hl (k := 0) rfl (by decide) (by decide) rfl (fun ls hl => ?_)
  refine lv_goto (tgt := 33) hx hb dX4_depthOf_77 (by decide) ?_
  refine lv_iload hx hb dX4_depthOf_33 (lv_at hl 0 rfl) ?_
  refine lv_aload hx hb dX4_depthOf_35 (lv_at hl 1 rfl) ?_
  have hPc := hP.sub (ws' := [(a1, .inr (8, [.int 4, .ref wa1, .ref na1])), (wa1, .inl (cI, 4, .inl fw1))]) [8, 9] rfl
  have hDc := hD.sub (ws' := [(a1, .inr (8, [.int 4, .ref wa1, .ref na1])), (wa1, .inl (cI, 4, .inl fw1))]) [8, 9] (by decide) rfl
  have hFc := va_free (wc := [(a1, .inr (8, [.int 4, .ref wa1, .ref na1])), (wa1, .inl (cI, 4, .inl fw1))]) hD hS hA [8, 9] rfl
  have hDv := hDc.self (sz := H57.size)
  have hpre := zpre (xs' := []) (av := [.ref a1]) hPc hK (hDc.weaken (fun _ _ _ h => h)) hZ hS hFc (fun r hr => by cases hr)
  refine va_calli (va_runV (As := []) (rest := [.int 3]) ⟨hx, hb, hml, hown, hts⟩ (k_rlen l dC dI cI cB cR cO zk a1 wa1 na1 fw1 H57.size ) (cwV 0 hts gX4_depthOf_X3_length rfl rfl rfl (by decide +kernel) ⟨Nat.le_of_ble_eq_true rfl, Nat.le_of_ble_eq_true rfl⟩) ⟨zblind, (zrecv_8 hK hPc (q0 := 0) rfl), hpre⟩ rfl rfl hl.1 rfl (lv_room (Nat.le_of_ble_eq_true rfl)) dX4_depthOf_37 ⟨Nat.le_of_ble_eq_true rfl, Nat.le_of_ble_eq_true rfl⟩) hS (fun q _ h => hFc q h) hFc (fun r59 u t H58 locs ht hvm hw hB hz1 hk1 hS => ?_)
  obtain rfl : 4 = r59 := (show r59 = 4 from hw).symm
  obtain ⟨hP1, hK1, hD1, hz2⟩ := hB
  rw [ht] at hP1 hz2
  have hPD9 := va_join (wr := [(mo, .inr (9, [th, .ref al, md, rf, kn])), (na0, .inl (cI, 4, .inl fn0)), (na1, .inl (cI, 4, .inl fn1)), (q2, .inl (cI, 2, .inl (upd (upd (upd (upd (upd (fun _ => 0) 0 1) 1 1) 1 2) 1 2) 1 2))), (a0, .inr (8, [.int 4, .ref wa0, .ref na0])), (wa0, .inl (cI, 4, .inl fw0)), (al, .inr (4, [mc, .ref ed, .int (nI cc)])), (ed, .inl (cO, 10, .inr (.inr (.inr (.inr ee)))))]) (w1 := [(a1, .inr (8, [.int 4, .ref wa1, .ref na1])), (wa1, .inl (cI, 4, .inl fw1))]) hP hD [8, 9] [0, 1, 2, 3, 4, 5, 6, 7] rfl rfl (by decide) (by decide) hk1 hFc hP1 hD1
  clear hPc hDc hFc hDv hpre hP hD hP1 hK1 hD1
  obtain ⟨hP, hD⟩ := hPD9
  replace hz : s.heap.size + 1 ≤ H58.size := by omega
  clear hz2
  replace hP : va_P (dC, dI) vwCl [(mo, .inr (9, [th, .ref al, md, rf, kn])), (na0, .inl (cI, 4, .inl fn0)), (na1, .inl (cI, 4, .inl fn1)), (q2, .inl (cI, 2, .inl (upd (upd (upd (upd (upd (fun _ => 0) 0 1) 1 1) 1 2) 1 2) 1 2))), (a0, .inr (8, [.int 4, .ref wa0, .ref na0])), (wa0, .inl (cI, 4, .inl fw0)), (al, .inr (4, [mc, .ref ed, .int (nI cc)])), (ed, .inl (cO, 10, .inr (.inr (.inr (.inr ee))))), (a1, .inr (8, [.int 4, .ref wa1, .ref na1])), (wa1, .inl (cI, 4, .inl fw1))] H58 := hP
  replace hD : va_D A [(mo, .inr (9, [th, .ref al, md, rf, kn])), (na0, .inl (cI, 4, .inl fn0)), (na1, .inl (cI, 4, .inl fn1)), (q2, .inl (cI, 2, .inl (upd (upd (upd (upd (upd (fun _ => 0) 0 1) 1 1) 1 2) 1 2) 1 2))), (a0, .inr (8, [.int 4, .ref wa0, .ref na0])), (wa0, .inl (cI, 4, .inl fw0)), (al, .inr (4, [mc, .ref ed, .int (nI cc)])), (ed, .inl (cO, 10, .inr (.inr (.inr (.inr ee))))), (a1, .inr (8, [.int 4, .ref wa1, .ref na1])), (wa1, .inl (cI, 4, .inl fw1))] := hD
  refine W.widen (k := 1) (n := 2) (by omega) (by omega) ?_
  refine lv_icmp_ge (tgt := 80) hx hb dX4_depthOf_40 (by decide) (fun c9 => ?_) (fun c9 => ?_)
  · exact absurd c9 (by decide)
  refine lv_aload hx hb dX4_depthOf_43 (lv_at hl 1 rfl) ?_
  refine lv_iload hx hb dX4_depthOf_45 (lv_at hl 0 rfl) ?_
  have hPc := hP.sub (ws' := [(a1, .inr (8, [.int 4, .ref wa1, .ref na1])), (wa1, .inl (cI, 4, .inl fw1))]) [8, 9] rfl
  have hDc := hD.sub (ws' := [(a1, .inr (8, [.int 4, .ref wa1, .ref na1])), (wa1, .inl (cI, 4, .inl fw1))]) [8, 9] (by decide) rfl
  have hFc := va_free (wc := [(a1, .inr (8, [.int 4, .ref wa1, .ref na1])), (wa1, .inl (cI, 4, .inl fw1))]) hD hS hA [8, 9] rfl
  have hDv := hDc.self (sz := H58.size)
  have hpre := zpre (xs' := []) (av := [.ref a1, .int 3]) hPc hK (hDc.weaken (fun _ _ _ h => h)) hZ hS hFc (fun r hr => by cases hr)
  refine va_calli (va_runV (As := [.int 3]) (rest := []) ⟨hx, hb, hml, hown, hts⟩ (k_mh3_3 l dC dI cI cB cR cO zk a1 wa1 na1 fw1 H58.size (hw1 3 (by decide))) (cwV 1 hts gX4_depthOf_X3_hangs rfl rfl rfl (by decide +kernel) ⟨Nat.le_of_ble_eq_true rfl, Nat.le_of_ble_eq_true rfl⟩) ⟨zblind, (zrecv_8 hK hPc (q0 := 0) rfl), hpre⟩ rfl rfl hl.1 rfl (lv_room (Nat.le_of_ble_eq_true rfl)) dX4_depthOf_47 ⟨Nat.le_of_ble_eq_true rfl, Nat.le_of_ble_eq_true rfl⟩) hS (fun q _ h => hFc q h) hFc (fun r61 u t H60 locs ht hvm hw hB hz1 hk1 hS => ?_)
  obtain rfl : 1 = r61 := (show r61 = 1 from hw).symm
  obtain ⟨hP1, hK1, hD1, hz2⟩ := hB
  rw [ht] at hP1 hz2
  have hPD9 := va_join (wr := [(mo, .inr (9, [th, .ref al, md, rf, kn])), (na0, .inl (cI, 4, .inl fn0)), (na1, .inl (cI, 4, .inl fn1)), (q2, .inl (cI, 2, .inl (upd (upd (upd (upd (upd (fun _ => 0) 0 1) 1 1) 1 2) 1 2) 1 2))), (a0, .inr (8, [.int 4, .ref wa0, .ref na0])), (wa0, .inl (cI, 4, .inl fw0)), (al, .inr (4, [mc, .ref ed, .int (nI cc)])), (ed, .inl (cO, 10, .inr (.inr (.inr (.inr ee)))))]) (w1 := [(a1, .inr (8, [.int 4, .ref wa1, .ref na1])), (wa1, .inl (cI, 4, .inl fw1))]) hP hD [8, 9] [0, 1, 2, 3, 4, 5, 6, 7] rfl rfl (by decide) (by decide) hk1 hFc hP1 hD1
  clear hPc hDc hFc hDv hpre hP hD hP1 hK1 hD1
  obtain ⟨hP, hD⟩ := hPD9
  replace hz : s.heap.size + 1 ≤ H60.size := by omega
  clear hz2
  replace hP : va_P (dC, dI) vwCl [(mo, .inr (9, [th, .ref al, md, rf, kn])), (na0, .inl (cI, 4, .inl fn0)), (na1, .inl (cI, 4, .inl fn1)), (q2, .inl (cI, 2, .inl (upd (upd (upd (upd (upd (fun _ => 0) 0 1) 1 1) 1 2) 1 2) 1 2))), (a0, .inr (8, [.int 4, .ref wa0, .ref na0])), (wa0, .inl (cI, 4, .inl fw0)), (al, .inr (4, [mc, .ref ed, .int (nI cc)])), (ed, .inl (cO, 10, .inr (.inr (.inr (.inr ee))))), (a1, .inr (8, [.int 4, .ref wa1, .ref na1])), (wa1, .inl (cI, 4, .inl fw1))] H60 := hP
  replace hD : va_D A [(mo, .inr (9, [th, .ref al, md, rf, kn])), (na0, .inl (cI, 4, .inl fn0)), (na1, .inl (cI, 4, .inl fn1)), (q2, .inl (cI, 2, .inl (upd (upd (upd (upd (upd (fun _ => 0) 0 1) 1 1) 1 2) 1 2) 1 2))), (a0, .inr (8, [.int 4, .ref wa0, .ref na0])), (wa0, .inl (cI, 4, .inl fw0)), (al, .inr (4, [mc, .ref ed, .int (nI cc)])), (ed, .inl (cO, 10, .inr (.inr (.inr (.inr ee))))), (a1, .inr (8, [.int 4, .ref wa1, .ref na1])), (wa1, .inl (cI, 4, .inl fw1))] := hD
  refine W.widen (k := 1) (n := 2) (by omega) (by omega) ?_
  refine lv_if_eq (tgt := 74) hx hb dX4_depthOf_50 (by decide) (fun c9 => ?_) (fun c9 => ?_)
  · exact absurd c9 (by decide)
  refine lv_aload_n hx hb dX4_depthOf_53 rfl (lv_at hl 3 rfl) ?_
  refine lv_iload_n hx hb dX4_depthOf_54 rfl (lv_at hl 2 rfl) ?_
  refine lv_aload_n hx hb dX4_depthOf_55 rfl (lv_at hl 3 rfl) ?_
  refine lv_iload_n hx hb dX4_depthOf_56 rfl (lv_at hl 2 rfl) ?_
  refine va_iald (D := (dC, dI)) (cl := vwCl) hx hb hK hP 3 0 rfl rfl (by unfold vp_in; decide) dX4_depthOf_57 ?_
  refine lv_topi (fun v62 ev62 => ?_)
  obtain rfl : v62 = 2 := ev62.trans (rfl)
  refine lv_iconst (v := 1) hx hb dX4_depthOf_58 (by decide) ?_
  refine lv_aload_n hx hb dX4_depthOf_59 rfl (lv_at hl 3 rfl) ?_
  refine lv_aload hx hb dX4_depthOf_60 (lv_at hl 1 rfl) ?_
  refine va_get (D := (dC, dI)) (ci := 8) (v := .ref na1) (C := RX3) (T := TX3) (N := 3) hx hb hts hi_X4_depthOf_X3 hown hK hP 8 rfl rfl 2 (by decide) (hts (.fieldLink RX4 48 "DeeprowsModel$Row" "numbers" "[I") (List.mem_cons_of_mem _ zw_1180)) (fun _ h9 => h9) rfl dX4_depthOf_62 ?_
  refine lv_iload hx hb dX4_depthOf_65 (lv_at hl 0 rfl) ?_
  refine va_iald (D := (dC, dI)) (cl := vwCl) hx hb hK hP 2 0 rfl rfl (by unfold vp_in; decide) dX4_depthOf_67 ?_
  refine lv_topi (fun v63 ev63 => ?_)
  obtain rfl : v63 = 0 := ev63.trans (hn1 3 (by decide))
  refine va_iald (D := (dC, dI)) (cl := vwCl) hx hb hK hP 3 0 rfl rfl (by unfold vp_in; decide) dX4_depthOf_68 ?_
  refine lv_topi (fun v64 ev64 => ?_)
  obtain rfl : v64 = 1 := ev64.trans (rfl)
  refine lv_iadd hx hb dX4_depthOf_69 ?_
  refine lv_topi (fun v65 ev65 => ?_)
  obtain rfl : v65 = 2 := ev65.trans (by decide)
  refine va_mmax (x := 2) (y := 2) hx hb (hml.trans hl.1.symm) hown (hts (.methodLink RX4 52 Lib.Math.max.name) (List.mem_cons_of_mem _ zw_1264)) (hts (.static Lib.Math.max.name) (List.mem_cons_of_mem _ zw_271)) (hts (.initialized "java/lang/Math") (List.mem_cons_of_mem _ zw_58)) (hts (.code Lib.Math.max.name Lib.Math.max.code 2 (some .int)) (List.mem_cons_of_mem _ zw_272)) (Nat.le_of_ble_eq_true rfl) (Nat.le_of_ble_eq_true rfl) (Nat.le_of_ble_eq_true rfl) (Nat.le_of_ble_eq_true rfl) dX4_depthOf_70 ?_
  refine lv_topi (fun v66 ev66 => ?_)
  obtain rfl : v66 = 2 := ev66.trans (by decide)
  refine va_iast (D := (dC, dI)) (cl := vwCl) hx hb hK hP hD (zS0 hS) 3 0 rfl rfl (by unfold vp_in; decide) dX4_depthOf_73 (fun H67 locs hP hD hS1 => ?_)
  have hz : s.heap.size + 1 ≤ H67.size := Nat.le_trans hz hS1.1
  have hS := zSS hS hS1
  replace hP : va_P (dC, dI) vwCl [(mo, .inr (9, [th, .ref al, md, rf, kn])), (na0, .inl (cI, 4, .inl fn0)), (na1, .inl (cI, 4, .inl fn1)), (q2, .inl (cI, 2, .inl (upd (upd (upd (upd (upd (upd (fun _ => 0) 0 1) 1 1) 1 2) 1 2) 1 2) 1 2))), (a0, .inr (8, [.int 4, .ref wa0, .ref na0])), (wa0, .inl (cI, 4, .inl fw0)), (al, .inr (4, [mc, .ref ed, .int (nI cc)])), (ed, .inl (cO, 10, .inr (.inr (.inr (.inr ee))))), (a1, .inr (8, [.int 4, .ref wa1, .ref na1])), (wa1, .inl (cI, 4, .inl fw1))] H67 := hP
  replace hD : va_D A [(mo, .inr (9, [th, .ref al, md, rf, kn])), (na0, .inl (cI, 4, .inl fn0)), (na1, .inl (cI, 4, .inl fn1)), (q2, .inl (cI, 2, .inl (upd (upd (upd (upd (upd (upd (fun _ => 0) 0 1) 1 1) 1 2) 1 2) 1 2) 1 2))), (a0, .inr (8, [.int 4, .ref wa0, .ref na0])), (wa0, .inl (cI, 4, .inl fw0)), (al, .inr (4, [mc, .ref ed, .int (nI cc)])), (ed, .inl (cO, 10, .inr (.inr (.inr (.inr ee))))), (a1, .inr (8, [.int 4, .ref wa1, .ref na1])), (wa1, .inl (cI, 4, .inl fw1))] := hD
  refine lv_iinc (v := 4) (lv' := [(5, .int 4), (4, .ref a1), (3, .int 1), (2, .ref q2), (0, .ref mo), (1, .int 1)]) hx hb dX4_depthOf_74 hl (k := 0) rfl (by decide) (by decide) rfl (fun ls hl => ?_)
  refine lv_goto (tgt := 33) hx hb dX4_depthOf_77 (by decide) ?_
  refine lv_iload hx hb dX4_depthOf_33 (lv_at hl 0 rfl) ?_
  refine lv_aload hx hb dX4_depthOf_35 (lv_at hl 1 rfl) ?_
  have hPc := hP.sub (ws' := [(a1, .inr (8, [.int 4, .ref wa1, .ref na1])), (wa1, .inl (cI, 4, .inl fw1))]) [8, 9] rfl
  have hDc := hD.sub (ws' := [(a1, .inr (8, [.int 4, .ref wa1, .ref na1])), (wa1, .inl (cI, 4, .inl fw1))]) [8, 9] (by decide) rfl
  have hFc := va_free (wc := [(a1, .inr (8, [.int 4, .ref wa1, .ref na1])), (wa1, .inl (cI, 4, .inl fw1))]) hD hS hA [8, 9] rfl
  have hDv := hDc.self (sz := H67.size)
  have hpre := zpre (xs' := []) (av := [.ref a1]) hPc hK (hDc.weaken (fun _ _ _ h => h)) hZ hS hFc (fun r hr => by cases hr)
  refine va_calli (va_runV (As := []) (rest := [.int 4]) ⟨hx, hb, hml, hown, hts⟩ (k_rlen l dC dI cI cB cR cO zk a1 wa1 na1 fw1 H67.size ) (cwV 0 hts gX4_depthOf_X3_length rfl rfl rfl (by decide +kernel) ⟨Nat.le_of_ble_eq_true rfl, Nat.le_of_ble_eq_true rfl⟩) ⟨zblind, (zrecv_8 hK hPc (q0 := 0) rfl), hpre⟩ rfl rfl hl.1 rfl (lv_room (Nat.le_of_ble_eq_true rfl)) dX4_depthOf_37 ⟨Nat.le_of_ble_eq_true rfl, Nat.le_of_ble_eq_true rfl⟩) hS (fun q _ h => hFc q h) hFc (fun r69 u t H68 locs ht hvm hw hB hz1 hk1 hS => ?_)
  obtain rfl : 4 = r69 := (show r69 = 4 from hw).symm
  obtain ⟨hP1, hK1, hD1, hz2⟩ := hB
  rw [ht] at hP1 hz2
  have hPD9 := va_join (wr := [(mo, .inr (9, [th, .ref al, md, rf, kn])), (na0, .inl (cI, 4, .inl fn0)), (na1, .inl (cI, 4, .inl fn1)), (q2, .inl (cI, 2, .inl (upd (upd (upd (upd (upd (upd (fun _ => 0) 0 1) 1 1) 1 2) 1 2) 1 2) 1 2))), (a0, .inr (8, [.int 4, .ref wa0, .ref na0])), (wa0, .inl (cI, 4, .inl fw0)), (al, .inr (4, [mc, .ref ed, .int (nI cc)])), (ed, .inl (cO, 10, .inr (.inr (.inr (.inr ee)))))]) (w1 := [(a1, .inr (8, [.int 4, .ref wa1, .ref na1])), (wa1, .inl (cI, 4, .inl fw1))]) hP hD [8, 9] [0, 1, 2, 3, 4, 5, 6, 7] rfl rfl (by decide) (by decide) hk1 hFc hP1 hD1
  clear hPc hDc hFc hDv hpre hP hD hP1 hK1 hD1
  obtain ⟨hP, hD⟩ := hPD9
  replace hz : s.heap.size + 1 ≤ H68.size := by omega
  clear hz2
  replace hP : va_P (dC, dI) vwCl [(mo, .inr (9, [th, .ref al, md, rf, kn])), (na0, .inl (cI, 4, .inl fn0)), (na1, .inl (cI, 4, .inl fn1)), (q2, .inl (cI, 2, .inl (upd (upd (upd (upd (upd (upd (fun _ => 0) 0 1) 1 1) 1 2) 1 2) 1 2) 1 2))), (a0, .inr (8, [.int 4, .ref wa0, .ref na0])), (wa0, .inl (cI, 4, .inl fw0)), (al, .inr (4, [mc, .ref ed, .int (nI cc)])), (ed, .inl (cO, 10, .inr (.inr (.inr (.inr ee))))), (a1, .inr (8, [.int 4, .ref wa1, .ref na1])), (wa1, .inl (cI, 4, .inl fw1))] H68 := hP
  replace hD : va_D A [(mo, .inr (9, [th, .ref al, md, rf, kn])), (na0, .inl (cI, 4, .inl fn0)), (na1, .inl (cI, 4, .inl fn1)), (q2, .inl (cI, 2, .inl (upd (upd (upd (upd (upd (upd (fun _ => 0) 0 1) 1 1) 1 2) 1 2) 1 2) 1 2))), (a0, .inr (8, [.int 4, .ref wa0, .ref na0])), (wa0, .inl (cI, 4, .inl fw0)), (al, .inr (4, [mc, .ref ed, .int (nI cc)])), (ed, .inl (cO, 10, .inr (.inr (.inr (.inr ee))))), (a1, .inr (8, [.int 4, .ref wa1, .ref na1])), (wa1, .inl (cI, 4, .inl fw1))] := hD
  refine W.widen (k := 1) (n := 2) (by omega) (by omega) ?_
  refine lv_icmp_ge (tgt := 80) hx hb dX4_depthOf_40 (by decide) (fun c9 => ?_) (fun c9 => ?_)
  rotate_left
  · exact absurd (by decide) c9
  refine lv_iinc (v := 2) (lv' := [(3, .int 2), (5, .int 4), (4, .ref a1), (2, .ref q2), (0, .ref mo), (1, .int 1)]) hx hb dX4_depthOf_80 hl (k := 2) rfl (by decide) (by decide) rfl (fun ls hl => ?_)
  refine lv_goto (tgt := 8) hx hb dX4_depthOf_83 (by decide) ?_
  refine lv_iload_n hx hb dX4_depthOf_8 rfl (lv_at hl 0 rfl) ?_
  refine lv_iload_n hx hb dX4_depthOf_9 rfl (lv_at hl 5 rfl) ?_
  refine lv_icmp_gt (tgt := 86) hx hb dX4_depthOf_10 (by decide) (fun c9 => ?_) (fun c9 => ?_)
  rotate_left
  · exact absurd (by decide) c9
  refine lv_aload_n hx hb dX4_depthOf_86 rfl (lv_at hl 3 rfl) ?_
  refine lv_iload_n hx hb dX4_depthOf_87 rfl (lv_at hl 5 rfl) ?_
  refine va_iald (D := (dC, dI)) (cl := vwCl) hx hb hK hP 3 0 rfl rfl (by unfold vp_in; decide) dX4_depthOf_88 ?_
  refine lv_topi (fun v70 ev70 => ?_)
  obtain rfl : v70 = 2 := ev70.trans (rfl)
  have hP9 := hP.sub (ws' := [(mo, .inr (9, [th, .ref al, md, rf, kn])), (al, .inr (4, [mc, .ref ed, .int (nI cc)])), (ed, .inl (cO, 10, .inr (.inr (.inr (.inr ee))))), (a0, .inr (8, [.int 4, .ref wa0, .ref na0])), (wa0, .inl (cI, 4, .inl fw0)), (na0, .inl (cI, 4, .inl fn0)), (a1, .inr (8, [.int 4, .ref wa1, .ref na1])), (wa1, .inl (cI, 4, .inl fw1)), (na1, .inl (cI, 4, .inl fn1))]) [0, 6, 7, 4, 5, 1, 8, 9, 2] rfl
  have hD9 := hD.sub (ws' := [(mo, .inr (9, [th, .ref al, md, rf, kn])), (al, .inr (4, [mc, .ref ed, .int (nI cc)])), (ed, .inl (cO, 10, .inr (.inr (.inr (.inr ee))))), (a0, .inr (8, [.int 4, .ref wa0, .ref na0])), (wa0, .inl (cI, 4, .inl fw0)), (na0, .inl (cI, 4, .inl fn0)), (a1, .inr (8, [.int 4, .ref wa1, .ref na1])), (wa1, .inl (cI, 4, .inl fw1)), (na1, .inl (cI, 4, .inl fn1))]) [0, 6, 7, 4, 5, 1, 8, 9, 2] (by decide) rfl
  exact W.iret (v := 2) hx hb hr (fun t ht hW => ⟨⟨_, (), rfl, rfl, ⟨by rw [ht]; exact hP9, va_K.moved hW.alike hK, hD9, by rw [ht]; exact hz⟩⟩, hS.F ht⟩) hS.2.2 dX4_depthOf_89

set_option maxHeartbeats 4000000 in
set_option maxRecDepth 100000 in
theorem k_dO2 (l : Launch) (dC : Nat → ClassId) (dI : Nat → Nat → Nat) (cI cB cR cO : ClassId) (zk : Nat → Nat) (mo al ed cc : Nat) (ee : Nat → Option Nat) (th md rf kn mc : Value) (a0 wa0 na0 a1 wa1 na1 a2 wa2 na2 : Nat) (fw0 fn0 fw1 fn1 fw2 fn2 : Nat → Int32) (sz : Nat) (hcc : 2 < cc) (hcc2 : cc ≤ 10) (hw0 : ∀ i, i < 4 → fw0 i = 0) (hn0 : ∀ i, i < 4 → fn0 i = (-1)) (he0 : ee 0 = some a0) (hw1 : ∀ i, i < 4 → fw1 i = 3) (hn1 : ∀ i, i < 4 → fn1 i = 0) (he1 : ee 1 = some a1) (hw2 : ∀ i, i < 4 → fw2 i = 3) (hn2 : ∀ i, i < 4 → fn2 i = 1) (he2 : ee 2 = some a2) : Met l yX4_depthOf wsX4_depthOf ({ frames := 3, cells := 1, slots := 3, locals := 64 }) (va_Pc [.ref mo, .int 2] (zPre (dC, dI) (zT cI cB cR cO) zk [] [(mo, .inr (9, [th, .ref al, md, rf, kn])), (al, .inr (4, [mc, .ref ed, .int (nI cc)])), (ed, .inl (cO, 10, .inr (.inr (.inr (.inr ee))))), (a0, .inr (8, [.int 4, .ref wa0, .ref na0])), (wa0, .inl (cI, 4, .inl fw0)), (na0, .inl (cI, 4, .inl fn0)), (a1, .inr (8, [.int 4, .ref wa1, .ref na1])), (wa1, .inl (cI, 4, .inl fw1)), (na1, .inl (cI, 4, .inl fn1)), (a2, .inr (8, [.int 4, .ref wa2, .ref na2])), (wa2, .inl (cI, 4, .inl fw2)), (na2, .inl (cI, 4, .inl fn2))] sz)) (va_Qi (fun r (_ : Unit) => r = 3) (fun _ t => zEnd (dC, dI) (zT cI cB cR cO) (va_A [(mo, .inr (9, [th, .ref al, md, rf, kn])), (al, .inr (4, [mc, .ref ed, .int (nI cc)])), (ed, .inl (cO, 10, .inr (.inr (.inr (.inr ee))))), (a0, .inr (8, [.int 4, .ref wa0, .ref na0])), (wa0, .inl (cI, 4, .inl fw0)), (na0, .inl (cI, 4, .inl fn0)), (a1, .inr (8, [.int 4, .ref wa1, .ref na1])), (wa1, .inl (cI, 4, .inl fw1)), (na1, .inl (cI, 4, .inl fn1)), (a2, .inr (8, [.int 4, .ref wa2, .ref na2])), (wa2, .inl (cI, 4, .inl fw2)), (na2, .inl (cI, 4, .inl fn2))] sz) [(mo, .inr (9, [th, .ref al, md, rf, kn])), (al, .inr (4, [mc, .ref ed, .int (nI cc)])), (ed, .inl (cO, 10, .inr (.inr (.inr (.inr ee))))), (a0, .inr (8, [.int 4, .ref wa0, .ref na0])), (wa0, .inl (cI, 4, .inl fw0)), (na0, .inl (cI, 4, .inl fn0)), (a1, .inr (8, [.int 4, .ref wa1, .ref na1])), (wa1, .inl (cI, 4, .inl fw1)), (na1, .inl (cI, 4, .inl fn1)), (a2, .inr (8, [.int 4, .ref wa2, .ref na2])), (wa2, .inl (cI, 4, .inl fw2)), (na2, .inl (cI, 4, .inl fn2))] sz 1 t) (va_A [(mo, .inr (9, [th, .ref al, md, rf, kn])), (al, .inr (4, [mc, .ref ed, .int (nI cc)])), (ed, .inl (cO, 10, .inr (.inr (.inr (.inr ee))))), (a0, .inr (8, [.int 4, .ref wa0, .ref na0])), (wa0, .inl (cI, 4, .inl fw0)), (na0, .inl (cI, 4, .inl fn0)), (a1, .inr (8, [.int 4, .ref wa1, .ref na1])), (wa1, .inl (cI, 4, .inl fw1)), (na1, .inl (cI, 4, .inl fn1)), (a2, .inr (8, [.int 4, .ref wa2, .ref na2])), (wa2, .inl (cI, 4, .inl fw2)), (na2, .inl (cI, 4, .inl fn2))] sz)) 1 3 (va_A [(mo, .inr (9, [th, .ref al, md, rf, kn])), (al, .inr (4, [mc, .ref ed, .int (nI cc)])), (ed, .inl (cO, 10, .inr (.inr (.inr (.inr ee))))), (a0, .inr (8, [.int 4, .ref wa0, .ref na0])), (wa0, .inl (cI, 4, .inl fw0)), (na0, .inl (cI, 4, .inl fn0)), (a1, .inr (8, [.int 4, .ref wa1, .ref na1])), (wa1, .inl (cI, 4, .inl fw1)), (na1, .inl (cI, 4, .inl fn1)), (a2, .inr (8, [.int 4, .ref wa2, .ref na2])), (wa2, .inl (cI, 4, .inl fw2)), (na2, .inl (cI, 4, .inl fn2))] sz) := by
  refine Met.ofW (cc := cX4_depthOf) (maxL := 6) (ret := (some .int)) (by decide) rfl ?_
  intro p e s mY args below meth c s₁ B hml hv
  obtain ⟨rfl, hsz, hP, hK, hD0, hZ⟩ := hv
  have hx := B.exec
  have hb := B.bytes
  have hr := B.returns
  have hts := atoms_spec (ws := wsX4_depthOf) B.pre
  have hown : s.vm.findClass RX4 = some mY.cls := findClass_of_methodNamed B.named
  have hlocks := B.notSynchronized
  subst hsz
  have hD := hD0.self (sz := s.heap.size)
  generalize hAe : va_A [(mo, .inr (9, [th, .ref al, md, rf, kn])), (al, .inr (4, [mc, .ref ed, .int (nI cc)])), (ed, .inl (cO, 10, .inr (.inr (.inr (.inr ee))))), (a0, .inr (8, [.int 4, .ref wa0, .ref na0])), (wa0, .inl (cI, 4, .inl fw0)), (na0, .inl (cI, 4, .inl fn0)), (a1, .inr (8, [.int 4, .ref wa1, .ref na1])), (wa1, .inl (cI, 4, .inl fw1)), (na1, .inl (cI, 4, .inl fn1)), (a2, .inr (8, [.int 4, .ref wa2, .ref na2])), (wa2, .inl (cI, 4, .inl fw2)), (na2, .inl (cI, 4, .inl fn2))] s.heap.size = A at hD hZ ⊢
  have hA : ∀ q : Nat, s.heap.size ≤ q → A q := fun q h => by rw [← hAe]; exact Or.inr h
  have hS : va_S A s.heap s.heap [] := va_S.rf
  have hz : s.heap.size + 0 ≤ s.heap.size := Nat.le_refl _
  have hl := lv_entry ([.ref mo, .int 2]) (n := 6) (Nat.le_of_ble_eq_true rfl)
  rw [lg_entry_eq]
  generalize (lg_sl ([.ref mo, .int 2]) ++ List.replicate (6 - (lg_sl ([.ref mo, .int 2])).length) Slot.unset).toArray = ls at hl ⊢
  have hl : lv_has ls 6 [(0, .ref mo), (1, .int 2)] := hl
  have hP : va_P (dC, dI) vwCl [(mo, .inr (9, [th, .ref al, md, rf, kn])), (al, .inr (4, [mc, .ref ed, .int (nI cc)])), (ed, .inl (cO, 10, .inr (.inr (.inr (.inr ee))))), (a0, .inr (8, [.int 4, .ref wa0, .ref na0])), (wa0, .inl (cI, 4, .inl fw0)), (na0, .inl (cI, 4, .inl fn0)), (a1, .inr (8, [.int 4, .ref wa1, .ref na1])), (wa1, .inl (cI, 4, .inl fw1)), (na1, .inl (cI, 4, .inl fn1)), (a2, .inr (8, [.int 4, .ref wa2, .ref na2])), (wa2, .inl (cI, 4, .inl fw2)), (na2, .inl (cI, 4, .inl fn2))] s.heap := hP
  have hD : va_D A [(mo, .inr (9, [th, .ref al, md, rf, kn])), (al, .inr (4, [mc, .ref ed, .int (nI cc)])), (ed, .inl (cO, 10, .inr (.inr (.inr (.inr ee))))), (a0, .inr (8, [.int 4, .ref wa0, .ref na0])), (wa0, .inl (cI, 4, .inl fw0)), (na0, .inl (cI, 4, .inl fn0)), (a1, .inr (8, [.int 4, .ref wa1, .ref na1])), (wa1, .inl (cI, 4, .inl fw1)), (na1, .inl (cI, 4, .inl fn1)), (a2, .inr (8, [.int 4, .ref wa2, .ref na2])), (wa2, .inl (cI, 4, .inl fw2)), (na2, .inl (cI, 4, .inl fn2))] := hD
  refine lv_iload_n hx hb dX4_depthOf_0 rfl (lv_at hl 1 rfl) ?_
  refine lv_iconst (v := 1) hx hb dX4_depthOf_1 (by decide) ?_
  refine lv_iadd hx hb dX4_depthOf_2 ?_
  refine lv_topi (fun v1 ev1 => ?_)
  obtain rfl : v1 = 3 := ev1.trans (by decide)
  refine zw_newa (atype := .int) (ty := .int) (N' := 3) hx hb (hts (.arrayClass .int) (List.mem_cons_of_mem _ zw_137)) rfl (by first | exact Or.inl rfl | exact Or.inr rfl) hK hP hD hS hA 0 rfl (by decide) (by decide) (Nat.le_of_ble_eq_true rfl) (Nat.le_of_ble_eq_true rfl) (Nat.le_of_ble_eq_true rfl) dX4_depthOf_3 hz (fun q2 H3 hP hD hS hz => ?_)
  replace hP : va_P (dC, dI) vwCl [(mo, .inr (9, [th, .ref al, md, rf, kn])), (al, .inr (4, [mc, .ref ed, .int (nI cc)])), (ed, .inl (cO, 10, .inr (.inr (.inr (.inr ee))))), (a0, .inr (8, [.int 4, .ref wa0, .ref na0])), (wa0, .inl (cI, 4, .inl fw0)), (na0, .inl (cI, 4, .inl fn0)), (a1, .inr (8, [.int 4, .ref wa1, .ref na1])), (wa1, .inl (cI, 4, .inl fw1)), (na1, .inl (cI, 4, .inl fn1)), (a2, .inr (8, [.int 4, .ref wa2, .ref na2])), (wa2, .inl (cI, 4, .inl fw2)), (na2, .inl (cI, 4, .inl fn2)), (q2, .inl (cI, 3, .inl (fun _ => 0)))] H3 := hP
  replace hD : va_D A [(mo, .inr (9, [th, .ref al, md, rf, kn])), (al, .inr (4, [mc, .ref ed, .int (nI cc)])), (ed, .inl (cO, 10, .inr (.inr (.inr (.inr ee))))), (a0, .inr (8, [.int 4, .ref wa0, .ref na0])), (wa0, .inl (cI, 4, .inl fw0)), (na0, .inl (cI, 4, .inl fn0)), (a1, .inr (8, [.int 4, .ref wa1, .ref na1])), (wa1, .inl (cI, 4, .inl fw1)), (na1, .inl (cI, 4, .inl fn1)), (a2, .inr (8, [.int 4, .ref wa2, .ref na2])), (wa2, .inl (cI, 4, .inl fw2)), (na2, .inl (cI, 4, .inl fn2)), (q2, .inl (cI, 3, .inl (fun _ => 0)))] := hD
  refine W.widen (k := 1) (n := 3) (by omega) (by omega) ?_
  refine lv_astore_n (lv' := [(2, .ref q2), (0, .ref mo), (1, .int 2)]) hx hb dX4_depthOf_5 rfl hl (by decide) rfl (fun ls hl => ?_)
  refine lv_iconst (v := 0) hx hb dX4_depthOf_6 (by decide) ?_
  refine lv_istore_n (lv' := [(3, .int 0), (2, .ref q2), (0, .ref mo), (1, .int 2)]) hx hb dX4_depthOf_7 rfl hl (by decide) rfl (fun ls hl => ?_)
  refine lv_iload_n hx hb dX4_depthOf_8 rfl (lv_at hl 0 rfl) ?_
  refine lv_iload_n hx hb dX4_depthOf_9 rfl (lv_at hl 3 rfl) ?_
  refine lv_icmp_gt (tgt := 86) hx hb dX4_depthOf_10 (by decide) (fun c9 => ?_) (fun c9 => ?_)
  · exact absurd c9 (by decide)
  refine lv_aload_n hx hb dX4_depthOf_13 rfl (lv_at hl 2 rfl) ?_
  refine va_get (D := (dC, dI)) (ci := 9) (v := .ref al) (C := RX4) (T := TX4) (N := 5) hx hb hts hi_X4_depthOf_X4 hown hK hP 0 rfl rfl 1 (by decide) (hts (.fieldLink RX4 10 "DeeprowsModel" "rows" "Ljava/util/ArrayList;") (List.mem_cons_of_mem _ zw_1134)) (fun _ h9 => h9) rfl dX4_depthOf_14 ?_
  refine lv_iload_n hx hb dX4_depthOf_17 rfl (lv_at hl 0 rfl) ?_
  have hPc := hP.sub (ws' := [(al, .inr (4, [mc, .ref ed, .int (nI cc)])), (ed, .inl (cO, 10, .inr (.inr (.inr (.inr ee)))))]) [1, 2] rfl
  have hDc := hD.sub (ws' := [(al, .inr (4, [mc, .ref ed, .int (nI cc)])), (ed, .inl (cO, 10, .inr (.inr (.inr (.inr ee)))))]) [1, 2] (by decide) rfl
  have hFc := va_free (wc := [(al, .inr (4, [mc, .ref ed, .int (nI cc)])), (ed, .inl (cO, 10, .inr (.inr (.inr (.inr ee)))))]) hD hS hA [1, 2] rfl
  have hDv := hDc.self (sz := H3.size)
  have hpre := zpre (xs' := []) (av := [.ref al, .int 0]) hPc hK (hDc.weaken (fun _ _ _ h => h)) hZ hS hFc (fun r hr => by cases hr)
  refine va_callr (va_runV (As := [.int 0]) (rest := []) ⟨hx, hb, hml, hown, hts⟩ (k_get l dC dI cI cB cR cO zk al ed 0 cc 10 a0 ee mc H3.size (by omega) hcc2 (by decide) he0) (cwV 1 hts gX4_depthOf_Jx4a65c_get_915e3 rfl rfl rfl (by decide +kernel) ⟨Nat.le_of_ble_eq_true rfl, Nat.le_of_ble_eq_true rfl⟩) ⟨zblind, (zrecv_4 hK hPc (q0 := 0) rfl), hpre⟩ rfl rfl hl.1 rfl (lv_room (Nat.le_of_ble_eq_true rfl)) dX4_depthOf_18 ⟨Nat.le_of_ble_eq_true rfl, Nat.le_of_ble_eq_true rfl⟩) hS (fun q _ h => hFc q h) hFc (fun u r5 t H4 locs ht hvm hw hB hz1 hk1 hS => ?_)
  obtain ⟨⟨hP1, hK1, hD1, hz2⟩, her5⟩ := hB
  rw [ht] at hP1 hz2
  have hPD9 := va_join (wr := [(mo, .inr (9, [th, .ref al, md, rf, kn])), (a0, .inr (8, [.int 4, .ref wa0, .ref na0])), (wa0, .inl (cI, 4, .inl fw0)), (na0, .inl (cI, 4, .inl fn0)), (a1, .inr (8, [.int 4, .ref wa1, .ref na1])), (wa1, .inl (cI, 4, .inl fw1)), (na1, .inl (cI, 4, .inl fn1)), (a2, .inr (8, [.int 4, .ref wa2, .ref na2])), (wa2, .inl (cI, 4, .inl fw2)), (na2, .inl (cI, 4, .inl fn2)), (q2, .inl (cI, 3, .inl (fun _ => 0)))]) (w1 := [(al, .inr (4, [mc, .ref ed, .int (nI cc)])), (ed, .inl (cO, 10, .inr (.inr (.inr (.inr ee)))))]) hP hD [1, 2] [0, 3, 4, 5, 6, 7, 8, 9, 10, 11, 12] rfl rfl (by decide) (by decide) hk1 hFc hP1 hD1
  clear hPc hDc hFc hDv hpre hP hD hP1 hK1 hD1
  obtain ⟨hP, hD⟩ := hPD9
  replace hz : s.heap.size + 1 ≤ H4.size := by omega
  clear hz2
  replace hP : va_P (dC, dI) vwCl [(mo, .inr (9, [th, .ref al, md, rf, kn])), (a0, .inr (8, [.int 4, .ref wa0, .ref na0])), (wa0, .inl (cI, 4, .inl fw0)), (na0, .inl (cI, 4, .inl fn0)), (a1, .inr (8, [.int 4, .ref wa1, .ref na1])), (wa1, .inl (cI, 4, .inl fw1)), (na1, .inl (cI, 4, .inl fn1)), (a2, .inr (8, [.int 4, .ref wa2, .ref na2])), (wa2, .inl (cI, 4, .inl fw2)), (na2, .inl (cI, 4, .inl fn2)), (q2, .inl (cI, 3, .inl (fun _ => 0))), (al, .inr (4, [mc, .ref ed, .int (nI cc)])), (ed, .inl (cO, 10, .inr (.inr (.inr (.inr ee)))))] H4 := hP
  replace hD : va_D A [(mo, .inr (9, [th, .ref al, md, rf, kn])), (a0, .inr (8, [.int 4, .ref wa0, .ref na0])), (wa0, .inl (cI, 4, .inl fw0)), (na0, .inl (cI, 4, .inl fn0)), (a1, .inr (8, [.int 4, .ref wa1, .ref na1])), (wa1, .inl (cI, 4, .inl fw1)), (na1, .inl (cI, 4, .inl fn1)), (a2, .inr (8, [.int 4, .ref wa2, .ref na2])), (wa2, .inl (cI, 4, .inl fw2)), (na2, .inl (cI, 4, .inl fn2)), (q2, .inl (cI, 3, .inl (fun _ => 0))), (al, .inr (4, [mc, .ref ed, .int (nI cc)])), (ed, .inl (cO, 10, .inr (.inr (.inr (.inr ee)))))] := hD
  refine W.widen (k := 1) (n := 3) (by omega) (by omega) ?_
  obtain rfl := her5.symm
  refine va_castE hx hb hown (hts (.classLink RX4 40 "DeeprowsModel$Row") (List.mem_cons_of_mem _ zw_1165)) (zrecv_8 hK hP (q0 := 1) rfl) dX4_depthOf_21 ?_
  refine lv_astore (lv' := [(4, .ref a0), (3, .int 0), (2, .ref q2), (0, .ref mo), (1, .int 2)]) hx hb dX4_depthOf_24 hl (by decide) rfl (fun ls hl => ?_)
  refine lv_aload_n hx hb dX4_depthOf_26 rfl (lv_at hl 2 rfl) ?_
  refine lv_iload_n hx hb dX4_depthOf_27 rfl (lv_at hl 1 rfl) ?_
  refine lv_iconst (v := 1) hx hb dX4_depthOf_28 (by decide) ?_
  refine va_iast (D := (dC, dI)) (cl := vwCl) hx hb hK hP hD (zS0 hS) 10 0 rfl rfl (by unfold vp_in; decide) dX4_depthOf_29 (fun H6 locs hP hD hS1 => ?_)
  have hz : s.heap.size + 1 ≤ H6.size := Nat.le_trans hz hS1.1
  have hS := zSS hS hS1
  replace hP : va_P (dC, dI) vwCl [(mo, .inr (9, [th, .ref al, md, rf, kn])), (a0, .inr (8, [.int 4, .ref wa0, .ref na0])), (wa0, .inl (cI, 4, .inl fw0)), (na0, .inl (cI, 4, .inl fn0)), (a1, .inr (8, [.int 4, .ref wa1, .ref na1])), (wa1, .inl (cI, 4, .inl fw1)), (na1, .inl (cI, 4, .inl fn1)), (a2, .inr (8, [.int 4, .ref wa2, .ref na2])), (wa2, .inl (cI, 4, .inl fw2)), (na2, .inl (cI, 4, .inl fn2)), (q2, .inl (cI, 3, .inl (upd (fun _ => 0) 0 1))), (al, .inr (4, [mc, .ref ed, .int (nI cc)])), (ed, .inl (cO, 10, .inr (.inr (.inr (.inr ee)))))] H6 := hP
  replace hD : va_D A [(mo, .inr (9, [th, .ref al, md, rf, kn])), (a0, .inr (8, [.int 4, .ref wa0, .ref na0])), (wa0, .inl (cI, 4, .inl fw0)), (na0, .inl (cI, 4, .inl fn0)), (a1, .inr (8, [.int 4, .ref wa1, .ref na1])), (wa1, .inl (cI, 4, .inl fw1)), (na1, .inl (cI, 4, .inl fn1)), (a2, .inr (8, [.int 4, .ref wa2, .ref na2])), (wa2, .inl (cI, 4, .inl fw2)), (na2, .inl (cI, 4, .inl fn2)), (q2, .inl (cI, 3, .inl (upd (fun _ => 0) 0 1))), (al, .inr (4, [mc, .ref ed, .int (nI cc)])), (ed, .inl (cO, 10, .inr (.inr (.inr (.inr ee)))))] := hD
  refine lv_iconst (v := 0) hx hb dX4_depthOf_30 (by decide) ?_
  refine lv_istore (lv' := [(5, .int 0), (4, .ref a0), (3, .int 0), (2, .ref q2), (0, .ref mo), (1, .int 2)]) hx hb dX4_depthOf_31 hl (by decide) rfl (fun ls hl => ?_)
  refine lv_iload hx hb dX4_depthOf_33 (lv_at hl 0 rfl) ?_
  refine lv_aload hx hb dX4_depthOf_35 (lv_at hl 1 rfl) ?_
  have hPc := hP.sub (ws' := [(a0, .inr (8, [.int 4, .ref wa0, .ref na0])), (wa0, .inl (cI, 4, .inl fw0))]) [1, 2] rfl
  have hDc := hD.sub (ws' := [(a0, .inr (8, [.int 4, .ref wa0, .ref na0])), (wa0, .inl (cI, 4, .inl fw0))]) [1, 2] (by decide) rfl
  have hFc := va_free (wc := [(a0, .inr (8, [.int 4, .ref wa0, .ref na0])), (wa0, .inl (cI, 4, .inl fw0))]) hD hS hA [1, 2] rfl
  have hDv := hDc.self (sz := H6.size)
  have hpre := zpre (xs' := []) (av := [.ref a0]) hPc hK (hDc.weaken (fun _ _ _ h => h)) hZ hS hFc (fun r hr => by cases hr)
  refine va_calli (va_runV (As := []) (rest := [.int 0]) ⟨hx, hb, hml, hown, hts⟩ (k_rlen l dC dI cI cB cR cO zk a0 wa0 na0 fw0 H6.size ) (cwV 0 hts gX4_depthOf_X3_length rfl rfl rfl (by decide +kernel) ⟨Nat.le_of_ble_eq_true rfl, Nat.le_of_ble_eq_true rfl⟩) ⟨zblind, (zrecv_8 hK hPc (q0 := 0) rfl), hpre⟩ rfl rfl hl.1 rfl (lv_room (Nat.le_of_ble_eq_true rfl)) dX4_depthOf_37 ⟨Nat.le_of_ble_eq_true rfl, Nat.le_of_ble_eq_true rfl⟩) hS (fun q _ h => hFc q h) hFc (fun r8 u t H7 locs ht hvm hw hB hz1 hk1 hS => ?_)
  obtain rfl : 4 = r8 := (show r8 = 4 from hw).symm
  obtain ⟨hP1, hK1, hD1, hz2⟩ := hB
  rw [ht] at hP1 hz2
  have hPD9 := va_join (wr := [(mo, .inr (9, [th, .ref al, md, rf, kn])), (na0, .inl (cI, 4, .inl fn0)), (a1, .inr (8, [.int 4, .ref wa1, .ref na1])), (wa1, .inl (cI, 4, .inl fw1)), (na1, .inl (cI, 4, .inl fn1)), (a2, .inr (8, [.int 4, .ref wa2, .ref na2])), (wa2, .inl (cI, 4, .inl fw2)), (na2, .inl (cI, 4, .inl fn2)), (q2, .inl (cI, 3, .inl (upd (fun _ => 0) 0 1))), (al, .inr (4, [mc, .ref ed, .int (nI cc)])), (ed, .inl (cO, 10, .inr (.inr (.inr (.inr ee)))))]) (w1 := [(a0, .inr (8, [.int 4, .ref wa0, .ref na0])), (wa0, .inl (cI, 4, .inl fw0))]) hP hD [1, 2] [0, 3, 4, 5, 6, 7, 8, 9, 10, 11, 12] rfl rfl (by decide) (by decide) hk1 hFc hP1 hD1
  clear hPc hDc hFc hDv hpre hP hD hP1 hK1 hD1
  obtain ⟨hP, hD⟩ := hPD9
  replace hz : s.heap.size + 1 ≤ H7.size := by omega
  clear hz2
  replace hP : va_P (dC, dI) vwCl [(mo, .inr (9, [th, .ref al, md, rf, kn])), (na0, .inl (cI, 4, .inl fn0)), (a1, .inr (8, [.int 4, .ref wa1, .ref na1])), (wa1, .inl (cI, 4, .inl fw1)), (na1, .inl (cI, 4, .inl fn1)), (a2, .inr (8, [.int 4, .ref wa2, .ref na2])), (wa2, .inl (cI, 4, .inl fw2)), (na2, .inl (cI, 4, .inl fn2)), (q2, .inl (cI, 3, .inl (upd (fun _ => 0) 0 1))), (al, .inr (4, [mc, .ref ed, .int (nI cc)])), (ed, .inl (cO, 10, .inr (.inr (.inr (.inr ee))))), (a0, .inr (8, [.int 4, .ref wa0, .ref na0])), (wa0, .inl (cI, 4, .inl fw0))] H7 := hP
  replace hD : va_D A [(mo, .inr (9, [th, .ref al, md, rf, kn])), (na0, .inl (cI, 4, .inl fn0)), (a1, .inr (8, [.int 4, .ref wa1, .ref na1])), (wa1, .inl (cI, 4, .inl fw1)), (na1, .inl (cI, 4, .inl fn1)), (a2, .inr (8, [.int 4, .ref wa2, .ref na2])), (wa2, .inl (cI, 4, .inl fw2)), (na2, .inl (cI, 4, .inl fn2)), (q2, .inl (cI, 3, .inl (upd (fun _ => 0) 0 1))), (al, .inr (4, [mc, .ref ed, .int (nI cc)])), (ed, .inl (cO, 10, .inr (.inr (.inr (.inr ee))))), (a0, .inr (8, [.int 4, .ref wa0, .ref na0])), (wa0, .inl (cI, 4, .inl fw0))] := hD
  refine W.widen (k := 1) (n := 3) (by omega) (by omega) ?_
  refine lv_icmp_ge (tgt := 80) hx hb dX4_depthOf_40 (by decide) (fun c9 => ?_) (fun c9 => ?_)
  · exact absurd c9 (by decide)
  refine lv_aload hx hb dX4_depthOf_43 (lv_at hl 1 rfl) ?_
  refine lv_iload hx hb dX4_depthOf_45 (lv_at hl 0 rfl) ?_
  have hPc := hP.sub (ws' := [(a0, .inr (8, [.int 4, .ref wa0, .ref na0])), (wa0, .inl (cI, 4, .inl fw0))]) [11, 12] rfl
  have hDc := hD.sub (ws' := [(a0, .inr (8, [.int 4, .ref wa0, .ref na0])), (wa0, .inl (cI, 4, .inl fw0))]) [11, 12] (by decide) rfl
  have hFc := va_free (wc := [(a0, .inr (8, [.int 4, .ref wa0, .ref na0])), (wa0, .inl (cI, 4, .inl fw0))]) hD hS hA [11, 12] rfl
  have hDv := hDc.self (sz := H7.size)
  have hpre := zpre (xs' := []) (av := [.ref a0, .int 0]) hPc hK (hDc.weaken (fun _ _ _ h => h)) hZ hS hFc (fun r hr => by cases hr)
  refine va_calli (va_runV (As := [.int 0]) (rest := []) ⟨hx, hb, hml, hown, hts⟩ (k_mh0_0 l dC dI cI cB cR cO zk a0 wa0 na0 fw0 H7.size (hw0 0 (by decide))) (cwV 1 hts gX4_depthOf_X3_hangs rfl rfl rfl (by decide +kernel) ⟨Nat.le_of_ble_eq_true rfl, Nat.le_of_ble_eq_true rfl⟩) ⟨zblind, (zrecv_8 hK hPc (q0 := 0) rfl), hpre⟩ rfl rfl hl.1 rfl (lv_room (Nat.le_of_ble_eq_true rfl)) dX4_depthOf_47 ⟨Nat.le_of_ble_eq_true rfl, Nat.le_of_ble_eq_true rfl⟩) hS (fun q _ h => hFc q h) hFc (fun r10 u t H9 locs ht hvm hw hB hz1 hk1 hS => ?_)
  obtain rfl : 0 = r10 := (show r10 = 0 from hw).symm
  obtain ⟨hP1, hK1, hD1, hz2⟩ := hB
  rw [ht] at hP1 hz2
  have hPD9 := va_join (wr := [(mo, .inr (9, [th, .ref al, md, rf, kn])), (na0, .inl (cI, 4, .inl fn0)), (a1, .inr (8, [.int 4, .ref wa1, .ref na1])), (wa1, .inl (cI, 4, .inl fw1)), (na1, .inl (cI, 4, .inl fn1)), (a2, .inr (8, [.int 4, .ref wa2, .ref na2])), (wa2, .inl (cI, 4, .inl fw2)), (na2, .inl (cI, 4, .inl fn2)), (q2, .inl (cI, 3, .inl (upd (fun _ => 0) 0 1))), (al, .inr (4, [mc, .ref ed, .int (nI cc)])), (ed, .inl (cO, 10, .inr (.inr (.inr (.inr ee)))))]) (w1 := [(a0, .inr (8, [.int 4, .ref wa0, .ref na0])), (wa0, .inl (cI, 4, .inl fw0))]) hP hD [11, 12] [0, 1, 2, 3, 4, 5, 6, 7, 8, 9, 10] rfl rfl (by decide) (by decide) hk1 hFc hP1 hD1
  clear hPc hDc hFc hDv hpre hP hD hP1 hK1 hD1
  obtain ⟨hP, hD⟩ := hPD9
  replace hz : s.heap.size + 1 ≤ H9.size := by omega
  clear hz2
  replace hP : va_P (dC, dI) vwCl [(mo, .inr (9, [th, .ref al, md, rf, kn])), (na0, .inl (cI, 4, .inl fn0)), (a1, .inr (8, [.int 4, .ref wa1, .ref na1])), (wa1, .inl (cI, 4, .inl fw1)), (na1, .inl (cI, 4, .inl fn1)), (a2, .inr (8, [.int 4, .ref wa2, .ref na2])), (wa2, .inl (cI, 4, .inl fw2)), (na2, .inl (cI, 4, .inl fn2)), (q2, .inl (cI, 3, .inl (upd (fun _ => 0) 0 1))), (al, .inr (4, [mc, .ref ed, .int (nI cc)])), (ed, .inl (cO, 10, .inr (.inr (.inr (.inr ee))))), (a0, .inr (8, [.int 4, .ref wa0, .ref na0])), (wa0, .inl (cI, 4, .inl fw0))] H9 := hP
  replace hD : va_D A [(mo, .inr (9, [th, .ref al, md, rf, kn])), (na0, .inl (cI, 4, .inl fn0)), (a1, .inr (8, [.int 4, .ref wa1, .ref na1])), (wa1, .inl (cI, 4, .inl fw1)), (na1, .inl (cI, 4, .inl fn1)), (a2, .inr (8, [.int 4, .ref wa2, .ref na2])), (wa2, .inl (cI, 4, .inl fw2)), (na2, .inl (cI, 4, .inl fn2)), (q2, .inl (cI, 3, .inl (upd (fun _ => 0) 0 1))), (al, .inr (4, [mc, .ref ed, .int (nI cc)])), (ed, .inl (cO, 10, .inr (.inr (.inr (.inr ee))))), (a0, .inr (8, [.int 4, .ref wa0, .ref na0])), (wa0, .inl (cI, 4, .inl fw0))] := hD
  refine W.widen (k := 1) (n := 3) (by omega) (by omega) ?_
  refine lv_if_eq (tgt := 74) hx hb dX4_depthOf_50 (by decide) (fun c9 => ?_) (fun c9 => ?_)
  rotate_left
  · exact absurd (by decide) c9
  refine lv_iinc (v := 1) (lv' := [(5, .int 1), (4, .ref a0), (3, .int 0), (2, .ref q2), (0, .ref mo), (1, .int 2)]) hx hb dX4_depthOf_74 hl (k := 0) rfl (by decide) (by decide) rfl (fun ls hl => ?_)
  refine lv_goto (tgt := 33) hx hb dX4_depthOf_77 (by decide) ?_
  refine lv_iload hx hb dX4_depthOf_33 (lv_at hl 0 rfl) ?_
  refine lv_aload hx hb dX4_depthOf_35 (lv_at hl 1 rfl) ?_
  have hPc := hP.sub (ws' := [(a0, .inr (8, [.int 4, .ref wa0, .ref na0])), (wa0, .inl (cI, 4, .inl fw0))]) [11, 12] rfl
  have hDc := hD.sub (ws' := [(a0, .inr (8, [.int 4, .ref wa0, .ref na0])), (wa0, .inl (cI, 4, .inl fw0))]) [11, 12] (by decide) rfl
  have hFc := va_free (wc := [(a0, .inr (8, [.int 4, .ref wa0, .ref na0])), (wa0, .inl (cI, 4, .inl fw0))]) hD hS hA [11, 12] rfl
  have hDv := hDc.self (sz := H9.size)
  have hpre := zpre (xs' := []) (av := [.ref a0]) hPc hK (hDc.weaken (fun _ _ _ h => h)) hZ hS hFc (fun r hr => by cases hr)
  refine va_calli (va_runV (As := []) (rest := [.int 1]) ⟨hx, hb, hml, hown, hts⟩ (k_rlen l dC dI cI cB cR cO zk a0 wa0 na0 fw0 H9.size ) (cwV 0 hts gX4_depthOf_X3_length rfl rfl rfl (by decide +kernel) ⟨Nat.le_of_ble_eq_true rfl, Nat.le_of_ble_eq_true rfl⟩) ⟨zblind, (zrecv_8 hK hPc (q0 := 0) rfl), hpre⟩ rfl rfl hl.1 rfl (lv_room (Nat.le_of_ble_eq_true rfl)) dX4_depthOf_37 ⟨Nat.le_of_ble_eq_true rfl, Nat.le_of_ble_eq_true rfl⟩) hS (fun q _ h => hFc q h) hFc (fun r12 u t H11 locs ht hvm hw hB hz1 hk1 hS => ?_)
  obtain rfl : 4 = r12 := (show r12 = 4 from hw).symm
  obtain ⟨hP1, hK1, hD1, hz2⟩ := hB
  rw [ht] at hP1 hz2
  have hPD9 := va_join (wr := [(mo, .inr (9, [th, .ref al, md, rf, kn])), (na0, .inl (cI, 4, .inl fn0)), (a1, .inr (8, [.int 4, .ref wa1, .ref na1])), (wa1, .inl (cI, 4, .inl fw1)), (na1, .inl (cI, 4, .inl fn1)), (a2, .inr (8, [.int 4, .ref wa2, .ref na2])), (wa2, .inl (cI, 4, .inl fw2)), (na2, .inl (cI, 4, .inl fn2)), (q2, .inl (cI, 3, .inl (upd (fun _ => 0) 0 1))), (al, .inr (4, [mc, .ref ed, .int (nI cc)])), (ed, .inl (cO, 10, .inr (.inr (.inr (.inr ee)))))]) (w1 := [(a0, .inr (8, [.int 4, .ref wa0, .ref na0])), (wa0, .inl (cI, 4, .inl fw0))]) hP hD [11, 12] [0, 1, 2, 3, 4, 5, 6, 7, 8, 9, 10] rfl rfl (by decide) (by decide) hk1 hFc hP1 hD1
  clear hPc hDc hFc hDv hpre hP hD hP1 hK1 hD1
  obtain ⟨hP, hD⟩ := hPD9
  replace hz : s.heap.size + 1 ≤ H11.size := by omega
  clear hz2
  replace hP : va_P (dC, dI) vwCl [(mo, .inr (9, [th, .ref al, md, rf, kn])), (na0, .inl (cI, 4, .inl fn0)), (a1, .inr (8, [.int 4, .ref wa1, .ref na1])), (wa1, .inl (cI, 4, .inl fw1)), (na1, .inl (cI, 4, .inl fn1)), (a2, .inr (8, [.int 4, .ref wa2, .ref na2])), (wa2, .inl (cI, 4, .inl fw2)), (na2, .inl (cI, 4, .inl fn2)), (q2, .inl (cI, 3, .inl (upd (fun _ => 0) 0 1))), (al, .inr (4, [mc, .ref ed, .int (nI cc)])), (ed, .inl (cO, 10, .inr (.inr (.inr (.inr ee))))), (a0, .inr (8, [.int 4, .ref wa0, .ref na0])), (wa0, .inl (cI, 4, .inl fw0))] H11 := hP
  replace hD : va_D A [(mo, .inr (9, [th, .ref al, md, rf, kn])), (na0, .inl (cI, 4, .inl fn0)), (a1, .inr (8, [.int 4, .ref wa1, .ref na1])), (wa1, .inl (cI, 4, .inl fw1)), (na1, .inl (cI, 4, .inl fn1)), (a2, .inr (8, [.int 4, .ref wa2, .ref na2])), (wa2, .inl (cI, 4, .inl fw2)), (na2, .inl (cI, 4, .inl fn2)), (q2, .inl (cI, 3, .inl (upd (fun _ => 0) 0 1))), (al, .inr (4, [mc, .ref ed, .int (nI cc)])), (ed, .inl (cO, 10, .inr (.inr (.inr (.inr ee))))), (a0, .inr (8, [.int 4, .ref wa0, .ref na0])), (wa0, .inl (cI, 4, .inl fw0))] := hD
  refine W.widen (k := 1) (n := 3) (by omega) (by omega) ?_
  refine lv_icmp_ge (tgt := 80) hx hb dX4_depthOf_40 (by decide) (fun c9 => ?_) (fun c9 => ?_)
  · exact absurd c9 (by decide)
  refine lv_aload hx hb dX4_depthOf_43 (lv_at hl 1 rfl) ?_
  refine lv_iload hx hb dX4_depthOf_45 (lv_at hl 0 rfl) ?_
  have hPc := hP.sub (ws' := [(a0, .inr (8, [.int 4, .ref wa0, .ref na0])), (wa0, .inl (cI, 4, .inl fw0))]) [11, 12] rfl
  have hDc := hD.sub (ws' := [(a0, .inr (8, [.int 4, .ref wa0, .ref na0])), (wa0, .inl (cI, 4, .inl fw0))]) [11, 12] (by decide) rfl
  have hFc := va_free (wc := [(a0, .inr (8, [.int 4, .ref wa0, .ref na0])), (wa0, .inl (cI, 4, .inl fw0))]) hD hS hA [11, 12] rfl
  have hDv := hDc.self (sz := H11.size)
  have hpre := zpre (xs' := []) (av := [.ref a0, .int 1]) hPc hK (hDc.weaken (fun _ _ _ h => h)) hZ hS hFc (fun r hr => by cases hr)
  refine va_calli (va_runV (As := [.int 1]) (rest := []) ⟨hx, hb, hml, hown, hts⟩ (k_mh1_0 l dC dI cI cB cR cO zk a0 wa0 na0 fw0 H11.size (hw0 1 (by decide))) (cwV 1 hts gX4_depthOf_X3_hangs rfl rfl rfl (by decide +kernel) ⟨Nat.le_of_ble_eq_true rfl, Nat.le_of_ble_eq_true rfl⟩) ⟨zblind, (zrecv_8 hK hPc (q0 := 0) rfl), hpre⟩ rfl rfl hl.1 rfl (lv_room (Nat.le_of_ble_eq_true rfl)) dX4_depthOf_47 ⟨Nat.le_of_ble_eq_true rfl, Nat.le_of_ble_eq_true rfl⟩) hS (fun q _ h => hFc q h) hFc (fun r14 u t H13 locs ht hvm hw hB hz1 hk1 hS => ?_)
  obtain rfl : 0 = r14 := (show r14 = 0 from hw).symm
  obtain ⟨hP1, hK1, hD1, hz2⟩ := hB
  rw [ht] at hP1 hz2
  have hPD9 := va_join (wr := [(mo, .inr (9, [th, .ref al, md, rf, kn])), (na0, .inl (cI, 4, .inl fn0)), (a1, .inr (8, [.int 4, .ref wa1, .ref na1])), (wa1, .inl (cI, 4, .inl fw1)), (na1, .inl (cI, 4, .inl fn1)), (a2, .inr (8, [.int 4, .ref wa2, .ref na2])), (wa2, .inl (cI, 4, .inl fw2)), (na2, .inl (cI, 4, .inl fn2)), (q2, .inl (cI, 3, .inl (upd (fun _ => 0) 0 1))), (al, .inr (4, [mc, .ref ed, .int (nI cc)])), (ed, .inl (cO, 10, .inr (.inr (.inr (.inr ee)))))]) (w1 := [(a0, .inr (8, [.int 4, .ref wa0, .ref na0])), (wa0, .inl (cI, 4, .inl fw0))]) hP hD [11, 12] [0, 1, 2, 3, 4, 5, 6, 7, 8, 9, 10] rfl rfl (by decide) (by decide) hk1 hFc hP1 hD1
  clear hPc hDc hFc hDv hpre hP hD hP1 hK1 hD1
  obtain ⟨hP, hD⟩ := hPD9
  replace hz : s.heap.size + 1 ≤ H13.size := by omega
  clear hz2
  replace hP : va_P (dC, dI) vwCl [(mo, .inr (9, [th, .ref al, md, rf, kn])), (na0, .inl (cI, 4, .inl fn0)), (a1, .inr (8, [.int 4, .ref wa1, .ref na1])), (wa1, .inl (cI, 4, .inl fw1)), (na1, .inl (cI, 4, .inl fn1)), (a2, .inr (8, [.int 4, .ref wa2, .ref na2])), (wa2, .inl (cI, 4, .inl fw2)), (na2, .inl (cI, 4, .inl fn2)), (q2, .inl (cI, 3, .inl (upd (fun _ => 0) 0 1))), (al, .inr (4, [mc, .ref ed, .int (nI cc)])), (ed, .inl (cO, 10, .inr (.inr (.inr (.inr ee))))), (a0, .inr (8, [.int 4, .ref wa0, .ref na0])), (wa0, .inl (cI, 4, .inl fw0))] H13 := hP
  replace hD : va_D A [(mo, .inr (9, [th, .ref al, md, rf, kn])), (na0, .inl (cI, 4, .inl fn0)), (a1, .inr (8, [.int 4, .ref wa1, .ref na1])), (wa1, .inl (cI, 4, .inl fw1)), (na1, .inl (cI, 4, .inl fn1)), (a2, .inr (8, [.int 4, .ref wa2, .ref na2])), (wa2, .inl (cI, 4, .inl fw2)), (na2, .inl (cI, 4, .inl fn2)), (q2, .inl (cI, 3, .inl (upd (fun _ => 0) 0 1))), (al, .inr (4, [mc, .ref ed, .int (nI cc)])), (ed, .inl (cO, 10, .inr (.inr (.inr (.inr ee))))), (a0, .inr (8, [.int 4, .ref wa0, .ref na0])), (wa0, .inl (cI, 4, .inl fw0))] := hD
  refine W.widen (k := 1) (n := 3) (by omega) (by omega) ?_
  refine lv_if_eq (tgt := 74) hx hb dX4_depthOf_50 (by decide) (fun c9 => ?_) (fun c9 => ?_)
  rotate_left
  · exact absurd (by decide) c9
  refine lv_iinc (v := 2) (lv' := [(5, .int 2), (4, .ref a0), (3, .int 0), (2, .ref q2), (0, .ref mo), (1, .int 2)]) hx hb dX4_depthOf_74 hl (k := 0) rfl (by decide) (by decide) rfl (fun ls hl => ?_)
  refine lv_goto (tgt := 33) hx hb dX4_depthOf_77 (by decide) ?_
  refine lv_iload hx hb dX4_depthOf_33 (lv_at hl 0 rfl) ?_
  refine lv_aload hx hb dX4_depthOf_35 (lv_at hl 1 rfl) ?_
  have hPc := hP.sub (ws' := [(a0, .inr (8, [.int 4, .ref wa0, .ref na0])), (wa0, .inl (cI, 4, .inl fw0))]) [11, 12] rfl
  have hDc := hD.sub (ws' := [(a0, .inr (8, [.int 4, .ref wa0, .ref na0])), (wa0, .inl (cI, 4, .inl fw0))]) [11, 12] (by decide) rfl
  have hFc := va_free (wc := [(a0, .inr (8, [.int 4, .ref wa0, .ref na0])), (wa0, .inl (cI, 4, .inl fw0))]) hD hS hA [11, 12] rfl
  have hDv := hDc.self (sz := H13.size)
  have hpre := zpre (xs' := []) (av := [.ref a0]) hPc hK (hDc.weaken (fun _ _ _ h => h)) hZ hS hFc (fun r hr => by cases hr)
  refine va_calli (va_runV (As := []) (rest := [.int 2]) ⟨hx, hb, hml, hown, hts⟩ (k_rlen l dC dI cI cB cR cO zk a0 wa0 na0 fw0 H13.size ) (cwV 0 hts gX4_depthOf_X3_length rfl rfl rfl (by decide +kernel) ⟨Nat.le_of_ble_eq_true rfl, Nat.le_of_ble_eq_true rfl⟩) ⟨zblind, (zrecv_8 hK hPc (q0 := 0) rfl), hpre⟩ rfl rfl hl.1 rfl (lv_room (Nat.le_of_ble_eq_true rfl)) dX4_depthOf_37 ⟨Nat.le_of_ble_eq_true rfl, Nat.le_of_ble_eq_true rfl⟩) hS (fun q _ h => hFc q h) hFc (fun r16 u t H15 locs ht hvm hw hB hz1 hk1 hS => ?_)
  obtain rfl : 4 = r16 := (show r16 = 4 from hw).symm
  obtain ⟨hP1, hK1, hD1, hz2⟩ := hB
  rw [ht] at hP1 hz2
  have hPD9 := va_join (wr := [(mo, .inr (9, [th, .ref al, md, rf, kn])), (na0, .inl (cI, 4, .inl fn0)), (a1, .inr (8, [.int 4, .ref wa1, .ref na1])), (wa1, .inl (cI, 4, .inl fw1)), (na1, .inl (cI, 4, .inl fn1)), (a2, .inr (8, [.int 4, .ref wa2, .ref na2])), (wa2, .inl (cI, 4, .inl fw2)), (na2, .inl (cI, 4, .inl fn2)), (q2, .inl (cI, 3, .inl (upd (fun _ => 0) 0 1))), (al, .inr (4, [mc, .ref ed, .int (nI cc)])), (ed, .inl (cO, 10, .inr (.inr (.inr (.inr ee)))))]) (w1 := [(a0, .inr (8, [.int 4, .ref wa0, .ref na0])), (wa0, .inl (cI, 4, .inl fw0))]) hP hD [11, 12] [0, 1, 2, 3, 4, 5, 6, 7, 8, 9, 10] rfl rfl (by decide) (by decide) hk1 hFc hP1 hD1
  clear hPc hDc hFc hDv hpre hP hD hP1 hK1 hD1
  obtain ⟨hP, hD⟩ := hPD9
  replace hz : s.heap.size + 1 ≤ H15.size := by omega
  clear hz2
  replace hP : va_P (dC, dI) vwCl [(mo, .inr (9, [th, .ref al, md, rf, kn])), (na0, .inl (cI, 4, .inl fn0)), (a1, .inr (8, [.int 4, .ref wa1, .ref na1])), (wa1, .inl (cI, 4, .inl fw1)), (na1, .inl (cI, 4, .inl fn1)), (a2, .inr (8, [.int 4, .ref wa2, .ref na2])), (wa2, .inl (cI, 4, .inl fw2)), (na2, .inl (cI, 4, .inl fn2)), (q2, .inl (cI, 3, .inl (upd (fun _ => 0) 0 1))), (al, .inr (4, [mc, .ref ed, .int (nI cc)])), (ed, .inl (cO, 10, .inr (.inr (.inr (.inr ee))))), (a0, .inr (8, [.int 4, .ref wa0, .ref na0])), (wa0, .inl (cI, 4, .inl fw0))] H15 := hP
  replace hD : va_D A [(mo, .inr (9, [th, .ref al, md, rf, kn])), (na0, .inl (cI, 4, .inl fn0)), (a1, .inr (8, [.int 4, .ref wa1, .ref na1])), (wa1, .inl (cI, 4, .inl fw1)), (na1, .inl (cI, 4, .inl fn1)), (a2, .inr (8, [.int 4, .ref wa2, .ref na2])), (wa2, .inl (cI, 4, .inl fw2)), (na2, .inl (cI, 4, .inl fn2)), (q2, .inl (cI, 3, .inl (upd (fun _ => 0) 0 1))), (al, .inr (4, [mc, .ref ed, .int (nI cc)])), (ed, .inl (cO, 10, .inr (.inr (.inr (.inr ee))))), (a0, .inr (8, [.int 4, .ref wa0, .ref na0])), (wa0, .inl (cI, 4, .inl fw0))] := hD
  refine W.widen (k := 1) (n := 3) (by omega) (by omega) ?_
  refine lv_icmp_ge (tgt := 80) hx hb dX4_depthOf_40 (by decide) (fun c9 => ?_) (fun c9 => ?_)
  · exact absurd c9 (by decide)
  refine lv_aload hx hb dX4_depthOf_43 (lv_at hl 1 rfl) ?_
  refine lv_iload hx hb dX4_depthOf_45 (lv_at hl 0 rfl) ?_
  have hPc := hP.sub (ws' := [(a0, .inr (8, [.int 4, .ref wa0, .ref na0])), (wa0, .inl (cI, 4, .inl fw0))]) [11, 12] rfl
  have hDc := hD.sub (ws' := [(a0, .inr (8, [.int 4, .ref wa0, .ref na0])), (wa0, .inl (cI, 4, .inl fw0))]) [11, 12] (by decide) rfl
  have hFc := va_free (wc := [(a0, .inr (8, [.int 4, .ref wa0, .ref na0])), (wa0, .inl (cI, 4, .inl fw0))]) hD hS hA [11, 12] rfl
  have hDv := hDc.self (sz := H15.size)
  have hpre := zpre (xs' := []) (av := [.ref a0, .int 2]) hPc hK (hDc.weaken (fun _ _ _ h => h)) hZ hS hFc (fun r hr => by cases hr)
  refine va_calli (va_runV (As := [.int 2]) (rest := []) ⟨hx, hb, hml, hown, hts⟩ (k_mh2_0 l dC dI cI cB cR cO zk a0 wa0 na0 fw0 H15.size (hw0 2 (by decide))) (cwV 1 hts gX4_depthOf_X3_hangs rfl rfl rfl (by decide +kernel) ⟨Nat.le_of_ble_eq_true rfl, Nat.le_of_ble_eq_true rfl⟩) ⟨zblind, (zrecv_8 hK hPc (q0 := 0) rfl), hpre⟩ rfl rfl hl.1 rfl (lv_room (Nat.le_of_ble_eq_true rfl)) dX4_depthOf_47 ⟨Nat.le_of_ble_eq_true rfl, Nat.le_of_ble_eq_true rfl⟩) hS (fun q _ h => hFc q h) hFc (fun r18 u t H17 locs ht hvm hw hB hz1 hk1 hS => ?_)
  obtain rfl : 0 = r18 := (show r18 = 0 from hw).symm
  obtain ⟨hP1, hK1, hD1, hz2⟩ := hB
  rw [ht] at hP1 hz2
  have hPD9 := va_join (wr := [(mo, .inr (9, [th, .ref al, md, rf, kn])), (na0, .inl (cI, 4, .inl fn0)), (a1, .inr (8, [.int 4, .ref wa1, .ref na1])), (wa1, .inl (cI, 4, .inl fw1)), (na1, .inl (cI, 4, .inl fn1)), (a2, .inr (8, [.int 4, .ref wa2, .ref na2])), (wa2, .inl (cI, 4, .inl fw2)), (na2, .inl (cI, 4, .inl fn2)), (q2, .inl (cI, 3, .inl (upd (fun _ => 0) 0 1))), (al, .inr (4, [mc, .ref ed, .int (nI cc)])), (ed, .inl (cO, 10, .inr (.inr (.inr (.inr ee)))))]) (w1 := [(a0, .inr (8, [.int 4, .ref wa0, .ref na0])), (wa0, .inl (cI, 4, .inl fw0))]) hP hD [11, 12] [0, 1, 2, 3, 4, 5, 6, 7, 8, 9, 10] rfl rfl (by decide) (by decide) hk1 hFc hP1 hD1
  clear hPc hDc hFc hDv hpre hP hD hP1 hK1 hD1
  obtain ⟨hP, hD⟩ := hPD9
  replace hz : s.heap.size + 1 ≤ H17.size := by omega
  clear hz2
  replace hP : va_P (dC, dI) vwCl [(mo, .inr (9, [th, .ref al, md, rf, kn])), (na0, .inl (cI, 4, .inl fn0)), (a1, .inr (8, [.int 4, .ref wa1, .ref na1])), (wa1, .inl (cI, 4, .inl fw1)), (na1, .inl (cI, 4, .inl fn1)), (a2, .inr (8, [.int 4, .ref wa2, .ref na2])), (wa2, .inl (cI, 4, .inl fw2)), (na2, .inl (cI, 4, .inl fn2)), (q2, .inl (cI, 3, .inl (upd (fun _ => 0) 0 1))), (al, .inr (4, [mc, .ref ed, .int (nI cc)])), (ed, .inl (cO, 10, .inr (.inr (.inr (.inr ee))))), (a0, .inr (8, [.int 4, .ref wa0, .ref na0])), (wa0, .inl (cI, 4, .inl fw0))] H17 := hP
  replace hD : va_D A [(mo, .inr (9, [th, .ref al, md, rf, kn])), (na0, .inl (cI, 4, .inl fn0)), (a1, .inr (8, [.int 4, .ref wa1, .ref na1])), (wa1, .inl (cI, 4, .inl fw1)), (na1, .inl (cI, 4, .inl fn1)), (a2, .inr (8, [.int 4, .ref wa2, .ref na2])), (wa2, .inl (cI, 4, .inl fw2)), (na2, .inl (cI, 4, .inl fn2)), (q2, .inl (cI, 3, .inl (upd (fun _ => 0) 0 1))), (al, .inr (4, [mc, .ref ed, .int (nI cc)])), (ed, .inl (cO, 10, .inr (.inr (.inr (.inr ee))))), (a0, .inr (8, [.int 4, .ref wa0, .ref na0])), (wa0, .inl (cI, 4, .inl fw0))] := hD
  refine W.widen (k := 1) (n := 3) (by omega) (by omega) ?_
  refine lv_if_eq (tgt := 74) hx hb dX4_depthOf_50 (by decide) (fun c9 => ?_) (fun c9 => ?_)
  rotate_left
  · exact absurd (by decide) c9
  refine lv_iinc (v := 3) (lv' := [(5, .int 3), (4, .ref a0), (3, .int 0), (2, .ref q2), (0, .ref mo), (1, .int 2)]) hx hb dX4_depthOf_74 hl (k := 0) rfl (by decide) (by decide) rfl (fun ls hl => ?_)
  refine lv_goto (tgt := 33) hx hb dX4_depthOf_77 (by decide) ?_
  refine lv_iload hx hb dX4_depthOf_33 (lv_at hl 0 rfl) ?_
  refine lv_aload hx hb dX4_depthOf_35 (lv_at hl 1 rfl) ?_
  have hPc := hP.sub (ws' := [(a0, .inr (8, [.int 4, .ref wa0, .ref na0])), (wa0, .inl (cI, 4, .inl fw0))]) [11, 12] rfl
  have hDc := hD.sub (ws' := [(a0, .inr (8, [.int 4, .ref wa0, .ref na0])), (wa0, .inl (cI, 4, .inl fw0))]) [11, 12] (by decide) rfl
  have hFc := va_free (wc := [(a0, .inr (8, [.int 4, .ref wa0, .ref na0])), (wa0, .inl (cI, 4, .inl fw0))]) hD hS hA [11, 12] rfl
  have hDv := hDc.self (sz := H17.size)
  have hpre := zpre (xs' := []) (av := [.ref a0]) hPc hK (hDc.weaken (fun _ _ _ h => h)) hZ hS hFc (fun r hr => by cases hr)
  refine va_calli (va_runV (As := []) (rest := [.int 3]) ⟨hx, hb, hml, hown, hts⟩ (k_rlen l dC dI cI cB cR cO zk a0 wa0 na0 fw0 H17.size ) (cwV 0 hts gX4_depthOf_X3_length rfl rfl rfl (by decide +kernel) ⟨Nat.le_of_ble_eq_true rfl, Nat.le_of_ble_eq_true rfl⟩) ⟨zblind, (zrecv_8 hK hPc (q0 := 0) rfl), hpre⟩ rfl rfl hl.1 rfl (lv_room (Nat.le_of_ble_eq_true rfl)) dX4_depthOf_37 ⟨Nat.le_of_ble_eq_true rfl, Nat.le_of_ble_eq_true rfl⟩) hS (fun q _ h => hFc q h) hFc (fun r20 u t H19 locs ht hvm hw hB hz1 hk1 hS => ?_)
  obtain rfl : 4 = r20 := (show r20 = 4 from hw).symm
  obtain ⟨hP1, hK1, hD1, hz2⟩ := hB
  rw [ht] at hP1 hz2
  have hPD9 := va_join (wr := [(mo, .inr (9, [th, .ref al, md, rf, kn])), (na0, .inl (cI, 4, .inl fn0)), (a1, .inr (8, [.int 4, .ref wa1, .ref na1])), (wa1, .inl (cI, 4, .inl fw1)), (na1, .inl (cI, 4, .inl fn1)), (a2, .inr (8, [.int 4, .ref wa2, .ref na2])), (wa2, .inl (cI, 4, .inl fw2)), (na2, .inl (cI, 4, .inl fn2)), (q2, .inl (cI, 3, .inl (upd (fun _ => 0) 0 1))), (al, .inr (4, [mc, .ref ed, .int (nI cc)])), (ed, .inl (cO, 10, .inr (.inr (.inr (.inr ee)))))]) (w1 := [(a0, .inr (8, [.int 4, .ref wa0, .ref na0])), (wa0, .inl (cI, 4, .inl fw0))]) hP hD [11, 12] [0, 1, 2, 3, 4, 5, 6, 7, 8, 9, 10] rfl rfl (by decide) (by decide) hk1 hFc hP1 hD1
  clear hPc hDc hFc hDv hpre hP hD hP1 hK1 hD1
  obtain ⟨hP, hD⟩ := hPD9
  replace hz : s.heap.size + 1 ≤ H19.size := by omega
  clear hz2
  replace hP : va_P (dC, dI) vwCl [(mo, .inr (9, [th, .ref al, md, rf, kn])), (na0, .inl (cI, 4, .inl fn0)), (a1, .inr (8, [.int 4, .ref wa1, .ref na1])), (wa1, .inl (cI, 4, .inl fw1)), (na1, .inl (cI, 4, .inl fn1)), (a2, .inr (8, [.int 4, .ref wa2, .ref na2])), (wa2, .inl (cI, 4, .inl fw2)), (na2, .inl (cI, 4, .inl fn2)), (q2, .inl (cI, 3, .inl (upd (fun _ => 0) 0 1))), (al, .inr (4, [mc, .ref ed, .int (nI cc)])), (ed, .inl (cO, 10, .inr (.inr (.inr (.inr ee))))), (a0, .inr (8, [.int 4, .ref wa0, .ref na0])), (wa0, .inl (cI, 4, .inl fw0))] H19 := hP
  replace hD : va_D A [(mo, .inr (9, [th, .ref al, md, rf, kn])), (na0, .inl (cI, 4, .inl fn0)), (a1, .inr (8, [.int 4, .ref wa1, .ref na1])), (wa1, .inl (cI, 4, .inl fw1)), (na1, .inl (cI, 4, .inl fn1)), (a2, .inr (8, [.int 4, .ref wa2, .ref na2])), (wa2, .inl (cI, 4, .inl fw2)), (na2, .inl (cI, 4, .inl fn2)), (q2, .inl (cI, 3, .inl (upd (fun _ => 0) 0 1))), (al, .inr (4, [mc, .ref ed, .int (nI cc)])), (ed, .inl (cO, 10, .inr (.inr (.inr (.inr ee))))), (a0, .inr (8, [.int 4, .ref wa0, .ref na0])), (wa0, .inl (cI, 4, .inl fw0))] := hD
  refine W.widen (k := 1) (n := 3) (by omega) (by omega) ?_
  refine lv_icmp_ge (tgt := 80) hx hb dX4_depthOf_40 (by decide) (fun c9 => ?_) (fun c9 => ?_)
  · exact absurd c9 (by decide)
  refine lv_aload hx hb dX4_depthOf_43 (lv_at hl 1 rfl) ?_
  refine lv_iload hx hb dX4_depthOf_45 (lv_at hl 0 rfl) ?_
  have hPc := hP.sub (ws' := [(a0, .inr (8, [.int 4, .ref wa0, .ref na0])), (wa0, .inl (cI, 4, .inl fw0))]) [11, 12] rfl
  have hDc := hD.sub (ws' := [(a0, .inr (8, [.int 4, .ref wa0, .ref na0])), (wa0, .inl (cI, 4, .inl fw0))]) [11, 12] (by decide) rfl
  have hFc := va_free (wc := [(a0, .inr (8, [.int 4, .ref wa0, .ref na0])), (wa0, .inl (cI, 4, .inl fw0))]) hD hS hA [11, 12] rfl
  have hDv := hDc.self (sz := H19.size)
  have hpre := zpre (xs' := []) (av := [.ref a0, .int 3]) hPc hK (hDc.weaken (fun _ _ _ h => h)) hZ hS hFc (fun r hr => by cases hr)
  refine va_calli (va_runV (As := [.int 3]) (rest := []) ⟨hx, hb, hml, hown, hts⟩ (k_mh3_0 l dC dI cI cB cR cO zk a0 wa0 na0 fw0 H19.size (hw0 3 (by decide))) (cwV 1 hts gX4_depthOf_X3_hangs rfl rfl rfl (by decide +kernel) ⟨Nat.le_of_ble_eq_true rfl, Nat.le_of_ble_eq_true rfl⟩) ⟨zblind, (zrecv_8 hK hPc (q0 := 0) rfl), hpre⟩ rfl rfl hl.1 rfl (lv_room (Nat.le_of_ble_eq_true rfl)) dX4_depthOf_47 ⟨Nat.le_of_ble_eq_true rfl, Nat.le_of_ble_eq_true rfl⟩) hS (fun q _ h => hFc q h) hFc (fun r22 u t H21 locs ht hvm hw hB hz1 hk1 hS => ?_)
  obtain rfl : 0 = r22 := (show r22 = 0 from hw).symm
  obtain ⟨hP1, hK1, hD1, hz2⟩ := hB
  rw [ht] at hP1 hz2
  have hPD9 := va_join (wr := [(mo, .inr (9, [th, .ref al, md, rf, kn])), (na0, .inl (cI, 4, .inl fn0)), (a1, .inr (8, [.int 4, .ref wa1, .ref na1])), (wa1, .inl (cI, 4, .inl fw1)), (na1, .inl (cI, 4, .inl fn1)), (a2, .inr (8, [.int 4, .ref wa2, .ref na2])), (wa2, .inl (cI, 4, .inl fw2)), (na2, .inl (cI, 4, .inl fn2)), (q2, .inl (cI, 3, .inl (upd (fun _ => 0) 0 1))), (al, .inr (4, [mc, .ref ed, .int (nI cc)])), (ed, .inl (cO, 10, .inr (.inr (.inr (.inr ee)))))]) (w1 := [(a0, .inr (8, [.int 4, .ref wa0, .ref na0])), (wa0, .inl (cI, 4, .inl fw0))]) hP hD [11, 12] [0, 1, 2, 3, 4, 5, 6, 7, 8, 9, 10] rfl rfl (by decide) (by decide) hk1 hFc hP1 hD1
  clear hPc hDc hFc hDv hpre hP hD hP1 hK1 hD1
  obtain ⟨hP, hD⟩ := hPD9
  replace hz : s.heap.size + 1 ≤ H21.size := by omega
  clear hz2
  replace hP : va_P (dC, dI) vwCl [(mo, .inr (9, [th, .ref al, md, rf, kn])), (na0, .inl (cI, 4, .inl fn0)), (a1, .inr (8, [.int 4, .ref wa1, .ref na1])), (wa1, .inl (cI, 4, .inl fw1)), (na1, .inl (cI, 4, .inl fn1)), (a2, .inr (8, [.int 4, .ref wa2, .ref na2])), (wa2, .inl (cI, 4, .inl fw2)), (na2, .inl (cI, 4, .inl fn2)), (q2, .inl (cI, 3, .inl (upd (fun _ => 0) 0 1))), (al, .inr (4, [mc, .ref ed, .int (nI cc)])), (ed, .inl (cO, 10, .inr (.inr (.inr (.inr ee))))), (a0, .inr (8, [.int 4, .ref wa0, .ref na0])), (wa0, .inl (cI, 4, .inl fw0))] H21 := hP
  replace hD : va_D A [(mo, .inr (9, [th, .ref al, md, rf, kn])), (na0, .inl (cI, 4, .inl fn0)), (a1, .inr (8, [.int 4, .ref wa1, .ref na1])), (wa1, .inl (cI, 4, .inl fw1)), (na1, .inl (cI, 4, .inl fn1)), (a2, .inr (8, [.int 4, .ref wa2, .ref na2])), (wa2, .inl (cI, 4, .inl fw2)), (na2, .inl (cI, 4, .inl fn2)), (q2, .inl (cI, 3, .inl (upd (fun _ => 0) 0 1))), (al, .inr (4, [mc, .ref ed, .int (nI cc)])), (ed, .inl (cO, 10, .inr (.inr (.inr (.inr ee))))), (a0, .inr (8, [.int 4, .ref wa0, .ref na0])), (wa0, .inl (cI, 4, .inl fw0))] := hD
  refine W.widen (k := 1) (n := 3) (by omega) (by omega) ?_
  refine lv_if_eq (tgt := 74) hx hb dX4_depthOf_50 (by decide) (fun c9 => ?_) (fun c9 => ?_)
  rotate_left
  · exact absurd (by decide) c9
  refine lv_iinc (v := 4) (lv' := [(5, .int 4), (4, .ref a0), (3, .int 0), (2, .ref q2), (0, .ref mo), (1, .int 2)]) hx hb dX4_depthOf_74 hl (k := 0) rfl (by decide) (by decide) rfl (fun ls hl => ?_)
  refine lv_goto (tgt := 33) hx hb dX4_depthOf_77 (by decide) ?_
  refine lv_iload hx hb dX4_depthOf_33 (lv_at hl 0 rfl) ?_
  refine lv_aload hx hb dX4_depthOf_35 (lv_at hl 1 rfl) ?_
  have hPc := hP.sub (ws' := [(a0, .inr (8, [.int 4, .ref wa0, .ref na0])), (wa0, .inl (cI, 4, .inl fw0))]) [11, 12] rfl
  have hDc := hD.sub (ws' := [(a0, .inr (8, [.int 4, .ref wa0, .ref na0])), (wa0, .inl (cI, 4, .inl fw0))]) [11, 12] (by decide) rfl
  have hFc := va_free (wc := [(a0, .inr (8, [.int 4, .ref wa0, .ref na0])), (wa0, .inl (cI, 4, .inl fw0))]) hD hS hA [11, 12] rfl
  have hDv := hDc.self (sz := H21.size)
  have hpre := zpre (xs' := []) (av := [.ref a0]) hPc hK (hDc.weaken (fun _ _ _ h => h)) hZ hS hFc (fun r hr => by cases hr)
  refine va_calli (va_runV (As := []) (rest := [.int 4]) ⟨hx, hb, hml, hown, hts⟩ (k_rlen l dC dI cI cB cR cO zk a0 wa0 na0 fw0 H21.size ) (cwV 0 hts gX4_depthOf_X3_length rfl rfl rfl (by decide +kernel) ⟨Nat.le_of_ble_eq_true rfl, Nat.le_of_ble_eq_true rfl⟩) ⟨zblind, (zrecv_8 hK hPc (q0 := 0) rfl), hpre⟩ rfl rfl hl.1 rfl (lv_room (Nat.le_of_ble_eq_true rfl)) dX4_depthOf_37 ⟨Nat.le_of_ble_eq_true rfl, Nat.le_of_ble_eq_true rfl⟩) hS (fun q _ h => hFc q h) hFc (fun r24 u t H23 locs ht hvm hw hB hz1 hk1 hS => ?_)
  obtain rfl : 4 = r24 := (show r24 = 4 from hw).symm
  obtain ⟨hP1, hK1, hD1, hz2⟩ := hB
  rw [ht] at hP1 hz2
  have hPD9 := va_join (wr := [(mo, .inr (9, [th, .ref al, md, rf, kn])), (na0, .inl (cI, 4, .inl fn0)), (a1, .inr (8, [.int 4, .ref wa1, .ref na1])), (wa1, .inl (cI, 4, .inl fw1)), (na1, .inl (cI, 4, .inl fn1)), (a2, .inr (8, [.int 4, .ref wa2, .ref na2])), (wa2, .inl (cI, 4, .inl fw2)), (na2, .inl (cI, 4, .inl fn2)), (q2, .inl (cI, 3, .inl (upd (fun _ => 0) 0 1))), (al, .inr (4, [mc, .ref ed, .int (nI cc)])), (ed, .inl (cO, 10, .inr (.inr (.inr (.inr ee)))))]) (w1 := [(a0, .inr (8, [.int 4, .ref wa0, .ref na0])), (wa0, .inl (cI, 4, .inl fw0))]) hP hD [11, 12] [0, 1, 2, 3, 4, 5, 6, 7, 8, 9, 10] rfl rfl (by decide) (by decide) hk1 hFc hP1 hD1
  clear hPc hDc hFc hDv hpre hP hD hP1 hK1 hD1
  obtain ⟨hP, hD⟩ := hPD9
  replace hz : s.heap.size + 1 ≤ H23.size := by omega
  clear hz2
  replace hP : va_P (dC, dI) vwCl [(mo, .inr (9, [th, .ref al, md, rf, kn])), (na0, .inl (cI, 4, .inl fn0)), (a1, .inr (8, [.int 4, .ref wa1, .ref na1])), (wa1, .inl (cI, 4, .inl fw1)), (na1, .inl (cI, 4, .inl fn1)), (a2, .inr (8, [.int 4, .ref wa2, .ref na2])), (wa2, .inl (cI, 4, .inl fw2)), (na2, .inl (cI, 4, .inl fn2)), (q2, .inl (cI, 3, .inl (upd (fun _ => 0) 0 1))), (al, .inr (4, [mc, .ref ed, .int (nI cc)])), (ed, .inl (cO, 10, .inr (.inr (.inr (.inr ee))))), (a0, .inr (8, [.int 4, .ref wa0, .ref na0])), (wa0, .inl (cI, 4, .inl fw0))] H23 := hP
  replace hD : va_D A [(mo, .inr (9, [th, .ref al, md, rf, kn])), (na0, .inl (cI, 4, .inl fn0)), (a1, .inr (8, [.int 4, .ref wa1, .ref na1])), (wa1, .inl (cI, 4, .inl fw1)), (na1, .inl (cI, 4, .inl fn1)), (a2, .inr (8, [.int 4, .ref wa2, .ref na2])), (wa2, .inl (cI, 4, .inl fw2)), (na2, .inl (cI, 4, .inl fn2)), (q2, .inl (cI, 3, .inl (upd (fun _ => 0) 0 1))), (al, .inr (4, [mc, .ref ed, .int (nI cc)])), (ed, .inl (cO, 10, .inr (.inr (.inr (.inr ee))))), (a0, .inr (8, [.int 4, .ref wa0, .ref na0])), (wa0, .inl (cI, 4, .inl fw0))] := hD
  refine W.widen (k := 1) (n := 3) (by omega) (by omega) ?_
  refine lv_icmp_ge (tgt := 80) hx hb dX4_depthOf_40 (by decide) (fun c9 => ?_) (fun c9 => ?_)
  rotate_left
  · exact absurd (by decide) c9
  refine lv_iinc (v := 1) (lv' := [(3, .int 1), (5, .int 4), (4, .ref a0), (2, .ref q2), (0, .ref mo), (1, .int 2)]) hx hb dX4_depthOf_80 hl (k := 2) rfl (by decide) (by decide) rfl (fun ls hl => ?_)
  refine lv_goto (tgt := 8) hx hb dX4_depthOf_83 (by decide) ?_
  refine lv_iload_n hx hb dX4_depthOf_8 rfl (lv_at hl 0 rfl) ?_
  refine lv_iload_n hx hb dX4_depthOf_9 rfl (lv_at hl 5 rfl) ?_
  refine lv_icmp_gt (tgt := 86) hx hb dX4_depthOf_10 (by decide) (fun c9 => ?_) (fun c9 => ?_)
  · exact absurd c9 (by decide)
  refine lv_aload_n hx hb dX4_depthOf_13 rfl (lv_at hl 4 rfl) ?_
  refine va_get (D := (dC, dI)) (ci := 9) (v := .ref al) (C := RX4) (T := TX4) (N := 5) hx hb hts hi_X4_depthOf_X4 hown hK hP 0 rfl rfl 1 (by decide) (hts (.fieldLink RX4 10 "DeeprowsModel" "rows" "Ljava/util/ArrayList;") (List.mem_cons_of_mem _ zw_1134)) (fun _ h9 => h9) rfl dX4_depthOf_14 ?_
  refine lv_iload_n hx hb dX4_depthOf_17 rfl (lv_at hl 0 rfl) ?_
  have hPc := hP.sub (ws' := [(al, .inr (4, [mc, .ref ed, .int (nI cc)])), (ed, .inl (cO, 10, .inr (.inr (.inr (.inr ee)))))]) [9, 10] rfl
  have hDc := hD.sub (ws' := [(al, .inr (4, [mc, .ref ed, .int (nI cc)])), (ed, .inl (cO, 10, .inr (.inr (.inr (.inr ee)))))]) [9, 10] (by decide) rfl
  have hFc := va_free (wc := [(al, .inr (4, [mc, .ref ed, .int (nI cc)])), (ed, .inl (cO, 10, .inr (.inr (.inr (.inr ee)))))]) hD hS hA [9, 10] rfl
  have hDv := hDc.self (sz := H23.size)
  have hpre := zpre (xs' := []) (av := [.ref al, .int 1]) hPc hK (hDc.weaken (fun _ _ _ h => h)) hZ hS hFc (fun r hr => by cases hr)
  refine va_callr (va_runV (As := [.int 1]) (rest := []) ⟨hx, hb, hml, hown, hts⟩ (k_get l dC dI cI cB cR cO zk al ed 1 cc 10 a1 ee mc H23.size (by omega) hcc2 (by decide) he1) (cwV 1 hts gX4_depthOf_Jx4a65c_get_915e3 rfl rfl rfl (by decide +kernel) ⟨Nat.le_of_ble_eq_true rfl, Nat.le_of_ble_eq_true rfl⟩) ⟨zblind, (zrecv_4 hK hPc (q0 := 0) rfl), hpre⟩ rfl rfl hl.1 rfl (lv_room (Nat.le_of_ble_eq_true rfl)) dX4_depthOf_18 ⟨Nat.le_of_ble_eq_true rfl, Nat.le_of_ble_eq_true rfl⟩) hS (fun q _ h => hFc q h) hFc (fun u r26 t H25 locs ht hvm hw hB hz1 hk1 hS => ?_)
  obtain ⟨⟨hP1, hK1, hD1, hz2⟩, her26⟩ := hB
  rw [ht] at hP1 hz2
  have hPD9 := va_join (wr := [(mo, .inr (9, [th, .ref al, md, rf, kn])), (na0, .inl (cI, 4, .inl fn0)), (a1, .inr (8, [.int 4, .ref wa1, .ref na1])), (wa1, .inl (cI, 4, .inl fw1)), (na1, .inl (cI, 4, .inl fn1)), (a2, .inr (8, [.int 4, .ref wa2, .ref na2])), (wa2, .inl (cI, 4, .inl fw2)), (na2, .inl (cI, 4, .inl fn2)), (q2, .inl (cI, 3, .inl (upd (fun _ => 0) 0 1))), (a0, .inr (8, [.int 4, .ref wa0, .ref na0])), (wa0, .inl (cI, 4, .inl fw0))]) (w1 := [(al, .inr (4, [mc, .ref ed, .int (nI cc)])), (ed, .inl (cO, 10, .inr (.inr (.inr (.inr ee)))))]) hP hD [9, 10] [0, 1, 2, 3, 4, 5, 6, 7, 8, 11, 12] rfl rfl (by decide) (by decide) hk1 hFc hP1 hD1
  clear hPc hDc hFc hDv hpre hP hD hP1 hK1 hD1
  obtain ⟨hP, hD⟩ := hPD9
  replace hz : s.heap.size + 1 ≤ H25.size := by omega
  clear hz2
  replace hP : va_P (dC, dI) vwCl [(mo, .inr (9, [th, .ref al, md, rf, kn])), (na0, .inl (cI, 4, .inl fn0)), (a1, .inr (8, [.int 4, .ref wa1, .ref na1])), (wa1, .inl (cI, 4, .inl fw1)), (na1, .inl (cI, 4, .inl fn1)), (a2, .inr (8, [.int 4, .ref wa2, .ref na2])), (wa2, .inl (cI, 4, .inl fw2)), (na2, .inl (cI, 4, .inl fn2)), (q2, .inl (cI, 3, .inl (upd (fun _ => 0) 0 1))), (a0, .inr (8, [.int 4, .ref wa0, .ref na0])), (wa0, .inl (cI, 4, .inl fw0)), (al, .inr (4, [mc, .ref ed, .int (nI cc)])), (ed, .inl (cO, 10, .inr (.inr (.inr (.inr ee)))))] H25 := hP
  replace hD : va_D A [(mo, .inr (9, [th, .ref al, md, rf, kn])), (na0, .inl (cI, 4, .inl fn0)), (a1, .inr (8, [.int 4, .ref wa1, .ref na1])), (wa1, .inl (cI, 4, .inl fw1)), (na1, .inl (cI, 4, .inl fn1)), (a2, .inr (8, [.int 4, .ref wa2, .ref na2])), (wa2, .inl (cI, 4, .inl fw2)), (na2, .inl (cI, 4, .inl fn2)), (q2, .inl (cI, 3, .inl (upd (fun _ => 0) 0 1))), (a0, .inr (8, [.int 4, .ref wa0, .ref na0])), (wa0, .inl (cI, 4, .inl fw0)), (al, .inr (4, [mc, .ref ed, .int (nI cc)])), (ed, .inl (cO, 10, .inr (.inr (.inr (.inr ee)))))] := hD
  refine W.widen (k := 1) (n := 3) (by omega) (by omega) ?_
  obtain rfl := her26.symm
  refine va_castE hx hb hown (hts (.classLink RX4 40 "DeeprowsModel$Row") (List.mem_cons_of_mem _ zw_1165)) (zrecv_8 hK hP (q0 := 2) rfl) dX4_depthOf_21 ?_
  refine lv_astore (lv' := [(4, .ref a1), (3, .int 1), (5, .int 4), (2, .ref q2), (0, .ref mo), (1, .int 2)]) hx hb dX4_depthOf_24 hl (by decide) rfl (fun ls hl => ?_)
  refine lv_aload_n hx hb dX4_depthOf_26 rfl (lv_at hl 3 rfl) ?_
  refine lv_iload_n hx hb dX4_depthOf_27 rfl (lv_at hl 1 rfl) ?_
  refine lv_iconst (v := 1) hx hb dX4_depthOf_28 (by decide) ?_
  refine va_iast (D := (dC, dI)) (cl := vwCl) hx hb hK hP hD (zS0 hS) 8 0 rfl rfl (by unfold vp_in; decide) dX4_depthOf_29 (fun H27 locs hP hD hS1 => ?_)
  have hz : s.heap.size + 1 ≤ H27.size := Nat.le_trans hz hS1.1
  have hS := zSS hS hS1
  replace hP : va_P (dC, dI) vwCl [(mo, .inr (9, [th, .ref al, md, rf, kn])), (na0, .inl (cI, 4, .inl fn0)), (a1, .inr (8, [.int 4, .ref wa1, .ref na1])), (wa1, .inl (cI, 4, .inl fw1)), (na1, .inl (cI, 4, .inl fn1)), (a2, .inr (8, [.int 4, .ref wa2, .ref na2])), (wa2, .inl (cI, 4, .inl fw2)), (na2, .inl (cI, 4, .inl fn2)), (q2, .inl (cI, 3, .inl (upd (upd (fun _ => 0) 0 1) 1 1))), (a0, .inr (8, [.int 4, .ref wa0, .ref na0])), (wa0, .inl (cI, 4, .inl fw0)), (al, .inr (4, [mc, .ref ed, .int (nI cc)])), (ed, .inl (cO, 10, .inr (.inr (.inr (.inr ee)))))] H27 := hP
  replace hD : va_D A [(mo, .inr (9, [th, .ref al, md, rf, kn])), (na0, .inl (cI, 4, .inl fn0)), (a1, .inr (8, [.int 4, .ref wa1, .ref na1])), (wa1, .inl (cI, 4, .inl fw1)), (na1, .inl (cI, 4, .inl fn1)), (a2, .inr (8, [.int 4, .ref wa2, .ref na2])), (wa2, .inl (cI, 4, .inl fw2)), (na2, .inl (cI, 4, .inl fn2)), (q2, .inl (cI, 3, .inl (upd (upd (fun _ => 0) 0 1) 1 1))), (a0, .inr (8, [.int 4, .ref wa0, .ref na0])), (wa0, .inl (cI, 4, .inl fw0)), (al, .inr (4, [mc, .ref ed, .int (nI cc)])), (ed, .inl (cO, 10, .inr (.inr (.inr (.inr ee)))))] := hD
  refine lv_iconst (v := 0) hx hb dX4_depthOf_30 (by decide) ?_
  refine lv_istore (lv' := [(5, .int 0), (4, .ref a1), (3, .int 1), (2, .ref q2), (0, .ref mo), (1, .int 2)]) hx hb dX4_depthOf_31 hl (by decide) rfl (fun ls hl => ?_)
  refine lv_iload hx hb dX4_depthOf_33 (lv_at hl 0 rfl) ?_
  refine lv_aload hx hb dX4_depthOf_35 (lv_at hl 1 rfl) ?_
  have hPc := hP.sub (ws' := [(a1, .inr (8, [.int 4, .ref wa1, .ref na1])), (wa1, .inl (cI, 4, .inl fw1))]) [2, 3] rfl
  have hDc := hD.sub (ws' := [(a1, .inr (8, [.int 4, .ref wa1, .ref na1])), (wa1, .inl (cI, 4, .inl fw1))]) [2, 3] (by decide) rfl
  have hFc := va_free (wc := [(a1, .inr (8, [.int 4, .ref wa1, .ref na1])), (wa1, .inl (cI, 4, .inl fw1))]) hD hS hA [2, 3] rfl
  have hDv := hDc.self (sz := H27.size)
  have hpre := zpre (xs' := []) (av := [.ref a1]) hPc hK (hDc.weaken (fun _ _ _ h => h)) hZ hS hFc (fun r hr => by cases hr)
  refine va_calli (va_runV (As := []) (rest := [.int 0]) ⟨hx, hb, hml, hown, hts⟩ (k_rlen l dC dI cI cB cR cO zk a1 wa1 na1 fw1 H27.size ) (cwV 0 hts gX4_depthOf_X3_length rfl rfl rfl (by decide +kernel) ⟨Nat.le_of_ble_eq_true rfl, Nat.le_of_ble_eq_true rfl⟩) ⟨zblind, (zrecv_8 hK hPc (q0 := 0) rfl), hpre⟩ rfl rfl hl.1 rfl (lv_room (Nat.le_of_ble_eq_true rfl)) dX4_depthOf_37 ⟨Nat.le_of_ble_eq_true rfl, Nat.le_of_ble_eq_true rfl⟩) hS (fun q _ h => hFc q h) hFc (fun r29 u t H28 locs ht hvm hw hB hz1 hk1 hS => ?_)
  obtain rfl : 4 = r29 := (show r29 = 4 from hw).symm
  obtain ⟨hP1, hK1, hD1, hz2⟩ := hB
  rw [ht] at hP1 hz2
  have hPD9 := va_join (wr := [(mo, .inr (9, [th, .ref al, md, rf, kn])), (na0, .inl (cI, 4, .inl fn0)), (na1, .inl (cI, 4, .inl fn1)), (a2, .inr (8, [.int 4, .ref wa2, .ref na2])), (wa2, .inl (cI, 4, .inl fw2)), (na2, .inl (cI, 4, .inl fn2)), (q2, .inl (cI, 3, .inl (upd (upd (fun _ => 0) 0 1) 1 1))), (a0, .inr (8, [.int 4, .ref wa0, .ref na0])), (wa0, .inl (cI, 4, .inl fw0)), (al, .inr (4, [mc, .ref ed, .int (nI cc)])), (ed, .inl (cO, 10, .inr (.inr (.inr (.inr ee)))))]) (w1 := [(a1, .inr (8, [.int 4, .ref wa1, .ref na1])), (wa1, .inl (cI, 4, .inl fw1))]) hP hD [2, 3] [0, 1, 4, 5, 6, 7, 8, 9, 10, 11, 12] rfl rfl (by decide) (by decide) hk1 hFc hP1 hD1
  clear hPc hDc hFc hDv hpre hP hD hP1 hK1 hD1
  obtain ⟨hP, hD⟩ := hPD9
  replace hz : s.heap.size + 1 ≤ H28.size := by omega
  clear hz2
  replace hP : va_P (dC, dI) vwCl [(mo, .inr (9, [th, .ref al, md, rf, kn])), (na0, .inl (cI, 4, .inl fn0)), (na1, .inl (cI, 4, .inl fn1)), (a2, .inr (8, [.int 4, .ref wa2, .ref na2])), (wa2, .inl (cI, 4, .inl fw2)), (na2, .inl (cI, 4, .inl fn2)), (q2, .inl (cI, 3, .inl (upd (upd (fun _ => 0) 0 1) 1 1))), (a0, .inr (8, [.int 4, .ref wa0, .ref na0])), (wa0, .inl (cI, 4, .inl fw0)), (al, .inr (4, [mc, .ref ed, .int (nI cc)])), (ed, .inl (cO, 10, .inr (.inr (.inr (.inr ee))))), (a1, .inr (8, [.int 4, .ref wa1, .ref na1])), (wa1, .inl (cI, 4, .inl fw1))] H28 := hP
  replace hD : va_D A [(mo, .inr (9, [th, .ref al, md, rf, kn])), (na0, .inl (cI, 4, .inl fn0)), (na1, .inl (cI, 4, .inl fn1)), (a2, .inr (8, [.int 4, .ref wa2, .ref na2])), (wa2, .inl (cI, 4, .inl fw2)), (na2, .inl (cI, 4, .inl fn2)), (q2, .inl (cI, 3, .inl (upd (upd (fun _ => 0) 0 1) 1 1))), (a0, .inr (8, [.int 4, .ref wa0, .ref na0])), (wa0, .inl (cI, 4, .inl fw0)), (al, .inr (4, [mc, .ref ed, .int (nI cc)])), (ed, .inl (cO, 10, .inr (.inr (.inr (.inr ee))))), (a1, .inr (8, [.int 4, .ref wa1, .ref na1])), (wa1, .inl (cI, 4, .inl fw1))] := hD
  refine W.widen (k := 1) (n := 3) (by omega) (by omega) ?_
  refine lv_icmp_ge (tgt := 80) hx hb dX4_depthOf_40 (by decide) (fun c9 => ?_) (fun c9 => ?_)
  · exact absurd c9 (by decide)
  refine lv_aload hx hb dX4_depthOf_43 (lv_at hl 1 rfl) ?_
  refine lv_iload hx hb dX4_depthOf_45 (lv_at hl 0 rfl) ?_
  have hPc := hP.sub (ws' := [(a1, .inr (8, [.int 4, .ref wa1, .ref na1])), (wa1, .inl (cI, 4, .inl fw1))]) [11, 12] rfl
  have hDc := hD.sub (ws' := [(a1, .inr (8, [.int 4, .ref wa1, .ref na1])), (wa1, .inl (cI, 4, .inl fw1))]) [11, 12] (by decide) rfl
  have hFc := va_free (wc := [(a1, .inr (8, [.int 4, .ref wa1, .ref na1])), (wa1, .inl (cI, 4, .inl fw1))]) hD hS hA [11, 12] rfl
  have hDv := hDc.self (sz := H28.size)
  have hpre := zpre (xs' := []) (av := [.ref a1, .int 0]) hPc hK (hDc.weaken (fun _ _ _ h => h)) hZ hS hFc (fun r hr => by cases hr)
  refine va_calli (va_runV (As := [.int 0]) (rest := []) ⟨hx, hb, hml, hown, hts⟩ (k_mh0_3 l dC dI cI cB cR cO zk a1 wa1 na1 fw1 H28.size (hw1 0 (by decide))) (cwV 1 hts gX4_depthOf_X3_hangs rfl rfl rfl (by decide +kernel) ⟨Nat.le_of_ble_eq_true rfl, Nat.le_of_ble_eq_true rfl⟩) ⟨zblind, (zrecv_8 hK hPc (q0 := 0) rfl), hpre⟩ rfl rfl hl.1 rfl (lv_room (Nat.le_of_ble_eq_true rfl)) dX4_depthOf_47 ⟨Nat.le_of_ble_eq_true rfl, Nat.le_of_ble_eq_true rfl⟩) hS (fun q _ h => hFc q h) hFc (fun r31 u t H30 locs ht hvm hw hB hz1 hk1 hS => ?_)
  obtain rfl : 1 = r31 := (show r31 = 1 from hw).symm
  obtain ⟨hP1, hK1, hD1, hz2⟩ := hB
  rw [ht] at hP1 hz2
  have hPD9 := va_join (wr := [(mo, .inr (9, [th, .ref al, md, rf, kn])), (na0, .inl (cI, 4, .inl fn0)), (na1, .inl (cI, 4, .inl fn1)), (a2, .inr (8, [.int 4, .ref wa2, .ref na2])), (wa2, .inl (cI, 4, .inl fw2)), (na2, .inl (cI, 4, .inl fn2)), (q2, .inl (cI, 3, .inl (upd (upd (fun _ => 0) 0 1) 1 1))), (a0, .inr (8, [.int 4, .ref wa0, .ref na0])), (wa0, .inl (cI, 4, .inl fw0)), (al, .inr (4, [mc, .ref ed, .int (nI cc)])), (ed, .inl (cO, 10, .inr (.inr (.inr (.inr ee)))))]) (w1 := [(a1, .inr (8, [.int 4, .ref wa1, .ref na1])), (wa1, .inl (cI, 4, .inl fw1))]) hP hD [11, 12] [0, 1, 2, 3, 4, 5, 6, 7, 8, 9, 10] rfl rfl (by decide) (by decide) hk1 hFc hP1 hD1
  clear hPc hDc hFc hDv hpre hP hD hP1 hK1 hD1
  obtain ⟨hP, hD⟩ := hPD9
  replace hz : s.heap.size + 1 ≤ H30.size := by omega
  clear hz2
  replace hP : va_P (dC, dI) vwCl [(mo, .inr (9, [th, .ref al, md, rf, kn])), (na0, .inl (cI, 4, .inl fn0)), (na1, .inl (cI, 4, .inl fn1)), (a2, .inr (8, [.int 4, .ref wa2, .ref na2])), (wa2, .inl (cI, 4, .inl fw2)), (na2, .inl (cI, 4, .inl fn2)), (q2, .inl (cI, 3, .inl (upd (upd (fun _ => 0) 0 1) 1 1))), (a0, .inr (8, [.int 4, .ref wa0, .ref na0])), (wa0, .inl (cI, 4, .inl fw0)), (al, .inr (4, [mc, .ref ed, .int (nI cc)])), (ed, .inl (cO, 10, .inr (.inr (.inr (.inr ee))))), (a1, .inr (8, [.int 4, .ref wa1, .ref na1])), (wa1, .inl (cI, 4, .inl fw1))] H30 := hP
  replace hD : va_D A [(mo, .inr (9, [th, .ref al, md, rf, kn])), (na0, .inl (cI, 4, .inl fn0)), (na1, .inl (cI, 4, .inl fn1)), (a2, .inr (8, [.int 4, .ref wa2, .ref na2])), (wa2, .inl (cI, 4, .inl fw2)), (na2, .inl (cI, 4, .inl fn2)), (q2, .inl (cI, 3, .inl (upd (upd (fun _ => 0) 0 1) 1 1))), (a0, .inr (8, [.int 4, .ref wa0, .ref na0])), (wa0, .inl (cI, 4, .inl fw0)), (al, .inr (4, [mc, .ref ed, .int (nI cc)])), (ed, .inl (cO, 10, .inr (.inr (.inr (.inr ee))))), (a1, .inr (8, [.int 4, .ref wa1, .ref na1])), (wa1, .inl (cI, 4, .inl fw1))] := hD
  refine W.widen (k := 1) (n := 3) (by omega) (by omega) ?_
  refine lv_if_eq (tgt := 74) hx hb dX4_depthOf_50 (by decide) (fun c9 => ?_) (fun c9 => ?_)
  · exact absurd c9 (by decide)
  refine lv_aload_n hx hb dX4_depthOf_53 rfl (lv_at hl 3 rfl) ?_
  refine lv_iload_n hx hb dX4_depthOf_54 rfl (lv_at hl 2 rfl) ?_
  refine lv_aload_n hx hb dX4_depthOf_55 rfl (lv_at hl 3 rfl) ?_
  refine lv_iload_n hx hb dX4_depthOf_56 rfl (lv_at hl 2 rfl) ?_
  refine va_iald (D := (dC, dI)) (cl := vwCl) hx hb hK hP 6 0 rfl rfl (by unfold vp_in; decide) dX4_depthOf_57 ?_
  refine lv_topi (fun v32 ev32 => ?_)
  obtain rfl : v32 = 1 := ev32.trans (rfl)
  refine lv_iconst (v := 1) hx hb dX4_depthOf_58 (by decide) ?_
  refine lv_aload_n hx hb dX4_depthOf_59 rfl (lv_at hl 3 rfl) ?_
  refine lv_aload hx hb dX4_depthOf_60 (lv_at hl 1 rfl) ?_
  refine va_get (D := (dC, dI)) (ci := 8) (v := .ref na1) (C := RX3) (T := TX3) (N := 3) hx hb hts hi_X4_depthOf_X3 hown hK hP 11 rfl rfl 2 (by decide) (hts (.fieldLink RX4 48 "DeeprowsModel$Row" "numbers" "[I") (List.mem_cons_of_mem _ zw_1180)) (fun _ h9 => h9) rfl dX4_depthOf_62 ?_
  refine lv_iload hx hb dX4_depthOf_65 (lv_at hl 0 rfl) ?_
  refine va_iald (D := (dC, dI)) (cl := vwCl) hx hb hK hP 2 0 rfl rfl (by unfold vp_in; decide) dX4_depthOf_67 ?_
  refine lv_topi (fun v33 ev33 => ?_)
  obtain rfl : v33 = 0 := ev33.trans (hn1 0 (by decide))
  refine va_iald (D := (dC, dI)) (cl := vwCl) hx hb hK hP 6 0 rfl rfl (by unfold vp_in; decide) dX4_depthOf_68 ?_
  refine lv_topi (fun v34 ev34 => ?_)
  obtain rfl : v34 = 1 := ev34.trans (rfl)
  refine lv_iadd hx hb dX4_depthOf_69 ?_
  refine lv_topi (fun v35 ev35 => ?_)
  obtain rfl : v35 = 2 := ev35.trans (by decide)
  refine va_mmax (x := 1) (y := 2) hx hb (hml.trans hl.1.symm) hown (hts (.methodLink RX4 52 Lib.Math.max.name) (List.mem_cons_of_mem _ zw_1264)) (hts (.static Lib.Math.max.name) (List.mem_cons_of_mem _ zw_271)) (hts (.initialized "java/lang/Math") (List.mem_cons_of_mem _ zw_58)) (hts (.code Lib.Math.max.name Lib.Math.max.code 2 (some .int)) (List.mem_cons_of_mem _ zw_272)) (Nat.le_of_ble_eq_true rfl) (Nat.le_of_ble_eq_true rfl) (Nat.le_of_ble_eq_true rfl) (Nat.le_of_ble_eq_true rfl) dX4_depthOf_70 ?_
  refine lv_topi (fun v36 ev36 => ?_)
  obtain rfl : v36 = 2 := ev36.trans (by decide)
  refine va_iast (D := (dC, dI)) (cl := vwCl) hx hb hK hP hD (zS0 hS) 6 0 rfl rfl (by unfold vp_in; decide) dX4_depthOf_73 (fun H37 locs hP hD hS1 => ?_)
  have hz : s.heap.size + 1 ≤ H37.size := Nat.le_trans hz hS1.1
  have hS := zSS hS hS1
  replace hP : va_P (dC, dI) vwCl [(mo, .inr (9, [th, .ref al, md, rf, kn])), (na0, .inl (cI, 4, .inl fn0)), (na1, .inl (cI, 4, .inl fn1)), (a2, .inr (8, [.int 4, .ref wa2, .ref na2])), (wa2, .inl (cI, 4, .inl fw2)), (na2, .inl (cI, 4, .inl fn2)), (q2, .inl (cI, 3, .inl (upd (upd (upd (fun _ => 0) 0 1) 1 1) 1 2))), (a0, .inr (8, [.int 4, .ref wa0, .ref na0])), (wa0, .inl (cI, 4, .inl fw0)), (al, .inr (4, [mc, .ref ed, .int (nI cc)])), (ed, .inl (cO, 10, .inr (.inr (.inr (.inr ee))))), (a1, .inr (8, [.int 4, .ref wa1, .ref na1])), (wa1, .inl (cI, 4, .inl fw1))] H37 := hP
  replace hD : va_D A [(mo, .inr (9, [th, .ref al, md, rf, kn])), (na0, .inl (cI, 4, .inl fn0)), (na1, .inl (cI, 4, .inl fn1)), (a2, .inr (8, [.int 4, .ref wa2, .ref na2])), (wa2, .inl (cI, 4, .inl fw2)), (na2, .inl (cI, 4, .inl fn2)), (q2, .inl (cI, 3, .inl (upd (upd (upd (fun _ => 0) 0 1) 1 1) 1 2))), (a0, .inr (8, [.int 4, .ref wa0, .ref na0])), (wa0, .inl (cI, 4, .inl fw0)), (al, .inr (4, [mc, .ref ed, .int (nI cc)])), (ed, .inl (cO, 10, .inr (.inr (.inr (.inr ee))))), (a1, .inr (8, [.int 4, .ref wa1, .ref na1])), (wa1, .inl (cI, 4, .inl fw1))] := hD
  refine lv_iinc (v := 1) (lv' := [(5, .int 1), (4, .ref a1), (3, .int 1), (2, .ref q2), (0, .ref mo), (1, .int 2)]) hx hb dX4_depthOf_74 hl (k := 0) rfl (by decide) (by decide) rfl (fun ls hl => ?_)
  refine lv_goto (tgt := 33) hx hb dX4_depthOf_77 (by decide) ?_
  refine lv_iload hx hb dX4_depthOf_33 (lv_at hl 0 rfl) ?_
  refine lv_aload hx hb dX4_depthOf_35 (lv_at hl 1 rfl) ?_
  have hPc := hP.sub (ws' := [(a1, .inr (8, [.int 4, .ref wa1, .ref na1])), (wa1, .inl (cI, 4, .inl fw1))]) [11, 12] rfl
  have hDc := hD.sub (ws' := [(a1, .inr (8, [.int 4, .ref wa1, .ref na1])), (wa1, .inl (cI, 4, .inl fw1))]) [11, 12] (by decide) rfl
  have hFc := va_free (wc := [(a1, .inr (8, [.int 4, .ref wa1, .ref na1])), (wa1, .inl (cI, 4, .inl fw1))]) hD hS hA [11, 12] rfl
  have hDv := hDc.self (sz := H37.size)
  have hpre := zpre (xs' := []) (av := [.ref a1]) hPc hK (hDc.weaken (fun _ _ _ h => h)) hZ hS hFc (fun r hr => by cases hr)
  refine va_calli (va_runV (As := []) (rest := [.int 1]) ⟨hx, hb, hml, hown, hts⟩ (k_rlen l dC dI cI cB cR cO zk a1 wa1 na1 fw1 H37.size ) (cwV 0 hts gX4_depthOf_X3_length rfl rfl rfl (by decide +kernel) ⟨Nat.le_of_ble_eq_true rfl, Nat.le_of_ble_eq_true rfl⟩) ⟨zblind, (zrecv_8 hK hPc (q0 := 0) rfl), hpre⟩ rfl rfl hl.1 rfl (lv_room (Nat.le_of_ble_eq_true rfl)) dX4_depthOf_37 ⟨Nat.le_of_ble_eq_true rfl, Nat.le_of_ble_eq_true rfl⟩) hS (fun q _ h => hFc q h) hFc (fun r39 u t H38 locs ht hvm hw hB hz1 hk1 hS => ?_)
  obtain rfl : 4 = r39 := (show r39 = 4 from hw).symm
  obtain ⟨hP1, hK1, hD1, hz2⟩ := hB
  rw [ht] at hP1 hz2
  have hPD9 := va_join (wr := [(mo, .inr (9, [th, .ref al, md, rf, kn])), (na0, .inl (cI, 4, .inl fn0)), (na1, .inl (cI, 4, .inl fn1)), (a2, .inr (8, [.int 4, .ref wa2, .ref na2])), (wa2, .inl (cI, 4, .inl fw2)), (na2, .inl (cI, 4, .inl fn2)), (q2, .inl (cI, 3, .inl (upd (upd (upd (fun _ => 0) 0 1) 1 1) 1 2))), (a0, .inr (8, [.int 4, .ref wa0, .ref na0])), (wa0, .inl (cI, 4, .inl fw0)), (al, .inr (4, [mc, .ref ed, .int (nI cc)])), (ed, .inl (cO, 10, .inr (.inr (.inr (.inr ee)))))]) (w1 := [(a1, .inr (8, [.int 4, .ref wa1, .ref na1])), (wa1, .inl (cI, 4, .inl fw1))]) hP hD [11, 12] [0, 1, 2, 3, 4, 5, 6, 7, 8, 9, 10] rfl rfl (by decide) (by decide) hk1 hFc hP1 hD1
  clear hPc hDc hFc hDv hpre hP hD hP1 hK1 hD1
  obtain ⟨hP, hD⟩ := hPD9
  replace hz : s.heap.size + 1 ≤ H38.size := by omega
  clear hz2
  replace hP : va_P (dC, dI) vwCl [(mo, .inr (9, [th, .ref al, md, rf, kn])), (na0, .inl (cI, 4, .inl fn0)), (na1, .inl (cI, 4, .inl fn1)), (a2, .inr (8, [.int 4, .ref wa2, .ref na2])), (wa2, .inl (cI, 4, .inl fw2)), (na2, .inl (cI, 4, .inl fn2)), (q2, .inl (cI, 3, .inl (upd (upd (upd (fun _ => 0) 0 1) 1 1) 1 2))), (a0, .inr (8, [.int 4, .ref wa0, .ref na0])), (wa0, .inl (cI, 4, .inl fw0)), (al, .inr (4, [mc, .ref ed, .int (nI cc)])), (ed, .inl (cO, 10, .inr (.inr (.inr (.inr ee))))), (a1, .inr (8, [.int 4, .ref wa1, .ref na1])), (wa1, .inl (cI, 4, .inl fw1))] H38 := hP
  replace hD : va_D A [(mo, .inr (9, [th, .ref al, md, rf, kn])), (na0, .inl (cI, 4, .inl fn0)), (na1, .inl (cI, 4, .inl fn1)), (a2, .inr (8, [.int 4, .ref wa2, .ref na2])), (wa2, .inl (cI, 4, .inl fw2)), (na2, .inl (cI, 4, .inl fn2)), (q2, .inl (cI, 3, .inl (upd (upd (upd (fun _ => 0) 0 1) 1 1) 1 2))), (a0, .inr (8, [.int 4, .ref wa0, .ref na0])), (wa0, .inl (cI, 4, .inl fw0)), (al, .inr (4, [mc, .ref ed, .int (nI cc)])), (ed, .inl (cO, 10, .inr (.inr (.inr (.inr ee))))), (a1, .inr (8, [.int 4, .ref wa1, .ref na1])), (wa1, .inl (cI, 4, .inl fw1))] := hD
  refine W.widen (k := 1) (n := 3) (by omega) (by omega) ?_
  refine lv_icmp_ge (tgt := 80) hx hb dX4_depthOf_40 (by decide) (fun c9 => ?_) (fun c9 => ?_)
  · exact absurd c9 (by decide)
  refine lv_aload hx hb dX4_depthOf_43 (lv_at hl 1 rfl) ?_
  refine lv_iload hx hb dX4_depthOf_45 (lv_at hl 0 rfl) ?_
  have hPc := hP.sub (ws' := [(a1, .inr (8, [.int 4, .ref wa1, .ref na1])), (wa1, .inl (cI, 4, .inl fw1))]) [11, 12] rfl
  have hDc := hD.sub (ws' := [(a1, .inr (8, [.int 4, .ref wa1, .ref na1])), (wa1, .inl (cI, 4, .inl fw1))]) [11, 12] (by decide) rfl
  have hFc := va_free (wc := [(a1, .inr (8, [.int 4, .ref wa1, .ref na1])), (wa1, .inl (cI, 4, .inl fw1))]) hD hS hA [11, 12] rfl
  have hDv := hDc.self (sz := H38.size)
  have hpre := zpre (xs' := []) (av := [.ref a1, .int 1]) hPc hK (hDc.weaken (fun _ _ _ h => h)) hZ hS hFc (fun r hr => by cases hr)
  refine va_calli (va_runV (As := [.int 1]) (rest := []) ⟨hx, hb, hml, hown, hts⟩ (k_mh1_3 l dC dI cI cB cR cO zk a1 wa1 na1 fw1 H38.size (hw1 1 (by decide))) (cwV 1 hts gX4_depthOf_X3_hangs rfl rfl rfl (by decide +kernel) ⟨Nat.le_of_ble_eq_true rfl, Nat.le_of_ble_eq_true rfl⟩) ⟨zblind, (zrecv_8 hK hPc (q0 := 0) rfl), hpre⟩ rfl rfl hl.1 rfl (lv_room (Nat.le_of_ble_eq_true rfl)) dX4_depthOf_47 ⟨Nat.le_of_ble_eq_true rfl, Nat.le_of_ble_eq_true rfl⟩) hS (fun q _ h => hFc q h) hFc (fun r41 u t H40 locs ht hvm hw hB hz1 hk1 hS => ?_)
  obtain rfl : 1 = r41 := (show r41 = 1 from hw).symm
  obtain ⟨hP1, hK1, hD1, hz2⟩ := hB
  rw [ht] at hP1 hz2
  have hPD9 := va_join (wr := [(mo, .inr (9, [th, .ref al, md, rf, kn])), (na0, .inl (cI, 4, .inl fn0)), (na1, .inl (cI, 4, .inl fn1)), (a2, .inr (8, [.int 4, .ref wa2, .ref na2])), (wa2, .inl (cI, 4, .inl fw2)), (na2, .inl (cI, 4, .inl fn2)), (q2, .inl (cI, 3, .inl (upd (upd (upd (fun _ => 0) 0 1) 1 1) 1 2))), (a0, .inr (8, [.int 4, .ref wa0, .ref na0])), (wa0, .inl (cI, 4, .inl fw0)), (al, .inr (4, [mc, .ref ed, .int (nI cc)])), (ed, .inl (cO, 10, .inr (.inr (.inr (.inr ee)))))]) (w1 := [(a1, .inr (8, [.int 4, .ref wa1, .ref na1])), (wa1, .inl (cI, 4, .inl fw1))]) hP hD [11, 12] [0, 1, 2, 3, 4, 5, 6, 7, 8, 9, 10] rfl rfl (by decide) (by decide) hk1 hFc hP1 hD1
  clear hPc hDc hFc hDv hpre hP hD hP1 hK1 hD1
  obtain ⟨hP, hD⟩ := hPD9
  replace hz : s.heap.size + 1 ≤ H40.size := by omega
  clear hz2
  replace hP : va_P (dC, dI) vwCl [(mo, .inr (9, [th, .ref al, md, rf, kn])), (na0, .inl (cI, 4, .inl fn0)), (na1, .inl (cI, 4, .inl fn1)), (a2, .inr (8, [.int 4, .ref wa2, .ref na2])), (wa2, .inl (cI, 4, .inl fw2)), (na2, .inl (cI, 4, .inl fn2)), (q2, .inl (cI, 3, .inl (upd (upd (upd (fun _ => 0) 0 1) 1 1) 1 2))), (a0, .inr (8, [.int 4, .ref wa0, .ref na0])), (wa0, .inl (cI, 4, .inl fw0)), (al, .inr (4, [mc, .ref ed, .int (nI cc)])), (ed, .inl (cO, 10, .inr (.inr (.inr (.inr ee))))), (a1, .inr (8, [.int 4, .ref wa1, .ref na1])), (wa1, .inl (cI, 4, .inl fw1))] H40 := hP
  replace hD : va_D A [(mo, .inr (9, [th, .ref al, md, rf, kn])), (na0, .inl (cI, 4, .inl fn0)), (na1, .inl (cI, 4, .inl fn1)), (a2, .inr (8, [.int 4, .ref wa2, .ref na2])), (wa2, .inl (cI, 4, .inl fw2)), (na2, .inl (cI, 4, .inl fn2)), (q2, .inl (cI, 3, .inl (upd (upd (upd (fun _ => 0) 0 1) 1 1) 1 2))), (a0, .inr (8, [.int 4, .ref wa0, .ref na0])), (wa0, .inl (cI, 4, .inl fw0)), (al, .inr (4, [mc, .ref ed, .int (nI cc)])), (ed, .inl (cO, 10, .inr (.inr (.inr (.inr ee))))), (a1, .inr (8, [.int 4, .ref wa1, .ref na1])), (wa1, .inl (cI, 4, .inl fw1))] := hD
  refine W.widen (k := 1) (n := 3) (by omega) (by omega) ?_
  refine lv_if_eq (tgt := 74) hx hb dX4_depthOf_50 (by decide) (fun c9 => ?_) (fun c9 => ?_)
  · exact absurd c9 (by decide)
  refine lv_aload_n hx hb dX4_depthOf_53 rfl (lv_at hl 3 rfl) ?_
  refine lv_iload_n hx hb dX4_depthOf_54 rfl (lv_at hl 2 rfl) ?_
  refine lv_aload_n hx hb dX4_depthOf_55 rfl (lv_at hl 3 rfl) ?_
  refine lv_iload_n hx hb dX4_depthOf_56 rfl (lv_at hl 2 rfl) ?_
  refine va_iald (D := (dC, dI)) (cl := vwCl) hx hb hK hP 6 0 rfl rfl (by unfold vp_in; decide) dX4_depthOf_57 ?_
  refine lv_topi (fun v42 ev42 => ?_)
  obtain rfl : v42 = 2 := ev42.trans (rfl)
  refine lv_iconst (v := 1) hx hb dX4_depthOf_58 (by decide) ?_
  refine lv_aload_n hx hb dX4_depthOf_59 rfl (lv_at hl 3 rfl) ?_
  refine lv_aload hx hb dX4_depthOf_60 (lv_at hl 1 rfl) ?_
  refine va_get (D := (dC, dI)) (ci := 8) (v := .ref na1) (C := RX3) (T := TX3) (N := 3) hx hb hts hi_X4_depthOf_X3 hown hK hP 11 rfl rfl 2 (by decide) (hts (.fieldLink RX4 48 "DeeprowsModel$Row" "numbers" "[I") (List.mem_cons_of_mem _ zw_1180)) (fun _ h9 => h9) rfl dX4_depthOf_62 ?_
  refine lv_iload hx hb dX4_depthOf_65 (lv_at hl 0 rfl) ?_
  refine va_iald (D := (dC, dI)) (cl := vwCl) hx hb hK hP 2 0 rfl rfl (by unfold vp_in; decide) dX4_depthOf_67 ?_
  refine lv_topi (fun v43 ev43 => ?_)
  obtain rfl : v43 = 0 := ev43.trans (hn1 1 (by decide))
  refine va_iald (D := (dC, dI)) (cl := vwCl) hx hb hK hP 6 0 rfl rfl (by unfold vp_in; decide) dX4_depthOf_68 ?_
  refine lv_topi (fun v44 ev44 => ?_)
  obtain rfl : v44 = 1 := ev44.trans (rfl)
  refine lv_iadd hx hb dX4_depthOf_69 ?_
  refine lv_topi (fun v45 ev45 => ?_)
  obtain rfl : v45 = 2 := ev45.trans (by decide)
  refine va_mmax (x := 2) (y := 2) hx hb (hml.trans hl.1.symm) hown (hts (.methodLink RX4 52 Lib.Math.max.name) (List.mem_cons_of_mem _ zw_1264)) (hts (.static Lib.Math.max.name) (List.mem_cons_of_mem _ zw_271)) (hts (.initialized "java/lang/Math") (List.mem_cons_of_mem _ zw_58)) (hts (.code Lib.Math.max.name Lib.Math.max.code 2 (some .int)) (List.mem_cons_of_mem _ zw_272)) (Nat.le_of_ble_eq_true rfl) (Nat.le_of_ble_eq_true rfl) (Nat.le_of_ble_eq_true rfl) (Nat.le_of_ble_eq_true rfl) dX4_depthOf_70 ?_
  refine lv_topi (fun v46 ev46 => ?_)
  obtain rfl : v46 = 2 := ev46.trans (by decide)
  refine va_iast (D := (dC, dI)) (cl := vwCl) hx hb hK hP hD (zS0 hS) 6 0 rfl rfl (by unfold vp_in; decide) dX4_depthOf_73 (fun H47 locs hP hD hS1 => ?_)
  have hz : s.heap.size + 1 ≤ H47.size := Nat.le_trans hz hS1.1
  have hS := zSS hS hS1
  replace hP : va_P (dC, dI) vwCl [(mo, .inr (9, [th, .ref al, md, rf, kn])), (na0, .inl (cI, 4, .inl fn0)), (na1, .inl (cI, 4, .inl fn1)), (a2, .inr (8, [.int 4, .ref wa2, .ref na2])), (wa2, .inl (cI, 4, .inl fw2)), (na2, .inl (cI, 4, .inl fn2)), (q2, .inl (cI, 3, .inl (upd (upd (upd (upd (fun _ => 0) 0 1) 1 1) 1 2) 1 2))), (a0, .inr (8, [.int 4, .ref wa0, .ref na0])), (wa0, .inl (cI, 4, .inl fw0)), (al, .inr (4, [mc, .ref ed, .int (nI cc)])), (ed, .inl (cO, 10, .inr (.inr (.inr (.inr ee))))), (a1, .inr (8, [.int 4, .ref wa1, .ref na1])), (wa1, .inl (cI, 4, .inl fw1))] H47 := hP
  replace hD : va_D A [(mo, .inr (9, [th, .ref al, md, rf, kn])), (na0, .inl (cI, 4, .inl fn0)), (na1, .inl (cI, 4, .inl fn1)), (a2, .inr (8, [.int 4, .ref wa2, .ref na2])), (wa2, .inl (cI, 4, .inl fw2)), (na2, .inl (cI, 4, .inl fn2)), (q2, .inl (cI, 3, .inl (upd (upd (upd (upd (fun _ => 0) 0 1) 1 1) 1 2) 1 2))), (a0, .inr (8, [.int 4, .ref wa0, .ref na0])), (wa0, .inl (cI, 4, .inl fw0)), (al, .inr (4, [mc, .ref ed, .int (nI cc)])), (ed, .inl (cO, 10, .inr (.inr (.inr (.inr ee))))), (a1, .inr (8, [.int 4, .ref wa1, .ref na1])), (wa1, .inl (cI, 4, .inl fw1))] := hD
  refine lv_iinc (v := 2) (lv' := [(5, .int 2), (4, .ref a1), (3, .int 1), (2, .ref q2), (0, .ref mo), (1, .int 2)]) hx hb dX4_depthOf_74 hl (k := 0) rfl (by decide) (by decide) rfl (fun ls hl => ?_)
  refine lv_goto (tgt := 33) hx hb dX4_depthOf_77 (by decide) ?_
  refine lv_iload hx hb dX4_depthOf_33 (lv_at hl 0 rfl) ?_
  refine lv_aload hx hb dX4_depthOf_35 (lv_at hl 1 rfl) ?_
  have hPc := hP.sub (ws' := [(a1, .inr (8, [.int 4, .ref wa1, .ref na1])), (wa1, .inl (cI, 4, .inl fw1))]) [11, 12] rfl
  have hDc := hD.sub (ws' := [(a1, .inr (8, [.int 4, .ref wa1, .ref na1])), (wa1, .inl (cI, 4, .inl fw1))]) [11, 12] (by decide) rfl
  have hFc := va_free (wc := [(a1, .inr (8, [.int 4, .ref wa1, .ref na1])), (wa1, .inl (cI, 4, .inl fw1))]) hD hS hA [11, 12] rfl
  have hDv := hDc.self (sz := H47.size)
  have hpre := zpre (xs' := []) (av := [.ref a1]) hPc hK (hDc.weaken (fun _ _ _ h => h)) hZ hS hFc (fun r hr => by cases hr)
  refine va_calli (va_runV (As := []) (rest := [.int 2]) ⟨hx, hb, hml, hown, hts⟩ (k_rlen l dC dI cI cB cR cO zk a1 wa1 na1 fw1 H47.size ) (cwV 0 hts gX4_depthOf_X3_length rfl rfl rfl (by decide +kernel) ⟨Nat.le_of_ble_eq_true rfl, Nat.le_of_ble_eq_true rfl⟩) ⟨zblind, (zrecv_8 hK hPc (q0 := 0) rfl), hpre⟩ rfl rfl hl.1 rfl (lv_room (Nat.le_of_ble_eq_true rfl)) dX4_depthOf_37 ⟨Nat.le_of_ble_eq_true rfl, Nat.le_of_ble_eq_true rfl⟩) hS (fun q _ h => hFc q h) hFc (fun r49 u t H48 locs ht hvm hw hB hz1 hk1 hS => ?_)
  obtain rfl : 4 = r49 := (show r49 = 4 from hw).symm
  obtain ⟨hP1, hK1, hD1, hz2⟩ := hB
  rw [ht] at hP1 hz2
  have hPD9 := va_join (wr := [(mo, .inr (9, [th, .ref al, md, rf, kn])), (na0, .inl (cI, 4, .inl fn0)), (na1, .inl (cI, 4, .inl fn1)), (a2, .inr (8, [.int 4, .ref wa2, .ref na2])), (wa2, .inl (cI, 4, .inl fw2)), (na2, .inl (cI, 4, .inl fn2)), (q2, .inl (cI, 3, .inl (upd (upd (upd (upd (fun _ => 0) 0 1) 1 1) 1 2) 1 2))), (a0, .inr (8, [.int 4, .ref wa0, .ref na0])), (wa0, .inl (cI, 4, .inl fw0)), (al, .inr (4, [mc, .ref ed, .int (nI cc)])), (ed, .inl (cO, 10, .inr (.inr (.inr (.inr ee)))))]) (w1 := [(a1, .inr (8, [.int 4, .ref wa1, .ref na1])), (wa1, .inl (cI, 4, .inl fw1))]) hP hD [11, 12] [0, 1, 2, 3, 4, 5, 6, 7, 8, 9, 10] rfl rfl (by decide) (by decide) hk1 hFc hP1 hD1
  clear hPc hDc hFc hDv hpre hP hD hP1 hK1 hD1
  obtain ⟨hP, hD⟩ := hPD9
  replace hz : s.heap.size + 1 ≤ H48.size := by omega
  clear hz2
  replace hP : va_P (dC, dI) vwCl [(mo, .inr (9, [th, .ref al, md, rf, kn])), (na0, .inl (cI, 4, .inl fn0)), (na1, .inl (cI, 4, .inl fn1)), (a2, .inr (8, [.int 4, .ref wa2, .ref na2])), (wa2, .inl (cI, 4, .inl fw2)), (na2, .inl (cI, 4, .inl fn2)), (q2, .inl (cI, 3, .inl (upd (upd (upd (upd (fun _ => 0) 0 1) 1 1) 1 2) 1 2))), (a0, .inr (8, [.int 4, .ref wa0, .ref na0])), (wa0, .inl (cI, 4, .inl fw0)), (al, .inr (4, [mc, .ref ed, .int (nI cc)])), (ed, .inl (cO, 10, .inr (.inr (.inr (.inr ee))))), (a1, .inr (8, [.int 4, .ref wa1, .ref na1])), (wa1, .inl (cI, 4, .inl fw1))] H48 := hP
  replace hD : va_D A [(mo, .inr (9, [th, .ref al, md, rf, kn])), (na0, .inl (cI, 4, .inl fn0)), (na1, .inl (cI, 4, .inl fn1)), (a2, .inr (8, [.int 4, .ref wa2, .ref na2])), (wa2, .inl (cI, 4, .inl fw2)), (na2, .inl (cI, 4, .inl fn2)), (q2, .inl (cI, 3, .inl (upd (upd (upd (upd (fun _ => 0) 0 1) 1 1) 1 2) 1 2))), (a0, .inr (8, [.int 4, .ref wa0, .ref na0])), (wa0, .inl (cI, 4, .inl fw0)), (al, .inr (4, [mc, .ref ed, .int (nI cc)])), (ed, .inl (cO, 10, .inr (.inr (.inr (.inr ee))))), (a1, .inr (8, [.int 4, .ref wa1, .ref na1])), (wa1, .inl (cI, 4, .inl fw1))] := hD
  refine W.widen (k := 1) (n := 3) (by omega) (by omega) ?_
  refine lv_icmp_ge (tgt := 80) hx hb dX4_depthOf_40 (by decide) (fun c9 => ?_) (fun c9 => ?_)
  · exact absurd c9 (by decide)
  refine lv_aload hx hb dX4_depthOf_43 (lv_at hl 1 rfl) ?_
  refine lv_iload hx hb dX4_depthOf_45 (lv_at hl 0 rfl) ?_
  have hPc := hP.sub (ws' := [(a1, .inr (8, [.int 4, .ref wa1, .ref na1])), (wa1, .inl (cI, 4, .inl fw1))]) [11, 12] rfl
  have hDc := hD.sub (ws' := [(a1, .inr (8, [.int 4, .ref wa1, .ref na1])), (wa1, .inl (cI, 4, .inl fw1))]) [11, 12] (by decide) rfl
  have hFc := va_free (wc := [(a1, .inr (8, [.int 4, .ref wa1, .ref na1])), (wa1, .inl (cI, 4, .inl fw1))]) hD hS hA [11, 12] rfl
  have hDv := hDc.self (sz := H48.size)
  have hpre := zpre (xs' := []) (av := [.ref a1, .int 2]) hPc hK (hDc.weaken (fun _ _ _ h => h)) hZ hS hFc (fun r hr => by cases hr)
  refine va_calli (va_runV (As := [.int 2]) (rest := []) ⟨hx, hb, hml, hown, hts⟩ (k_mh2_3 l dC dI cI cB cR cO zk a1 wa1 na1 fw1 H48.size (hw1 2 (by decide))) (cwV 1 hts gX4_depthOf_X3_hangs rfl rfl rfl (by decide +kernel) ⟨Nat.le_of_ble_eq_true rfl, Nat.le_of_ble_eq_true rfl⟩) ⟨zblind, (zrecv_8 hK hPc (q0 := 0) rfl), hpre⟩ rfl rfl hl.1 rfl (lv_room (Nat.le_of_ble_eq_true rfl)) dX4_depthOf_47 ⟨Nat.le_of_ble_eq_true rfl, Nat.le_of_ble_eq_true rfl⟩) hS (fun q _ h => hFc q h) hFc (fun r51 u t H50 locs ht hvm hw hB hz1 hk1 hS => ?_)
  obtain rfl : 1 = r51 := (show r51 = 1 from hw).symm
  obtain ⟨hP1, hK1, hD1, hz2⟩ := hB
  rw [ht] at hP1 hz2
  have hPD9 := va_join (wr := [(mo, .inr (9, [th, .ref al, md, rf, kn])), (na0, .inl (cI, 4, .inl fn0)), (na1, .inl (cI, 4, .inl fn1)), (a2, .inr (8, [.int 4, .ref wa2, .ref na2])), (wa2, .inl (cI, 4, .inl fw2)), (na2, .inl (cI, 4, .inl fn2)), (q2, .inl (cI, 3, .inl (upd (upd (upd (upd (fun _ => 0) 0 1) 1 1) 1 2) 1 2))), (a0, .inr (8, [.int 4, .ref wa0, .ref na0])), (wa0, .inl (cI, 4, .inl fw0)), (al, .inr (4, [mc, .ref ed, .int (nI cc)])), (ed, .inl (cO, 10, .inr (.inr (.inr (.inr ee)))))]) (w1 := [(a1, .inr (8, [.int 4, .ref wa1, .ref na1])), (wa1, .inl (cI, 4, .inl fw1))]) hP hD [11, 12] [0, 1, 2, 3, 4, 5, 6, 7, 8, 9, 10] rfl rfl (by decide) (by decide) hk1 hFc hP1 hD1
  clear hPc hDc hFc hDv hpre hP hD hP1 hK1 hD1
  obtain ⟨hP, hD⟩ := hPD9
  replace hz : s.heap.size + 1 ≤ H50.size := by omega
  clear hz2
  replace hP : va_P (dC, dI) vwCl [(mo, .inr (9, [th, .ref al, md, rf, kn])), (na0, .inl (cI, 4, .inl fn0)), (na1, .inl (cI, 4, .inl fn1)), (a2, .inr (8, [.int 4, .ref wa2, .ref na2])), (wa2, .inl (cI, 4, .inl fw2)), (na2, .inl (cI, 4, .inl fn2)), (q2, .inl (cI, 3, .inl (upd (upd (upd (upd (fun _ => 0) 0 1) 1 1) 1 2) 1 2))), (a0, .inr (8, [.int 4, .ref wa0, .ref na0])), (wa0, .inl (cI, 4, .inl fw0)), (al, .inr (4, [mc, .ref ed, .int (nI cc)])), (ed, .inl (cO, 10, .inr (.inr (.inr (.inr ee))))), (a1, .inr (8, [.int 4, .ref wa1, .ref na1])), (wa1, .inl (cI, 4, .inl fw1))] H50 := hP
  replace hD : va_D A [(mo, .inr (9, [th, .ref al, md, rf, kn])), (na0, .inl (cI, 4, .inl fn0)), (na1, .inl (cI, 4, .inl fn1)), (a2, .inr (8, [.int 4, .ref wa2, .ref na2])), (wa2, .inl (cI, 4, .inl fw2)), (na2, .inl (cI, 4, .inl fn2)), (q2, .inl (cI, 3, .inl (upd (upd (upd (upd (fun _ => 0) 0 1) 1 1) 1 2) 1 2))), (a0, .inr (8, [.int 4, .ref wa0, .ref na0])), (wa0, .inl (cI, 4, .inl fw0)), (al, .inr (4, [mc, .ref ed, .int (nI cc)])), (ed, .inl (cO, 10, .inr (.inr (.inr (.inr ee))))), (a1, .inr (8, [.int 4, .ref wa1, .ref na1])), (wa1, .inl (cI, 4, .inl fw1))] := hD
  refine W.widen (k := 1) (n := 3) (by omega) (by omega) ?_
  refine lv_if_eq (tgt := 74) hx hb dX4_depthOf_50 (by decide) (fun c9 => ?_) (fun c9 => ?_)
  · exact absurd c9 (by decide)
  refine lv_aload_n hx hb dX4_depthOf_53 rfl (lv_at hl 3 rfl) ?_
  refine lv_iload_n hx hb dX4_depthOf_54 rfl (lv_at hl 2 rfl) ?_
  refine lv_aload_n hx hb dX4_depthOf_55 rfl (lv_at hl 3 rfl) ?_
  refine lv_iload_n hx hb dX4_depthOf_56 rfl (lv_at hl 2 rfl) ?_
  refine va_iald (D := (dC, dI)) (cl := vwCl) hx hb hK hP 6 0 rfl rfl (by unfold vp_in; decide) dX4_depthOf_57 ?_
  refine lv_topi (fun v52 ev52 => ?_)
  obtain rfl : v52 = 2 := ev52.trans (rfl)
  refine lv_iconst (v := 1) hx hb dX4_depthOf_58 (by decide) ?_
  refine lv_aload_n hx hb dX4_depthOf_59 rfl (lv_at hl 3 rfl) ?_
  refine lv_aload hx hb dX4_depthOf_60 (lv_at hl 1 rfl) ?_
  refine va_get (D := (dC, dI)) (ci := 8) (v := .ref na1) (C := RX3) (T := TX3) (N := 3) hx hb hts hi_X4_depthOf_X3 hown hK hP 11 rfl rfl 2 (by decide) (hts (.fieldLink RX4 48 "DeeprowsModel$Row" "numbers" "[I") (List.mem_cons_of_mem _ zw_1180)) (fun _ h9 => h9) rfl dX4_depthOf_62 ?_
  refine lv_iload hx hb dX4_depthOf_65 (lv_at hl 0 rfl) ?_
  refine va_iald (D := (dC, dI)) (cl := vwCl) hx hb hK hP 2 0 rfl rfl (by unfold vp_in; decide) dX4_depthOf_67 ?_
  refine lv_topi (fun v53 ev53 => ?_)
  obtain rfl : v53 = 0 := ev53.trans (hn1 2 (by decide))
  refine va_iald (D := (dC, dI)) (cl := vwCl) hx hb hK hP 6 0 rfl rfl (by unfold vp_in; decide) dX4_depthOf_68 ?_
  refine lv_topi (fun v54 ev54 => ?_)
  obtain rfl : v54 = 1 := ev54.trans (rfl)
  refine lv_iadd hx hb dX4_depthOf_69 ?_
  refine lv_topi (fun v55 ev55 => ?_)
  obtain rfl : v55 = 2 := ev55.trans (by decide)
  refine va_mmax (x := 2) (y := 2) hx hb (hml.trans hl.1.symm) hown (hts (.methodLink RX4 52 Lib.Math.max.name) (List.mem_cons_of_mem _ zw_1264)) (hts (.static Lib.Math.max.name) (List.mem_cons_of_mem _ zw_271)) (hts (.initialized "java/lang/Math") (List.mem_cons_of_mem _ zw_58)) (hts (.code Lib.Math.max.name Lib.Math.max.code 2 (some .int)) (List.mem_cons_of_mem _ zw_272)) (Nat.le_of_ble_eq_true rfl) (Nat.le_of_ble_eq_true rfl) (Nat.le_of_ble_eq_true rfl) (Nat.le_of_ble_eq_true rfl) dX4_depthOf_70 ?_
  refine lv_topi (fun v56 ev56 => ?_)
  obtain rfl : v56 = 2 := ev56.trans (by decide)
  refine va_iast (D := (dC, dI)) (cl := vwCl) hx hb hK hP hD (zS0 hS) 6 0 rfl rfl (by unfold vp_in; decide) dX4_depthOf_73 (fun H57 locs hP hD hS1 => ?_)
  have hz : s.heap.size + 1 ≤ H57.size := Nat.le_trans hz hS1.1
  have hS := zSS hS hS1
  replace hP : va_P (dC, dI) vwCl [(mo, .inr (9, [th, .ref al, md, rf, kn])), (na0, .inl (cI, 4, .inl fn0)), (na1, .inl (cI, 4, .inl fn1)), (a2, .inr (8, [.int 4, .ref wa2, .ref na2])), (wa2, .inl (cI, 4, .inl fw2)), (na2, .inl (cI, 4, .inl fn2)), (q2, .inl (cI, 3, .inl (upd (upd (upd (upd (upd (fun _ => 0) 0 1) 1 1) 1 2) 1 2) 1 2))), (a0, .inr (8, [.int 4, .ref wa0, .ref na0])), (wa0, .inl (cI, 4, .inl fw0)), (al, .inr (4, [mc, .ref ed, .int (nI cc)])), (ed, .inl (cO, 10, .inr (.inr (.inr (.inr ee))))), (a1, .inr (8, [.int 4, .ref wa1, .ref na1])), (wa1, .inl (cI, 4, .inl fw1))] H57 := hP
  replace hD : va_D A [(mo, .inr (9, [th, .ref al, md, rf, kn])), (na0, .inl (cI, 4, .inl fn0)), (na1, .inl (cI, 4, .inl fn1)), (a2, .inr (8, [.int 4, .ref wa2, .ref na2])), (wa2, .inl (cI, 4, .inl fw2)), (na2, .inl (cI, 4, .inl fn2)), (q2, .inl (cI, 3, .inl (upd (upd (upd (upd (upd (fun _ => 0) 0 1) 1 1) 1 2) 1 2) 1 2))), (a0, .inr (8, [.int 4, .ref wa0, .ref na0])), (wa0, .inl (cI, 4, .inl fw0)), (al, .inr (4, [mc, .ref ed, .int (nI cc)])), (ed, .inl (cO, 10, .inr (.inr (.inr (.inr ee))))), (a1, .inr (8, [.int 4, .ref wa1, .ref na1])), (wa1, .inl (cI, 4, .inl fw1))] := hD
  refine lv_iinc (v := 3) (lv' := [(5, .int 3), (4, .ref a1), (3, .int 1), (2, .ref q2), (0, .ref mo), (1, .int 2)]) hx hb dX4_depthOf_74 hl (k := 0) rfl (by decide) (by decide) rfl (fun ls hl => ?_)
  refine lv_goto (tgt := 33) hx hb dX4_depthOf_77 (by decide) ?_
  refine lv_iload hx hb dX4_depthOf_33 (lv_at hl 0 rfl) ?_
  refine lv_aload hx hb dX4_depthOf_35 (lv_at hl 1 rfl) ?_
  have hPc := hP.sub (ws' := [(a1, .inr (8, [.int 4, .ref wa1, .ref na1])), (wa1, .inl (cI, 4, .inl fw1))]) [11, 12] rfl
  have hDc := hD.sub (ws' := [(a1, .inr (8, [.int 4, .ref wa1, .ref na1])), (wa1, .inl (cI, 4, .inl fw1))]) [11, 12] (by decide) rfl
  have hFc := va_free (wc := [(a1, .inr (8, [.int 4, .ref wa1, .ref na1])), (wa1, .inl (cI, 4, .inl fw1))]) hD hS hA [11, 12] rfl
  have hDv := hDc.self (sz := H57.size)
  have hpre := zpre (xs' := []) (av := [.ref a1]) hPc hK (hDc.weaken (fun _ _ _ h => h)) hZ hS hFc (fun r hr => by cases hr)
  refine va_calli (va_runV (As := []) (rest := [.int 3]) ⟨hx, hb, hml, hown, hts⟩ (k_rlen l dC dI cI cB cR cO zk a1 wa1 na1 fw1 H57.size ) (cwV 0 hts gX4_depthOf_X3_length rfl rfl rfl (by decide +kernel) ⟨Nat.le_of_ble_eq_true rfl, Nat.le_of_ble_eq_true rfl⟩) ⟨zblind, (zrecv_8 hK hPc (q0 := 0) rfl), hpre⟩ rfl rfl hl.1 rfl (lv_room (Nat.le_of_ble_eq_true rfl)) dX4_depthOf_37 ⟨Nat.le_of_ble_eq_true rfl, Nat.le_of_ble_eq_true rfl⟩) hS (fun q _ h => hFc q h) hFc (fun r59 u t H58 locs ht hvm hw hB hz1 hk1 hS => ?_)
  obtain rfl : 4 = r59 := (show r59 = 4 from hw).symm
  obtain ⟨hP1, hK1, hD1, hz2⟩ := hB
  rw [ht] at hP1 hz2
  have hPD9 := va_join (wr := [(mo, .inr (9, [th, .ref al, md, rf, kn])), (na0, .inl (cI, 4, .inl fn0)), (na1, .inl (cI, 4, .inl fn1)), (a2, .inr (8, [.int 4, .ref wa2, .ref na2])), (wa2, .inl (cI, 4, .inl fw2)), (na2, .inl (cI, 4, .inl fn2)), (q2, .inl (cI, 3, .inl (upd (upd (upd (upd (upd (fun _ => 0) 0 1) 1 1) 1 2) 1 2) 1 2))), (a0, .inr (8, [.int 4, .ref wa0, .ref na0])), (wa0, .inl (cI, 4, .inl fw0)), (al, .inr (4, [mc, .ref ed, .int (nI cc)])), (ed, .inl (cO, 10, .inr (.inr (.inr (.inr ee)))))]) (w1 := [(a1, .inr (8, [.int 4, .ref wa1, .ref na1])), (wa1, .inl (cI, 4, .inl fw1))]) hP hD [11, 12] [0, 1, 2, 3, 4, 5, 6, 7, 8, 9, 10] rfl rfl (by decide) (by decide) hk1 hFc hP1 hD1
  clear hPc hDc hFc hDv hpre hP hD hP1 hK1 hD1
  obtain ⟨hP, hD⟩ := hPD9
  replace hz : s.heap.size + 1 ≤ H58.size := by omega
  clear hz2
  replace hP : va_P (dC, dI) vwCl [(mo, .inr (9, [th, .ref al, md, rf, kn])), (na0, .inl (cI, 4, .inl fn0)), (na1, .inl (cI, 4, .inl fn1)), (a2, .inr (8, [.int 4, .ref wa2, .ref na2])), (wa2, .inl (cI, 4, .inl fw2)), (na2, .inl (cI, 4, .inl fn2)), (q2, .inl (cI, 3, .inl (upd (upd (upd (upd (upd (fun _ => 0) 0 1) 1 1) 1 2) 1 2) 1 2))), (a0, .inr (8, [.int 4, .ref wa0, .ref na0])), (wa0, .inl (cI, 4, .inl fw0)), (al, .inr (4, [mc, .ref ed, .int (nI cc)])), (ed, .inl (cO, 10, .inr (.inr (.inr (.inr ee))))), (a1, .inr (8, [.int 4, .ref wa1, .ref na1])), (wa1, .inl (cI, 4, .inl fw1))] H58 := hP
  replace hD : va_D A [(mo, .inr (9, [th, .ref al, md, rf, kn])), (na0, .inl (cI, 4, .inl fn0)), (na1, .inl (cI, 4, .inl fn1)), (a2, .inr (8, [.int 4, .ref wa2, .ref na2])), (wa2, .inl (cI, 4, .inl fw2)), (na2, .inl (cI, 4, .inl fn2)), (q2, .inl (cI, 3, .inl (upd (upd (upd (upd (upd (fun _ => 0) 0 1) 1 1) 1 2) 1 2) 1 2))), (a0, .inr (8, [.int 4, .ref wa0, .ref na0])), (wa0, .inl (cI, 4, .inl fw0)), (al, .inr (4, [mc, .ref ed, .int (nI cc)])), (ed, .inl (cO, 10, .inr (.inr (.inr (.inr ee))))), (a1, .inr (8, [.int 4, .ref wa1, .ref na1])), (wa1, .inl (cI, 4, .inl fw1))] := hD
  refine W.widen (k := 1) (n := 3) (by omega) (by omega) ?_
  refine lv_icmp_ge (tgt := 80) hx hb dX4_depthOf_40 (by decide) (fun c9 => ?_) (fun c9 => ?_)
  · exact absurd c9 (by decide)
  refine lv_aload hx hb dX4_depthOf_43 (lv_at hl 1 rfl) ?_
  refine lv_iload hx hb dX4_depthOf_45 (lv_at hl 0 rfl) ?_
  have hPc := hP.sub (ws' := [(a1, .inr (8, [.int 4, .ref wa1, .ref na1])), (wa1, .inl (cI, 4, .inl fw1))]) [11, 12] rfl
  have hDc := hD.sub (ws' := [(a1, .inr (8, [.int 4, .ref wa1, .ref na1])), (wa1, .inl (cI, 4, .inl fw1))]) [11, 12] (by decide) rfl
  have hFc := va_free (wc := [(a1, .inr (8, [.int 4, .ref wa1, .ref na1])), (wa1, .inl (cI, 4, .inl fw1))]) hD hS hA [11, 12] rfl
  have hDv := hDc.self (sz := H58.size)
  have hpre := zpre (xs' := []) (av := [.ref a1, .int 3]) hPc hK (hDc.weaken (fun _ _ _ h => h)) hZ hS hFc (fun r hr => by cases hr)
  refine va_calli (va_runV (As := [.int 3]) (rest := []) ⟨hx, hb, hml, hown, hts⟩ (k_mh3_3 l dC dI cI cB cR cO zk a1 wa1 na1 fw1 H58.size (hw1 3 (by decide))) (cwV 1 hts gX4_depthOf_X3_hangs rfl rfl rfl (by decide +kernel) ⟨Nat.le_of_ble_eq_true rfl, Nat.le_of_ble_eq_true rfl⟩) ⟨zblind, (zrecv_8 hK hPc (q0 := 0) rfl), hpre⟩ rfl rfl hl.1 rfl (lv_room (Nat.le_of_ble_eq_true rfl)) dX4_depthOf_47 ⟨Nat.le_of_ble_eq_true rfl, Nat.le_of_ble_eq_true rfl⟩) hS (fun q _ h => hFc q h) hFc (fun r61 u t H60 locs ht hvm hw hB hz1 hk1 hS => ?_)
  obtain rfl : 1 = r61 := (show r61 = 1 from hw).symm
  obtain ⟨hP1, hK1, hD1, hz2⟩ := hB
  rw [ht] at hP1 hz2
  have hPD9 := va_join (wr := [(mo, .inr (9, [th, .ref al, md, rf, kn])), (na0, .inl (cI, 4, .inl fn0)), (na1, .inl (cI, 4, .inl fn1)), (a2, .inr (8, [.int 4, .ref wa2, .ref na2])), (wa2, .inl (cI, 4, .inl fw2)), (na2, .inl (cI, 4, .inl fn2)), (q2, .inl (cI, 3, .inl (upd (upd (upd (upd (upd (fun _ => 0) 0 1) 1 1) 1 2) 1 2) 1 2))), (a0, .inr (8, [.int 4, .ref wa0, .ref na0])), (wa0, .inl (cI, 4, .inl fw0)), (al, .inr (4, [mc, .ref ed, .int (nI cc)])), (ed, .inl (cO, 10, .inr (.inr (.inr (.inr ee)))))]) (w1 := [(a1, .inr (8, [.int 4, .ref wa1, .ref na1])), (wa1, .inl (cI, 4, .inl fw1))]) hP hD [11, 12] [0, 1, 2, 3, 4, 5, 6, 7, 8, 9, 10] rfl rfl (by decide) (by decide) hk1 hFc hP1 hD1
  clear hPc hDc hFc hDv hpre hP hD hP1 hK1 hD1
  obtain ⟨hP, hD⟩ := hPD9
  replace hz : s.heap.size + 1 ≤ H60.size := by omega
  clear hz2
  replace hP : va_P (dC, dI) vwCl [(mo, .inr (9, [th, .ref al, md, rf, kn])), (na0, .inl (cI, 4, .inl fn0)), (na1, .inl (cI, 4, .inl fn1)), (a2, .inr (8, [.int 4, .ref wa2, .ref na2])), (wa2, .inl (cI, 4, .inl fw2)), (na2, .inl (cI, 4, .inl fn2)), (q2, .inl (cI, 3, .inl (upd (upd (upd (upd (upd (fun _ => 0) 0 1) 1 1) 1 2) 1 2) 1 2))), (a0, .inr (8, [.int 4, .ref wa0, .ref na0])), (wa0, .inl (cI, 4, .inl fw0)), (al, .inr (4, [mc, .ref ed, .int (nI cc)])), (ed, .inl (cO, 10, .inr (.inr (.inr (.inr ee))))), (a1, .inr (8, [.int 4, .ref wa1, .ref na1])), (wa1, .inl (cI, 4, .inl fw1))] H60 := hP
  replace hD : va_D A [(mo, .inr (9, [th, .ref al, md, rf, kn])), (na0, .inl (cI, 4, .inl fn0)), (na1, .inl (cI, 4, .inl fn1)), (a2, .inr (8, [.int 4, .ref wa2, .ref na2])), (wa2, .inl (cI, 4, .inl fw2)), (na2, .inl (cI, 4, .inl fn2)), (q2, .inl (cI, 3, .inl (upd (upd (upd (upd (upd (fun _ => 0) 0 1) 1 1) 1 2) 1 2) 1 2))), (a0, .inr (8, [.int 4, .ref wa0, .ref na0])), (wa0, .inl (cI, 4, .inl fw0)), (al, .inr (4, [mc, .ref ed, .int (nI cc)])), (ed, .inl (cO, 10, .inr (.inr (.inr (.inr ee))))), (a1, .inr (8, [.int 4, .ref wa1, .ref na1])), (wa1, .inl (cI, 4, .inl fw1))] := hD
  refine W.widen (k := 1) (n := 3) (by omega) (by omega) ?_
  refine lv_if_eq (tgt := 74) hx hb dX4_depthOf_50 (by decide) (fun c9 => ?_) (fun c9 => ?_)
  · exact absurd c9 (by decide)
  refine lv_aload_n hx hb dX4_depthOf_53 rfl (lv_at hl 3 rfl) ?_
  refine lv_iload_n hx hb dX4_depthOf_54 rfl (lv_at hl 2 rfl) ?_
  refine lv_aload_n hx hb dX4_depthOf_55 rfl (lv_at hl 3 rfl) ?_
  refine lv_iload_n hx hb dX4_depthOf_56 rfl (lv_at hl 2 rfl) ?_
  refine va_iald (D := (dC, dI)) (cl := vwCl) hx hb hK hP 6 0 rfl rfl (by unfold vp_in; decide) dX4_depthOf_57 ?_
  refine lv_topi (fun v62 ev62 => ?_)
  obtain rfl : v62 = 2 := ev62.trans (rfl)
  refine lv_iconst (v := 1) hx hb dX4_depthOf_58 (by decide) ?_
  refine lv_aload_n hx hb dX4_depthOf_59 rfl (lv_at hl 3 rfl) ?_
  refine lv_aload hx hb dX4_depthOf_60 (lv_at hl 1 rfl) ?_
  refine va_get (D := (dC, dI)) (ci := 8) (v := .ref na1) (C := RX3) (T := TX3) (N := 3) hx hb hts hi_X4_depthOf_X3 hown hK hP 11 rfl rfl 2 (by decide) (hts (.fieldLink RX4 48 "DeeprowsModel$Row" "numbers" "[I") (List.mem_cons_of_mem _ zw_1180)) (fun _ h9 => h9) rfl dX4_depthOf_62 ?_
  refine lv_iload hx hb dX4_depthOf_65 (lv_at hl 0 rfl) ?_
  refine va_iald (D := (dC, dI)) (cl := vwCl) hx hb hK hP 2 0 rfl rfl (by unfold vp_in; decide) dX4_depthOf_67 ?_
  refine lv_topi (fun v63 ev63 => ?_)
  obtain rfl : v63 = 0 := ev63.trans (hn1 3 (by decide))
  refine va_iald (D := (dC, dI)) (cl := vwCl) hx hb hK hP 6 0 rfl rfl (by unfold vp_in; decide) dX4_depthOf_68 ?_
  refine lv_topi (fun v64 ev64 => ?_)
  obtain rfl : v64 = 1 := ev64.trans (rfl)
  refine lv_iadd hx hb dX4_depthOf_69 ?_
  refine lv_topi (fun v65 ev65 => ?_)
  obtain rfl : v65 = 2 := ev65.trans (by decide)
  refine va_mmax (x := 2) (y := 2) hx hb (hml.trans hl.1.symm) hown (hts (.methodLink RX4 52 Lib.Math.max.name) (List.mem_cons_of_mem _ zw_1264)) (hts (.static Lib.Math.max.name) (List.mem_cons_of_mem _ zw_271)) (hts (.initialized "java/lang/Math") (List.mem_cons_of_mem _ zw_58)) (hts (.code Lib.Math.max.name Lib.Math.max.code 2 (some .int)) (List.mem_cons_of_mem _ zw_272)) (Nat.le_of_ble_eq_true rfl) (Nat.le_of_ble_eq_true rfl) (Nat.le_of_ble_eq_true rfl) (Nat.le_of_ble_eq_true rfl) dX4_depthOf_70 ?_
  refine lv_topi (fun v66 ev66 => ?_)
  obtain rfl : v66 = 2 := ev66.trans (by decide)
  refine va_iast (D := (dC, dI)) (cl := vwCl) hx hb hK hP hD (zS0 hS) 6 0 rfl rfl (by unfold vp_in; decide) dX4_depthOf_73 (fun H67 locs hP hD hS1 => ?_)
  have hz : s.heap.size + 1 ≤ H67.size := Nat.le_trans hz hS1.1
  have hS := zSS hS hS1
  replace hP : va_P (dC, dI) vwCl [(mo, .inr (9, [th, .ref al, md, rf, kn])), (na0, .inl (cI, 4, .inl fn0)), (na1, .inl (cI, 4, .inl fn1)), (a2, .inr (8, [.int 4, .ref wa2, .ref na2])), (wa2, .inl (cI, 4, .inl fw2)), (na2, .inl (cI, 4, .inl fn2)), (q2, .inl (cI, 3, .inl (upd (upd (upd (upd (upd (upd (fun _ => 0) 0 1) 1 1) 1 2) 1 2) 1 2) 1 2))), (a0, .inr (8, [.int 4, .ref wa0, .ref na0])), (wa0, .inl (cI, 4, .inl fw0)), (al, .inr (4, [mc, .ref ed, .int (nI cc)])), (ed, .inl (cO, 10, .inr (.inr (.inr (.inr ee))))), (a1, .inr (8, [.int 4, .ref wa1, .ref na1])), (wa1, .inl (cI, 4, .inl fw1))] H67 := hP
  replace hD : va_D A [(mo, .inr (9, [th, .ref al, md, rf, kn])), (na0, .inl (cI, 4, .inl fn0)), (na1, .inl (cI, 4, .inl fn1)), (a2, .inr (8, [.int 4, .ref wa2, .ref na2])), (wa2, .inl (cI, 4, .inl fw2)), (na2, .inl (cI, 4, .inl fn2)), (q2, .inl (cI, 3, .inl (upd (upd (upd (upd (upd (upd (fun _ => 0) 0 1) 1 1) 1 2) 1 2) 1 2) 1 2))), (a0, .inr (8, [.int 4, .ref wa0, .ref na0])), (wa0, .inl (cI, 4, .inl fw0)), (al, .inr (4, [mc, .ref ed, .int (nI cc)])), (ed, .inl (cO, 10, .inr (.inr (.inr (.inr ee))))), (a1, .inr (8, [.int 4, .ref wa1, .ref na1])), (wa1, .inl (cI, 4, .inl fw1))] := hD
  refine lv_iinc (v := 4) (lv' := [(5, .int 4), (4, .ref a1), (3, .int 1), (2, .ref q2), (0, .ref mo), (1, .int 2)]) hx hb dX4_depthOf_74 hl (k := 0) rfl (by decide) (by decide) rfl (fun ls hl => ?_)
  refine lv_goto (tgt := 33) hx hb dX4_depthOf_77 (by decide) ?_
  refine lv_iload hx hb dX4_depthOf_33 (lv_at hl 0 rfl) ?_
  refine lv_aload hx hb dX4_depthOf_35 (lv_at hl 1 rfl) ?_
  have hPc := hP.sub (ws' := [(a1, .inr (8, [.int 4, .ref wa1, .ref na1])), (wa1, .inl (cI, 4, .inl fw1))]) [11, 12] rfl
  have hDc := hD.sub (ws' := [(a1, .inr (8, [.int 4, .ref wa1, .ref na1])), (wa1, .inl (cI, 4, .inl fw1))]) [11, 12] (by decide) rfl
  have hFc := va_free (wc := [(a1, .inr (8, [.int 4, .ref wa1, .ref na1])), (wa1, .inl (cI, 4, .inl fw1))]) hD hS hA [11, 12] rfl
  have hDv := hDc.self (sz := H67.size)
  have hpre := zpre (xs' := []) (av := [.ref a1]) hPc hK (hDc.weaken (fun _ _ _ h => h)) hZ hS hFc (fun r hr => by cases hr)
  refine va_calli (va_runV (As := []) (rest := [.int 4]) ⟨hx, hb, hml, hown, hts⟩ (k_rlen l dC dI cI cB cR cO zk a1 wa1 na1 fw1 H67.size ) (cwV 0 hts gX4_depthOf_X3_length rfl rfl rfl (by decide +kernel) ⟨Nat.le_of_ble_eq_true rfl, Nat.le_of_ble_eq_true rfl⟩) ⟨zblind, (zrecv_8 hK hPc (q0 := 0) rfl), hpre⟩ rfl rfl hl.1 rfl (lv_room (Nat.le_of_ble_eq_true rfl)) dX4_depthOf_37 ⟨Nat.le_of_ble_eq_true rfl, Nat.le_of_ble_eq_true rfl⟩) hS (fun q _ h => hFc q h) hFc (fun r69 u t H68 locs ht hvm hw hB hz1 hk1 hS => ?_)
  obtain rfl : 4 = r69 := (show r69 = 4 from hw).symm
  obtain ⟨hP1, hK1, hD1, hz2⟩ := hB
  rw [ht] at hP1 hz2
  have hPD9 := va_join (wr := [(mo, .inr (9, [th, .ref al, md, rf, kn])), (na0, .inl (cI, 4, .inl fn0)), (na1, .inl (cI, 4, .inl fn1)), (a2, .inr (8, [.int 4, .ref wa2, .ref na2])), (wa2, .inl (cI, 4, .inl fw2)), (na2, .inl (cI, 4, .inl fn2)), (q2, .inl (cI, 3, .inl (upd (upd (upd (upd (upd (upd (fun _ => 0) 0 1) 1 1) 1 2) 1 2) 1 2) 1 2))), (a0, .inr (8, [.int 4, .ref wa0, .ref na0])), (wa0, .inl (cI, 4, .inl fw0)), (al, .inr (4, [mc, .ref ed, .int (nI cc)])), (ed, .inl (cO, 10, .inr (.inr (.inr (.inr ee)))))]) (w1 := [(a1, .inr (8, [.int 4, .ref wa1, .ref na1])), (wa1, .inl (cI, 4, .inl fw1))]) hP hD [11, 12] [0, 1, 2, 3, 4, 5, 6, 7, 8, 9, 10] rfl rfl (by decide) (by decide) hk1 hFc hP1 hD1
  clear hPc hDc hFc hDv hpre hP hD hP1 hK1 hD1
  obtain ⟨hP, hD⟩ := hPD9
  replace hz : s.heap.size + 1 ≤ H68.size := by omega
  clear hz2
  replace hP : va_P (dC, dI) vwCl [(mo, .inr (9, [th, .ref al, md, rf, kn])), (na0, .inl (cI, 4, .inl fn0)), (na1, .inl (cI, 4, .inl fn1)), (a2, .inr (8, [.int 4, .ref wa2, .ref na2])), (wa2, .inl (cI, 4, .inl fw2)), (na2, .inl (cI, 4, .inl fn2)), (q2, .inl (cI, 3, .inl (upd (upd (upd (upd (upd (upd (fun _ => 0) 0 1) 1 1) 1 2) 1 2) 1 2) 1 2))), (a0, .inr (8, [.int 4, .ref wa0, .ref na0])), (wa0, .inl (cI, 4, .inl fw0)), (al, .inr (4, [mc, .ref ed, .int (nI cc)])), (ed, .inl (cO, 10, .inr (.inr (.inr (.inr ee))))), (a1, .inr (8, [.int 4, .ref wa1, .ref na1])), (wa1, .inl (cI, 4, .inl fw1))] H68 := hP
  replace hD : va_D A [(mo, .inr (9, [th, .ref al, md, rf, kn])), (na0, .inl (cI, 4, .inl fn0)), (na1, .inl (cI, 4, .inl fn1)), (a2, .inr (8, [.int 4, .ref wa2, .ref na2])), (wa2, .inl (cI, 4, .inl fw2)), (na2, .inl (cI, 4, .inl fn2)), (q2, .inl (cI, 3, .inl (upd (upd (upd (upd (upd (upd (fun _ => 0) 0 1) 1 1) 1 2) 1 2) 1 2) 1 2))), (a0, .inr (8, [.int 4, .ref wa0, .ref na0])), (wa0, .inl (cI, 4, .inl fw0)), (al, .inr (4, [mc, .ref ed, .int (nI cc)])), (ed, .inl (cO, 10, .inr (.inr (.inr (.inr ee))))), (a1, .inr (8, [.int 4, .ref wa1, .ref na1])), (wa1, .inl (cI, 4, .inl fw1))] := hD
  refine W.widen (k := 1) (n := 3) (by omega) (by omega) ?_
  refine lv_icmp_ge (tgt := 80) hx hb dX4_depthOf_40 (by decide) (fun c9 => ?_) (fun c9 => ?_)
  rotate_left
  · exact absurd (by decide) c9
  refine lv_iinc (v := 2) (lv' := [(3, .int 2), (5, .int 4), (4, .ref a1), (2, .ref q2), (0, .ref mo), (1, .int 2)]) hx hb dX4_depthOf_80 hl (k := 2) rfl (by decide) (by decide) rfl (fun ls hl => ?_)
  refine lv_goto (tgt := 8) hx hb dX4_depthOf_83 (by decide) ?_
  refine lv_iload_n hx hb dX4_depthOf_8 rfl (lv_at hl 0 rfl) ?_
  refine lv_iload_n hx hb dX4_depthOf_9 rfl (lv_at hl 5 rfl) ?_
  refine lv_icmp_gt (tgt := 86) hx hb dX4_depthOf_10 (by decide) (fun c9 => ?_) (fun c9 => ?_)
  · exact absurd c9 (by decide)
  refine lv_aload_n hx hb dX4_depthOf_13 rfl (lv_at hl 4 rfl) ?_
  refine va_get (D := (dC, dI)) (ci := 9) (v := .ref al) (C := RX4) (T := TX4) (N := 5) hx hb hts hi_X4_depthOf_X4 hown hK hP 0 rfl rfl 1 (by decide) (hts (.fieldLink RX4 10 "DeeprowsModel" "rows" "Ljava/util/ArrayList;") (List.mem_cons_of_mem _ zw_1134)) (fun _ h9 => h9) rfl dX4_depthOf_14 ?_
  refine lv_iload_n hx hb dX4_depthOf_17 rfl (lv_at hl 0 rfl) ?_
  have hPc := hP.sub (ws' := [(al, .inr (4, [mc, .ref ed, .int (nI cc)])), (ed, .inl (cO, 10, .inr (.inr (.inr (.inr ee)))))]) [9, 10] rfl
  have hDc := hD.sub (ws' := [(al, .inr (4, [mc, .ref ed, .int (nI cc)])), (ed, .inl (cO, 10, .inr (.inr (.inr (.inr ee)))))]) [9, 10] (by decide) rfl
  have hFc := va_free (wc := [(al, .inr (4, [mc, .ref ed, .int (nI cc)])), (ed, .inl (cO, 10, .inr (.inr (.inr (.inr ee)))))]) hD hS hA [9, 10] rfl
  have hDv := hDc.self (sz := H68.size)
  have hpre := zpre (xs' := []) (av := [.ref al, .int 2]) hPc hK (hDc.weaken (fun _ _ _ h => h)) hZ hS hFc (fun r hr => by cases hr)
  refine va_callr (va_runV (As := [.int 2]) (rest := []) ⟨hx, hb, hml, hown, hts⟩ (k_get l dC dI cI cB cR cO zk al ed 2 cc 10 a2 ee mc H68.size (by omega) hcc2 (by decide) he2) (cwV 1 hts gX4_depthOf_Jx4a65c_get_915e3 rfl rfl rfl (by decide +kernel) ⟨Nat.le_of_ble_eq_true rfl, Nat.le_of_ble_eq_true rfl⟩) ⟨zblind, (zrecv_4 hK hPc (q0 := 0) rfl), hpre⟩ rfl rfl hl.1 rfl (lv_room (Nat.le_of_ble_eq_true rfl)) dX4_depthOf_18 ⟨Nat.le_of_ble_eq_true rfl, Nat.le_of_ble_eq_true rfl⟩) hS (fun q _ h => hFc q h) hFc (fun u r71 t H70 locs ht hvm hw hB hz1 hk1 hS => ?_)
  obtain ⟨⟨hP1, hK1, hD1, hz2⟩, her71⟩ := hB
  rw [ht] at hP1 hz2
  have hPD9 := va_join (wr := [(mo, .inr (9, [th, .ref al, md, rf, kn])), (na0, .inl (cI, 4, .inl fn0)), (na1, .inl (cI, 4, .inl fn1)), (a2, .inr (8, [.int 4, .ref wa2, .ref na2])), (wa2, .inl (cI, 4, .inl fw2)), (na2, .inl (cI, 4, .inl fn2)), (q2, .inl (cI, 3, .inl (upd (upd (upd (upd (upd (upd (fun _ => 0) 0 1) 1 1) 1 2) 1 2) 1 2) 1 2))), (a0, .inr (8, [.int 4, .ref wa0, .ref na0])), (wa0, .inl (cI, 4, .inl fw0)), (a1, .inr (8, [.int 4, .ref wa1, .ref na1])), (wa1, .inl (cI, 4, .inl fw1))]) (w1 := [(al, .inr (4, [mc, .ref ed, .int (nI cc)])), (ed, .inl (cO, 10, .inr (.inr (.inr (.inr ee)))))]) hP hD [9, 10] [0, 1, 2, 3, 4, 5, 6, 7, 8, 11, 12] rfl rfl (by decide) (by decide) hk1 hFc hP1 hD1
  clear hPc hDc hFc hDv hpre hP hD hP1 hK1 hD1
  obtain ⟨hP, hD⟩ := hPD9
  replace hz : s.heap.size + 1 ≤ H70.size := by omega
  clear hz2
  replace hP : va_P (dC, dI) vwCl [(mo, .inr (9, [th, .ref al, md, rf, kn])), (na0, .inl (cI, 4, .inl fn0)), (na1, .inl (cI, 4, .inl fn1)), (a2, .inr (8, [.int 4, .ref wa2, .ref na2])), (wa2, .inl (cI, 4, .inl fw2)), (na2, .inl (cI, 4, .inl fn2)), (q2, .inl (cI, 3, .inl (upd (upd (upd (upd (upd (upd (fun _ => 0) 0 1) 1 1) 1 2) 1 2) 1 2) 1 2))), (a0, .inr (8, [.int 4, .ref wa0, .ref na0])), (wa0, .inl (cI, 4, .inl fw0)), (a1, .inr (8, [.int 4, .ref wa1, .ref na1])), (wa1, .inl (cI, 4, .inl fw1)), (al, .inr (4, [mc, .ref ed, .int (nI cc)])), (ed, .inl (cO, 10, .inr (.inr (.inr (.inr ee)))))] H70 := hP
  replace hD : va_D A [(mo, .inr (9, [th, .ref al, md, rf, kn])), (na0, .inl (cI, 4, .inl fn0)), (na1, .inl (cI, 4, .inl fn1)), (a2, .inr (8, [.int 4, .ref wa2, .ref na2])), (wa2, .inl (cI, 4, .inl fw2)), (na2, .inl (cI, 4, .inl fn2)), (q2, .inl (cI, 3, .inl (upd (upd (upd (upd (upd (upd (fun _ => 0) 0 1) 1 1) 1 2) 1 2) 1 2) 1 2))), (a0, .inr (8, [.int 4, .ref wa0, .ref na0])), (wa0, .inl (cI, 4, .inl fw0)), (a1, .inr (8, [.int 4, .ref wa1, .ref na1])), (wa1, .inl (cI, 4, .inl fw1)), (al, .inr (4, [mc, .ref ed, .int (nI cc)])), (ed, .inl (cO, 10, .inr (.inr (.inr (.inr ee)))))] := hD
  refine W.widen (k := 1) (n := 3) (by omega) (by omega) ?_
  obtain rfl := her71.symm
  refine va_castE hx hb hown (hts (.classLink RX4 40 "DeeprowsModel$Row") (List.mem_cons_of_mem _ zw_1165)) (zrecv_8 hK hP (q0 := 3) rfl) dX4_depthOf_21 ?_
  refine lv_astore (lv' := [(4, .ref a2), (3, .int 2), (5, .int 4), (2, .ref q2), (0, .ref mo), (1, .int 2)]) hx hb dX4_depthOf_24 hl (by decide) rfl (fun ls hl => ?_)
  refine lv_aload_n hx hb dX4_depthOf_26 rfl (lv_at hl 3 rfl) ?_
  refine lv_iload_n hx hb dX4_depthOf_27 rfl (lv_at hl 1 rfl) ?_
  refine lv_iconst (v := 1) hx hb dX4_depthOf_28 (by decide) ?_
  refine va_iast (D := (dC, dI)) (cl := vwCl) hx hb hK hP hD (zS0 hS) 6 0 rfl rfl (by unfold vp_in; decide) dX4_depthOf_29 (fun H72 locs hP hD hS1 => ?_)
  have hz : s.heap.size + 1 ≤ H72.size := Nat.le_trans hz hS1.1
  have hS := zSS hS hS1
  replace hP : va_P (dC, dI) vwCl [(mo, .inr (9, [th, .ref al, md, rf, kn])), (na0, .inl (cI, 4, .inl fn0)), (na1, .inl (cI, 4, .inl fn1)), (a2, .inr (8, [.int 4, .ref wa2, .ref na2])), (wa2, .inl (cI, 4, .inl fw2)), (na2, .inl (cI, 4, .inl fn2)), (q2, .inl (cI, 3, .inl (upd (upd (upd (upd (upd (upd (upd (fun _ => 0) 0 1) 1 1) 1 2) 1 2) 1 2) 1 2) 2 1))), (a0, .inr (8, [.int 4, .ref wa0, .ref na0])), (wa0, .inl (cI, 4, .inl fw0)), (a1, .inr (8, [.int 4, .ref wa1, .ref na1])), (wa1, .inl (cI, 4, .inl fw1)), (al, .inr (4, [mc, .ref ed, .int (nI cc)])), (ed, .inl (cO, 10, .inr (.inr (.inr (.inr ee)))))] H72 := hP
  replace hD : va_D A [(mo, .inr (9, [th, .ref al, md, rf, kn])), (na0, .inl (cI, 4, .inl fn0)), (na1, .inl (cI, 4, .inl fn1)), (a2, .inr (8, [.int 4, .ref wa2, .ref na2])), (wa2, .inl (cI, 4, .inl fw2)), (na2, .inl (cI, 4, .inl fn2)), (q2, .inl (cI, 3, .inl (upd (upd (upd (upd (upd (upd (upd (fun _ => 0) 0 1) 1 1) 1 2) 1 2) 1 2) 1 2) 2 1))), (a0, .inr (8, [.int 4, .ref wa0, .ref na0])), (wa0, .inl (cI, 4, .inl fw0)), (a1, .inr (8, [.int 4, .ref wa1, .ref na1])), (wa1, .inl (cI, 4, .inl fw1)), (al, .inr (4, [mc, .ref ed, .int (nI cc)])), (ed, .inl (cO, 10, .inr (.inr (.inr (.inr ee)))))] := hD
  refine lv_iconst (v := 0) hx hb dX4_depthOf_30 (by decide) ?_
  refine lv_istore (lv' := [(5, .int 0), (4, .ref a2), (3, .int 2), (2, .ref q2), (0, .ref mo), (1, .int 2)]) hx hb dX4_depthOf_31 hl (by decide) rfl (fun ls hl => ?_)
  refine lv_iload hx hb dX4_depthOf_33 (lv_at hl 0 rfl) ?_
  refine lv_aload hx hb dX4_depthOf_35 (lv_at hl 1 rfl) ?_
  have hPc := hP.sub (ws' := [(a2, .inr (8, [.int 4, .ref wa2, .ref na2])), (wa2, .inl (cI, 4, .inl fw2))]) [3, 4] rfl
  have hDc := hD.sub (ws' := [(a2, .inr (8, [.int 4, .ref wa2, .ref na2])), (wa2, .inl (cI, 4, .inl fw2))]) [3, 4] (by decide) rfl
  have hFc := va_free (wc := [(a2, .inr (8, [.int 4, .ref wa2, .ref na2])), (wa2, .inl (cI, 4, .inl fw2))]) hD hS hA [3, 4] rfl
  have hDv := hDc.self (sz := H72.size)
  have hpre := zpre (xs' := []) (av := [.ref a2]) hPc hK (hDc.weaken (fun _ _ _ h => h)) hZ hS hFc (fun r hr => by cases hr)
  refine va_calli (va_runV (As := []) (rest := [.int 0]) ⟨hx, hb, hml, hown, hts⟩ (k_rlen l dC dI cI cB cR cO zk a2 wa2 na2 fw2 H72.size ) (cwV 0 hts gX4_depthOf_X3_length rfl rfl rfl (by decide +kernel) ⟨Nat.le_of_ble_eq_true rfl, Nat.le_of_ble_eq_true rfl⟩) ⟨zblind, (zrecv_8 hK hPc (q0 := 0) rfl), hpre⟩ rfl rfl hl.1 rfl (lv_room (Nat.le_of_ble_eq_true rfl)) dX4_depthOf_37 ⟨Nat.le_of_ble_eq_true rfl, Nat.le_of_ble_eq_true rfl⟩) hS (fun q _ h => hFc q h) hFc (fun r74 u t H73 locs ht hvm hw hB hz1 hk1 hS => ?_)
  obtain rfl : 4 = r74 := (show r74 = 4 from hw).symm
  obtain ⟨hP1, hK1, hD1, hz2⟩ := hB
  rw [ht] at hP1 hz2
  have hPD9 := va_join (wr := [(mo, .inr (9, [th, .ref al, md, rf, kn])), (na0, .inl (cI, 4, .inl fn0)), (na1, .inl (cI, 4, .inl fn1)), (na2, .inl (cI, 4, .inl fn2)), (q2, .inl (cI, 3, .inl (upd (upd (upd (upd (upd (upd (upd (fun _ => 0) 0 1) 1 1) 1 2) 1 2) 1 2) 1 2) 2 1))), (a0, .inr (8, [.int 4, .ref wa0, .ref na0])), (wa0, .inl (cI, 4, .inl fw0)), (a1, .inr (8, [.int 4, .ref wa1, .ref na1])), (wa1, .inl (cI, 4, .inl fw1)), (al, .inr (4, [mc, .ref ed, .int (nI cc)])), (ed, .inl (cO, 10, .inr (.inr (.inr (.inr ee)))))]) (w1 := [(a2, .inr (8, [.int 4, .ref wa2, .ref na2])), (wa2, .inl (cI, 4, .inl fw2))]) hP hD [3, 4] [0, 1, 2, 5, 6, 7, 8, 9, 10, 11, 12] rfl rfl (by decide) (by decide) hk1 hFc hP1 hD1
  clear hPc hDc hFc hDv hpre hP hD hP1 hK1 hD1
  obtain ⟨hP, hD⟩ := hPD9
  replace hz : s.heap.size + 1 ≤ H73.size := by omega
  clear hz2
  replace hP : va_P (dC, dI) vwCl [(mo, .inr (9, [th, .ref al, md, rf, kn])), (na0, .inl (cI, 4, .inl fn0)), (na1, .inl (cI, 4, .inl fn1)), (na2, .inl (cI, 4, .inl fn2)), (q2, .inl (cI, 3, .inl (upd (upd (upd (upd (upd (upd (upd (fun _ => 0) 0 1) 1 1) 1 2) 1 2) 1 2) 1 2) 2 1))), (a0, .inr (8, [.int 4, .ref wa0, .ref na0])), (wa0, .inl (cI, 4, .inl fw0)), (a1, .inr (8, [.int 4, .ref wa1, .ref na1])), (wa1, .inl (cI, 4, .inl fw1)), (al, .inr (4, [mc, .ref ed, .int (nI cc)])), (ed, .inl (cO, 10, .inr (.inr (.inr (.inr ee))))), (a2, .inr (8, [.int 4, .ref wa2, .ref na2])), (wa2, .inl (cI, 4, .inl fw2))] H73 := hP
  replace hD : va_D A [(mo, .inr (9, [th, .ref al, md, rf, kn])), (na0, .inl (cI, 4, .inl fn0)), (na1, .inl (cI, 4, .inl fn1)), (na2, .inl (cI, 4, .inl fn2)), (q2, .inl (cI, 3, .inl (upd (upd (upd (upd (upd (upd (upd (fun _ => 0) 0 1) 1 1) 1 2) 1 2) 1 2) 1 2) 2 1))), (a0, .inr (8, [.int 4, .ref wa0, .ref na0])), (wa0, .inl (cI, 4, .inl fw0)), (a1, .inr (8, [.int 4, .ref wa1, .ref na1])), (wa1, .inl (cI, 4, .inl fw1)), (al, .inr (4, [mc, .ref ed, .int (nI cc)])), (ed, .inl (cO, 10, .inr (.inr (.inr (.inr ee))))), (a2, .inr (8, [.int 4, .ref wa2, .ref na2])), (wa2, .inl (cI, 4, .inl fw2))] := hD
  refine W.widen (k := 1) (n := 3) (by omega) (by omega) ?_
  refine lv_icmp_ge (tgt := 80) hx hb dX4_depthOf_40 (by decide) (fun c9 => ?_) (fun c9 => ?_)
  · exact absurd c9 (by decide)
  refine lv_aload hx hb dX4_depthOf_43 (lv_at hl 1 rfl) ?_
  refine lv_iload hx hb dX4_depthOf_45 (lv_at hl 0 rfl) ?_
  have hPc := hP.sub (ws' := [(a2, .inr (8, [.int 4, .ref wa2, .ref na2])), (wa2, .inl (cI, 4, .inl fw2))]) [11, 12] rfl
  have hDc := hD.sub (ws' := [(a2, .inr (8, [.int 4, .ref wa2, .ref na2])), (wa2, .inl (cI, 4, .inl fw2))]) [11, 12] (by decide) rfl
  have hFc := va_free (wc := [(a2, .inr (8, [.int 4, .ref wa2, .ref na2])), (wa2, .inl (cI, 4, .inl fw2))]) hD hS hA [11, 12] rfl
  have hDv := hDc.self (sz := H73.size)
  have hpre := zpre (xs' := []) (av := [.ref a2, .int 0]) hPc hK (hDc.weaken (fun _ _ _ h => h)) hZ hS hFc (fun r hr => by cases hr)
  refine va_calli (va_runV (As := [.int 0]) (rest := []) ⟨hx, hb, hml, hown, hts⟩ (k_mh0_3 l dC dI cI cB cR cO zk a2 wa2 na2 fw2 H73.size (hw2 0 (by decide))) (cwV 1 hts gX4_depthOf_X3_hangs rfl rfl rfl (by decide +kernel) ⟨Nat.le_of_ble_eq_true rfl, Nat.le_of_ble_eq_true rfl⟩) ⟨zblind, (zrecv_8 hK hPc (q0 := 0) rfl), hpre⟩ rfl rfl hl.1 rfl (lv_room (Nat.le_of_ble_eq_true rfl)) dX4_depthOf_47 ⟨Nat.le_of_ble_eq_true rfl, Nat.le_of_ble_eq_true rfl⟩) hS (fun q _ h => hFc q h) hFc (fun r76 u t H75 locs ht hvm hw hB hz1 hk1 hS => ?_)
  obtain rfl : 1 = r76 := (show r76 = 1 from hw).symm
  obtain ⟨hP1, hK1, hD1, hz2⟩ := hB
  rw [ht] at hP1 hz2
  have hPD9 := va_join (wr := [(mo, .inr (9, [th, .ref al, md, rf, kn])), (na0, .inl (cI, 4, .inl fn0)), (na1, .inl (cI, 4, .inl fn1)), (na2, .inl (cI, 4, .inl fn2)), (q2, .inl (cI, 3, .inl (upd (upd (upd (upd (upd (upd (upd (fun _ => 0) 0 1) 1 1) 1 2) 1 2) 1 2) 1 2) 2 1))), (a0, .inr (8, [.int 4, .ref wa0, .ref na0])), (wa0, .inl (cI, 4, .inl fw0)), (a1, .inr (8, [.int 4, .ref wa1, .ref na1])), (wa1, .inl (cI, 4, .inl fw1)), (al, .inr (4, [mc, .ref ed, .int (nI cc)])), (ed, .inl (cO, 10, .inr (.inr (.inr (.inr ee)))))]) (w1 := [(a2, .inr (8, [.int 4, .ref wa2, .ref na2])), (wa2, .inl (cI, 4, .inl fw2))]) hP hD [11, 12] [0, 1, 2, 3, 4, 5, 6, 7, 8, 9, 10] rfl rfl (by decide) (by decide) hk1 hFc hP1 hD1
  clear hPc hDc hFc hDv hpre hP hD hP1 hK1 hD1
  obtain ⟨hP, hD⟩ := hPD9
  replace hz : s.heap.size + 1 ≤ H75.size := by omega
  clear hz2
  replace hP : va_P (dC, dI) vwCl [(mo, .inr (9, [th, .ref al, md, rf, kn])), (na0, .inl (cI, 4, .inl fn0)), (na1, .inl (cI, 4, .inl fn1)), (na2, .inl (cI, 4, .inl fn2)), (q2, .inl (cI, 3, .inl (upd (upd (upd (upd (upd (upd (upd (fun _ => 0) 0 1) 1 1) 1 2) 1 2) 1 2) 1 2) 2 1))), (a0, .inr (8, [.int 4, .ref wa0, .ref na0])), (wa0, .inl (cI, 4, .inl fw0)), (a1, .inr (8, [.int 4, .ref wa1, .ref na1])), (wa1, .inl (cI, 4, .inl fw1)), (al, .inr (4, [mc, .ref ed, .int (nI cc)])), (ed, .inl (cO, 10, .inr (.inr (.inr (.inr ee))))), (a2, .inr (8, [.int 4, .ref wa2, .ref na2])), (wa2, .inl (cI, 4, .inl fw2))] H75 := hP
  replace hD : va_D A [(mo, .inr (9, [th, .ref al, md, rf, kn])), (na0, .inl (cI, 4, .inl fn0)), (na1, .inl (cI, 4, .inl fn1)), (na2, .inl (cI, 4, .inl fn2)), (q2, .inl (cI, 3, .inl (upd (upd (upd (upd (upd (upd (upd (fun _ => 0) 0 1) 1 1) 1 2) 1 2) 1 2) 1 2) 2 1))), (a0, .inr (8, [.int 4, .ref wa0, .ref na0])), (wa0, .inl (cI, 4, .inl fw0)), (a1, .inr (8, [.int 4, .ref wa1, .ref na1])), (wa1, .inl (cI, 4, .inl fw1)), (al, .inr (4, [mc, .ref ed, .int (nI cc)])), (ed, .inl (cO, 10, .inr (.inr (.inr (.inr ee))))), (a2, .inr (8, [.int 4, .ref wa2, .ref na2])), (wa2, .inl (cI, 4, .inl fw2))] := hD
  refine W.widen (k := 1) (n := 3) (by omega) (by omega) ?_
  refine lv_if_eq (tgt := 74) hx hb dX4_depthOf_50 (by decide) (fun c9 => ?_) (fun c9 => ?_)
  · exact absurd c9 (by decide)
  refine lv_aload_n hx hb dX4_depthOf_53 rfl (lv_at hl 3 rfl) ?_
  refine lv_iload_n hx hb dX4_depthOf_54 rfl (lv_at hl 2 rfl) ?_
  refine lv_aload_n hx hb dX4_depthOf_55 rfl (lv_at hl 3 rfl) ?_
  refine lv_iload_n hx hb dX4_depthOf_56 rfl (lv_at hl 2 rfl) ?_
  refine va_iald (D := (dC, dI)) (cl := vwCl) hx hb hK hP 4 0 rfl rfl (by unfold vp_in; decide) dX4_depthOf_57 ?_
  refine lv_topi (fun v77 ev77 => ?_)
  obtain rfl : v77 = 1 := ev77.trans (rfl)
  refine lv_iconst (v := 1) hx hb dX4_depthOf_58 (by decide) ?_
  refine lv_aload_n hx hb dX4_depthOf_59 rfl (lv_at hl 3 rfl) ?_
  refine lv_aload hx hb dX4_depthOf_60 (lv_at hl 1 rfl) ?_
  refine va_get (D := (dC, dI)) (ci := 8) (v := .ref na2) (C := RX3) (T := TX3) (N := 3) hx hb hts hi_X4_depthOf_X3 hown hK hP 11 rfl rfl 2 (by decide) (hts (.fieldLink RX4 48 "DeeprowsModel$Row" "numbers" "[I") (List.mem_cons_of_mem _ zw_1180)) (fun _ h9 => h9) rfl dX4_depthOf_62 ?_
  refine lv_iload hx hb dX4_depthOf_65 (lv_at hl 0 rfl) ?_
  refine va_iald (D := (dC, dI)) (cl := vwCl) hx hb hK hP 3 0 rfl rfl (by unfold vp_in; decide) dX4_depthOf_67 ?_
  refine lv_topi (fun v78 ev78 => ?_)
  obtain rfl : v78 = 1 := ev78.trans (hn2 0 (by decide))
  refine va_iald (D := (dC, dI)) (cl := vwCl) hx hb hK hP 4 0 rfl rfl (by unfold vp_in; decide) dX4_depthOf_68 ?_
  refine lv_topi (fun v79 ev79 => ?_)
  obtain rfl : v79 = 2 := ev79.trans (rfl)
  refine lv_iadd hx hb dX4_depthOf_69 ?_
  refine lv_topi (fun v80 ev80 => ?_)
  obtain rfl : v80 = 3 := ev80.trans (by decide)
  refine va_mmax (x := 1) (y := 3) hx hb (hml.trans hl.1.symm) hown (hts (.methodLink RX4 52 Lib.Math.max.name) (List.mem_cons_of_mem _ zw_1264)) (hts (.static Lib.Math.max.name) (List.mem_cons_of_mem _ zw_271)) (hts (.initialized "java/lang/Math") (List.mem_cons_of_mem _ zw_58)) (hts (.code Lib.Math.max.name Lib.Math.max.code 2 (some .int)) (List.mem_cons_of_mem _ zw_272)) (Nat.le_of_ble_eq_true rfl) (Nat.le_of_ble_eq_true rfl) (Nat.le_of_ble_eq_true rfl) (Nat.le_of_ble_eq_true rfl) dX4_depthOf_70 ?_
  refine lv_topi (fun v81 ev81 => ?_)
  obtain rfl : v81 = 3 := ev81.trans (by decide)
  refine va_iast (D := (dC, dI)) (cl := vwCl) hx hb hK hP hD (zS0 hS) 4 0 rfl rfl (by unfold vp_in; decide) dX4_depthOf_73 (fun H82 locs hP hD hS1 => ?_)
  have hz : s.heap.size + 1 ≤ H82.size := Nat.le_trans hz hS1.1
  have hS := zSS hS hS1
  replace hP : va_P (dC, dI) vwCl [(mo, .inr (9, [th, .ref al, md, rf, kn])), (na0, .inl (cI, 4, .inl fn0)), (na1, .inl (cI, 4, .inl fn1)), (na2, .inl (cI, 4, .inl fn2)), (q2, .inl (cI, 3, .inl (upd (upd (upd (upd (upd (upd (upd (upd (fun _ => 0) 0 1) 1 1) 1 2) 1 2) 1 2) 1 2) 2 1) 2 3))), (a0, .inr (8, [.int 4, .ref wa0, .ref na0])), (wa0, .inl (cI, 4, .inl fw0)), (a1, .inr (8, [.int 4, .ref wa1, .ref na1])), (wa1, .inl (cI, 4, .inl fw1)), (al, .inr (4, [mc, .ref ed, .int (nI cc)])), (ed, .inl (cO, 10, .inr (.inr (.inr (.inr ee))))), (a2, .inr (8, [.int 4, .ref wa2, .ref na2])), (wa2, .inl (cI, 4, .inl fw2))] H82 := hP
  replace hD : va_D A [(mo, .inr (9, [th, .ref al, md, rf, kn])), (na0, .inl (cI, 4, .inl fn0)), (na1, .inl (cI, 4, .inl fn1)), (na2, .inl (cI, 4, .inl fn2)), (q2, .inl (cI, 3, .inl (upd (upd (upd (upd (upd (upd (upd (upd (fun _ => 0) 0 1) 1 1) 1 2) 1 2) 1 2) 1 2) 2 1) 2 3))), (a0, .inr (8, [.int 4, .ref wa0, .ref na0])), (wa0, .inl (cI, 4, .inl fw0)), (a1, .inr (8, [.int 4, .ref wa1, .ref na1])), (wa1, .inl (cI, 4, .inl fw1)), (al, .inr (4, [mc, .ref ed, .int (nI cc)])), (ed, .inl (cO, 10, .inr (.inr (.inr (.inr ee))))), (a2, .inr (8, [.int 4, .ref wa2, .ref na2])), (wa2, .inl (cI, 4, .inl fw2))] := hD
  refine lv_iinc (v := 1) (lv' := [(5, .int 1), (4, .ref a2), (3, .int 2), (2, .ref q2), (0, .ref mo), (1, .int 2)]) hx hb dX4_depthOf_74 hl (k := 0) rfl (by decide) (by decide) rfl (fun ls hl => ?_)
  refine lv_goto (tgt := 33) hx hb dX4_depthOf_77 (by decide) ?_
  refine lv_iload hx hb dX4_depthOf_33 (lv_at hl 0 rfl) ?_
  refine lv_aload hx hb dX4_depthOf_35 (lv_at hl 1 rfl) ?_
  have hPc := hP.sub (ws' := [(a2, .inr (8, [.int 4, .ref wa2, .ref na2])), (wa2, .inl (cI, 4, .inl fw2))]) [11, 12] rfl
  have hDc := hD.sub (ws' := [(a2, .inr (8, [.int 4, .ref wa2, .ref na2])), (wa2, .inl (cI, 4, .inl fw2))]) [11, 12] (by decide) rfl
  have hFc := va_free (wc := [(a2, .inr (8, [.int 4, .ref wa2, .ref na2])), (wa2, .inl (cI, 4, .inl fw2))]) hD hS hA [11, 12] rfl
  have hDv := hDc.self (sz := H82.size)
  have hpre := zpre (xs' := []) (av := [.ref a2]) hPc hK (hDc.weaken (fun _ _ _ h => h)) hZ hS hFc (fun r hr => by cases hr)
  refine va_calli (va_runV (As := []) (rest := [.int 1]) ⟨hx, hb, hml, hown, hts⟩ (k_rlen l dC dI cI cB cR cO zk a2 wa2 na2 fw2 H82.size ) (cwV 0 hts gX4_depthOf_X3_length rfl rfl rfl (by decide +kernel) ⟨Nat.le_of_ble_eq_true rfl, Nat.le_of_ble_eq_true rfl⟩) ⟨zblind, (zrecv_8 hK hPc (q0 := 0) rfl), hpre⟩ rfl rfl hl.1 rfl (lv_room (Nat.le_of_ble_eq_true rfl)) dX4_depthOf_37 ⟨Nat.le_of_ble_eq_true rfl, Nat.le_of_ble_eq_true rfl⟩) hS (fun q _ h => hFc q h) hFc (fun r84 u t H83 locs ht hvm hw hB hz1 hk1 hS => ?_)
  obtain rfl : 4 = r84 := (show r84 = 4 from hw).symm
  obtain ⟨hP1, hK1, hD1, hz2⟩ := hB
  rw [ht] at hP1 hz2
  have hPD9 := va_join (wr := [(mo, .inr (9, [th, .ref al, md, rf, kn])), (na0, .inl (cI, 4, .inl fn0)), (na1, .inl (cI, 4, .inl fn1)), (na2, .inl (cI, 4, .inl fn2)), (q2, .inl (cI, 3, .inl (upd (upd (upd (upd (upd (upd (upd (upd (fun _ => 0) 0 1) 1 1) 1 2) 1 2) 1 2) 1 2) 2 1) 2 3))), (a0, .inr (8, [.int 4, .ref wa0, .ref na0])), (wa0, .inl (cI, 4, .inl fw0)), (a1, .inr (8, [.int 4, .ref wa1, .ref na1])), (wa1, .inl (cI, 4, .inl fw1)), (al, .inr (4, [mc, .ref ed, .int (nI cc)])), (ed, .inl (cO, 10, .inr (.inr (.inr (.inr ee)))))]) (w1 := [(a2, .inr (8, [.int 4, .ref wa2, .ref na2])), (wa2, .inl (cI, 4, .inl fw2))]) hP hD [11, 12] [0, 1, 2, 3, 4, 5, 6, 7, 8, 9, 10] rfl rfl (by decide) (by decide) hk1 hFc hP1 hD1
  clear hPc hDc hFc hDv hpre hP hD hP1 hK1 hD1
  obtain ⟨hP, hD⟩ := hPD9
  replace hz : s.heap.size + 1 ≤ H83.size := by omega
  clear hz2
  replace hP : va_P (dC, dI) vwCl [(mo, .inr (9, [th, .ref al, md, rf, kn])), (na0, .inl (cI, 4, .inl fn0)), (na1, .inl (cI, 4, .inl fn1)), (na2, .inl (cI, 4, .inl fn2)), (q2, .inl (cI, 3, .inl (upd (upd (upd (upd (upd (upd (upd (upd (fun _ => 0) 0 1) 1 1) 1 2) 1 2) 1 2) 1 2) 2 1) 2 3))), (a0, .inr (8, [.int 4, .ref wa0, .ref na0])), (wa0, .inl (cI, 4, .inl fw0)), (a1, .inr (8, [.int 4, .ref wa1, .ref na1])), (wa1, .inl (cI, 4, .inl fw1)), (al, .inr (4, [mc, .ref ed, .int (nI cc)])), (ed, .inl (cO, 10, .inr (.inr (.inr (.inr ee))))), (a2, .inr (8, [.int 4, .ref wa2, .ref na2])), (wa2, .inl (cI, 4, .inl fw2))] H83 := hP
  replace hD : va_D A [(mo, .inr (9, [th, .ref al, md, rf, kn])), (na0, .inl (cI, 4, .inl fn0)), (na1, .inl (cI, 4, .inl fn1)), (na2, .inl (cI, 4, .inl fn2)), (q2, .inl (cI, 3, .inl (upd (upd (upd (upd (upd (upd (upd (upd (fun _ => 0) 0 1) 1 1) 1 2) 1 2) 1 2) 1 2) 2 1) 2 3))), (a0, .inr (8, [.int 4, .ref wa0, .ref na0])), (wa0, .inl (cI, 4, .inl fw0)), (a1, .inr (8, [.int 4, .ref wa1, .ref na1])), (wa1, .inl (cI, 4, .inl fw1)), (al, .inr (4, [mc, .ref ed, .int (nI cc)])), (ed, .inl (cO, 10, .inr (.inr (.inr (.inr ee))))), (a2, .inr (8, [.int 4, .ref wa2, .ref na2])), (wa2, .inl (cI, 4, .inl fw2))] := hD
  refine W.widen (k := 1) (n := 3) (by omega) (by omega) ?_
  refine lv_icmp_ge (tgt := 80) hx hb dX4_depthOf_40 (by decide) (fun c9 => ?_) (fun c9 => ?_)
  · exact absurd c9 (by decide)
  refine lv_aload hx hb dX4_depthOf_43 (lv_at hl 1 rfl) ?_
  refine lv_iload hx hb dX4_depthOf_45 (lv_at hl 0 rfl) ?_
  have hPc := hP.sub (ws' := [(a2, .inr (8, [.int 4, .ref wa2, .ref na2])), (wa2, .inl (cI, 4, .inl fw2))]) [11, 12] rfl
  have hDc := hD.sub (ws' := [(a2, .inr (8, [.int 4, .ref wa2, .ref na2])), (wa2, .inl (cI, 4, .inl fw2))]) [11, 12] (by decide) rfl
  have hFc := va_free (wc := [(a2, .inr (8, [.int 4, .ref wa2, .ref na2])), (wa2, .inl (cI, 4, .inl fw2))]) hD hS hA [11, 12] rfl
  have hDv := hDc.self (sz := H83.size)
  have hpre := zpre (xs' := []) (av := [.ref a2, .int 1]) hPc hK (hDc.weaken (fun _ _ _ h => h)) hZ hS hFc (fun r hr => by cases hr)
  refine va_calli (va_runV (As := [.int 1]) (rest := []) ⟨hx, hb, hml, hown, hts⟩ (k_mh1_3 l dC dI cI cB cR cO zk a2 wa2 na2 fw2 H83.size (hw2 1 (by decide))) (cwV 1 hts gX4_depthOf_X3_hangs rfl rfl rfl (by decide +kernel) ⟨Nat.le_of_ble_eq_true rfl, Nat.le_of_ble_eq_true rfl⟩) ⟨zblind, (zrecv_8 hK hPc (q0 := 0) rfl), hpre⟩ rfl rfl hl.1 rfl (lv_room (Nat.le_of_ble_eq_true rfl)) dX4_depthOf_47 ⟨Nat.le_of_ble_eq_true rfl, Nat.le_of_ble_eq_true rfl⟩) hS (fun q _ h => hFc q h) hFc (fun r86 u t H85 locs ht hvm hw hB hz1 hk1 hS => ?_)
  obtain rfl : 1 = r86 := (show r86 = 1 from hw).symm
  obtain ⟨hP1, hK1, hD1, hz2⟩ := hB
  rw [ht] at hP1 hz2
  have hPD9 := va_join (wr := [(mo, .inr (9, [th, .ref al, md, rf, kn])), (na0, .inl (cI, 4, .inl fn0)), (na1, .inl (cI, 4, .inl fn1)), (na2, .inl (cI, 4, .inl fn2)), (q2, .inl (cI, 3, .inl (upd (upd (upd (upd (upd (upd (upd (upd (fun _ => 0) 0 1) 1 1) 1 2) 1 2) 1 2) 1 2) 2 1) 2 3))), (a0, .inr (8, [.int 4, .ref wa0, .ref na0])), (wa0, .inl (cI, 4, .inl fw0)), (a1, .inr (8, [.int 4, .ref wa1, .ref na1])), (wa1, .inl (cI, 4, .inl fw1)), (al, .inr (4, [mc, .ref ed, .int (nI cc)])), (ed, .inl (cO, 10, .inr (.inr (.inr (.inr ee)))))]) (w1 := [(a2, .inr (8, [.int 4, .ref wa2, .ref na2])), (wa2, .inl (cI, 4, .inl fw2))]) hP hD [11, 12] [0, 1, 2, 3, 4, 5, 6, 7, 8, 9, 10] rfl rfl (by decide) (by decide) hk1 hFc hP1 hD1
  clear hPc hDc hFc hDv hpre hP hD hP1 hK1 hD1
  obtain ⟨hP, hD⟩ := hPD9
  replace hz : s.heap.size + 1 ≤ H85.size := by omega
  clear hz2
  replace hP : va_P (dC, dI) vwCl [(mo, .inr (9, [th, .ref al, md, rf, kn])), (na0, .inl (cI, 4, .inl fn0)), (na1, .inl (cI, 4, .inl fn1)), (na2, .inl (cI, 4, .inl fn2)), (q2, .inl (cI, 3, .inl (upd (upd (upd (upd (upd (upd (upd (upd (fun _ => 0) 0 1) 1 1) 1 2) 1 2) 1 2) 1 2) 2 1) 2 3))), (a0, .inr (8, [.int 4, .ref wa0, .ref na0])), (wa0, .inl (cI, 4, .inl fw0)), (a1, .inr (8, [.int 4, .ref wa1, .ref na1])), (wa1, .inl (cI, 4, .inl fw1)), (al, .inr (4, [mc, .ref ed, .int (nI cc)])), (ed, .inl (cO, 10, .inr (.inr (.inr (.inr ee))))), (a2, .inr (8, [.int 4, .ref wa2, .ref na2])), (wa2, .inl (cI, 4, .inl fw2))] H85 := hP
  replace hD : va_D A [(mo, .inr (9, [th, .ref al, md, rf, kn])), (na0, .inl (cI, 4, .inl fn0)), (na1, .inl (cI, 4, .inl fn1)), (na2, .inl (cI, 4, .inl fn2)), (q2, .inl (cI, 3, .inl (upd (upd (upd (upd (upd (upd (upd (upd (fun _ => 0) 0 1) 1 1) 1 2) 1 2) 1 2) 1 2) 2 1) 2 3))), (a0, .inr (8, [.int 4, .ref wa0, .ref na0])), (wa0, .inl (cI, 4, .inl fw0)), (a1, .inr (8, [.int 4, .ref wa1, .ref na1])), (wa1, .inl (cI, 4, .inl fw1)), (al, .inr (4, [mc, .ref ed, .int (nI cc)])), (ed, .inl (cO, 10, .inr (.inr (.inr (.inr ee))))), (a2, .inr (8, [.int 4, .ref wa2, .ref na2])), (wa2, .inl (cI, 4, .inl fw2))] := hD
  refine W.widen (k := 1) (n := 3) (by omega) (by omega) ?_
  refine lv_if_eq (tgt := 74) hx hb dX4_depthOf_50 (by decide) (fun c9 => ?_) (fun c9 => ?_)
  · exact absurd c9 (by decide)
  refine lv_aload_n hx hb dX4_depthOf_53 rfl (lv_at hl 3 rfl) ?_
  refine lv_iload_n hx hb dX4_depthOf_54 rfl (lv_at hl 2 rfl) ?_
  refine lv_aload_n hx hb dX4_depthOf_55 rfl (lv_at hl 3 rfl) ?_
  refine lv_iload_n hx hb dX4_depthOf_56 rfl (lv_at hl 2 rfl) ?_
  refine va_iald (D := (dC, dI)) (cl := vwCl) hx hb hK hP 4 0 rfl rfl (by unfold vp_in; decide) dX4_depthOf_57 ?_
  refine lv_topi (fun v87 ev87 => ?_)
  obtain rfl : v87 = 3 := ev87.trans (rfl)
  refine lv_iconst (v := 1) hx hb dX4_depthOf_58 (by decide) ?_
  refine lv_aload_n hx hb dX4_depthOf_59 rfl (lv_at hl 3 rfl) ?_
  refine lv_aload hx hb dX4_depthOf_60 (lv_at hl 1 rfl) ?_
  refine va_get (D := (dC, dI)) (ci := 8) (v := .ref na2) (C := RX3) (T := TX3) (N := 3) hx hb hts hi_X4_depthOf_X3 hown hK hP 11 rfl rfl 2 (by decide) (hts (.fieldLink RX4 48 "DeeprowsModel$Row" "numbers" "[I") (List.mem_cons_of_mem _ zw_1180)) (fun _ h9 => h9) rfl dX4_depthOf_62 ?_
  refine lv_iload hx hb dX4_depthOf_65 (lv_at hl 0 rfl) ?_
  refine va_iald (D := (dC, dI)) (cl := vwCl) hx hb hK hP 3 0 rfl rfl (by unfold vp_in; decide) dX4_depthOf_67 ?_
  refine lv_topi (fun v88 ev88 => ?_)
  obtain rfl : v88 = 1 := ev88.trans (hn2 1 (by decide))
  refine va_iald (D := (dC, dI)) (cl := vwCl) hx hb hK hP 4 0 rfl rfl (by unfold vp_in; decide) dX4_depthOf_68 ?_
  refine lv_topi (fun v89 ev89 => ?_)
  obtain rfl : v89 = 2 := ev89.trans (rfl)
  refine lv_iadd hx hb dX4_depthOf_69 ?_
  refine lv_topi (fun v90 ev90 => ?_)
  obtain rfl : v90 = 3 := ev90.trans (by decide)
  refine va_mmax (x := 3) (y := 3) hx hb (hml.trans hl.1.symm) hown (hts (.methodLink RX4 52 Lib.Math.max.name) (List.mem_cons_of_mem _ zw_1264)) (hts (.static Lib.Math.max.name) (List.mem_cons_of_mem _ zw_271)) (hts (.initialized "java/lang/Math") (List.mem_cons_of_mem _ zw_58)) (hts (.code Lib.Math.max.name Lib.Math.max.code 2 (some .int)) (List.mem_cons_of_mem _ zw_272)) (Nat.le_of_ble_eq_true rfl) (Nat.le_of_ble_eq_true rfl) (Nat.le_of_ble_eq_true rfl) (Nat.le_of_ble_eq_true rfl) dX4_depthOf_70 ?_
  refine lv_topi (fun v91 ev91 => ?_)
  obtain rfl : v91 = 3 := ev91.trans (by decide)
  refine va_iast (D := (dC, dI)) (cl := vwCl) hx hb hK hP hD (zS0 hS) 4 0 rfl rfl (by unfold vp_in; decide) dX4_depthOf_73 (fun H92 locs hP hD hS1 => ?_)
  have hz : s.heap.size + 1 ≤ H92.size := Nat.le_trans hz hS1.1
  have hS := zSS hS hS1
  replace hP : va_P (dC, dI) vwCl [(mo, .inr (9, [th, .ref al, md, rf, kn])), (na0, .inl (cI, 4, .inl fn0)), (na1, .inl (cI, 4, .inl fn1)), (na2, .inl (cI, 4, .inl fn2)), (q2, .inl (cI, 3, .inl (upd (upd (upd (upd (upd (upd (upd (upd (upd (fun _ => 0) 0 1) 1 1) 1 2) 1 2) 1 2) 1 2) 2 1) 2 3) 2 3))), (a0, .inr (8, [.int 4, .ref wa0, .ref na0])), (wa0, .inl (cI, 4, .inl fw0)), (a1, .inr (8, [.int 4, .ref wa1, .ref na1])), (wa1, .inl (cI, 4, .inl fw1)), (al, .inr (4, [mc, .ref ed, .int (nI cc)])), (ed, .inl (cO, 10, .inr (.inr (.inr (.inr ee))))), (a2, .inr (8, [.int 4, .ref wa2, .ref na2])), (wa2, .inl (cI, 4, .inl fw2))] H92 := hP
  replace hD : va_D A [(mo, .inr (9, [th, .ref al, md, rf, kn])), (na0, .inl (cI, 4, .inl fn0)), (na1, .inl (cI, 4, .inl fn1)), (na2, .inl (cI, 4, .inl fn2)), (q2, .inl (cI, 3, .inl (upd (upd (upd (upd (upd (upd (upd (upd (upd (fun _ => 0) 0 1) 1 1) 1 2) 1 2) 1 2) 1 2) 2 1) 2 3) 2 3))), (a0, .inr (8, [.int 4, .ref wa0, .ref na0])), (wa0, .inl (cI, 4, .inl fw0)), (a1, .inr (8, [.int 4, .ref wa1, .ref na1])), (wa1, .inl (cI, 4, .inl fw1)), (al, .inr (4, [mc, .ref ed, .int (nI cc)])), (ed, .inl (cO, 10, .inr (.inr (.inr (.inr ee))))), (a2, .inr (8, [.int 4, .ref wa2, .ref na2])), (wa2, .inl (cI, 4, .inl fw2))] := hD
  refine lv_iinc (v := 2) (lv' := [(5, .int 2), (4, .ref a2), (3, .int 2), (2, .ref q2), (0, .ref mo), (1, .int 2)]) hx hb dX4_depthOf_74 hl (k := 0) rfl (by decide) (by decide) rfl (fun ls hl => ?_)
  refine lv_goto (tgt := 33) hx hb dX4_depthOf_77 (by decide) ?_
  refine lv_iload hx hb dX4_depthOf_33 (lv_at hl 0 rfl) ?_
  refine lv_aload hx hb dX4_depthOf_35 (lv_at hl 1 rfl) ?_
  have hPc := hP.sub (ws' := [(a2, .inr (8, [.int 4, .ref wa2, .ref na2])), (wa2, .inl (cI, 4, .inl fw2))]) [11, 12] rfl
  have hDc := hD.sub (ws' := [(a2, .inr (8, [.int 4, .ref wa2, .ref na2])), (wa2, .inl (cI, 4, .inl fw2))]) [11, 12] (by decide) rfl
  have hFc := va_free (wc := [(a2, .inr (8, [.int 4, .ref wa2, .ref na2])), (wa2, .inl (cI, 4, .inl fw2))]) hD hS hA [11, 12] rfl
  have hDv := hDc.self (sz := H92.size)
  have hpre := zpre (xs' := []) (av := [.ref a2]) hPc hK (hDc.weaken (fun _ _ _ h => h)) hZ hS hFc (fun r hr => by cases hr)
  refine va_calli (va_runV (As := []) (rest := [.int 2]) ⟨hx, hb, hml, hown, hts⟩ (k_rlen l dC dI cI cB cR cO zk a2 wa2 na2 fw2 H92.size ) (cwV 0 hts gX4_depthOf_X3_length rfl rfl rfl (by decide +kernel) ⟨Nat.le_of_ble_eq_true rfl, Nat.le_of_ble_eq_true rfl⟩) ⟨zblind, (zrecv_8 hK hPc (q0 := 0) rfl), hpre⟩ rfl rfl hl.1 rfl (lv_room (Nat.le_of_ble_eq_true rfl)) dX4_depthOf_37 ⟨Nat.le_of_ble_eq_true rfl, Nat.le_of_ble_eq_true rfl⟩) hS (fun q _ h => hFc q h) hFc (fun r94 u t H93 locs ht hvm hw hB hz1 hk1 hS => ?_)
  obtain rfl : 4 = r94 := (show r94 = 4 from hw).symm
  obtain ⟨hP1, hK1, hD1, hz2⟩ := hB
  rw [ht] at hP1 hz2
  have hPD9 := va_join (wr := [(mo, .inr (9, [th, .ref al, md, rf, kn])), (na0, .inl (cI, 4, .inl fn0)), (na1, .inl (cI, 4, .inl fn1)), (na2, .inl (cI, 4, .inl fn2)), (q2, .inl (cI, 3, .inl (upd (upd (upd (upd (upd (upd (upd (upd (upd (fun _ => 0) 0 1) 1 1) 1 2) 1 2) 1 2) 1 2) 2 1) 2 3) 2 3))), (a0, .inr (8, [.int 4, .ref wa0, .ref na0])), (wa0, .inl (cI, 4, .inl fw0)), (a1, .inr (8, [.int 4, .ref wa1, .ref na1])), (wa1, .inl (cI, 4, .inl fw1)), (al, .inr (4, [mc, .ref ed, .int (nI cc)])), (ed, .inl (cO, 10, .inr (.inr (.inr (.inr ee)))))]) (w1 := [(a2, .inr (8, [.int 4, .ref wa2, .ref na2])), (wa2, .inl (cI, 4, .inl fw2))]) hP hD [11, 12] [0, 1, 2, 3, 4, 5, 6, 7, 8, 9, 10] rfl rfl (by decide) (by decide) hk1 hFc hP1 hD1
  clear hPc hDc hFc hDv hpre hP hD hP1 hK1 hD1
  obtain ⟨hP, hD⟩ := hPD9
  replace hz : s.heap.size + 1 ≤ H93.size := by omega
  clear hz2
  replace hP : va_P (dC, dI) vwCl [(mo, .inr (9, [th, .ref al, md, rf, kn])), (na0, .inl (cI, 4, .inl fn0)), (na1, .inl (cI, 4, .inl fn1)), (na2, .inl (cI, 4, .inl fn2)), (q2, .inl (cI, 3, .inl (upd (upd (upd (upd (upd (upd (upd (upd (upd (fun _ => 0) 0 1) 1 1) 1 2) 1 2) 1 2) 1 2) 2 1) 2 3) 2 3))), (a0, .inr (8, [.int 4, .ref wa0, .ref na0])), (wa0, .inl (cI, 4, .inl fw0)), (a1, .inr (8, [.int 4, .ref wa1, .ref na1])), (wa1, .inl (cI, 4, .inl fw1)), (al, .inr (4, [mc, .ref ed, .int (nI cc)])), (ed, .inl (cO, 10, .inr (.inr (.inr (.inr ee))))), (a2, .inr (8, [.int 4, .ref wa2, .ref na2])), (wa2, .inl (cI, 4, .inl fw2))] H93 := hP
  replace hD : va_D A [(mo, .inr (9, [th, .ref al, md, rf, kn])), (na0, .inl (cI, 4, .inl fn0)), (na1, .inl (cI, 4, .inl fn1)), (na2, .inl (cI, 4, .inl fn2)), (q2, .inl (cI, 3, .inl (upd (upd (upd (upd (upd (upd (upd (upd (upd (fun _ => 0) 0 1) 1 1) 1 2) 1 2) 1 2) 1 2) 2 1) 2 3) 2 3))), (a0, .inr (8, [.int 4, .ref wa0, .ref na0])), (wa0, .inl (cI, 4, .inl fw0)), (a1, .inr (8, [.int 4, .ref wa1, .ref na1])), (wa1, .inl (cI, 4, .inl fw1)), (al, .inr (4, [mc, .ref ed, .int (nI cc)])), (ed, .inl (cO, 10, .inr (.inr (.inr (.inr ee))))), (a2, .inr (8, [.int 4, .ref wa2, .ref na2])), (wa2, .inl (cI, 4, .inl fw2))] := hD
  refine W.widen (k := 1) (n := 3) (by omega) (by omega) ?_
  refine lv_icmp_ge (tgt := 80) hx hb dX4_depthOf_40 (by decide) (fun c9 => ?_) (fun c9 => ?_)
  · exact absurd c9 (by decide)
  refine lv_aload hx hb dX4_depthOf_43 (lv_at hl 1 rfl) ?_
  refine lv_iload hx hb dX4_depthOf_45 (lv_at hl 0 rfl) ?_
  have hPc := hP.sub (ws' := [(a2, .inr (8, [.int 4, .ref wa2, .ref na2])), (wa2, .inl (cI, 4, .inl fw2))]) [11, 12] rfl
  have hDc := hD.sub (ws' := [(a2, .inr (8, [.int 4, .ref wa2, .ref na2])), (wa2, .inl (cI, 4, .inl fw2))]) [11, 12] (by decide) rfl
  have hFc := va_free (wc := [(a2, .inr (8, [.int 4, .ref wa2, .ref na2])), (wa2, .inl (cI, 4, .inl fw2))]) hD hS hA [11, 12] rfl
  have hDv := hDc.self (sz := H93.size)
  have hpre := zpre (xs' := []) (av := [.ref a2, .int 2]) hPc hK (hDc.weaken (fun _ _ _ h => h)) hZ hS hFc (fun r hr => by cases hr)
  refine va_calli (va_runV (As := [.int 2]) (rest := []) ⟨hx, hb, hml, hown, hts⟩ (k_mh2_3 l dC dI cI cB cR cO zk a2 wa2 na2 fw2 H93.size (hw2 2 (by decide))) (cwV 1 hts gX4_depthOf_X3_hangs rfl rfl rfl (by decide +kernel) ⟨Nat.le_of_ble_eq_true rfl, Nat.le_of_ble_eq_true rfl⟩) ⟨zblind, (zrecv_8 hK hPc (q0 := 0) rfl), hpre⟩ rfl rfl hl.1 rfl (lv_room (Nat.le_of_ble_eq_true rfl)) dX4_depthOf_47 ⟨Nat.le_of_ble_eq_true rfl, Nat.le_of_ble_eq_true rfl⟩) hS (fun q _ h => hFc q h) hFc (fun r96 u t H95 locs ht hvm hw hB hz1 hk1 hS => ?_)
  obtain rfl : 1 = r96 := (show r96 = 1 from hw).symm
  obtain ⟨hP1, hK1, hD1, hz2⟩ := hB
  rw [ht] at hP1 hz2
  have hPD9 := va_join (wr := [(mo, .inr (9, [th, .ref al, md, rf, kn])), (na0, .inl (cI, 4, .inl fn0)), (na1, .inl (cI, 4, .inl fn1)), (na2, .inl (cI, 4, .inl fn2)), (q2, .inl (cI, 3, .inl (upd (upd (upd (upd (upd (upd (upd (upd (upd (fun _ => 0) 0 1) 1 1) 1 2) 1 2) 1 2) 1 2) 2 1) 2 3) 2 3))), (a0, .inr (8, [.int 4, .ref wa0, .ref na0])), (wa0, .inl (cI, 4, .inl fw0)), (a1, .inr (8, [.int 4, .ref wa1, .ref na1])), (wa1, .inl (cI, 4, .inl fw1)), (al, .inr (4, [mc, .ref ed, .int (nI cc)])), (ed, .inl (cO, 10, .inr (.inr (.inr (.inr ee)))))]) (w1 := [(a2, .inr (8, [.int 4, .ref wa2, .ref na2])), (wa2, .inl (cI, 4, .inl fw2))]) hP hD [11, 12] [0, 1, 2, 3, 4, 5, 6, 7, 8, 9, 10] rfl rfl (by decide) (by decide) hk1 hFc hP1 hD1
  clear hPc hDc hFc hDv hpre hP hD hP1 hK1 hD1
  obtain ⟨hP, hD⟩ := hPD9
  replace hz : s.heap.size + 1 ≤ H95.size := by omega
  clear hz2
  replace hP : va_P (dC, dI) vwCl [(mo, .inr (9, [th, .ref al, md, rf, kn])), (na0, .inl (cI, 4, .inl fn0)), (na1, .inl (cI, 4, .inl fn1)), (na2, .inl (cI, 4, .inl fn2)), (q2, .inl (cI, 3, .inl (upd (upd (upd (upd (upd (upd (upd (upd (upd (fun _ => 0) 0 1) 1 1) 1 2) 1 2) 1 2) 1 2) 2 1) 2 3) 2 3))), (a0, .inr (8, [.int 4, .ref wa0, .ref na0])), (wa0, .inl (cI, 4, .inl fw0)), (a1, .inr (8, [.int 4, .ref wa1, .ref na1])), (wa1, .inl (cI, 4, .inl fw1)), (al, .inr (4, [mc, .ref ed, .int (nI cc)])), (ed, .inl (cO, 10, .inr (.inr (.inr (.inr ee))))), (a2, .inr (8, [.int 4, .ref wa2, .ref na2])), (wa2, .inl (cI, 4, .inl fw2))] H95 := hP
  replace hD : va_D A [(mo, .inr (9, [th, .ref al, md, rf, kn])), (na0, .inl (cI, 4, .inl fn0)), (na1, .inl (cI, 4, .inl fn1)), (na2, .inl (cI, 4, .inl fn2)), (q2, .inl (cI, 3, .inl (upd (upd (upd (upd (upd (upd (upd (upd (upd (fun _ => 0) 0 1) 1 1) 1 2) 1 2) 1 2) 1 2) 2 1) 2 3) 2 3))), (a0, .inr (8, [.int 4, .ref wa0, .ref na0])), (wa0, .inl (cI, 4, .inl fw0)), (a1, .inr (8, [.int 4, .ref wa1, .ref na1])), (wa1, .inl (cI, 4, .inl fw1)), (al, .inr (4, [mc, .ref ed, .int (nI cc)])), (ed, .inl (cO, 10, .inr (.inr (.inr (.inr ee))))), (a2, .inr (8, [.int 4, .ref wa2, .ref na2])), (wa2, .inl (cI, 4, .inl fw2))] := hD
  refine W.widen (k := 1) (n := 3) (by omega) (by omega) ?_
  refine lv_if_eq (tgt := 74) hx hb dX4_depthOf_50 (by decide) (fun c9 => ?_) (fun c9 => ?_)
  · exact absurd c9 (by decide)
  refine lv_aload_n hx hb dX4_depthOf_53 rfl (lv_at hl 3 rfl) ?_
  refine lv_iload_n hx hb dX4_depthOf_54 rfl (lv_at hl 2 rfl) ?_
  refine lv_aload_n hx hb dX4_depthOf_55 rfl (lv_at hl 3 rfl) ?_
  refine lv_iload_n hx hb dX4_depthOf_56 rfl (lv_at hl 2 rfl) ?_
  refine va_iald (D := (dC, dI)) (cl := vwCl) hx hb hK hP 4 0 rfl rfl (by unfold vp_in; decide) dX4_depthOf_57 ?_
  refine lv_topi (fun v97 ev97 => ?_)
  obtain rfl : v97 = 3 := ev97.trans (rfl)
  refine lv_iconst (v := 1) hx hb dX4_depthOf_58 (by decide) ?_
  refine lv_aload_n hx hb dX4_depthOf_59 rfl (lv_at hl 3 rfl) ?_
  refine lv_aload hx hb dX4_depthOf_60 (lv_at hl 1 rfl) ?_
  refine va_get (D := (dC, dI)) (ci := 8) (v := .ref na2) (C := RX3) (T := TX3) (N := 3) hx hb hts hi_X4_depthOf_X3 hown hK hP 11 rfl rfl 2 (by decide) (hts (.fieldLink RX4 48 "DeeprowsModel$Row" "numbers" "[I") (List.mem_cons_of_mem _ zw_1180)) (fun _ h9 => h9) rfl dX4_depthOf_62 ?_
  refine lv_iload hx hb dX4_depthOf_65 (lv_at hl 0 rfl) ?_
  refine va_iald (D := (dC, dI)) (cl := vwCl) hx hb hK hP 3 0 rfl rfl (by unfold vp_in; decide) dX4_depthOf_67 ?_
  refine lv_topi (fun v98 ev98 => ?_)
  obtain rfl : v98 = 1 := ev98.trans (hn2 2 (by decide))
  refine va_iald (D := (dC, dI)) (cl := vwCl) hx hb hK hP 4 0 rfl rfl (by unfold vp_in; decide) dX4_depthOf_68 ?_
  refine lv_topi (fun v99 ev99 => ?_)
  obtain rfl : v99 = 2 := ev99.trans (rfl)
  refine lv_iadd hx hb dX4_depthOf_69 ?_
  refine lv_topi (fun v100 ev100 => ?_)
  obtain rfl : v100 = 3 := ev100.trans (by decide)
  refine va_mmax (x := 3) (y := 3) hx hb (hml.trans hl.1.symm) hown (hts (.methodLink RX4 52 Lib.Math.max.name) (List.mem_cons_of_mem _ zw_1264)) (hts (.static Lib.Math.max.name) (List.mem_cons_of_mem _ zw_271)) (hts (.initialized "java/lang/Math") (List.mem_cons_of_mem _ zw_58)) (hts (.code Lib.Math.max.name Lib.Math.max.code 2 (some .int)) (List.mem_cons_of_mem _ zw_272)) (Nat.le_of_ble_eq_true rfl) (Nat.le_of_ble_eq_true rfl) (Nat.le_of_ble_eq_true rfl) (Nat.le_of_ble_eq_true rfl) dX4_depthOf_70 ?_
  refine lv_topi (fun v101 ev101 => ?_)
  obtain rfl : v101 = 3 := ev101.trans (by decide)
  refine va_iast (D := (dC, dI)) (cl := vwCl) hx hb hK hP hD (zS0 hS) 4 0 rfl rfl (by unfold vp_in; decide) dX4_depthOf_73 (fun H102 locs hP hD hS1 => ?_)
  have hz : s.heap.size + 1 ≤ H102.size := Nat.le_trans hz hS1.1
  have hS := zSS hS hS1
  replace hP : va_P (dC, dI) vwCl [(mo, .inr (9, [th, .ref al, md, rf, kn])), (na0, .inl (cI, 4, .inl fn0)), (na1, .inl (cI, 4, .inl fn1)), (na2, .inl (cI, 4, .inl fn2)), (q2, .inl (cI, 3, .inl (upd (upd (upd (upd (upd (upd (upd (upd (upd (upd (fun _ => 0) 0 1) 1 1) 1 2) 1 2) 1 2) 1 2) 2 1) 2 3) 2 3) 2 3))), (a0, .inr (8, [.int 4, .ref wa0, .ref na0])), (wa0, .inl (cI, 4, .inl fw0)), (a1, .inr (8, [.int 4, .ref wa1, .ref na1])), (wa1, .inl (cI, 4, .inl fw1)), (al, .inr (4, [mc, .ref ed, .int (nI cc)])), (ed, .inl (cO, 10, .inr (.inr (.inr (.inr ee))))), (a2, .inr (8, [.int 4, .ref wa2, .ref na2])), (wa2, .inl (cI, 4, .inl fw2))] H102 := hP
  replace hD : va_D A [(mo, .inr (9, [th, .ref al, md, rf, kn])), (na0, .inl (cI, 4, .inl fn0)), (na1, .inl (cI, 4, .inl fn1)), (na2, .inl (cI, 4, .inl fn2)), (q2, .inl (cI, 3, .inl (upd (upd (upd (upd (upd (upd (upd (upd (upd (upd (fun _ => 0) 0 1) 1 1) 1 2) 1 2) 1 2) 1 2) 2 1) 2 3) 2 3) 2 3))), (a0, .inr (8, [.int 4, .ref wa0, .ref na0])), (wa0, .inl (cI, 4, .inl fw0)), (a1, .inr (8, [.int 4, .ref wa1, .ref na1])), (wa1, .inl (cI, 4, .inl fw1)), (al, .inr (4, [mc, .ref ed, .int (nI cc)])), (ed, .inl (cO, 10, .inr (.inr (.inr (.inr ee))))), (a2, .inr (8, [.int 4, .ref wa2, .ref na2])), (wa2, .inl (cI, 4, .inl fw2))] := hD
  refine lv_iinc (v := 3) (lv' := [(5, .int 3), (4, .ref a2), (3, .int 2), (2, .ref q2), (0, .ref mo), (1, .int 2)]) hx hb dX4_depthOf_74 hl (k := 0) rfl (by decide) (by decide) rfl (fun ls hl => ?_)
  refine lv_goto (tgt := 33) hx hb dX4_depthOf_77 (by decide) ?_
  refine lv_iload hx hb dX4_depthOf_33 (lv_at hl 0 rfl) ?_
  refine lv_aload hx hb dX4_depthOf_35 (lv_at hl 1 rfl) ?_
  have hPc := hP.sub (ws' := [(a2, .inr (8, [.int 4, .ref wa2, .ref na2])), (wa2, .inl (cI, 4, .inl fw2))]) [11, 12] rfl
  have hDc := hD.sub (ws' := [(a2, .inr (8, [.int 4, .ref wa2, .ref na2])), (wa2, .inl (cI, 4, .inl fw2))]) [11, 12] (by decide) rfl
  have hFc := va_free (wc := [(a2, .inr (8, [.int 4, .ref wa2, .ref na2])), (wa2, .inl (cI, 4, .inl fw2))]) hD hS hA [11, 12] rfl
  have hDv := hDc.self (sz := H102.size)
  have hpre := zpre (xs' := []) (av := [.ref a2]) hPc hK (hDc.weaken (fun _ _ _ h => h)) hZ hS hFc (fun r hr => by cases hr)
  refine va_calli (va_runV (As := []) (rest := [.int 3]) ⟨hx, hb, hml, hown, hts⟩ (k_rlen l dC dI cI cB cR cO zk a2 wa2 na2 fw2 H102.size ) (cwV 0 hts gX4_depthOf_X3_length rfl rfl rfl (by decide +kernel) ⟨Nat.le_of_ble_eq_true rfl, Nat.le_of_ble_eq_true rfl⟩) ⟨zblind, (zrecv_8 hK hPc (q0 := 0) rfl), hpre⟩ rfl rfl hl.1 rfl (lv_room (Nat.le_of_ble_eq_true rfl)) dX4_depthOf_37 ⟨Nat.le_of_ble_eq_true rfl, Nat.le_of_ble_eq_true rfl⟩) hS (fun q _ h => hFc q h) hFc (fun r104 u t H103 locs ht hvm hw hB hz1 hk1 hS => ?_)
  obtain rfl : 4 = r104 := (show r104 = 4 from hw).symm
  obtain ⟨hP1, hK1, hD1, hz2⟩ := hB
  rw [ht] at hP1 hz2
  have hPD9 := va_join (wr := [(mo, .inr (9, [th, .ref al, md, rf, kn])), (na0, .inl (cI, 4, .inl fn0)), (na1, .inl (cI, 4, .inl fn1)), (na2, .inl (cI, 4, .inl fn2)), (q2, .inl (cI, 3, .inl (upd (upd (upd (upd (upd (upd (upd (upd (upd (upd (fun _ => 0) 0 1) 1 1) 1 2) 1 2) 1 2) 1 2) 2 1) 2 3) 2 3) 2 3))), (a0, .inr (8, [.int 4, .ref wa0, .ref na0])), (wa0, .inl (cI, 4, .inl fw0)), (a1, .inr (8, [.int 4, .ref wa1, .ref na1])), (wa1, .inl (cI, 4, .inl fw1)), (al, .inr (4, [mc, .ref ed, .int (nI cc)])), (ed, .inl (cO, 10, .inr (.inr (.inr (.inr ee)))))]) (w1 := [(a2, .inr (8, [.int 4, .ref wa2, .ref na2])), (wa2, .inl (cI, 4, .inl fw2))]) hP hD [11, 12] [0, 1, 2, 3, 4, 5, 6, 7, 8, 9, 10] rfl rfl (by decide) (by decide) hk1 hFc hP1 hD1
  clear hPc hDc hFc hDv hpre hP hD hP1 hK1 hD1
  obtain ⟨hP, hD⟩ := hPD9
  replace hz : s.heap.size + 1 ≤ H103.size := by omega
  clear hz2
  replace hP : va_P (dC, dI) vwCl [(mo, .inr (9, [th, .ref al, md, rf, kn])), (na0, .inl (cI, 4, .inl fn0)), (na1, .inl (cI, 4, .inl fn1)), (na2, .inl (cI, 4, .inl fn2)), (q2, .inl (cI, 3, .inl (upd (upd (upd (upd (upd (upd (upd (upd (upd (upd (fun _ => 0) 0 1) 1 1) 1 2) 1 2) 1 2) 1 2) 2 1) 2 3) 2 3) 2 3))), (a0, .inr (8, [.int 4, .ref wa0, .ref na0])), (wa0, .inl (cI, 4, .inl fw0)), (a1, .inr (8, [.int 4, .ref wa1, .ref na1])), (wa1, .inl (cI, 4, .inl fw1)), (al, .inr (4, [mc, .ref ed, .int (nI cc)])), (ed, .inl (cO, 10, .inr (.inr (.inr (.inr ee))))), (a2, .inr (8, [.int 4, .ref wa2, .ref na2])), (wa2, .inl (cI, 4, .inl fw2))] H103 := hP
  replace hD : va_D A [(mo, .inr (9, [th, .ref al, md, rf, kn])), (na0, .inl (cI, 4, .inl fn0)), (na1, .inl (cI, 4, .inl fn1)), (na2, .inl (cI, 4, .inl fn2)), (q2, .inl (cI, 3, .inl (upd (upd (upd (upd (upd (upd (upd (upd (upd (upd (fun _ => 0) 0 1) 1 1) 1 2) 1 2) 1 2) 1 2) 2 1) 2 3) 2 3) 2 3))), (a0, .inr (8, [.int 4, .ref wa0, .ref na0])), (wa0, .inl (cI, 4, .inl fw0)), (a1, .inr (8, [.int 4, .ref wa1, .ref na1])), (wa1, .inl (cI, 4, .inl fw1)), (al, .inr (4, [mc, .ref ed, .int (nI cc)])), (ed, .inl (cO, 10, .inr (.inr (.inr (.inr ee))))), (a2, .inr (8, [.int 4, .ref wa2, .ref na2])), (wa2, .inl (cI, 4, .inl fw2))] := hD
  refine W.widen (k := 1) (n := 3) (by omega) (by omega) ?_
  refine lv_icmp_ge (tgt := 80) hx hb dX4_depthOf_40 (by decide) (fun c9 => ?_) (fun c9 => ?_)
  · exact absurd c9 (by decide)
  refine lv_aload hx hb dX4_depthOf_43 (lv_at hl 1 rfl) ?_
  refine lv_iload hx hb dX4_depthOf_45 (lv_at hl 0 rfl) ?_
  have hPc := hP.sub (ws' := [(a2, .inr (8, [.int 4, .ref wa2, .ref na2])), (wa2, .inl (cI, 4, .inl fw2))]) [11, 12] rfl
  have hDc := hD.sub (ws' := [(a2, .inr (8, [.int 4, .ref wa2, .ref na2])), (wa2, .inl (cI, 4, .inl fw2))]) [11, 12] (by decide) rfl
  have hFc := va_free (wc := [(a2, .inr (8, [.int 4, .ref wa2, .ref na2])), (wa2, .inl (cI, 4, .inl fw2))]) hD hS hA [11, 12] rfl
  have hDv := hDc.self (sz := H103.size)
  have hpre := zpre (xs' := []) (av := [.ref a2, .int 3]) hPc hK (hDc.weaken (fun _ _ _ h => h)) hZ hS hFc (fun r hr => by cases hr)
  refine va_calli (va_runV (As := [.int 3]) (rest := []) ⟨hx, hb, hml, hown, hts⟩ (k_mh3_3 l dC dI cI cB cR cO zk a2 wa2 na2 fw2 H103.size (hw2 3 (by decide))) (cwV 1 hts gX4_depthOf_X3_hangs rfl rfl rfl (by decide +kernel) ⟨Nat.le_of_ble_eq_true rfl, Nat.le_of_ble_eq_true rfl⟩) ⟨zblind, (zrecv_8 hK hPc (q0 := 0) rfl), hpre⟩ rfl rfl hl.1 rfl (lv_room (Nat.le_of_ble_eq_true rfl)) dX4_depthOf_47 ⟨Nat.le_of_ble_eq_true rfl, Nat.le_of_ble_eq_true rfl⟩) hS (fun q _ h => hFc q h) hFc (fun r106 u t H105 locs ht hvm hw hB hz1 hk1 hS => ?_)
  obtain rfl : 1 = r106 := (show r106 = 1 from hw).symm
  obtain ⟨hP1, hK1, hD1, hz2⟩ := hB
  rw [ht] at hP1 hz2
  have hPD9 := va_join (wr := [(mo, .inr (9, [th, .ref al, md, rf, kn])), (na0, .inl (cI, 4, .inl fn0)), (na1, .inl (cI, 4, .inl fn1)), (na2, .inl (cI, 4, .inl fn2)), (q2, .inl (cI, 3, .inl (upd (upd (upd (upd (upd (upd (upd (upd (upd (upd (fun _ => 0) 0 1) 1 1) 1 2) 1 2) 1 2) 1 2) 2 1) 2 3) 2 3) 2 3))), (a0, .inr (8, [.int 4, .ref wa0, .ref na0])), (wa0, .inl (cI, 4, .inl fw0)), (a1, .inr (8, [.int 4, .ref wa1, .ref na1])), (wa1, .inl (cI, 4, .inl fw1)), (al, .inr (4, [mc, .ref ed, .int (nI cc)])), (ed, .inl (cO, 10, .inr (.inr (.inr (.inr ee)))))]) (w1 := [(a2, .inr (8, [.int 4, .ref wa2, .ref na2])), (wa2, .inl (cI, 4, .inl fw2))]) hP hD [11, 12] [0, 1, 2, 3, 4, 5, 6, 7, 8, 9, 10] rfl rfl (by decide) (by decide) hk1 hFc hP1 hD1
  clear hPc hDc hFc hDv hpre hP hD hP1 hK1 hD1
  obtain ⟨hP, hD⟩ := hPD9
  replace hz : s.heap.size + 1 ≤ H105.size := by omega
  clear hz2
  replace hP : va_P (dC, dI) vwCl [(mo, .inr (9, [th, .ref al, md, rf, kn])), (na0, .inl (cI, 4, .inl fn0)), (na1, .inl (cI, 4, .inl fn1)), (na2, .inl (cI, 4, .inl fn2)), (q2, .inl (cI, 3, .inl (upd (upd (upd (upd (upd (upd (upd (upd (upd (upd (fun _ => 0) 0 1) 1 1) 1 2) 1 2) 1 2) 1 2) 2 1) 2 3) 2 3) 2 3))), (a0, .inr (8, [.int 4, .ref wa0, .ref na0])), (wa0, .inl (cI, 4, .inl fw0)), (a1, .inr (8, [.int 4, .ref wa1, .ref na1])), (wa1, .inl (cI, 4, .inl fw1)), (al, .inr (4, [mc, .ref ed, .int (nI cc)])), (ed, .inl (cO, 10, .inr (.inr (.inr (.inr ee))))), (a2, .inr (8, [.int 4, .ref wa2, .ref na2])), (wa2, .inl (cI, 4, .inl fw2))] H105 := hP
  replace hD : va_D A [(mo, .inr (9, [th, .ref al, md, rf, kn])), (na0, .inl (cI, 4, .inl fn0)), (na1, .inl (cI, 4, .inl fn1)), (na2, .inl (cI, 4, .inl fn2)), (q2, .inl (cI, 3, .inl (upd (upd (upd (upd (upd (upd (upd (upd (upd (upd (fun _ => 0) 0 1) 1 1) 1 2) 1 2) 1 2) 1 2) 2 1) 2 3) 2 3) 2 3))), (a0, .inr (8, [.int 4, .ref wa0, .ref na0])), (wa0, .inl (cI, 4, .inl fw0)), (a1, .inr (8, [.int 4, .ref wa1, .ref na1])), (wa1, .inl (cI, 4, .inl fw1)), (al, .inr (4, [mc, .ref ed, .int (nI cc)])), (ed, .inl (cO, 10, .inr (.inr (.inr (.inr ee))))), (a2, .inr (8, [.int 4, .ref wa2, .ref na2])), (wa2, .inl (cI, 4, .inl fw2))] := hD
  refine W.widen (k := 1) (n := 3) (by omega) (by omega) ?_
  refine lv_if_eq (tgt := 74) hx hb dX4_depthOf_50 (by decide) (fun c9 => ?_) (fun c9 => ?_)
  · exact absurd c9 (by decide)
  refine lv_aload_n hx hb dX4_depthOf_53 rfl (lv_at hl 3 rfl) ?_
  refine lv_iload_n hx hb dX4_depthOf_54 rfl (lv_at hl 2 rfl) ?_
  refine lv_aload_n hx hb dX4_depthOf_55 rfl (lv_at hl 3 rfl) ?_
  refine lv_iload_n hx hb dX4_depthOf_56 rfl (lv_at hl 2 rfl) ?_
  refine va_iald (D := (dC, dI)) (cl := vwCl) hx hb hK hP 4 0 rfl rfl (by unfold vp_in; decide) dX4_depthOf_57 ?_
  refine lv_topi (fun v107 ev107 => ?_)
  obtain rfl : v107 = 3 := ev107.trans (rfl)
  refine lv_iconst (v := 1) hx hb dX4_depthOf_58 (by decide) ?_
  refine lv_aload_n hx hb dX4_depthOf_59 rfl (lv_at hl 3 rfl) ?_
  refine lv_aload hx hb dX4_depthOf_60 (lv_at hl 1 rfl) ?_
  refine va_get (D := (dC, dI)) (ci := 8) (v := .ref na2) (C := RX3) (T := TX3) (N := 3) hx hb hts hi_X4_depthOf_X3 hown hK hP 11 rfl rfl 2 (by decide) (hts (.fieldLink RX4 48 "DeeprowsModel$Row" "numbers" "[I") (List.mem_cons_of_mem _ zw_1180)) (fun _ h9 => h9) rfl dX4_depthOf_62 ?_
  refine lv_iload hx hb dX4_depthOf_65 (lv_at hl 0 rfl) ?_
  refine va_iald (D := (dC, dI)) (cl := vwCl) hx hb hK hP 3 0 rfl rfl (by unfold vp_in; decide) dX4_depthOf_67 ?_
  refine lv_topi (fun v108 ev108 => ?_)
  obtain rfl : v108 = 1 := ev108.trans (hn2 3 (by decide))
  refine va_iald (D := (dC, dI)) (cl := vwCl) hx hb hK hP 4 0 rfl rfl (by unfold vp_in; decide) dX4_depthOf_68 ?_
  refine lv_topi (fun v109 ev109 => ?_)
  obtain rfl : v109 = 2 := ev109.trans (rfl)
  refine lv_iadd hx hb dX4_depthOf_69 ?_
  refine lv_topi (fun v110 ev110 => ?_)
  obtain rfl : v110 = 3 := ev110.trans (by decide)
  refine va_mmax (x := 3) (y := 3) hx hb (hml.trans hl.1.symm) hown (hts (.methodLink RX4 52 Lib.Math.max.name) (List.mem_cons_of_mem _ zw_1264)) (hts (.static Lib.Math.max.name) (List.mem_cons_of_mem _ zw_271)) (hts (.initialized "java/lang/Math") (List.mem_cons_of_mem _ zw_58)) (hts (.code Lib.Math.max.name Lib.Math.max.code 2 (some .int)) (List.mem_cons_of_mem _ zw_272)) (Nat.le_of_ble_eq_true rfl) (Nat.le_of_ble_eq_true rfl) (Nat.le_of_ble_eq_true rfl) (Nat.le_of_ble_eq_true rfl) dX4_depthOf_70 ?_
  refine lv_topi (fun v111 ev111 => ?_)
  obtain rfl : v111 = 3 := ev111.trans (by decide)
  refine va_iast (D := (dC, dI)) (cl := vwCl) hx hb hK hP hD (zS0 hS) 4 0 rfl rfl (by unfold vp_in; decide) dX4_depthOf_73 (fun H112 locs hP hD hS1 => ?_)
  have hz : s.heap.size + 1 ≤ H112.size := Nat.le_trans hz hS1.1
  have hS := zSS hS hS1
  replace hP : va_P (dC, dI) vwCl [(mo, .inr (9, [th, .ref al, md, rf, kn])), (na0, .inl (cI, 4, .inl fn0)), (na1, .inl (cI, 4, .inl fn1)), (na2, .inl (cI, 4, .inl fn2)), (q2, .inl (cI, 3, .inl (upd (upd (upd (upd (upd (upd (upd (upd (upd (upd (upd (fun _ => 0) 0 1) 1 1) 1 2) 1 2) 1 2) 1 2) 2 1) 2 3) 2 3) 2 3) 2 3))), (a0, .inr (8, [.int 4, .ref wa0, .ref na0])), (wa0, .inl (cI, 4, .inl fw0)), (a1, .inr (8, [.int 4, .ref wa1, .ref na1])), (wa1, .inl (cI, 4, .inl fw1)), (al, .inr (4, [mc, .ref ed, .int (nI cc)])), (ed, .inl (cO, 10, .inr (.inr (.inr (.inr ee))))), (a2, .inr (8, [.int 4, .ref wa2, .ref na2])), (wa2, .inl (cI, 4, .inl fw2))] H112 := hP
  replace hD : va_D A [(mo, .inr (9, [th, .ref al, md, rf, kn])), (na0, .inl (cI, 4, .inl fn0)), (na1, .inl (cI, 4, .inl fn1)), (na2, .inl (cI, 4, .inl fn2)), (q2, .inl (cI, 3, .inl (upd (upd (upd (upd (upd (upd (upd (upd (upd (upd (upd (fun _ => 0) 0 1) 1 1) 1 2) 1 2) 1 2) 1 2) 2 1) 2 3) 2 3) 2 3) 2 3))), (a0, .inr (8, [.int 4, .ref wa0, .ref na0])), (wa0, .inl (cI, 4, .inl fw0)), (a1, .inr (8, [.int 4, .ref wa1, .ref na1])), (wa1, .inl (cI, 4, .inl fw1)), (al, .inr (4, [mc, .ref ed, .int (nI cc)])), (ed, .inl (cO, 10, .inr (.inr (.inr (.inr ee))))), (a2, .inr (8, [.int 4, .ref wa2, .ref na2])), (wa2, .inl (cI, 4, .inl fw2))] := hD
  refine lv_iinc (v := 4) (lv' := [(5, .int 4), (4, .ref a2), (3, .int 2), (2, .ref q2), (0, .ref mo), (1, .int 2)]) hx hb dX4_depthOf_74 hl (k := 0) rfl (by decide) (by decide) rfl (fun ls hl => ?_)
  refine lv_goto (tgt := 33) hx hb dX4_depthOf_77 (by decide) ?_
  refine lv_iload hx hb dX4_depthOf_33 (lv_at hl 0 rfl) ?_
  refine lv_aload hx hb dX4_depthOf_35 (lv_at hl 1 rfl) ?_
  have hPc := hP.sub (ws' := [(a2, .inr (8, [.int 4, .ref wa2, .ref na2])), (wa2, .inl (cI, 4, .inl fw2))]) [11, 12] rfl
  have hDc := hD.sub (ws' := [(a2, .inr (8, [.int 4, .ref wa2, .ref na2])), (wa2, .inl (cI, 4, .inl fw2))]) [11, 12] (by decide) rfl
  have hFc := va_free (wc := [(a2, .inr (8, [.int 4, .ref wa2, .ref na2])), (wa2, .inl (cI, 4, .inl fw2))]) hD hS hA [11, 12] rfl
  have hDv := hDc.self (sz := H112.size)
  have hpre := zpre (xs' := []) (av := [.ref a2]) hPc hK (hDc.weaken (fun _ _ _ h => h)) hZ hS hFc (fun r hr => by cases hr)
  refine va_calli (va_runV (As := []) (rest := [.int 4]) ⟨hx, hb, hml, hown, hts⟩ (k_rlen l dC dI cI cB cR cO zk a2 wa2 na2 fw2 H112.size ) (cwV 0 hts gX4_depthOf_X3_length rfl rfl rfl (by decide +kernel) ⟨Nat.le_of_ble_eq_true rfl, Nat.le_of_ble_eq_true rfl⟩) ⟨zblind, (zrecv_8 hK hPc (q0 := 0) rfl), hpre⟩ rfl rfl hl.1 rfl (lv_room (Nat.le_of_ble_eq_true rfl)) dX4_depthOf_37 ⟨Nat.le_of_ble_eq_true rfl, Nat.le_of_ble_eq_true rfl⟩) hS (fun q _ h => hFc q h) hFc (fun r114 u t H113 locs ht hvm hw hB hz1 hk1 hS => ?_)
  obtain rfl : 4 = r114 := (show r114 = 4 from hw).symm
  obtain ⟨hP1, hK1, hD1, hz2⟩ := hB
  rw [ht] at hP1 hz2
  have hPD9 := va_join (wr := [(mo, .inr (9, [th, .ref al, md, rf, kn])), (na0, .inl (cI, 4, .inl fn0)), (na1, .inl (cI, 4, .inl fn1)), (na2, .inl (cI, 4, .inl fn2)), (q2, .inl (cI, 3, .inl (upd (upd (upd (upd (upd (upd (upd (upd (upd (upd (upd (fun _ => 0) 0 1) 1 1) 1 2) 1 2) 1 2) 1 2) 2 1) 2 3) 2 3) 2 3) 2 3))), (a0, .inr (8, [.int 4, .ref wa0, .ref na0])), (wa0, .inl (cI, 4, .inl fw0)), (a1, .inr (8, [.int 4, .ref wa1, .ref na1])), (wa1, .inl (cI, 4, .inl fw1)), (al, .inr (4, [mc, .ref ed, .int (nI cc)])), (ed, .inl (cO, 10, .inr (.inr (.inr (.inr ee)))))]) (w1 := [(a2, .inr (8, [.int 4, .ref wa2, .ref na2])), (wa2, .inl (cI, 4, .inl fw2))]) hP hD [11, 12] [0, 1, 2, 3, 4, 5, 6, 7, 8, 9, 10] rfl rfl (by decide) (by decide) hk1 hFc hP1 hD1
  clear hPc hDc hFc hDv hpre hP hD hP1 hK1 hD1
  obtain ⟨hP, hD⟩ := hPD9
  replace hz : s.heap.size + 1 ≤ H113.size := by omega
  clear hz2
  replace hP : va_P (dC, dI) vwCl [(mo, .inr (9, [th, .ref al, md, rf, kn])), (na0, .inl (cI, 4, .inl fn0)), (na1, .inl (cI, 4, .inl fn1)), (na2, .inl (cI, 4, .inl fn2)), (q2, .inl (cI, 3, .inl (upd (upd (upd (upd (upd (upd (upd (upd (upd (upd (upd (fun _ => 0) 0 1) 1 1) 1 2) 1 2) 1 2) 1 2) 2 1) 2 3) 2 3) 2 3) 2 3))), (a0, .inr (8, [.int 4, .ref wa0, .ref na0])), (wa0, .inl (cI, 4, .inl fw0)), (a1, .inr (8, [.int 4, .ref wa1, .ref na1])), (wa1, .inl (cI, 4, .inl fw1)), (al, .inr (4, [mc, .ref ed, .int (nI cc)])), (ed, .inl (cO, 10, .inr (.inr (.inr (.inr ee))))), (a2, .inr (8, [.int 4, .ref wa2, .ref na2])), (wa2, .inl (cI, 4, .inl fw2))] H113 := hP
  replace hD : va_D A [(mo, .inr (9, [th, .ref al, md, rf, kn])), (na0, .inl (cI, 4, .inl fn0)), (na1, .inl (cI, 4, .inl fn1)), (na2, .inl (cI, 4, .inl fn2)), (q2, .inl (cI, 3, .inl (upd (upd (upd (upd (upd (upd (upd (upd (upd (upd (upd (fun _ => 0) 0 1) 1 1) 1 2) 1 2) 1 2) 1 2) 2 1) 2 3) 2 3) 2 3) 2 3))), (a0, .inr (8, [.int 4, .ref wa0, .ref na0])), (wa0, .inl (cI, 4, .inl fw0)), (a1, .inr (8, [.int 4, .ref wa1, .ref na1])), (wa1, .inl (cI, 4, .inl fw1)), (al, .inr (4, [mc, .ref ed, .int (nI cc)])), (ed, .inl (cO, 10, .inr (.inr (.inr (.inr ee))))), (a2, .inr (8, [.int 4, .ref wa2, .ref na2])), (wa2, .inl (cI, 4, .inl fw2))] := hD
  refine W.widen (k := 1) (n := 3) (by omega) (by omega) ?_
  refine lv_icmp_ge (tgt := 80) hx hb dX4_depthOf_40 (by decide) (fun c9 => ?_) (fun c9 => ?_)
  rotate_left
  · exact absurd (by decide) c9
  refine lv_iinc (v := 3) (lv' := [(3, .int 3), (5, .int 4), (4, .ref a2), (2, .ref q2), (0, .ref mo), (1, .int 2)]) hx hb dX4_depthOf_80 hl (k := 2) rfl (by decide) (by decide) rfl (fun ls hl => ?_)
  refine lv_goto (tgt := 8) hx hb dX4_depthOf_83 (by decide) ?_
  refine lv_iload_n hx hb dX4_depthOf_8 rfl (lv_at hl 0 rfl) ?_
  refine lv_iload_n hx hb dX4_depthOf_9 rfl (lv_at hl 5 rfl) ?_
  refine lv_icmp_gt (tgt := 86) hx hb dX4_depthOf_10 (by decide) (fun c9 => ?_) (fun c9 => ?_)
  rotate_left
  · exact absurd (by decide) c9
  refine lv_aload_n hx hb dX4_depthOf_86 rfl (lv_at hl 3 rfl) ?_
  refine lv_iload_n hx hb dX4_depthOf_87 rfl (lv_at hl 5 rfl) ?_
  refine va_iald (D := (dC, dI)) (cl := vwCl) hx hb hK hP 4 0 rfl rfl (by unfold vp_in; decide) dX4_depthOf_88 ?_
  refine lv_topi (fun v115 ev115 => ?_)
  obtain rfl : v115 = 3 := ev115.trans (rfl)
  have hP9 := hP.sub (ws' := [(mo, .inr (9, [th, .ref al, md, rf, kn])), (al, .inr (4, [mc, .ref ed, .int (nI cc)])), (ed, .inl (cO, 10, .inr (.inr (.inr (.inr ee))))), (a0, .inr (8, [.int 4, .ref wa0, .ref na0])), (wa0, .inl (cI, 4, .inl fw0)), (na0, .inl (cI, 4, .inl fn0)), (a1, .inr (8, [.int 4, .ref wa1, .ref na1])), (wa1, .inl (cI, 4, .inl fw1)), (na1, .inl (cI, 4, .inl fn1)), (a2, .inr (8, [.int 4, .ref wa2, .ref na2])), (wa2, .inl (cI, 4, .inl fw2)), (na2, .inl (cI, 4, .inl fn2))]) [0, 9, 10, 5, 6, 1, 7, 8, 2, 11, 12, 3] rfl
  have hD9 := hD.sub (ws' := [(mo, .inr (9, [th, .ref al, md, rf, kn])), (al, .inr (4, [mc, .ref ed, .int (nI cc)])), (ed, .inl (cO, 10, .inr (.inr (.inr (.inr ee))))), (a0, .inr (8, [.int 4, .ref wa0, .ref na0])), (wa0, .inl (cI, 4, .inl fw0)), (na0, .inl (cI, 4, .inl fn0)), (a1, .inr (8, [.int 4, .ref wa1, .ref na1])), (wa1, .inl (cI, 4, .inl fw1)), (na1, .inl (cI, 4, .inl fn1)), (a2, .inr (8, [.int 4, .ref wa2, .ref na2])), (wa2, .inl (cI, 4, .inl fw2)), (na2, .inl (cI, 4, .inl fn2))]) [0, 9, 10, 5, 6, 1, 7, 8, 2, 11, 12, 3] (by decide) rfl
  exact W.iret (v := 3) hx hb hr (fun t ht hW => ⟨⟨_, (), rfl, rfl, ⟨by rw [ht]; exact hP9, va_K.moved hW.alike hK, hD9, by rw [ht]; exact hz⟩⟩, hS.F ht⟩) hS.2.2 dX4_depthOf_89

set_option maxHeartbeats 4000000 in
set_option maxRecDepth 100000 in
theorem k_dO3 (l : Launch) (dC : Nat → ClassId) (dI : Nat → Nat → Nat) (cI cB cR cO : ClassId) (zk : Nat → Nat) (mo al ed cc : Nat) (ee : Nat → Option Nat) (th md rf kn mc : Value) (a0 wa0 na0 a1 wa1 na1 a2 wa2 na2 a3 wa3 na3 : Nat) (fw0 fn0 fw1 fn1 fw2 fn2 fw3 fn3 : Nat → Int32) (sz : Nat) (hcc : 3 < cc) (hcc2 : cc ≤ 10) (hw0 : ∀ i, i < 4 → fw0 i = 0) (hn0 : ∀ i, i < 4 → fn0 i = (-1)) (he0 : ee 0 = some a0) (hw1 : ∀ i, i < 4 → fw1 i = 3) (hn1 : ∀ i, i < 4 → fn1 i = 0) (he1 : ee 1 = some a1) (hw2 : ∀ i, i < 4 → fw2 i = 3) (hn2 : ∀ i, i < 4 → fn2 i = 1) (he2 : ee 2 = some a2) (hw3 : ∀ i, i < 4 → fw3 i = 3) (hn3 : ∀ i, i < 4 → fn3 i = 2) (he3 : ee 3 = some a3) : Met l yX4_depthOf wsX4_depthOf ({ frames := 3, cells := 1, slots := 4, locals := 64 }) (va_Pc [.ref mo, .int 3] (zPre (dC, dI) (zT cI cB cR cO) zk [] [(mo, .inr (9, [th, .ref al, md, rf, kn])), (al, .inr (4, [mc, .ref ed, .int (nI cc)])), (ed, .inl (cO, 10, .inr (.inr (.inr (.inr ee))))), (a0, .inr (8, [.int 4, .ref wa0, .ref na0])), (wa0, .inl (cI, 4, .inl fw0)), (na0, .inl (cI, 4, .inl fn0)), (a1, .inr (8, [.int 4, .ref wa1, .ref na1])), (wa1, .inl (cI, 4, .inl fw1)), (na1, .inl (cI, 4, .inl fn1)), (a2, .inr (8, [.int 4, .ref wa2, .ref na2])), (wa2, .inl (cI, 4, .inl fw2)), (na2, .inl (cI, 4, .inl fn2)), (a3, .inr (8, [.int 4, .ref wa3, .ref na3])), (wa3, .inl (cI, 4, .inl fw3)), (na3, .inl (cI, 4, .inl fn3))] sz)) (va_Qi (fun r (_ : Unit) => r = 4) (fun _ t => zEnd (dC, dI) (zT cI cB cR cO) (va_A [(mo, .inr (9, [th, .ref al, md, rf, kn])), (al, .inr (4, [mc, .ref ed, .int (nI cc)])), (ed, .inl (cO, 10, .inr (.inr (.inr (.inr ee))))), (a0, .inr (8, [.int 4, .ref wa0, .ref na0])), (wa0, .inl (cI, 4, .inl fw0)), (na0, .inl (cI, 4, .inl fn0)), (a1, .inr (8, [.int 4, .ref wa1, .ref na1])), (wa1, .inl (cI, 4, .inl fw1)), (na1, .inl (cI, 4, .inl fn1)), (a2, .inr (8, [.int 4, .ref wa2, .ref na2])), (wa2, .inl (cI, 4, .inl fw2)), (na2, .inl (cI, 4, .inl fn2)), (a3, .inr (8, [.int 4, .ref wa3, .ref na3])), (wa3, .inl (cI, 4, .inl fw3)), (na3, .inl (cI, 4, .inl fn3))] sz) [(mo, .inr (9, [th, .ref al, md, rf, kn])), (al, .inr (4, [mc, .ref ed, .int (nI cc)])), (ed, .inl (cO, 10, .inr (.inr (.inr (.inr ee))))), (a0, .inr (8, [.int 4, .ref wa0, .ref na0])), (wa0, .inl (cI, 4, .inl fw0)), (na0, .inl (cI, 4, .inl fn0)), (a1, .inr (8, [.int 4, .ref wa1, .ref na1])), (wa1, .inl (cI, 4, .inl fw1)), (na1, .inl (cI, 4, .inl fn1)), (a2, .inr (8, [.int 4, .ref wa2, .ref na2])), (wa2, .inl (cI, 4, .inl fw2)), (na2, .inl (cI, 4, .inl fn2)), (a3, .inr (8, [.int 4, .ref wa3, .ref na3])), (wa3, .inl (cI, 4, .inl fw3)), (na3, .inl (cI, 4, .inl fn3))] sz 1 t) (va_A [(mo, .inr (9, [th, .ref al, md, rf, kn])), (al, .inr (4, [mc, .ref ed, .int (nI cc)])), (ed, .inl (cO, 10, .inr (.inr (.inr (.inr ee))))), (a0, .inr (8, [.int 4, .ref wa0, .ref na0])), (wa0, .inl (cI, 4, .inl fw0)), (na0, .inl (cI, 4, .inl fn0)), (a1, .inr (8, [.int 4, .ref wa1, .ref na1])), (wa1, .inl (cI, 4, .inl fw1)), (na1, .inl (cI, 4, .inl fn1)), (a2, .inr (8, [.int 4, .ref wa2, .ref na2])), (wa2, .inl (cI, 4, .inl fw2)), (na2, .inl (cI, 4, .inl fn2)), (a3, .inr (8, [.int 4, .ref wa3, .ref na3])), (wa3, .inl (cI, 4, .inl fw3)), (na3, .inl (cI, 4, .inl fn3))] sz)) 1 4 (va_A [(mo, .inr (9, [th, .ref al, md, rf, kn])), (al, .inr (4, [mc, .ref ed, .int (nI cc)])), (ed, .inl (cO, 10, .inr (.inr (.inr (.inr ee))))), (a0, .inr (8, [.int 4, .ref wa0, .ref na0])), (wa0, .inl (cI, 4, .inl fw0)), (na0, .inl (cI, 4, .inl fn0)), (a1, .inr (8, [.int 4, .ref wa1, .ref na1])), (wa1, .inl (cI, 4, .inl fw1)), (na1, .inl (cI, 4, .inl fn1)), (a2, .inr (8, [.int 4, .ref wa2, .ref na2])), (wa2, .inl (cI, 4, .inl fw2)), (na2, .inl (cI, 4, .inl fn2)), (a3, .inr (8, [.int 4, .ref wa3, .ref na3])), (wa3, .inl (cI, 4, .inl fw3)), (na3, .inl (cI, 4, .inl fn3))] sz) := by
  refine Met.ofW (cc := cX4_depthOf) (maxL := 6) (ret := (some .int)) (by decide) rfl ?_
  intro p e s mY args below meth c s₁ B hml hv
  obtain ⟨rfl, hsz, hP, hK, hD0, hZ⟩ := hv
  have hx := B.exec
  have hb := B.bytes
  have hr := B.returns
  have hts := atoms_spec (ws := wsX4_depthOf) B.pre
  have hown : s.vm.findClass RX4 = some mY.cls := findClass_of_methodNamed B.named
  have hlocks := B.notSynchronized
  subst hsz
  have hD := hD0.self (sz := s.heap.size)
  generalize hAe : va_A [(mo, .inr (9, [th, .ref al, md, rf, kn])), (al, .inr (4, [mc, .ref ed, .int (nI cc)])), (ed, .inl (cO, 10, .inr (.inr (.inr (.inr ee))))), (a0, .inr (8, [.int 4, .ref wa0, .ref na0])), (wa0, .inl (cI, 4, .inl fw0)), (na0, .inl (cI, 4, .inl fn0)), (a1, .inr (8, [.int 4, .ref wa1, .ref na1])), (wa1, .inl (cI, 4, .inl fw1)), (na1, .inl (cI, 4, .inl fn1)), (a2, .inr (8, [.int 4, .ref wa2, .ref na2])), (wa2, .inl (cI, 4, .inl fw2)), (na2, .inl (cI, 4, .inl fn2)), (a3, .inr (8, [.int 4, .ref wa3, .ref na3])), (wa3, .inl (cI, 4, .inl fw3)), (na3, .inl (cI, 4, .inl fn3))] s.heap.size = A at hD hZ ⊢
  have hA : ∀ q : Nat, s.heap.size ≤ q → A q := fun q h => by rw [← hAe]; exact Or.inr h
  have hS : va_S A s.heap s.heap [] := va_S.rf
  have hz : s.heap.size + 0 ≤ s.heap.size := Nat.le_refl _
  have hl := lv_entry ([.ref mo, .int 3]) (n := 6) (Nat.le_of_ble_eq_true rfl)
  rw [lg_entry_eq]
  generalize (lg_sl ([.ref mo, .int 3]) ++ List.replicate (6 - (lg_sl ([.ref mo, .int 3])).length) Slot.unset).toArray = ls at hl ⊢
  have hl : lv_has ls 6 [(0, .ref mo), (1, .int 3)] := hl
  have hP : va_P (dC, dI) vwCl [(mo, .inr (9, [th, .ref al, md, rf, kn])), (al, .inr (4, [mc, .ref ed, .int (nI cc)])), (ed, .inl (cO, 10, .inr (.inr (.inr (.inr ee))))), (a0, .inr (8, [.int 4, .ref wa0, .ref na0])), (wa0, .inl (cI, 4, .inl fw0)), (na0, .inl (cI, 4, .inl fn0)), (a1, .inr (8, [.int 4, .ref wa1, .ref na1])), (wa1, .inl (cI, 4, .inl fw1)), (na1, .inl (cI, 4, .inl fn1)), (a2, .inr (8, [.int 4, .ref wa2, .ref na2])), (wa2, .inl (cI, 4, .inl fw2)), (na2, .inl (cI, 4, .inl fn2)), (a3, .inr (8, [.int 4, .ref wa3, .ref na3])), (wa3, .inl (cI, 4, .inl fw3)), (na3, .inl (cI, 4, .inl fn3))] s.heap := hP
  have hD : va_D A [(mo, .inr (9, [th, .ref al, md, rf, kn])), (al, .inr (4, [mc, .ref ed, .int (nI cc)])), (ed, .inl (cO, 10, .inr (.inr (.inr (.inr ee))))), (a0, .inr (8, [.int 4, .ref wa0, .ref na0])), (wa0, .inl (cI, 4, .inl fw0)), (na0, .inl (cI, 4, .inl fn0)), (a1, .inr (8, [.int 4, .ref wa1, .ref na1])), (wa1, .inl (cI, 4, .inl fw1)), (na1, .inl (cI, 4, .inl fn1)), (a2, .inr (8, [.int 4, .ref wa2, .ref na2])), (wa2, .inl (cI, 4, .inl fw2)), (na2, .inl (cI, 4, .inl fn2)), (a3, .inr (8, [.int 4, .ref wa3, .ref na3])), (wa3, .inl (cI, 4, .inl fw3)), (na3, .inl (cI, 4, .inl fn3))] := hD
  refine lv_iload_n hx hb dX4_depthOf_0 rfl (lv_at hl 1 rfl) ?_
  refine lv_iconst (v := 1) hx hb dX4_depthOf_1 (by decide) ?_
  refine lv_iadd hx hb dX4_depthOf_2 ?_
  refine lv_topi (fun v1 ev1 => ?_)
  obtain rfl : v1 = 4 := ev1.trans (by decide)
  refine zw_newa (atype := .int) (ty := .int) (N' := 4) hx hb (hts (.arrayClass .int) (List.mem_cons_of_mem _ zw_137)) rfl (by first | exact Or.inl rfl | exact Or.inr rfl) hK hP hD hS hA 0 rfl (by decide) (by decide) (Nat.le_of_ble_eq_true rfl) (Nat.le_of_ble_eq_true rfl) (Nat.le_of_ble_eq_true rfl) dX4_depthOf_3 hz (fun q2 H3 hP hD hS hz => ?_)
  replace hP : va_P (dC, dI) vwCl [(mo, .inr (9, [th, .ref al, md, rf, kn])), (al, .inr (4, [mc, .ref ed, .int (nI cc)])), (ed, .inl (cO, 10, .inr (.inr (.inr (.inr ee))))), (a0, .inr (8, [.int 4, .ref wa0, .ref na0])), (wa0, .inl (cI, 4, .inl fw0)), (na0, .inl (cI, 4, .inl fn0)), (a1, .inr (8, [.int 4, .ref wa1, .ref na1])), (wa1, .inl (cI, 4, .inl fw1)), (na1, .inl (cI, 4, .inl fn1)), (a2, .inr (8, [.int 4, .ref wa2, .ref na2])), (wa2, .inl (cI, 4, .inl fw2)), (na2, .inl (cI, 4, .inl fn2)), (a3, .inr (8, [.int 4, .ref wa3, .ref na3])), (wa3, .inl (cI, 4, .inl fw3)), (na3, .inl (cI, 4, .inl fn3)), (q2, .inl (cI, 4, .inl (fun _ => 0)))] H3 := hP
  replace hD : va_D A [(mo, .inr (9, [th, .ref al, md, rf, kn])), (al, .inr (4, [mc, .ref ed, .int (nI cc)])), (ed, .inl (cO, 10, .inr (.inr (.inr (.inr ee))))), (a0, .inr (8, [.int 4, .ref wa0, .ref na0])), (wa0, .inl (cI, 4, .inl fw0)), (na0, .inl (cI, 4, .inl fn0)), (a1, .inr (8, [.int 4, .ref wa1, .ref na1])), (wa1, .inl (cI, 4, .inl fw1)), (na1, .inl (cI, 4, .inl fn1)), (a2, .inr (8, [.int 4, .ref wa2, .ref na2])), (wa2, .inl (cI, 4, .inl fw2)), (na2, .inl (cI, 4, .inl fn2)), (a3, .inr (8, [.int 4, .ref wa3, .ref na3])), (wa3, .inl (cI, 4, .inl fw3)), (na3, .inl (cI, 4, .inl fn3)), (q2, .inl (cI, 4, .inl (fun _ => 0)))] := hD
  refine W.widen (k := 1) (n := 4) (by omega) (by omega) ?_
  refine lv_astore_n (lv' := [(2, .ref q2), (0, .ref mo), (1, .int 3)]) hx hb dX4_depthOf_5 rfl hl (by decide) rfl (fun ls hl => ?_)
  refine lv_iconst (v := 0) hx hb dX4_depthOf_6 (by decide) ?_
  refine lv_istore_n (lv' := [(3, .int 0), (2, .ref q2), (0, .ref mo), (1, .int 3)]) hx hb dX4_depthOf_7 rfl hl (by decide) rfl (fun ls hl => ?_)
  refine lv_iload_n hx hb dX4_depthOf_8 rfl (lv_at hl 0 rfl) ?_
  refine lv_iload_n hx hb dX4_depthOf_9 rfl (lv_at hl 3 rfl) ?_
  refine lv_icmp_gt (tgt := 86) hx hb dX4_depthOf_10 (by decide) (fun c9 => ?_) (fun c9 => ?_)
  · exact absurd c9 (by decide)
  refine lv_aload_n hx hb dX4_depthOf_13 rfl (lv_at hl 2 rfl) ?_
  refine va_get (D := (dC, dI)) (ci := 9) (v := .ref al) (C := RX4) (T := TX4) (N := 5) hx hb hts hi_X4_depthOf_X4 hown hK hP 0 rfl rfl 1 (by decide) (hts (.fieldLink RX4 10 "DeeprowsModel" "rows" "Ljava/util/ArrayList;") (List.mem_cons_of_mem _ zw_1134)) (fun _ h9 => h9) rfl dX4_depthOf_14 ?_
  refine lv_iload_n hx hb dX4_depthOf_17 rfl (lv_at hl 0 rfl) ?_
  have hPc := hP.sub (ws' := [(al, .inr (4, [mc, .ref ed, .int (nI cc)])), (ed, .inl (cO, 10, .inr (.inr (.inr (.inr ee)))))]) [1, 2] rfl
  have hDc := hD.sub (ws' := [(al, .inr (4, [mc, .ref ed, .int (nI cc)])), (ed, .inl (cO, 10, .inr (.inr (.inr (.inr ee)))))]) [1, 2] (by decide) rfl
  have hFc := va_free (wc := [(al, .inr (4, [mc, .ref ed, .int (nI cc)])), (ed, .inl (cO, 10, .inr (.inr (.inr (.inr ee)))))]) hD hS hA [1, 2] rfl
  have hDv := hDc.self (sz := H3.size)
  have hpre := zpre (xs' := []) (av := [.ref al, .int 0]) hPc hK (hDc.weaken (fun _ _ _ h => h)) hZ hS hFc (fun r hr => by cases hr)
  refine va_callr (va_runV (As := [.int 0]) (rest := []) ⟨hx, hb, hml, hown, hts⟩ (k_get l dC dI cI cB cR cO zk al ed 0 cc 10 a0 ee mc H3.size (by omega) hcc2 (by decide) he0) (cwV 1 hts gX4_depthOf_Jx4a65c_get_915e3 rfl rfl rfl (by decide +kernel) ⟨Nat.le_of_ble_eq_true rfl, Nat.le_of_ble_eq_true rfl⟩) ⟨zblind, (zrecv_4 hK hPc (q0 := 0) rfl), hpre⟩ rfl rfl hl.1 rfl (lv_room (Nat.le_of_ble_eq_true rfl)) dX4_depthOf_18 ⟨Nat.le_of_ble_eq_true rfl, Nat.le_of_ble_eq_true rfl⟩) hS (fun q _ h => hFc q h) hFc (fun u r5 t H4 locs ht hvm hw hB hz1 hk1 hS => ?_)
  obtain ⟨⟨hP1, hK1, hD1, hz2⟩, her5⟩ := hB
  rw [ht] at hP1 hz2
  have hPD9 := va_join (wr := [(mo, .inr (9, [th, .ref al, md, rf, kn])), (a0, .inr (8, [.int 4, .ref wa0, .ref na0])), (wa0, .inl (cI, 4, .inl fw0)), (na0, .inl (cI, 4, .inl fn0)), (a1, .inr (8, [.int 4, .ref wa1, .ref na1])), (wa1, .inl (cI, 4, .inl fw1)), (na1, .inl (cI, 4, .inl fn1)), (a2, .inr (8, [.int 4, .ref wa2, .ref na2])), (wa2, .inl (cI, 4, .inl fw2)), (na2, .inl (cI, 4, .inl fn2)), (a3, .inr (8, [.int 4, .ref wa3, .ref na3])), (wa3, .inl (cI, 4, .inl fw3)), (na3, .inl (cI, 4, .inl fn3)), (q2, .inl (cI, 4, .inl (fun _ => 0)))]) (w1 := [(al, .inr (4, [mc, .ref ed, .int (nI cc)])), (ed, .inl (cO, 10, .inr (.inr (.inr (.inr ee)))))]) hP hD [1, 2] [0, 3, 4, 5, 6, 7, 8, 9, 10, 11, 12, 13, 14, 15] rfl rfl (by decide) (by decide) hk1 hFc hP1 hD1
  clear hPc hDc hFc hDv hpre hP hD hP1 hK1 hD1
  obtain ⟨hP, hD⟩ := hPD9
  replace hz : s.heap.size + 1 ≤ H4.size := by omega
  clear hz2
  replace hP : va_P (dC, dI) vwCl [(mo, .inr (9, [th, .ref al, md, rf, kn])), (a0, .inr (8, [.int 4, .ref wa0, .ref na0])), (wa0, .inl (cI, 4, .inl fw0)), (na0, .inl (cI, 4, .inl fn0)), (a1, .inr (8, [.int 4, .ref wa1, .ref na1])), (wa1, .inl (cI, 4, .inl fw1)), (na1, .inl (cI, 4, .inl fn1)), (a2, .inr (8, [.int 4, .ref wa2, .ref na2])), (wa2, .inl (cI, 4, .inl fw2)), (na2, .inl (cI, 4, .inl fn2)), (a3, .inr (8, [.int 4, .ref wa3, .ref na3])), (wa3, .inl (cI, 4, .inl fw3)), (na3, .inl (cI, 4, .inl fn3)), (q2, .inl (cI, 4, .inl (fun _ => 0))), (al, .inr (4, [mc, .ref ed, .int (nI cc)])), (ed, .inl (cO, 10, .inr (.inr (.inr (.inr ee)))))] H4 := hP
  replace hD : va_D A [(mo, .inr (9, [th, .ref al, md, rf, kn])), (a0, .inr (8, [.int 4, .ref wa0, .ref na0])), (wa0, .inl (cI, 4, .inl fw0)), (na0, .inl (cI, 4, .inl fn0)), (a1, .inr (8, [.int 4, .ref wa1, .ref na1])), (wa1, .inl (cI, 4, .inl fw1)), (na1, .inl (cI, 4, .inl fn1)), (a2, .inr (8, [.int 4, .ref wa2, .ref na2])), (wa2, .inl (cI, 4, .inl fw2)), (na2, .inl (cI, 4, .inl fn2)), (a3, .inr (8, [.int 4, .ref wa3, .ref na3])), (wa3, .inl (cI, 4, .inl fw3)), (na3, .inl (cI, 4, .inl fn3)), (q2, .inl (cI, 4, .inl (fun _ => 0))), (al, .inr (4, [mc, .ref ed, .int (nI cc)])), (ed, .inl (cO, 10, .inr (.inr (.inr (.inr ee)))))] := hD
  refine W.widen (k := 1) (n := 4) (by omega) (by omega) ?_
  obtain rfl := her5.symm
  refine va_castE hx hb hown (hts (.classLink RX4 40 "DeeprowsModel$Row") (List.mem_cons_of_mem _ zw_1165)) (zrecv_8 hK hP (q0 := 1) rfl) dX4_depthOf_21 ?_
  refine lv_astore (lv' := [(4, .ref a0), (3, .int 0), (2, .ref q2), (0, .ref mo), (1, .int 3)]) hx hb dX4_depthOf_24 hl (by decide) rfl (fun ls hl => ?_)
  refine lv_aload_n hx hb dX4_depthOf_26 rfl (lv_at hl 2 rfl) ?_
  refine lv_iload_n hx hb dX4_depthOf_27 rfl (lv_at hl 1 rfl) ?_
  refine lv_iconst (v := 1) hx hb dX4_depthOf_28 (by decide) ?_
  refine va_iast (D := (dC, dI)) (cl := vwCl) hx hb hK hP hD (zS0 hS) 13 0 rfl rfl (by unfold vp_in; decide) dX4_depthOf_29 (fun H6 locs hP hD hS1 => ?_)
  have hz : s.heap.size + 1 ≤ H6.size := Nat.le_trans hz hS1.1
  have hS := zSS hS hS1
  replace hP : va_P (dC, dI) vwCl [(mo, .inr (9, [th, .ref al, md, rf, kn])), (a0, .inr (8, [.int 4, .ref wa0, .ref na0])), (wa0, .inl (cI, 4, .inl fw0)), (na0, .inl (cI, 4, .inl fn0)), (a1, .inr (8, [.int 4, .ref wa1, .ref na1])), (wa1, .inl (cI, 4, .inl fw1)), (na1, .inl (cI, 4, .inl fn1)), (a2, .inr (8, [.int 4, .ref wa2, .ref na2])), (wa2, .inl (cI, 4, .inl fw2)), (na2, .inl (cI, 4, .inl fn2)), (a3, .inr (8, [.int 4, .ref wa3, .ref na3])), (wa3, .inl (cI, 4, .inl fw3)), (na3, .inl (cI, 4, .inl fn3)), (q2, .inl (cI, 4, .inl (upd (fun _ => 0) 0 1))), (al, .inr (4, [mc, .ref ed, .int (nI cc)])), (ed, .inl (cO, 10, .inr (.inr (.inr (.inr ee)))))] H6 := hP
  replace hD : va_D A [(mo, .inr (9, [th, .ref al, md, rf, kn])), (a0, .inr (8, [.int 4, .ref wa0, .ref na0])), (wa0, .inl (cI, 4, .inl fw0)), (na0, .inl (cI, 4, .inl fn0)), (a1, .inr (8, [.int 4, .ref wa1, .ref na1])), (wa1, .inl (cI, 4, .inl fw1)), (na1, .inl (cI, 4, .inl fn1)), (a2, .inr (8, [.int 4, .ref wa2, .ref na2])), (wa2, .inl (cI, 4, .inl fw2)), (na2, .inl (cI, 4, .inl fn2)), (a3, .inr (8, [.int 4, .ref wa3, .ref na3])), (wa3, .inl (cI, 4, .inl fw3)), (na3, .inl (cI, 4, .inl fn3)), (q2, .inl (cI, 4, .inl (upd (fun _ => 0) 0 1))), (al, .inr (4, [mc, .ref ed, .int (nI cc)])), (ed, .inl (cO, 10, .inr (.inr (.inr (.inr ee)))))] := hD
  refine lv_iconst (v := 0) hx hb dX4_depthOf_30 (by decide) ?_
  refine lv_istore (lv' := [(5, .int 0), (4, .ref a0), (3, .int 0), (2, .ref q2), (0, .ref mo), (1, .int 3)]) hx hb dX4_depthOf_31 hl (by decide) rfl (fun ls hl => ?_)
  refine lv_iload hx hb dX4_depthOf_33 (lv_at hl 0 rfl) ?_
  refine lv_aload hx hb dX4_depthOf_35 (lv_at hl 1 rfl) ?_
  have hPc := hP.sub (ws' := [(a0, .inr (8, [.int 4, .ref wa0, .ref na0])), (wa0, .inl (cI, 4, .inl fw0))]) [1, 2] rfl
  have hDc := hD.sub (ws' := [(a0, .inr (8, [.int 4, .ref wa0, .ref na0])), (wa0, .inl (cI, 4, .inl fw0))]) [1, 2] (by decide) rfl
  have hFc := va_free (wc := [(a0, .inr (8, [.int 4, .ref wa0, .ref na0])), (wa0, .inl (cI, 4, .inl fw0))]) hD hS hA [1, 2] rfl
  have hDv := hDc.self (sz := H6.size)
  have hpre := zpre (xs' := []) (av := [.ref a0]) hPc hK (hDc.weaken (fun _ _ _ h => h)) hZ hS hFc (fun r hr => by cases hr)
  refine va_calli (va_runV (As := []) (rest := [.int 0]) ⟨hx, hb, hml, hown, hts⟩ (k_rlen l dC dI cI cB cR cO zk a0 wa0 na0 fw0 H6.size ) (cwV 0 hts gX4_depthOf_X3_length rfl rfl rfl (by decide +kernel) ⟨Nat.le_of_ble_eq_true rfl, Nat.le_of_ble_eq_true rfl⟩) ⟨zblind, (zrecv_8 hK hPc (q0 := 0) rfl), hpre⟩ rfl rfl hl.1 rfl (lv_room (Nat.le_of_ble_eq_true rfl)) dX4_depthOf_37 ⟨Nat.le_of_ble_eq_true rfl, Nat.le_of_ble_eq_true rfl⟩) hS (fun q _ h => hFc q h) hFc (fun r8 u t H7 locs ht hvm hw hB hz1 hk1 hS => ?_)
  obtain rfl : 4 = r8 := (show r8 = 4 from hw).symm
  obtain ⟨hP1, hK1, hD1, hz2⟩ := hB
  rw [ht] at hP1 hz2
  have hPD9 := va_join (wr := [(mo, .inr (9, [th, .ref al, md, rf, kn])), (na0, .inl (cI, 4, .inl fn0)), (a1, .inr (8, [.int 4, .ref wa1, .ref na1])), (wa1, .inl (cI, 4, .inl fw1)), (na1, .inl (cI, 4, .inl fn1)), (a2, .inr (8, [.int 4, .ref wa2, .ref na2])), (wa2, .inl (cI, 4, .inl fw2)), (na2, .inl (cI, 4, .inl fn2)), (a3, .inr (8, [.int 4, .ref wa3, .ref na3])), (wa3, .inl (cI, 4, .inl fw3)), (na3, .inl (cI, 4, .inl fn3)), (q2, .inl (cI, 4, .inl (upd (fun _ => 0) 0 1))), (al, .inr (4, [mc, .ref ed, .int (nI cc)])), (ed, .inl (cO, 10, .inr (.inr (.inr (.inr ee)))))]) (w1 := [(a0, .inr (8, [.int 4, .ref wa0, .ref na0])), (wa0, .inl (cI, 4, .inl fw0))]) hP hD [1, 2] [0, 3, 4, 5, 6, 7, 8, 9, 10, 11, 12, 13, 14, 15] rfl rfl (by decide) (by decide) hk1 hFc hP1 hD1
  clear hPc hDc hFc hDv hpre hP hD hP1 hK1 hD1
  obtain ⟨hP, hD⟩ := hPD9
  replace hz : s.heap.size + 1 ≤ H7.size := by omega
  clear hz2
  replace hP : va_P (dC, dI) vwCl [(mo, .inr (9, [th, .ref al, md, rf, kn])), (na0, .inl (cI, 4, .inl fn0)), (a1, .inr (8, [.int 4, .ref wa1, .ref na1])), (wa1, .inl (cI, 4, .inl fw1)), (na1, .inl (cI, 4, .inl fn1)), (a2, .inr (8, [.int 4, .ref wa2, .ref na2])), (wa2, .inl (cI, 4, .inl fw2)), (na2, .inl (cI, 4, .inl fn2)), (a3, .inr (8, [.int 4, .ref wa3, .ref na3])), (wa3, .inl (cI, 4, .inl fw3)), (na3, .inl (cI, 4, .inl fn3)), (q2, .inl (cI, 4, .inl (upd (fun _ => 0) 0 1))), (al, .inr (4, [mc, .ref ed, .int (nI cc)])), (ed, .inl (cO, 10, .inr (.inr (.inr (.inr ee))))), (a0, .inr (8, [.int 4, .ref wa0, .ref na0])), (wa0, .inl (cI, 4, .inl fw0))] H7 := hP
  replace hD : va_D A [(mo, .inr (9, [th, .ref al, md, rf, kn])), (na0, .inl (cI, 4, .inl fn0)), (a1, .inr (8, [.int 4, .ref wa1, .ref na1])), (wa1, .inl (cI, 4, .inl fw1)), (na1, .inl (cI, 4, .inl fn1)), (a2, .inr (8, [.int 4, .ref wa2, .ref na2])), (wa2, .inl (cI, 4, .inl fw2)), (na2, .inl (cI, 4, .inl fn2)), (a3, .inr (8, [.int 4, .ref wa3, .ref na3])), (wa3, .inl (cI, 4, .inl fw3)), (na3, .inl (cI, 4, .inl fn3)), (q2, .inl (cI, 4, .inl (upd (fun _ => 0) 0 1))), (al, .inr (4, [mc, .ref ed, .int (nI cc)])), (ed, .inl (cO, 10, .inr (.inr (.inr (.inr ee))))), (a0, .inr (8, [.int 4, .ref wa0, .ref na0])), (wa0, .inl (cI, 4, .inl fw0))] := hD
  refine W.widen (k := 1) (n := 4) (by omega) (by omega) ?_
  refine lv_icmp_ge (tgt := 80) hx hb dX4_depthOf_40 (by decide) (fun c9 => ?_) (fun c9 => ?_)
  · exact absurd c9 (by decide)
  refine lv_aload hx hb dX4_depthOf_43 (lv_at hl 1 rfl) ?_
  refine lv_iload hx hb dX4_depthOf_45 (lv_at hl 0 rfl) ?_
  have hPc := hP.sub (ws' := [(a0, .inr (8, [.int 4, .ref wa0, .ref na0])), (wa0, .inl (cI, 4, .inl fw0))]) [14, 15] rfl
  have hDc := hD.sub (ws' := [(a0, .inr (8, [.int 4, .ref wa0, .ref na0])), (wa0, .inl (cI, 4, .inl fw0))]) [14, 15] (by decide) rfl
  have hFc := va_free (wc := [(a0, .inr (8, [.int 4, .ref wa0, .ref na0])), (wa0, .inl (cI, 4, .inl fw0))]) hD hS hA [14, 15] rfl
  have hDv := hDc.self (sz := H7.size)
  have hpre := zpre (xs' := []) (av := [.ref a0, .int 0]) hPc hK (hDc.weaken (fun _ _ _ h => h)) hZ hS hFc (fun r hr => by cases hr)
  refine va_calli (va_runV (As := [.int 0]) (rest := []) ⟨hx, hb, hml, hown, hts⟩ (k_mh0_0 l dC dI cI cB cR cO zk a0 wa0 na0 fw0 H7.size (hw0 0 (by decide))) (cwV 1 hts gX4_depthOf_X3_hangs rfl rfl rfl (by decide +kernel) ⟨Nat.le_of_ble_eq_true rfl, Nat.le_of_ble_eq_true rfl⟩) ⟨zblind, (zrecv_8 hK hPc (q0 := 0) rfl), hpre⟩ rfl rfl hl.1 rfl (lv_room (Nat.le_of_ble_eq_true rfl)) dX4_depthOf_47 ⟨Nat.le_of_ble_eq_true rfl, Nat.le_of_ble_eq_true rfl⟩) hS (fun q _ h => hFc q h) hFc (fun r10 u t H9 locs ht hvm hw hB hz1 hk1 hS => ?_)
  obtain rfl : 0 = r10 := (show r10 = 0 from hw).symm
  obtain ⟨hP1, hK1, hD1, hz2⟩ := hB
  rw [ht] at hP1 hz2
  have hPD9 := va_join (wr := [(mo, .inr (9, [th, .ref al, md, rf, kn])), (na0, .inl (cI, 4, .inl fn0)), (a1, .inr (8, [.int 4, .ref wa1, .ref na1])), (wa1, .inl (cI, 4, .inl fw1)), (na1, .inl (cI, 4, .inl fn1)), (a2, .inr (8, [.int 4, .ref wa2, .ref na2])), (wa2, .inl (cI, 4, .inl fw2)), (na2, .inl (cI, 4, .inl fn2)), (a3, .inr (8, [.int 4, .ref wa3, .ref na3])), (wa3, .inl (cI, 4, .inl fw3)), (na3, .inl (cI, 4, .inl fn3)), (q2, .inl (cI, 4, .inl (upd (fun _ => 0) 0 1))), (al, .inr (4, [mc, .ref ed, .int (nI cc)])), (ed, .inl (cO, 10, .inr (.inr (.inr (.inr ee)))))]) (w1 := [(a0, .inr (8, [.int 4, .ref wa0, .ref na0])), (wa0, .inl (cI, 4, .inl fw0))]) hP hD [14, 15] [0, 1, 2, 3, 4, 5, 6, 7, 8, 9, 10, 11, 12, 13] rfl rfl (by decide) (by decide) hk1 hFc hP1 hD1
  clear hPc hDc hFc hDv hpre hP hD hP1 hK1 hD1
  obtain ⟨hP, hD⟩ := hPD9
  replace hz : s.heap.size + 1 ≤ H9.size := by omega
  clear hz2
  replace hP : va_P (dC, dI) vwCl [(mo, .inr (9, [th, .ref al, md, rf, kn])), (na0, .inl (cI, 4, .inl fn0)), (a1, .inr (8, [.int 4, .ref wa1, .ref na1])), (wa1, .inl (cI, 4, .inl fw1)), (na1, .inl (cI, 4, .inl fn1)), (a2, .inr (8, [.int 4, .ref wa2, .ref na2])), (wa2, .inl (cI, 4, .inl fw2)), (na2, .inl (cI, 4, .inl fn2)), (a3, .inr (8, [.int 4, .ref wa3, .ref na3])), (wa3, .inl (cI, 4, .inl fw3)), (na3, .inl (cI, 4, .inl fn3)), (q2, .inl (cI, 4, .inl (upd (fun _ => 0) 0 1))), (al, .inr (4, [mc, .ref ed, .int (nI cc)])), (ed, .inl (cO, 10, .inr (.inr (.inr (.inr ee))))), (a0, .inr (8, [.int 4, .ref wa0, .ref na0])), (wa0, .inl (cI, 4, .inl fw0))] H9 := hP
  replace hD : va_D A [(mo, .inr (9, [th, .ref al, md, rf, kn])), (na0, .inl (cI, 4, .inl fn0)), (a1, .inr (8, [.int 4, .ref wa1, .ref na1])), (wa1, .inl (cI, 4, .inl fw1)), (na1, .inl (cI, 4, .inl fn1)), (a2, .inr (8, [.int 4, .ref wa2, .ref na2])), (wa2, .inl (cI, 4, .inl fw2)), (na2, .inl (cI, 4, .inl fn2)), (a3, .inr (8, [.int 4, .ref wa3, .ref na3])), (wa3, .inl (cI, 4, .inl fw3)), (na3, .inl (cI, 4, .inl fn3)), (q2, .inl (cI, 4, .inl (upd (fun _ => 0) 0 1))), (al, .inr (4, [mc, .ref ed, .int (nI cc)])), (ed, .inl (cO, 10, .inr (.inr (.inr (.inr ee))))), (a0, .inr (8, [.int 4, .ref wa0, .ref na0])), (wa0, .inl (cI, 4, .inl fw0))] := hD
  refine W.widen (k := 1) (n := 4) (by omega) (by omega) ?_
  refine lv_if_eq (tgt := 74) hx hb dX4_depthOf_50 (by decide) (fun c9 => ?_) (fun c9 => ?_)
  rotate_left
  · exact absurd (by decide) c9
  refine lv_iinc (v := 1) (lv' := [(5, .int 1), (4, .ref a0), (3, .int 0), (2, .ref q2), (0, .ref mo), (1, .int 3)]) hx hb dX4_depthOf_74 hl (k := 0) rfl (by decide) (by decide) rfl (fun ls hl => ?_)
  refine lv_goto (tgt := 33) hx hb dX4_depthOf_77 (by decide) ?_
  refine lv_iload hx hb dX4_depthOf_33 (lv_at hl 0 rfl) ?_
  refine lv_aload hx hb dX4_depthOf_35 (lv_at hl 1 rfl) ?_
  have hPc := hP.sub (ws' := [(a0, .inr (8, [.int 4, .ref wa0, .ref na0])), (wa0, .inl (cI, 4, .inl fw0))]) [14, 15] rfl
  have hDc := hD.sub (ws' := [(a0, .inr (8, [.int 4, .ref wa0, .ref na0])), (wa0, .inl (cI, 4, .inl fw0))]) [14, 15] (by decide) rfl
  have hFc := va_free (wc := [(a0, .inr (8, [.int 4, .ref wa0, .ref na0])), (wa0, .inl (cI, 4, .inl fw0))]) hD hS hA [14, 15] rfl
  have hDv := hDc.self (sz := H9.size)
  have hpre := zpre (xs' := []) (av := [.ref a0]) hPc hK (hDc.weaken (fun _ _ _ h => h)) hZ hS hFc (fun r hr => by cases hr)
  refine va_calli (va_runV (As := []) (rest := [.int 1]) ⟨hx, hb, hml, hown, hts⟩ (k_rlen l dC dI cI cB cR cO zk a0 wa0 na0 fw0 H9.size ) (cwV 0 hts gX4_depthOf_X3_length rfl rfl rfl (by decide +kernel) ⟨Nat.le_of_ble_eq_true rfl, Nat.le_of_ble_eq_true rfl⟩) ⟨zblind, (zrecv_8 hK hPc (q0 := 0) rfl), hpre⟩ rfl rfl hl.1 rfl (lv_room (Nat.le_of_ble_eq_true rfl)) dX4_depthOf_37 ⟨Nat.le_of_ble_eq_true rfl, Nat.le_of_ble_eq_true rfl⟩) hS (fun q _ h => hFc q h) hFc (fun r12 u t H11 locs ht hvm hw hB hz1 hk1 hS => ?_)
  obtain rfl : 4 = r12 := (show r12 = 4 from hw).symm
  obtain ⟨hP1, hK1, hD1, hz2⟩ := hB
  rw [ht] at hP1 hz2
  have hPD9 := va_join (wr := [(mo, .inr (9, [th, .ref al, md, rf, kn])), (na0, .inl (cI, 4, .inl fn0)), (a1, .inr (8, [.int 4, .ref wa1, .ref na1])), (wa1, .inl (cI, 4, .inl fw1)), (na1, .inl (cI, 4, .inl fn1)), (a2, .inr (8, [.int 4, .ref wa2, .ref na2])), (wa2, .inl (cI, 4, .inl fw2)), (na2, .inl (cI, 4, .inl fn2)), (a3, .inr (8, [.int 4, .ref wa3, .ref na3])), (wa3, .inl (cI, 4, .inl fw3)), (na3, .inl (cI, 4, .inl fn3)), (q2, .inl (cI, 4, .inl (upd (fun _ => 0) 0 1))), (al, .inr (4, [mc, .ref ed, .int (nI cc)])), (ed, .inl (cO, 10, .inr (.inr (.inr (.inr ee)))))]) (w1 := [(a0, .inr (8, [.int 4, .ref wa0, .ref na0])), (wa0, .inl (cI, 4, .inl fw0))]) hP hD [14, 15] [0, 1, 2, 3, 4, 5, 6, 7, 8, 9, 10, 11, 12, 13] rfl rfl (by decide) (by decide) hk1 hFc hP1 hD1
  clear hPc hDc hFc hDv hpre hP hD hP1 hK1 hD1
  obtain ⟨hP, hD⟩ := hPD9
  replace hz : s.heap.size + 1 ≤ H11.size := by omega
  clear hz2
  replace hP : va_P (dC, dI) vwCl [(mo, .inr (9, [th, .ref al, md, rf, kn])), (na0, .inl (cI, 4, .inl fn0)), (a1, .inr (8, [.int 4, .ref wa1, .ref na1])), (wa1, .inl (cI, 4, .inl fw1)), (na1, .inl (cI, 4, .inl fn1)), (a2, .inr (8, [.int 4, .ref wa2, .ref na2])), (wa2, .inl (cI, 4, .inl fw2)), (na2, .inl (cI, 4, .inl fn2)), (a3, .inr (8, [.int 4, .ref wa3, .ref na3])), (wa3, .inl (cI, 4, .inl fw3)), (na3, .inl (cI, 4, .inl fn3)), (q2, .inl (cI, 4, .inl (upd (fun _ => 0) 0 1))), (al, .inr (4, [mc, .ref ed, .int (nI cc)])), (ed, .inl (cO, 10, .inr (.inr (.inr (.inr ee))))), (a0, .inr (8, [.int 4, .ref wa0, .ref na0])), (wa0, .inl (cI, 4, .inl fw0))] H11 := hP
  replace hD : va_D A [(mo, .inr (9, [th, .ref al, md, rf, kn])), (na0, .inl (cI, 4, .inl fn0)), (a1, .inr (8, [.int 4, .ref wa1, .ref na1])), (wa1, .inl (cI, 4, .inl fw1)), (na1, .inl (cI, 4, .inl fn1)), (a2, .inr (8, [.int 4, .ref wa2, .ref na2])), (wa2, .inl (cI, 4, .inl fw2)), (na2, .inl (cI, 4, .inl fn2)), (a3, .inr (8, [.int 4, .ref wa3, .ref na3])), (wa3, .inl (cI, 4, .inl fw3)), (na3, .inl (cI, 4, .inl fn3)), (q2, .inl (cI, 4, .inl (upd (fun _ => 0) 0 1))), (al, .inr (4, [mc, .ref ed, .int (nI cc)])), (ed, .inl (cO, 10, .inr (.inr (.inr (.inr ee))))), (a0, .inr (8, [.int 4, .ref wa0, .ref na0])), (wa0, .inl (cI, 4, .inl fw0))] := hD
  refine W.widen (k := 1) (n := 4) (by omega) (by omega) ?_
  refine lv_icmp_ge (tgt := 80) hx hb dX4_depthOf_40 (by decide) (fun c9 => ?_) (fun c9 => ?_)
  · exact absurd c9 (by decide)
  refine lv_aload hx hb dX4_depthOf_43 (lv_at hl 1 rfl) ?_
  refine lv_iload hx hb dX4_depthOf_45 (lv_at hl 0 rfl) ?_
  have hPc := hP.sub (ws' := [(a0, .inr (8, [.int 4, .ref wa0, .ref na0])), (wa0, .inl (cI, 4, .inl fw0))]) [14, 15] rfl
  have hDc := hD.sub (ws' := [(a0, .inr (8, [.int 4, .ref wa0, .ref na0])), (wa0, .inl (cI, 4, .inl fw0))]) [14, 15] (by decide) rfl
  have hFc := va_free (wc := [(a0, .inr (8, [.int 4, .ref wa0, .ref na0])), (wa0, .inl (cI, 4, .inl fw0))]) hD hS hA [14, 15] rfl
  have hDv := hDc.self (sz := H11.size)
  have hpre := zpre (xs' := []) (av := [.ref a0, .int 1]) hPc hK (hDc.weaken (fun _ _ _ h => h)) hZ hS hFc (fun r hr => by cases hr)
  refine va_calli (va_runV (As := [.int 1]) (rest := []) ⟨hx, hb, hml, hown, hts⟩ (k_mh1_0 l dC dI cI cB cR cO zk a0 wa0 na0 fw0 H11.size (hw0 1 (by decide))) (cwV 1 hts gX4_depthOf_X3_hangs rfl rfl rfl (by decide +kernel) ⟨Nat.le_of_ble_eq_true rfl, Nat.le_of_ble_eq_true rfl⟩) ⟨zblind, (zrecv_8 hK hPc (q0 := 0) rfl), hpre⟩ rfl rfl hl.1 rfl (lv_room (Nat.le_of_ble_eq_true rfl)) dX4_depthOf_47 ⟨Nat.le_of_ble_eq_true rfl, Nat.le_of_ble_eq_true rfl⟩) hS (fun q _ h => hFc q h) hFc (fun r14 u t H13 locs ht hvm hw hB hz1 hk1 hS => ?_)
  obtain rfl : 0 = r14 := (show r14 = 0 from hw).symm
  obtain ⟨hP1, hK1, hD1, hz2⟩ := hB
  rw [ht] at hP1 hz2
  have hPD9 := va_join (wr := [(mo, .inr (9, [th, .ref al, md, rf, kn])), (na0, .inl (cI, 4, .inl fn0)), (a1, .inr (8, [.int 4, .ref wa1, .ref na1])), (wa1, .inl (cI, 4, .inl fw1)), (na1, .inl (cI, 4, .inl fn1)), (a2, .inr (8, [.int 4, .ref wa2, .ref na2])), (wa2, .inl (cI, 4, .inl fw2)), (na2, .inl (cI, 4, .inl fn2)), (a3, .inr (8, [.int 4, .ref wa3, .ref na3])), (wa3, .inl (cI, 4, .inl fw3)), (na3, .inl (cI, 4, .inl fn3)), (q2, .inl (cI, 4, .inl (upd (fun _ => 0) 0 1))), (al, .inr (4, [mc, .ref ed, .int (nI cc)])), (ed, .inl (cO, 10, .inr (.inr (.inr (.inr ee)))))]) (w1 := [(a0, .inr (8, [.int 4, .ref wa0, .ref na0])), (wa0, .inl (cI, 4, .inl fw0))]) hP hD [14, 15] [0, 1, 2, 3, 4, 5, 6, 7, 8, 9, 10, 11, 12, 13] rfl rfl (by decide) (by decide) hk1 hFc hP1 hD1
  clear hPc hDc hFc hDv hpre hP hD hP1 hK1 hD1
  obtain ⟨hP, hD⟩ := hPD9
  replace hz : s.heap.size + 1 ≤ H13.size := by omega
  clear hz2
  replace hP : va_P (dC, dI) vwCl [(mo, .inr (9, [th, .ref al, md, rf, kn])), (na0, .inl (cI, 4, .inl fn0)), (a1, .inr (8, [.int 4, .ref wa1, .ref na1])), (wa1, .inl (cI, 4, .inl fw1)), (na1, .inl (cI, 4, .inl fn1)), (a2, .inr (8, [.int 4, .ref wa2, .ref na2])), (wa2, .inl (cI, 4, .inl fw2)), (na2, .inl (cI, 4, .inl fn2)), (a3, .inr (8, [.int 4, .ref wa3, .ref na3])), (wa3, .inl (cI, 4, .inl fw3)), (na3, .inl (cI, 4, .inl fn3)), (q2, .inl (cI, 4, .inl (upd (fun _ => 0) 0 1))), (al, .inr (4, [mc, .ref ed, .int (nI cc)])), (ed, .inl (cO, 10, .inr (.inr (.inr (.inr ee))))), (a0, .inr (8, [.int 4, .ref wa0, .ref na0])), (wa0, .inl (cI, 4, .inl fw0))] H13 := hP
  replace hD : va_D A [(mo, .inr (9, [th, .ref al, md, rf, kn])), (na0, .inl (cI, 4, .inl fn0)), (a1, .inr (8, [.int 4, .ref wa1, .ref na1])), (wa1, .inl (cI, 4, .inl fw1)), (na1, .inl (cI, 4, .inl fn1)), (a2, .inr (8, [.int 4, .ref wa2, .ref na2])), (wa2, .inl (cI, 4, .inl fw2)), (na2, .inl (cI, 4, .inl fn2)), (a3, .inr (8, [.int 4, .ref wa3, .ref na3])), (wa3, .inl (cI, 4, .inl fw3)), (na3, .inl (cI, 4, .inl fn3)), (q2, .inl (cI, 4, .inl (upd (fun _ => 0) 0 1))), (al, .inr (4, [mc, .ref ed, .int (nI cc)])), (ed, .inl (cO, 10, .inr (.inr (.inr (.inr ee))))), (a0, .inr (8, [.int 4, .ref wa0, .ref na0])), (wa0, .inl (cI, 4, .inl fw0))] := hD
  refine W.widen (k := 1) (n := 4) (by omega) (by omega) ?_
  refine lv_if_eq (tgt := 74) hx hb dX4_depthOf_50 (by decide) (fun c9 => ?_) (fun c9 => ?_)
  rotate_left
  · exact absurd (by decide) c9
  refine lv_iinc (v := 2) (lv' := [(5, .int 2), (4, .ref a0), (3, .int 0), (2, .ref q2), (0, .ref mo), (1, .int 3)]) hx hb dX4_depthOf_74 hl (k := 0) rfl (by decide) (by decide) rfl (fun ls hl => ?_)
  refine lv_goto (tgt := 33) hx hb dX4_depthOf_77 (by decide) ?_
  refine lv_iload hx hb dX4_depthOf_33 (lv_at hl 0 rfl) ?_
  refine lv_aload hx hb dX4_depthOf_35 (lv_at hl 1 rfl) ?_
  have hPc := hP.sub (ws' := [(a0, .inr (8, [.int 4, .ref wa0, .ref na0])), (wa0, .inl (cI, 4, .inl fw0))]) [14, 15] rfl
  have hDc := hD.sub (ws' := [(a0, .inr (8, [.int 4, .ref wa0, .ref na0])), (wa0, .inl (cI, 4, .inl fw0))]) [14, 15] (by decide) rfl
  have hFc := va_free (wc := [(a0, .inr (8, [.int 4, .ref wa0, .ref na0])), (wa0, .inl (cI, 4, .inl fw0))]) hD hS hA [14, 15] rfl
  have hDv := hDc.self (sz := H13.size)
  have hpre := zpre (xs' := []) (av := [.ref a0]) hPc hK (hDc.weaken (fun _ _ _ h => h)) hZ hS hFc (fun r hr => by cases hr)
  refine va_calli (va_runV (As := []) (rest := [.int 2]) ⟨hx, hb, hml, hown, hts⟩ (k_rlen l dC dI cI cB cR cO zk a0 wa0 na0 fw0 H13.size ) (cwV 0 hts gX4_depthOf_X3_length rfl rfl rfl (by decide +kernel) ⟨Nat.le_of_ble_eq_true rfl, Nat.le_of_ble_eq_true rfl⟩) ⟨zblind, (zrecv_8 hK hPc (q0 := 0) rfl), hpre⟩ rfl rfl hl.1 rfl (lv_room (Nat.le_of_ble_eq_true rfl)) dX4_depthOf_37 ⟨Nat.le_of_ble_eq_true rfl, Nat.le_of_ble_eq_true rfl⟩) hS (fun q _ h => hFc q h) hFc (fun r16 u t H15 locs ht hvm hw hB hz1 hk1 hS => ?_)
  obtain rfl : 4 = r16 := (show r16 = 4 from hw).symm
  obtain ⟨hP1, hK1, hD1, hz2⟩ := hB
  rw [ht] at hP1 hz2
  have hPD9 := va_join (wr := [(mo, .inr (9, [th, .ref al, md, rf, kn])), (na0, .inl (cI, 4, .inl fn0)), (a1, .inr (8, [.int 4, .ref wa1, .ref na1])), (wa1, .inl (cI, 4, .inl fw1)), (na1, .inl (cI, 4, .inl fn1)), (a2, .inr (8, [.int 4, .ref wa2, .ref na2])), (wa2, .inl (cI, 4, .inl fw2)), (na2, .inl (cI, 4, .inl fn2)), (a3, .inr (8, [.int 4, .ref wa3, .ref na3])), (wa3, .inl (cI, 4, .inl fw3)), (na3, .inl (cI, 4, .inl fn3)), (q2, .inl (cI, 4, .inl (upd (fun _ => 0) 0 1))), (al, .inr (4, [mc, .ref ed, .int (nI cc)])), (ed, .inl (cO, 10, .inr (.inr (.inr (.inr ee)))))]) (w1 := [(a0, .inr (8, [.int 4, .ref wa0, .ref na0])), (wa0, .inl (cI, 4, .inl fw0))]) hP hD [14, 15] [0, 1, 2, 3, 4, 5, 6, 7, 8, 9, 10, 11, 12, 13] rfl rfl (by decide) (by decide) hk1 hFc hP1 hD1
  clear hPc hDc hFc hDv hpre hP hD hP1 hK1 hD1
  obtain ⟨hP, hD⟩ := hPD9
  replace hz : s.heap.size + 1 ≤ H15.size := by omega
  clear hz2
  replace hP : va_P (dC, dI) vwCl [(mo, .inr (9, [th, .ref al, md, rf, kn])), (na0, .inl (cI, 4, .inl fn0)), (a1, .inr (8, [.int 4, .ref wa1, .ref na1])), (wa1, .inl (cI, 4, .inl fw1)), (na1, .inl (cI, 4, .inl fn1)), (a2, .inr (8, [.int 4, .ref wa2, .ref na2])), (wa2, .inl (cI, 4, .inl fw2)), (na2, .inl (cI, 4, .inl fn2)), (a3, .inr (8, [.int 4, .ref wa3, .ref na3])), (wa3, .inl (cI, 4, .inl fw3)), (na3, .inl (cI, 4, .inl fn3)), (q2, .inl (cI, 4, .inl (upd (fun _ => 0) 0 1))), (al, .inr (4, [mc, .ref ed, .int (nI cc)])), (ed, .inl (cO, 10, .inr (.inr (.inr (.inr ee))))), (a0, .inr (8, [.int 4, .ref wa0, .ref na0])), (wa0, .inl (cI, 4, .inl fw0))] H15 := hP
  replace hD : va_D A [(mo, .inr (9, [th, .ref al, md, rf, kn])), (na0, .inl (cI, 4, .inl fn0)), (a1, .inr (8, [.int 4, .ref wa1, .ref na1])), (wa1, .inl (cI, 4, .inl fw1)), (na1, .inl (cI, 4, .inl fn1)), (a2, .inr (8, [.int 4, .ref wa2, .ref na2])), (wa2, .inl (cI, 4, .inl fw2)), (na2, .inl (cI, 4, .inl fn2)), (a3, .inr (8, [.int 4, .ref wa3, .ref na3])), (wa3, .inl (cI, 4, .inl fw3)), (na3, .inl (cI, 4, .inl fn3)), (q2, .inl (cI, 4, .inl (upd (fun _ => 0) 0 1))), (al, .inr (4, [mc, .ref ed, .int (nI cc)])), (ed, .inl (cO, 10, .inr (.inr (.inr (.inr ee))))), (a0, .inr (8, [.int 4, .ref wa0, .ref na0])), (wa0, .inl (cI, 4, .inl fw0))] := hD
  refine W.widen (k := 1) (n := 4) (by omega) (by omega) ?_
  refine lv_icmp_ge (tgt := 80) hx hb dX4_depthOf_40 (by decide) (fun c9 => ?_) (fun c9 => ?_)
  · exact absurd c9 (by decide)
  refine lv_aload hx hb dX4_depthOf_43 (lv_at hl 1 rfl) ?_
  refine lv_iload hx hb dX4_depthOf_45 (lv_at hl 0 rfl) ?_
  have hPc := hP.sub (ws' := [(a0, .inr (8, [.int 4, .ref wa0, .ref na0])), (wa0, .inl (cI, 4, .inl fw0))]) [14, 15] rfl
  have hDc := hD.sub (ws' := [(a0, .inr (8, [.int 4, .ref wa0, .ref na0])), (wa0, .inl (cI, 4, .inl fw0))]) [14, 15] (by decide) rfl
  have hFc := va_free (wc := [(a0, .inr (8, [.int 4, .ref wa0, .ref na0])), (wa0, .inl (cI, 4, .inl fw0))]) hD hS hA [14, 15] rfl
  have hDv := hDc.self (sz := H15.size)
  have hpre := zpre (xs' := []) (av := [.ref a0, .int 2]) hPc hK (hDc.weaken (fun _ _ _ h => h)) hZ hS hFc (fun r hr => by cases hr)
  refine va_calli (va_runV (As := [.int 2]) (rest := []) ⟨hx, hb, hml, hown, hts⟩ (k_mh2_0 l dC dI cI cB cR cO zk a0 wa0 na0 fw0 H15.size (hw0 2 (by decide))) (cwV 1 hts gX4_depthOf_X3_hangs rfl rfl rfl (by decide +kernel) ⟨Nat.le_of_ble_eq_true rfl, Nat.le_of_ble_eq_true rfl⟩) ⟨zblind, (zrecv_8 hK hPc (q0 := 0) rfl), hpre⟩ rfl rfl hl.1 rfl (lv_room (Nat.le_of_ble_eq_true rfl)) dX4_depthOf_47 ⟨Nat.le_of_ble_eq_true rfl, Nat.le_of_ble_eq_true rfl⟩) hS (fun q _ h => hFc q h) hFc (fun r18 u t H17 locs ht hvm hw hB hz1 hk1 hS => ?_)
  obtain rfl : 0 = r18 := (show r18 = 0 from hw).symm
  obtain ⟨hP1, hK1, hD1, hz2⟩ := hB
  rw [ht] at hP1 hz2
  have hPD9 := va_join (wr := [(mo, .inr (9, [th, .ref al, md, rf, kn])), (na0, .inl (cI, 4, .inl fn0)), (a1, .inr (8, [.int 4, .ref wa1, .ref na1])), (wa1, .inl (cI, 4, .inl fw1)), (na1, .inl (cI, 4, .inl fn1)), (a2, .inr (8, [.int 4, .ref wa2, .ref na2])), (wa2, .inl (cI, 4, .inl fw2)), (na2, .inl (cI, 4, .inl fn2)), (a3, .inr (8, [.int 4, .ref wa3, .ref na3])), (wa3, .inl (cI, 4, .inl fw3)), (na3, .inl (cI, 4, .inl fn3)), (q2, .inl (cI, 4, .inl (upd (fun _ => 0) 0 1))), (al, .inr (4, [mc, .ref ed, .int (nI cc)])), (ed, .inl (cO, 10, .inr (.inr (.inr (.inr ee)))))]) (w1 := [(a0, .inr (8, [.int 4, .ref wa0, .ref na0])), (wa0, .inl (cI, 4, .inl fw0))]) hP hD [14, 15] [0, 1, 2, 3, 4, 5, 6, 7, 8, 9, 10, 11, 12, 13] rfl rfl (by decide) (by decide) hk1 hFc hP1 hD1
  clear hPc hDc hFc hDv hpre hP hD hP1 hK1 hD1
  obtain ⟨hP, hD⟩ := hPD9
  replace hz : s.heap.size + 1 ≤ H17.size := by omega
  clear hz2
  replace hP : va_P (dC, dI) vwCl [(mo, .inr (9, [th, .ref al, md, rf, kn])), (na0, .inl (cI, 4, .inl fn0)), (a1, .inr (8, [.int 4, .ref wa1, .ref na1])), (wa1, .inl (cI, 4, .inl fw1)), (na1, .inl (cI, 4, .inl fn1)), (a2, .inr (8, [.int 4, .ref wa2, .ref na2])), (wa2, .inl (cI, 4, .inl fw2)), (na2, .inl (cI, 4, .inl fn2)), (a3, .inr (8, [.int 4, .ref wa3, .ref na3])), (wa3, .inl (cI, 4, .inl fw3)), (na3, .inl (cI, 4, .inl fn3)), (q2, .inl (cI, 4, .inl (upd (fun _ => 0) 0 1))), (al, .inr (4, [mc, .ref ed, .int (nI cc)])), (ed, .inl (cO, 10, .inr (.inr (.inr (.inr ee))))), (a0, .inr (8, [.int 4, .ref wa0, .ref na0])), (wa0, .inl (cI, 4, .inl fw0))] H17 := hP
  replace hD : va_D A [(mo, .inr (9, [th, .ref al, md, rf, kn])), (na0, .inl (cI, 4, .inl fn0)), (a1, .inr (8, [.int 4, .ref wa1, .ref na1])), (wa1, .inl (cI, 4, .inl fw1)), (na1, .inl (cI, 4, .inl fn1)), (a2, .inr (8, [.int 4, .ref wa2, .ref na2])), (wa2, .inl (cI, 4, .inl fw2)), (na2, .inl (cI, 4, .inl fn2)), (a3, .inr (8, [.int 4, .ref wa3, .ref na3])), (wa3, .inl (cI, 4, .inl fw3)), (na3, .inl (cI, 4, .inl fn3)), (q2, .inl (cI, 4, .inl (upd (fun _ => 0) 0 1))), (al, .inr (4, [mc, .ref ed, .int (nI cc)])), (ed, .inl (cO, 10, .inr (.inr (.inr (.inr ee))))), (a0, .inr (8, [.int 4, .ref wa0, .ref na0])), (wa0, .inl (cI, 4, .inl fw0))] := hD
  refine W.widen (k := 1) (n := 4) (by omega) (by omega) ?_
  refine lv_if_eq (tgt := 74) hx hb dX4_depthOf_50 (by decide) (fun c9 => ?_) (fun c9 => ?_)
  rotate_left
  · exact absurd (by decide) c9
  refine lv_iinc (v := 3) (lv' := [(5, .int 3), (4, .ref a0), (3, .int 0), (2, .ref q2), (0, .ref mo), (1, .int 3)]) hx hb dX4_depthOf_74 hl (k := 0) rfl (by decide) (by decide) rfl (fun ls hl => ?_)
  refine lv_goto (tgt := 33) hx hb dX4_depthOf_77 (by decide) ?_
  refine lv_iload hx hb dX4_depthOf_33 (lv_at hl 0 rfl) ?_
  refine lv_aload hx hb dX4_depthOf_35 (lv_at hl 1 rfl) ?_
  have hPc := hP.sub (ws' := [(a0, .inr (8, [.int 4, .ref wa0, .ref na0])), (wa0, .inl (cI, 4, .inl fw0))]) [14, 15] rfl
  have hDc := hD.sub (ws' := [(a0, .inr (8, [.int 4, .ref wa0, .ref na0])), (wa0, .inl (cI, 4, .inl fw0))]) [14, 15] (by decide) rfl
  have hFc := va_free (wc := [(a0, .inr (8, [.int 4, .ref wa0, .ref na0])), (wa0, .inl (cI, 4, .inl fw0))]) hD hS hA [14, 15] rfl
  have hDv := hDc.self (sz := H17.size)
  have hpre := zpre (xs' := []) (av := [.ref a0]) hPc hK (hDc.weaken (fun _ _ _ h => h)) hZ hS hFc (fun r hr => by cases hr)
  refine va_calli (va_runV (As := []) (rest := [.int 3]) ⟨hx, hb, hml, hown, hts⟩ (k_rlen l dC dI cI cB cR cO zk a0 wa0 na0 fw0 H17.size ) (cwV 0 hts gX4_depthOf_X3_length rfl rfl rfl (by decide +kernel) ⟨Nat.le_of_ble_eq_true rfl, Nat.le_of_ble_eq_true rfl⟩) ⟨zblind, (zrecv_8 hK hPc (q0 := 0) rfl), hpre⟩ rfl rfl hl.1 rfl (lv_room (Nat.le_of_ble_eq_true rfl)) dX4_depthOf_37 ⟨Nat.le_of_ble_eq_true rfl, Nat.le_of_ble_eq_true rfl⟩) hS (fun q _ h => hFc q h) hFc (fun r20 u t H19 locs ht hvm hw hB hz1 hk1 hS => ?_)
  obtain rfl : 4 = r20 := (show r20 = 4 from hw).symm
  obtain ⟨hP1, hK1, hD1, hz2⟩ := hB
  rw [ht] at hP1 hz2
  have hPD9 := va_join (wr := [(mo, .inr (9, [th, .ref al, md, rf, kn])), (na0, .inl (cI, 4, .inl fn0)), (a1, .inr (8, [.int 4, .ref wa1, .ref na1])), (wa1, .inl (cI, 4, .inl fw1)), (na1, .inl (cI, 4, .inl fn1)), (a2, .inr (8, [.int 4, .ref wa2, .ref na2])), (wa2, .inl (cI, 4, .inl fw2)), (na2, .inl (cI, 4, .inl fn2)), (a3, .inr (8, [.int 4, .ref wa3, .ref na3])), (wa3, .inl (cI, 4, .inl fw3)), (na3, .inl (cI, 4, .inl fn3)), (q2, .inl (cI, 4, .inl (upd (fun _ => 0) 0 1))), (al, .inr (4, [mc, .ref ed, .int (nI cc)])), (ed, .inl (cO, 10, .inr (.inr (.inr (.inr ee)))))]) (w1 := [(a0, .inr (8, [.int 4, .ref wa0, .ref na0])), (wa0, .inl (cI, 4, .inl fw0))]) hP hD [14, 15] [0, 1, 2, 3, 4, 5, 6, 7, 8, 9, 10, 11, 12, 13] rfl rfl (by decide) (by decide) hk1 hFc hP1 hD1
  clear hPc hDc hFc hDv hpre hP hD hP1 hK1 hD1
  obtain ⟨hP, hD⟩ := hPD9
  replace hz : s.heap.size + 1 ≤ H19.size := by omega
  clear hz2
  replace hP : va_P (dC, dI) vwCl [(mo, .inr (9, [th, .ref al, md, rf, kn])), (na0, .inl (cI, 4, .inl fn0)), (a1, .inr (8, [.int 4, .ref wa1, .ref na1])), (wa1, .inl (cI, 4, .inl fw1)), (na1, .inl (cI, 4, .inl fn1)), (a2, .inr (8, [.int 4, .ref wa2, .ref na2])), (wa2, .inl (cI, 4, .inl fw2)), (na2, .inl (cI, 4, .inl fn2)), (a3, .inr (8, [.int 4, .ref wa3, .ref na3])), (wa3, .inl (cI, 4, .inl fw3)), (na3, .inl (cI, 4, .inl fn3)), (q2, .inl (cI, 4, .inl (upd (fun _ => 0) 0 1))), (al, .inr (4, [mc, .ref ed, .int (nI cc)])), (ed, .inl (cO, 10, .inr (.inr (.inr (.inr ee))))), (a0, .inr (8, [.int 4, .ref wa0, .ref na0])), (wa0, .inl (cI, 4, .inl fw0))] H19 := hP
  replace hD : va_D A [(mo, .inr (9, [th, .ref al, md, rf, kn])), (na0, .inl (cI, 4, .inl fn0)), (a1, .inr (8, [.int 4, .ref wa1, .ref na1])), (wa1, .inl (cI, 4, .inl fw1)), (na1, .inl (cI, 4, .inl fn1)), (a2, .inr (8, [.int 4, .ref wa2, .ref na2])), (wa2, .inl (cI, 4, .inl fw2)), (na2, .inl (cI, 4, .inl fn2)), (a3, .inr (8, [.int 4, .ref wa3, .ref na3])), (wa3, .inl (cI, 4, .inl fw3)), (na3, .inl (cI, 4, .inl fn3)), (q2, .inl (cI, 4, .inl (upd (fun _ => 0) 0 1))), (al, .inr (4, [mc, .ref ed, .int (nI cc)])), (ed, .inl (cO, 10, .inr (.inr (.inr (.inr ee))))), (a0, .inr (8, [.int 4, .ref wa0, .ref na0])), (wa0, .inl (cI, 4, .inl fw0))] := hD
  refine W.widen (k := 1) (n := 4) (by omega) (by omega) ?_
  refine lv_icmp_ge (tgt := 80) hx hb dX4_depthOf_40 (by decide) (fun c9 => ?_) (fun c9 => ?_)
  · exact absurd c9 (by decide)
  refine lv_aload hx hb dX4_depthOf_43 (lv_at hl 1 rfl) ?_
  refine lv_iload hx hb dX4_depthOf_45 (lv_at hl 0 rfl) ?_
  have hPc := hP.sub (ws' := [(a0, .inr (8, [.int 4, .ref wa0, .ref na0])), (wa0, .inl (cI, 4, .inl fw0))]) [14, 15] rfl
  have hDc := hD.sub (ws' := [(a0, .inr (8, [.int 4, .ref wa0, .ref na0])), (wa0, .inl (cI, 4, .inl fw0))]) [14, 15] (by decide) rfl
  have hFc := va_free (wc := [(a0, .inr (8, [.int 4, .ref wa0, .ref na0])), (wa0, .inl (cI, 4, .inl fw0))]) hD hS hA [14, 15] rfl
  have hDv := hDc.self (sz := H19.size)
  have hpre := zpre (xs' := []) (av := [.ref a0, .int 3]) hPc hK (hDc.weaken (fun _ _ _ h => h)) hZ hS hFc (fun r hr => by cases hr)
  refine va_calli (va_runV (As := [.int 3]) (rest := []) ⟨hx, hb, hml, hown, hts⟩ (k_mh3_0 l dC dI cI cB cR cO zk a0 wa0 na0 fw0 H19.size (hw0 3 (by decide))) (cwV 1 hts gX4_depthOf_X3_hangs rfl rfl rfl (by decide +kernel) ⟨Nat.le_of_ble_eq_true rfl, Nat.le_of_ble_eq_true rfl⟩) ⟨zblind, (zrecv_8 hK hPc (q0 := 0) rfl), hpre⟩ rfl rfl hl.1 rfl (lv_room (Nat.le_of_ble_eq_true rfl)) dX4_depthOf_47 ⟨Nat.le_of_ble_eq_true rfl, Nat.le_of_ble_eq_true rfl⟩) hS (fun q _ h => hFc q h) hFc (fun r22 u t H21 locs ht hvm hw hB hz1 hk1 hS => ?_)
  obtain rfl : 0 = r22 := (show r22 = 0 from hw).symm
  obtain ⟨hP1, hK1, hD1, hz2⟩ := hB
  rw [ht] at hP1 hz2
  have hPD9 := va_join (wr := [(mo, .inr (9, [th, .ref al, md, rf, kn])), (na0, .inl (cI, 4, .inl fn0)), (a1, .inr (8, [.int 4, .ref wa1, .ref na1])), (wa1, .inl (cI, 4, .inl fw1)), (na1, .inl (cI, 4, .inl fn1)), (a2, .inr (8, [.int 4, .ref wa2, .ref na2])), (wa2, .inl (cI, 4, .inl fw2)), (na2, .inl (cI, 4, .inl fn2)), (a3, .inr (8, [.int 4, .ref wa3, .ref na3])), (wa3, .inl (cI, 4, .inl fw3)), (na3, .inl (cI, 4, .inl fn3)), (q2, .inl (cI, 4, .inl (upd (fun _ => 0) 0 1))), (al, .inr (4, [mc, .ref ed, .int (nI cc)])), (ed, .inl (cO, 10, .inr (.inr (.inr (.inr ee)))))]) (w1 := [(a0, .inr (8, [.int 4, .ref wa0, .ref na0])), (wa0, .inl (cI, 4, .inl fw0))]) hP hD [14, 15] [0, 1, 2, 3, 4, 5, 6, 7, 8, 9, 10, 11, 12, 13] rfl rfl (by decide) (by decide) hk1 hFc hP1 hD1
  clear hPc hDc hFc hDv hpre hP hD hP1 hK1 hD1
  obtain ⟨hP, hD⟩ := hPD9
  replace hz : s.heap.size + 1 ≤ H21.size := by omega
  clear hz2
  replace hP : va_P (dC, dI) vwCl [(mo, .inr (9, [th, .ref al, md, rf, kn])), (na0, .inl (cI, 4, .inl fn0)), (a1, .inr (8, [.int 4, .ref wa1, .ref na1])), (wa1, .inl (cI, 4, .inl fw1)), (na1, .inl (cI, 4, .inl fn1)), (a2, .inr (8, [.int 4, .ref wa2, .ref na2])), (wa2, .inl (cI, 4, .inl fw2)), (na2, .inl (cI, 4, .inl fn2)), (a3, .inr (8, [.int 4, .ref wa3, .ref na3])), (wa3, .inl (cI, 4, .inl fw3)), (na3, .inl (cI, 4, .inl fn3)), (q2, .inl (cI, 4, .inl (upd (fun _ => 0) 0 1))), (al, .inr (4, [mc, .ref ed, .int (nI cc)])), (ed, .inl (cO, 10, .inr (.inr (.inr (.inr ee))))), (a0, .inr (8, [.int 4, .ref wa0, .ref na0])), (wa0, .inl (cI, 4, .inl fw0))] H21 := hP
  replace hD : va_D A [(mo, .inr (9, [th, .ref al, md, rf, kn])), (na0, .inl (cI, 4, .inl fn0)), (a1, .inr (8, [.int 4, .ref wa1, .ref na1])), (wa1, .inl (cI, 4, .inl fw1)), (na1, .inl (cI, 4, .inl fn1)), (a2, .inr (8, [.int 4, .ref wa2, .ref na2])), (wa2, .inl (cI, 4, .inl fw2)), (na2, .inl (cI, 4, .inl fn2)), (a3, .inr (8, [.int 4, .ref wa3, .ref na3])), (wa3, .inl (cI, 4, .inl fw3)), (na3, .inl (cI, 4, .inl fn3)), (q2, .inl (cI, 4, .inl (upd (fun _ => 0) 0 1))), (al, .inr (4, [mc, .ref ed, .int (nI cc)])), (ed, .inl (cO, 10, .inr (.inr (.inr (.inr ee))))), (a0, .inr (8, [.int 4, .ref wa0, .ref na0])), (wa0, .inl (cI, 4, .inl fw0))] := hD
  refine W.widen (k := 1) (n := 4) (by omega) (by omega) ?_
  refine lv_if_eq (tgt := 74) hx hb dX4_depthOf_50 (by decide) (fun c9 => ?_) (fun c9 => ?_)
  rotate_left
  · exact absurd (by decide) c9
  refine lv_iinc (v := 4) (lv' := [(5, .int 4), (4, .ref a0), (3, .int 0), (2, .ref q2), (0, .ref mo), (1, .int 3)]) hx hb dX4_depthOf_74 hl (k := 0) rfl (by decide) (by decide) rfl (fun ls hl => ?_)
  refine lv_goto (tgt := 33) hx hb dX4_depthOf_77 (by decide) ?_
  refine lv_iload hx hb dX4_depthOf_33 (lv_at hl 0 rfl) ?_
  refine lv_aload hx hb dX4_depthOf_35 (lv_at hl 1 rfl) ?_
  have hPc := hP.sub (ws' := [(a0, .inr (8, [.int 4, .ref wa0, .ref na0])), (wa0, .inl (cI, 4, .inl fw0))]) [14, 15] rfl
  have hDc := hD.sub (ws' := [(a0, .inr (8, [.int 4, .ref wa0, .ref na0])), (wa0, .inl (cI, 4, .inl fw0))]) [14, 15] (by decide) rfl
  have hFc := va_free (wc := [(a0, .inr (8, [.int 4, .ref wa0, .ref na0])), (wa0, .inl (cI, 4, .inl fw0))]) hD hS hA [14, 15] rfl
  have hDv := hDc.self (sz := H21.size)
  have hpre := zpre (xs' := []) (av := [.ref a0]) hPc hK (hDc.weaken (fun _ _ _ h => h)) hZ hS hFc (fun r hr => by cases hr)
  refine va_calli (va_runV (As := []) (rest := [.int 4]) ⟨hx, hb, hml, hown, hts⟩ (k_rlen l dC dI cI cB cR cO zk a0 wa0 na0 fw0 H21.size ) (cwV 0 hts gX4_depthOf_X3_length rfl rfl rfl (by decide +kernel) ⟨Nat.le_of_ble_eq_true rfl, Nat.le_of_ble_eq_true rfl⟩) ⟨zblind, (zrecv_8 hK hPc (q0 := 0) rfl), hpre⟩ rfl rfl hl.1 rfl (lv_room (Nat.le_of_ble_eq_true rfl)) dX4_depthOf_37 ⟨Nat.le_of_ble_eq_true rfl, Nat.le_of_ble_eq_true rfl⟩) hS (fun q _ h => hFc q h) hFc (fun r24 u t H23 locs ht hvm hw hB hz1 hk1 hS => ?_)
  obtain rfl : 4 = r24 := (show r24 = 4 from hw).symm
  obtain ⟨hP1, hK1, hD1, hz2⟩ := hB
  rw [ht] at hP1 hz2
  have hPD9 := va_join (wr := [(mo, .inr (9, [th, .ref al, md, rf, kn])), (na0, .inl (cI, 4, .inl fn0)), (a1, .inr (8, [.int 4, .ref wa1, .ref na1])), (wa1, .inl (cI, 4, .inl fw1)), (na1, .inl (cI, 4, .inl fn1)), (a2, .inr (8, [.int 4, .ref wa2, .ref na2])), (wa2, .inl (cI, 4, .inl fw2)), (na2, .inl (cI, 4, .inl fn2)), (a3, .inr (8, [.int 4, .ref wa3, .ref na3])), (wa3, .inl (cI, 4, .inl fw3)), (na3, .inl (cI, 4, .inl fn3)), (q2, .inl (cI, 4, .inl (upd (fun _ => 0) 0 1))), (al, .inr (4, [mc, .ref ed, .int (nI cc)])), (ed, .inl (cO, 10, .inr (.inr (.inr (.inr ee)))))]) (w1 := [(a0, .inr (8, [.int 4, .ref wa0, .ref na0])), (wa0, .inl (cI, 4, .inl fw0))]) hP hD [14, 15] [0, 1, 2, 3, 4, 5, 6, 7, 8, 9, 10, 11, 12, 13] rfl rfl (by decide) (by decide) hk1 hFc hP1 hD1
  clear hPc hDc hFc hDv hpre hP hD hP1 hK1 hD1
  obtain ⟨hP, hD⟩ := hPD9
  replace hz : s.heap.size + 1 ≤ H23.size := by omega
  clear hz2
  replace hP : va_P (dC, dI) vwCl [(mo, .inr (9, [th, .ref al, md, rf, kn])), (na0, .inl (cI, 4, .inl fn0)), (a1, .inr (8, [.int 4, .ref wa1, .ref na1])), (wa1, .inl (cI, 4, .inl fw1)), (na1, .inl (cI, 4, .inl fn1)), (a2, .inr (8, [.int 4, .ref wa2, .ref na2])), (wa2, .inl (cI, 4, .inl fw2)), (na2, .inl (cI, 4, .inl fn2)), (a3, .inr (8, [.int 4, .ref wa3, .ref na3])), (wa3, .inl (cI, 4, .inl fw3)), (na3, .inl (cI, 4, .inl fn3)), (q2, .inl (cI, 4, .inl (upd (fun _ => 0) 0 1))), (al, .inr (4, [mc, .ref ed, .int (nI cc)])), (ed, .inl (cO, 10, .inr (.inr (.inr (.inr ee))))), (a0, .inr (8, [.int 4, .ref wa0, .ref na0])), (wa0, .inl (cI, 4, .inl fw0))] H23 := hP
  replace hD : va_D A [(mo, .inr (9, [th, .ref al, md, rf, kn])), (na0, .inl (cI, 4, .inl fn0)), (a1, .inr (8, [.int 4, .ref wa1, .ref na1])), (wa1, .inl (cI, 4, .inl fw1)), (na1, .inl (cI, 4, .inl fn1)), (a2, .inr (8, [.int 4, .ref wa2, .ref na2])), (wa2, .inl (cI, 4, .inl fw2)), (na2, .inl (cI, 4, .inl fn2)), (a3, .inr (8, [.int 4, .ref wa3, .ref na3])), (wa3, .inl (cI, 4, .inl fw3)), (na3, .inl (cI, 4, .inl fn3)), (q2, .inl (cI, 4, .inl (upd (fun _ => 0) 0 1))), (al, .inr (4, [mc, .ref ed, .int (nI cc)])), (ed, .inl (cO, 10, .inr (.inr (.inr (.inr ee))))), (a0, .inr (8, [.int 4, .ref wa0, .ref na0])), (wa0, .inl (cI, 4, .inl fw0))] := hD
  refine W.widen (k := 1) (n := 4) (by omega) (by omega) ?_
  refine lv_icmp_ge (tgt := 80) hx hb dX4_depthOf_40 (by decide) (fun c9 => ?_) (fun c9 => ?_)
  rotate_left
  · exact absurd (by decide) c9
  refine lv_iinc (v := 1) (lv' := [(3, .int 1), (5, .int 4), (4, .ref a0), (2, .ref q2), (0, .ref mo), (1, .int 3)]) hx hb dX4_depthOf_80 hl (k := 2) rfl (by decide) (by decide) rfl (fun ls hl => ?_)
  refine lv_goto (tgt := 8) hx hb dX4_depthOf_83 (by decide) ?_
  refine lv_iload_n hx hb dX4_depthOf_8 rfl (lv_at hl 0 rfl) ?_
  refine lv_iload_n hx hb dX4_depthOf_9 rfl (lv_at hl 5 rfl) ?_
  refine lv_icmp_gt (tgt := 86) hx hb dX4_depthOf_10 (by decide) (fun c9 => ?_) (fun c9 => ?_)
  · exact absurd c9 (by decide)
  refine lv_aload_n hx hb dX4_depthOf_13 rfl (lv_at hl 4 rfl) ?_
  refine va_get (D := (dC, dI)) (ci := 9) (v := .ref al) (C := RX4) (T := TX4) (N := 5) hx hb hts hi_X4_depthOf_X4 hown hK hP 0 rfl rfl 1 (by decide) (hts (.fieldLink RX4 10 "DeeprowsModel" "rows" "Ljava/util/ArrayList;") (List.mem_cons_of_mem _ zw_1134)) (fun _ h9 => h9) rfl dX4_depthOf_14 ?_
  refine lv_iload_n hx hb dX4_depthOf_17 rfl (lv_at hl 0 rfl) ?_
  have hPc := hP.sub (ws' := [(al, .inr (4, [mc, .ref ed, .int (nI cc)])), (ed, .inl (cO, 10, .inr (.inr (.inr (.inr ee)))))]) [12, 13] rfl
  have hDc := hD.sub (ws' := [(al, .inr (4, [mc, .ref ed, .int (nI cc)])), (ed, .inl (cO, 10, .inr (.inr (.inr (.inr ee)))))]) [12, 13] (by decide) rfl
  have hFc := va_free (wc := [(al, .inr (4, [mc, .ref ed, .int (nI cc)])), (ed, .inl (cO, 10, .inr (.inr (.inr (.inr ee)))))]) hD hS hA [12, 13] rfl
  have hDv := hDc.self (sz := H23.size)
  have hpre := zpre (xs' := []) (av := [.ref al, .int 1]) hPc hK (hDc.weaken (fun _ _ _ h => h)) hZ hS hFc (fun r hr => by cases hr)
  refine va_callr (va_runV (As := [.int 1]) (rest := []) ⟨hx, hb, hml, hown, hts⟩ (k_get l dC dI cI cB cR cO zk al ed 1 cc 10 a1 ee mc H23.size (by omega) hcc2 (by decide) he1) (cwV 1 hts gX4_depthOf_Jx4a65c_get_915e3 rfl rfl rfl (by decide +kernel) ⟨Nat.le_of_ble_eq_true rfl, Nat.le_of_ble_eq_true rfl⟩) ⟨zblind, (zrecv_4 hK hPc (q0 := 0) rfl), hpre⟩ rfl rfl hl.1 rfl (lv_room (Nat.le_of_ble_eq_true rfl)) dX4_depthOf_18 ⟨Nat.le_of_ble_eq_true rfl, Nat.le_of_ble_eq_true rfl⟩) hS (fun q _ h => hFc q h) hFc (fun u r26 t H25 locs ht hvm hw hB hz1 hk1 hS => ?_)
  obtain ⟨⟨hP1, hK1, hD1, hz2⟩, her26⟩ := hB
  rw [ht] at hP1 hz2
  have hPD9 := va_join (wr := [(mo, .inr (9, [th, .ref al, md, rf, kn])), (na0, .inl (cI, 4, .inl fn0)), (a1, .inr (8, [.int 4, .ref wa1, .ref na1])), (wa1, .inl (cI, 4, .inl fw1)), (na1, .inl (cI, 4, .inl fn1)), (a2, .inr (8, [.int 4, .ref wa2, .ref na2])), (wa2, .inl (cI, 4, .inl fw2)), (na2, .inl (cI, 4, .inl fn2)), (a3, .inr (8, [.int 4, .ref wa3, .ref na3])), (wa3, .inl (cI, 4, .inl fw3)), (na3, .inl (cI, 4, .inl fn3)), (q2, .inl (cI, 4, .inl (upd (fun _ => 0) 0 1))), (a0, .inr (8, [.int 4, .ref wa0, .ref na0])), (wa0, .inl (cI, 4, .inl fw0))]) (w1 := [(al, .inr (4, [mc, .ref ed, .int (nI cc)])), (ed, .inl (cO, 10, .inr (.inr (.inr (.inr ee)))))]) hP hD [12, 13] [0, 1, 2, 3, 4, 5, 6, 7, 8, 9, 10, 11, 14, 15] rfl rfl (by decide) (by decide) hk1 hFc hP1 hD1
  clear hPc hDc hFc hDv hpre hP hD hP1 hK1 hD1
  obtain ⟨hP, hD⟩ := hPD9
  replace hz : s.heap.size + 1 ≤ H25.size := by omega
  clear hz2
  replace hP : va_P (dC, dI) vwCl [(mo, .inr (9, [th, .ref al, md, rf, kn])), (na0, .inl (cI, 4, .inl fn0)), (a1, .inr (8, [.int 4, .ref wa1, .ref na1])), (wa1, .inl (cI, 4, .inl fw1)), (na1, .inl (cI, 4, .inl fn1)), (a2, .inr (8, [.int 4, .ref wa2, .ref na2])), (wa2, .inl (cI, 4, .inl fw2)), (na2, .inl (cI, 4, .inl fn2)), (a3, .inr (8, [.int 4, .ref wa3, .ref na3])), (wa3, .inl (cI, 4, .inl fw3)), (na3, .inl (cI, 4, .inl fn3)), (q2, .inl (cI, 4, .inl (upd (fun _ => 0) 0 1))), (a0, .inr (8, [.int 4, .ref wa0, .ref na0])), (wa0, .inl (cI, 4, .inl fw0)), (al, .inr (4, [mc, .ref ed, .int (nI cc)])), (ed, .inl (cO, 10, .inr (.inr (.inr (.inr ee)))))] H25 := hP
  replace hD : va_D A [(mo, .inr (9, [th, .ref al, md, rf, kn])), (na0, .inl (cI, 4, .inl fn0)), (a1, .inr (8, [.int 4, .ref wa1, .ref na1])), (wa1, .inl (cI, 4, .inl fw1)), (na1, .inl (cI, 4, .inl fn1)), (a2, .inr (8, [.int 4, .ref wa2, .ref na2])), (wa2, .inl (cI, 4, .inl fw2)), (na2, .inl (cI, 4, .inl fn2)), (a3, .inr (8, [.int 4, .ref wa3, .ref na3])), (wa3, .inl (cI, 4, .inl fw3)), (na3, .inl (cI, 4, .inl fn3)), (q2, .inl (cI, 4, .inl (upd (fun _ => 0) 0 1))), (a0, .inr (8, [.int 4, .ref wa0, .ref na0])), (wa0, .inl (cI, 4, .inl fw0)), (al, .inr (4, [mc, .ref ed, .int (nI cc)])), (ed, .inl (cO, 10, .inr (.inr (.inr (.inr ee)))))] := hD
  refine W.widen (k := 1) (n := 4) (by omega) (by omega) ?_
  obtain rfl := her26.symm
  refine va_castE hx hb hown (hts (.classLink RX4 40 "DeeprowsModel$Row") (List.mem_cons_of_mem _ zw_1165)) (zrecv_8 hK hP (q0 := 2) rfl) dX4_depthOf_21 ?_
  refine lv_astore (lv' := [(4, .ref a1), (3, .int 1), (5, .int 4), (2, .ref q2), (0, .ref mo), (1, .int 3)]) hx hb dX4_depthOf_24 hl (by decide) rfl (fun ls hl => ?_)
  refine lv_aload_n hx hb dX4_depthOf_26 rfl (lv_at hl 3 rfl) ?_
  refine lv_iload_n hx hb dX4_depthOf_27 rfl (lv_at hl 1 rfl) ?_
  refine lv_iconst (v := 1) hx hb dX4_depthOf_28 (by decide) ?_
  refine va_iast (D := (dC, dI)) (cl := vwCl) hx hb hK hP hD (zS0 hS) 11 0 rfl rfl (by unfold vp_in; decide) dX4_depthOf_29 (fun H27 locs hP hD hS1 => ?_)
  have hz : s.heap.size + 1 ≤ H27.size := Nat.le_trans hz hS1.1
  have hS := zSS hS hS1
  replace hP : va_P (dC, dI) vwCl [(mo, .inr (9, [th, .ref al, md, rf, kn])), (na0, .inl (cI, 4, .inl fn0)), (a1, .inr (8, [.int 4, .ref wa1, .ref na1])), (wa1, .inl (cI, 4, .inl fw1)), (na1, .inl (cI, 4, .inl fn1)), (a2, .inr (8, [.int 4, .ref wa2, .ref na2])), (wa2, .inl (cI, 4, .inl fw2)), (na2, .inl (cI, 4, .inl fn2)), (a3, .inr (8, [.int 4, .ref wa3, .ref na3])), (wa3, .inl (cI, 4, .inl fw3)), (na3, .inl (cI, 4, .inl fn3)), (q2, .inl (cI, 4, .inl (upd (upd (fun _ => 0) 0 1) 1 1))), (a0, .inr (8, [.int 4, .ref wa0, .ref na0])), (wa0, .inl (cI, 4, .inl fw0)), (al, .inr (4, [mc, .ref ed, .int (nI cc)])), (ed, .inl (cO, 10, .inr (.inr (.inr (.inr ee)))))] H27 := hP
  replace hD : va_D A [(mo, .inr (9, [th, .ref al, md, rf, kn])), (na0, .inl (cI, 4, .inl fn0)), (a1, .inr (8, [.int 4, .ref wa1, .ref na1])), (wa1, .inl (cI, 4, .inl fw1)), (na1, .inl (cI, 4, .inl fn1)), (a2, .inr (8, [.int 4, .ref wa2, .ref na2])), (wa2, .inl (cI, 4, .inl fw2)), (na2, .inl (cI, 4, .inl fn2)), (a3, .inr (8, [.int 4, .ref wa3, .ref na3])), (wa3, .inl (cI, 4, .inl fw3)), (na3, .inl (cI, 4, .inl fn3)), (q2, .inl (cI, 4, .inl (upd (upd (fun _ => 0) 0 1) 1 1))), (a0, .inr (8, [.int 4, .ref wa0, .ref na0])), (wa0, .inl (cI, 4, .inl fw0)), (al, .inr (4, [mc, .ref ed, .int (nI cc)])), (ed, .inl (cO, 10, .inr (.inr (.inr (.inr ee)))))] := hD
  refine lv_iconst (v := 0) hx hb dX4_depthOf_30 (by decide) ?_
  refine lv_istore (lv' := [(5, .int 0), (4, .ref a1), (3, .int 1), (2, .ref q2), (0, .ref mo), (1, .int 3)]) hx hb dX4_depthOf_31 hl (by decide) rfl (fun ls hl => ?_)
  refine lv_iload hx hb dX4_depthOf_33 (lv_at hl 0 rfl) ?_
  refine lv_aload hx hb dX4_depthOf_35 (lv_at hl 1 rfl) ?_
  have hPc := hP.sub (ws' := [(a1, .inr (8, [.int 4, .ref wa1, .ref na1])), (wa1, .inl (cI, 4, .inl fw1))]) [2, 3] rfl
  have hDc := hD.sub (ws' := [(a1, .inr (8, [.int 4, .ref wa1, .ref na1])), (wa1, .inl (cI, 4, .inl fw1))]) [2, 3] (by decide) rfl
  have hFc := va_free (wc := [(a1, .inr (8, [.int 4, .ref wa1, .ref na1])), (wa1, .inl (cI, 4, .inl fw1))]) hD hS hA [2, 3] rfl
  have hDv := hDc.self (sz := H27.size)
  have hpre := zpre (xs' := []) (av := [.ref a1]) hPc hK (hDc.weaken (fun _ _ _ h => h)) hZ hS hFc (fun r hr => by cases hr)
  refine va_calli (va_runV (As := []) (rest := [.int 0]) ⟨hx, hb, hml, hown, hts⟩ (k_rlen l dC dI cI cB cR cO zk a1 wa1 na1 fw1 H27.size ) (cwV 0 hts gX4_depthOf_X3_length rfl rfl rfl (by decide +kernel) ⟨Nat.le_of_ble_eq_true rfl, Nat.le_of_ble_eq_true rfl⟩) ⟨zblind, (zrecv_8 hK hPc (q0 := 0) rfl), hpre⟩ rfl rfl hl.1 rfl (lv_room (Nat.le_of_ble_eq_true rfl)) dX4_depthOf_37 ⟨Nat.le_of_ble_eq_true rfl, Nat.le_of_ble_eq_true rfl⟩) hS (fun q _ h => hFc q h) hFc (fun r29 u t H28 locs ht hvm hw hB hz1 hk1 hS => ?_)
  obtain rfl : 4 = r29 := (show r29 = 4 from hw).symm
  obtain ⟨hP1, hK1, hD1, hz2⟩ := hB
  rw [ht] at hP1 hz2
  have hPD9 := va_join (wr := [(mo, .inr (9, [th, .ref al, md, rf, kn])), (na0, .inl (cI, 4, .inl fn0)), (na1, .inl (cI, 4, .inl fn1)), (a2, .inr (8, [.int 4, .ref wa2, .ref na2])), (wa2, .inl (cI, 4, .inl fw2)), (na2, .inl (cI, 4, .inl fn2)), (a3, .inr (8, [.int 4, .ref wa3, .ref na3])), (wa3, .inl (cI, 4, .inl fw3)), (na3, .inl (cI, 4, .inl fn3)), (q2, .inl (cI, 4, .inl (upd (upd (fun _ => 0) 0 1) 1 1))), (a0, .inr (8, [.int 4, .ref wa0, .ref na0])), (wa0, .inl (cI, 4, .inl fw0)), (al, .inr (4, [mc, .ref ed, .int (nI cc)])), (ed, .inl (cO, 10, .inr (.inr (.inr (.inr ee)))))]) (w1 := [(a1, .inr (8, [.int 4, .ref wa1, .ref na1])), (wa1, .inl (cI, 4, .inl fw1))]) hP hD [2, 3] [0, 1, 4, 5, 6, 7, 8, 9, 10, 11, 12, 13, 14, 15] rfl rfl (by decide) (by decide) hk1 hFc hP1 hD1
  clear hPc hDc hFc hDv hpre hP hD hP1 hK1 hD1
  obtain ⟨hP, hD⟩ := hPD9
  replace hz : s.heap.size + 1 ≤ H28.size := by omega
  clear hz2
  replace hP : va_P (dC, dI) vwCl [(mo, .inr (9, [th, .ref al, md, rf, kn])), (na0, .inl (cI, 4, .inl fn0)), (na1, .inl (cI, 4, .inl fn1)), (a2, .inr (8, [.int 4, .ref wa2, .ref na2])), (wa2, .inl (cI, 4, .inl fw2)), (na2, .inl (cI, 4, .inl fn2)), (a3, .inr (8, [.int 4, .ref wa3, .ref na3])), (wa3, .inl (cI, 4, .inl fw3)), (na3, .inl (cI, 4, .inl fn3)), (q2, .inl (cI, 4, .inl (upd (upd (fun _ => 0) 0 1) 1 1))), (a0, .inr (8, [.int 4, .ref wa0, .ref na0])), (wa0, .inl (cI, 4, .inl fw0)), (al, .inr (4, [mc, .ref ed, .int (nI cc)])), (ed, .inl (cO, 10, .inr (.inr (.inr (.inr ee))))), (a1, .inr (8, [.int 4, .ref wa1, .ref na1])), (wa1, .inl (cI, 4, .inl fw1))] H28 := hP
  replace hD : va_D A [(mo, .inr (9, [th, .ref al, md, rf, kn])), (na0, .inl (cI, 4, .inl fn0)), (na1, .inl (cI, 4, .inl fn1)), (a2, .inr (8, [.int 4, .ref wa2, .ref na2])), (wa2, .inl (cI, 4, .inl fw2)), (na2, .inl (cI, 4, .inl fn2)), (a3, .inr (8, [.int 4, .ref wa3, .ref na3])), (wa3, .inl (cI, 4, .inl fw3)), (na3, .inl (cI, 4, .inl fn3)), (q2, .inl (cI, 4, .inl (upd (upd (fun _ => 0) 0 1) 1 1))), (a0, .inr (8, [.int 4, .ref wa0, .ref na0])), (wa0, .inl (cI, 4, .inl fw0)), (al, .inr (4, [mc, .ref ed, .int (nI cc)])), (ed, .inl (cO, 10, .inr (.inr (.inr (.inr ee))))), (a1, .inr (8, [.int 4, .ref wa1, .ref na1])), (wa1, .inl (cI, 4, .inl fw1))] := hD
  refine W.widen (k := 1) (n := 4) (by omega) (by omega) ?_
  refine lv_icmp_ge (tgt := 80) hx hb dX4_depthOf_40 (by decide) (fun c9 => ?_) (fun c9 => ?_)
  · exact absurd c9 (by decide)
  refine lv_aload hx hb dX4_depthOf_43 (lv_at hl 1 rfl) ?_
  refine lv_iload hx hb dX4_depthOf_45 (lv_at hl 0 rfl) ?_
  have hPc := hP.sub (ws' := [(a1, .inr (8, [.int 4, .ref wa1, .ref na1])), (wa1, .inl (cI, 4, .inl fw1))]) [14, 15] rfl
  have hDc := hD.sub (ws' := [(a1, .inr (8, [.int 4, .ref wa1, .ref na1])), (wa1, .inl (cI, 4, .inl fw1))]) [14, 15] (by decide) rfl
  have hFc := va_free (wc := [(a1, .inr (8, [.int 4, .ref wa1, .ref na1])), (wa1, .inl (cI, 4, .inl fw1))]) hD hS hA [14, 15] rfl
  have hDv := hDc.self (sz := H28.size)
  have hpre := zpre (xs' := []) (av := [.ref a1, .int 0]) hPc hK (hDc.weaken (fun _ _ _ h => h)) hZ hS hFc (fun r hr => by cases hr)
  refine va_calli (va_runV (As := [.int 0]) (rest := []) ⟨hx, hb, hml, hown, hts⟩ (k_mh0_3 l dC dI cI cB cR cO zk a1 wa1 na1 fw1 H28.size (hw1 0 (by decide))) (cwV 1 hts gX4_depthOf_X3_hangs rfl rfl rfl (by decide +kernel) ⟨Nat.le_of_ble_eq_true rfl, Nat.le_of_ble_eq_true rfl⟩) ⟨zblind, (zrecv_8 hK hPc (q0 := 0) rfl), hpre⟩ rfl rfl hl.1 rfl (lv_room (Nat.le_of_ble_eq_true rfl)) dX4_depthOf_47 ⟨Nat.le_of_ble_eq_true rfl, Nat.le_of_ble_eq_true rfl⟩) hS (fun q _ h => hFc q h) hFc (fun r31 u t H30 locs ht hvm hw hB hz1 hk1 hS => ?_)
  obtain rfl : 1 = r31 := (show r31 = 1 from hw).symm
  obtain ⟨hP1, hK1, hD1, hz2⟩ := hB
  rw [ht] at hP1 hz2
  have hPD9 := va_join (wr := [(mo, .inr (9, [th, .ref al, md, rf, kn])), (na0, .inl (cI, 4, .inl fn0)), (na1, .inl (cI, 4, .inl fn1)), (a2, .inr (8, [.int 4, .ref wa2, .ref na2])), (wa2, .inl (cI, 4, .inl fw2)), (na2, .inl (cI, 4, .inl fn2)), (a3, .inr (8, [.int 4, .ref wa3, .ref na3])), (wa3, .inl (cI, 4, .inl fw3)), (na3, .inl (cI, 4, .inl fn3)), (q2, .inl (cI, 4, .inl (upd (upd (fun _ => 0) 0 1) 1 1))), (a0, .inr (8, [.int 4, .ref wa0, .ref na0])), (wa0, .inl (cI, 4, .inl fw0)), (al, .inr (4, [mc, .ref ed, .int (nI cc)])), (ed, .inl (cO, 10, .inr (.inr (.inr (.inr ee)))))]) (w1 := [(a1, .inr (8, [.int 4, .ref wa1, .ref na1])), (wa1, .inl (cI, 4, .inl fw1))]) hP hD [14, 15] [0, 1, 2, 3, 4, 5, 6, 7, 8, 9, 10, 11, 12, 13] rfl rfl (by decide) (by decide) hk1 hFc hP1 hD1
  clear hPc hDc hFc hDv hpre hP hD hP1 hK1 hD1
  obtain ⟨hP, hD⟩ := hPD9
  replace hz : s.heap.size + 1 ≤ H30.size := by omega
  clear hz2
  replace hP : va_P (dC, dI) vwCl [(mo, .inr (9, [th, .ref al, md, rf, kn])), (na0, .inl (cI, 4, .inl fn0)), (na1, .inl (cI, 4, .inl fn1)), (a2, .inr (8, [.int 4, .ref wa2, .ref na2])), (wa2, .inl (cI, 4, .inl fw2)), (na2, .inl (cI, 4, .inl fn2)), (a3, .inr (8, [.int 4, .ref wa3, .ref na3])), (wa3, .inl (cI, 4, .inl fw3)), (na3, .inl (cI, 4, .inl fn3)), (q2, .inl (cI, 4, .inl (upd (upd (fun _ => 0) 0 1) 1 1))), (a0, .inr (8, [.int 4, .ref wa0, .ref na0])), (wa0, .inl (cI, 4, .inl fw0)), (al, .inr (4, [mc, .ref ed, .int (nI cc)])), (ed, .inl (cO, 10, .inr (.inr (.inr (.inr ee))))), (a1, .inr (8, [.int 4, .ref wa1, .ref na1])), (wa1, .inl (cI, 4, .inl fw1))] H30 := hP
  replace hD : va_D A [(mo, .inr (9, [th, .ref al, md, rf, kn])), (na0, .inl (cI, 4, .inl fn0)), (na1, .inl (cI, 4, .inl fn1)), (a2, .inr (8, [.int 4, .ref wa2, .ref na2])), (wa2, .inl (cI, 4, .inl fw2)), (na2, .inl (cI, 4, .inl fn2)), (a3, .inr (8, [.int 4, .ref wa3, .ref na3])), (wa3, .inl (cI, 4, .inl fw3)), (na3, .inl (cI, 4, .inl fn3)), (q2, .inl (cI, 4, .inl (upd (upd (fun _ => 0) 0 1) 1 1))), (a0, .inr (8, [.int 4, .ref wa0, .ref na0])), (wa0, .inl (cI, 4, .inl fw0)), (al, .inr (4, [mc, .ref ed, .int (nI cc)])), (ed, .inl (cO, 10, .inr (.inr (.inr (.inr ee))))), (a1, .inr (8, [.int 4, .ref wa1, .ref na1])), (wa1, .inl (cI, 4, .inl fw1))] := hD
  refine W.widen (k := 1) (n := 4) (by omega) (by omega) ?_
  refine lv_if_eq (tgt := 74) hx hb dX4_depthOf_50 (by decide) (fun c9 => ?_) (fun c9 => ?_)
  · exact absurd c9 (by decide)
  refine lv_aload_n hx hb dX4_depthOf_53 rfl (lv_at hl 3 rfl) ?_
  refine lv_iload_n hx hb dX4_depthOf_54 rfl (lv_at hl 2 rfl) ?_
  refine lv_aload_n hx hb dX4_depthOf_55 rfl (lv_at hl 3 rfl) ?_
  refine lv_iload_n hx hb dX4_depthOf_56 rfl (lv_at hl 2 rfl) ?_
  refine va_iald (D := (dC, dI)) (cl := vwCl) hx hb hK hP 9 0 rfl rfl (by unfold vp_in; decide) dX4_depthOf_57 ?_
  refine lv_topi (fun v32 ev32 => ?_)
  obtain rfl : v32 = 1 := ev32.trans (rfl)
  refine lv_iconst (v := 1) hx hb dX4_depthOf_58 (by decide) ?_
  refine lv_aload_n hx hb dX4_depthOf_59 rfl (lv_at hl 3 rfl) ?_
  refine lv_aload hx hb dX4_depthOf_60 (lv_at hl 1 rfl) ?_
  refine va_get (D := (dC, dI)) (ci := 8) (v := .ref na1) (C := RX3) (T := TX3) (N := 3) hx hb hts hi_X4_depthOf_X3 hown hK hP 14 rfl rfl 2 (by decide) (hts (.fieldLink RX4 48 "DeeprowsModel$Row" "numbers" "[I") (List.mem_cons_of_mem _ zw_1180)) (fun _ h9 => h9) rfl dX4_depthOf_62 ?_
  refine lv_iload hx hb dX4_depthOf_65 (lv_at hl 0 rfl) ?_
  refine va_iald (D := (dC, dI)) (cl := vwCl) hx hb hK hP 2 0 rfl rfl (by unfold vp_in; decide) dX4_depthOf_67 ?_
  refine lv_topi (fun v33 ev33 => ?_)
  obtain rfl : v33 = 0 := ev33.trans (hn1 0 (by decide))
  refine va_iald (D := (dC, dI)) (cl := vwCl) hx hb hK hP 9 0 rfl rfl (by unfold vp_in; decide) dX4_depthOf_68 ?_
  refine lv_topi (fun v34 ev34 => ?_)
  obtain rfl : v34 = 1 := ev34.trans (rfl)
  refine lv_iadd hx hb dX4_depthOf_69 ?_
  refine lv_topi (fun v35 ev35 => ?_)
  obtain rfl : v35 = 2 := ev35.trans (by decide)
  refine va_mmax (x := 1) (y := 2) hx hb (hml.trans hl.1.symm) hown (hts (.methodLink RX4 52 Lib.Math.max.name) (List.mem_cons_of_mem _ zw_1264)) (hts (.static Lib.Math.max.name) (List.mem_cons_of_mem _ zw_271)) (hts (.initialized "java/lang/Math") (List.mem_cons_of_mem _ zw_58)) (hts (.code Lib.Math.max.name Lib.Math.max.code 2 (some .int)) (List.mem_cons_of_mem _ zw_272)) (Nat.le_of_ble_eq_true rfl) (Nat.le_of_ble_eq_true rfl) (Nat.le_of_ble_eq_true rfl) (Nat.le_of_ble_eq_true rfl) dX4_depthOf_70 ?_
  refine lv_topi (fun v36 ev36 => ?_)
  obtain rfl : v36 = 2 := ev36.trans (by decide)
  refine va_iast (D := (dC, dI)) (cl := vwCl) hx hb hK hP hD (zS0 hS) 9 0 rfl rfl (by unfold vp_in; decide) dX4_depthOf_73 (fun H37 locs hP hD hS1 => ?_)
  have hz : s.heap.size + 1 ≤ H37.size := Nat.le_trans hz hS1.1
  have hS := zSS hS hS1
  replace hP : va_P (dC, dI) vwCl [(mo, .inr (9, [th, .ref al, md, rf, kn])), (na0, .inl (cI, 4, .inl fn0)), (na1, .inl (cI, 4, .inl fn1)), (a2, .inr (8, [.int 4, .ref wa2, .ref na2])), (wa2, .inl (cI, 4, .inl fw2)), (na2, .inl (cI, 4, .inl fn2)), (a3, .inr (8, [.int 4, .ref wa3, .ref na3])), (wa3, .inl (cI, 4, .inl fw3)), (na3, .inl (cI, 4, .inl fn3)), (q2, .inl (cI, 4, .inl (upd (upd (upd (fun _ => 0) 0 1) 1 1) 1 2))), (a0, .inr (8, [.int 4, .ref wa0, .ref na0])), (wa0, .inl (cI, 4, .inl fw0)), (al, .inr (4, [mc, .ref ed, .int (nI cc)])), (ed, .inl (cO, 10, .inr (.inr (.inr (.inr ee))))), (a1, .inr (8, [.int 4, .ref wa1, .ref na1])), (wa1, .inl (cI, 4, .inl fw1))] H37 := hP
  replace hD : va_D A [(mo, .inr (9, [th, .ref al, md, rf, kn])), (na0, .inl (cI, 4, .inl fn0)), (na1, .inl (cI, 4, .inl fn1)), (a2, .inr (8, [.int 4, .ref wa2, .ref na2])), (wa2, .inl (cI, 4, .inl fw2)), (na2, .inl (cI, 4, .inl fn2)), (a3, .inr (8, [.int 4, .ref wa3, .ref na3])), (wa3, .inl (cI, 4, .inl fw3)), (na3, .inl (cI, 4, .inl fn3)), (q2, .inl (cI, 4, .inl (upd (upd (upd (fun _ => 0) 0 1) 1 1) 1 2))), (a0, .inr (8, [.int 4, .ref wa0, .ref na0])), (wa0, .inl (cI, 4, .inl fw0)), (al, .inr (4, [mc, .ref ed, .int (nI cc)])), (ed, .inl (cO, 10, .inr (.inr (.inr (.inr ee))))), (a1, .inr (8, [.int 4, .ref wa1, .ref na1])), (wa1, .inl (cI, 4, .inl fw1))] := hD
  refine lv_iinc (v := 1) (lv' := [(5, .int 1), (4, .ref a1), (3, .int 1), (2, .ref q2), (0, .ref mo), (1, .int 3)]) hx hb dX4_depthOf_74 hl (k := 0) rfl (by decide) (by decide) rfl (fun ls hl => ?_)
  refine lv_goto (tgt := 33) hx hb dX4_depthOf_77 (by decide) ?_
  refine lv_iload hx hb dX4_depthOf_33 (lv_at hl 0 rfl) ?_
  refine lv_aload hx hb dX4_depthOf_35 (lv_at hl 1 rfl) ?_
  have hPc := hP.sub (ws' := [(a1, .inr (8, [.int 4, .ref wa1, .ref na1])), (wa1, .inl (cI, 4, .inl fw1))]) [14, 15] rfl
  have hDc := hD.sub (ws' := [(a1, .inr (8, [.int 4, .ref wa1, .ref na1])), (wa1, .inl (cI, 4, .inl fw1))]) [14, 15] (by decide) rfl
  have hFc := va_free (wc := [(a1, .inr (8, [.int 4, .ref wa1, .ref na1])), (wa1, .inl (cI, 4, .inl fw1))]) hD hS hA [14, 15] rfl
  have hDv := hDc.self (sz := H37.size)
  have hpre := zpre (xs' := []) (av := [.ref a1]) hPc hK (hDc.weaken (fun _ _ _ h => h)) hZ hS hFc (fun r hr => by cases hr)
  refine va_calli (va_runV (As := []) (rest := [.int 1]) ⟨hx, hb, hml, hown, hts⟩ (k_rlen l dC dI cI cB cR cO zk a1 wa1 na1 fw1 H37.size ) (cwV 0 hts gX4_depthOf_X3_length rfl rfl rfl (by decide +kernel) ⟨Nat.le_of_ble_eq_true rfl, Nat.le_of_ble_eq_true rfl⟩) ⟨zblind, (zrecv_8 hK hPc (q0 := 0) rfl), hpre⟩ rfl rfl hl.1 rfl (lv_room (Nat.le_of_ble_eq_true rfl)) dX4_depthOf_37 ⟨Nat.le_of_ble_eq_true rfl, Nat.le_of_ble_eq_true rfl⟩) hS (fun q _ h => hFc q h) hFc (fun r39 u t H38 locs ht hvm hw hB hz1 hk1 hS => ?_)
  obtain rfl : 4 = r39 := (show r39 = 4 from hw).symm
  obtain ⟨hP1, hK1, hD1, hz2⟩ := hB
  rw [ht] at hP1 hz2
  have hPD9 := va_join (wr := [(mo, .inr (9, [th, .ref al, md, rf, kn])), (na0, .inl (cI, 4, .inl fn0)), (na1, .inl (cI, 4, .inl fn1)), (a2, .inr (8, [.int 4, .ref wa2, .ref na2])), (wa2, .inl (cI, 4, .inl fw2)), (na2, .inl (cI, 4, .inl fn2)), (a3, .inr (8, [.int 4, .ref wa3, .ref na3])), (wa3, .inl (cI, 4, .inl fw3)), (na3, .inl (cI, 4, .inl fn3)), (q2, .inl (cI, 4, .inl (upd (upd (upd (fun _ => 0) 0 1) 1 1) 1 2))), (a0, .inr (8, [.int 4, .ref wa0, .ref na0])), (wa0, .inl (cI, 4, .inl fw0)), (al, .inr (4, [mc, .ref ed, .int (nI cc)])), (ed, .inl (cO, 10, .inr (.inr (.inr (.inr ee)))))]) (w1 := [(a1, .inr (8, [.int 4, .ref wa1, .ref na1])), (wa1, .inl (cI, 4, .inl fw1))]) hP hD [14, 15] [0, 1, 2, 3, 4, 5, 6, 7, 8, 9, 10, 11, 12, 13] rfl rfl (by decide) (by decide) hk1 hFc hP1 hD1
  clear hPc hDc hFc hDv hpre hP hD hP1 hK1 hD1
  obtain ⟨hP, hD⟩ := hPD9
  replace hz : s.heap.size + 1 ≤ H38.size := by omega
  clear hz2
  replace hP : va_P (dC, dI) vwCl [(mo, .inr (9, [th, .ref al, md, rf, kn])), (na0, .inl (cI, 4, .inl fn0)), (na1, .inl (cI, 4, .inl fn1)), (a2, .inr (8, [.int 4, .ref wa2, .ref na2])), (wa2, .inl (cI, 4, .inl fw2)), (na2, .inl (cI, 4, .inl fn2)), (a3, .inr (8, [.int 4, .ref wa3, .ref na3])), (wa3, .inl (cI, 4, .inl fw3)), (na3, .inl (cI, 4, .inl fn3)), (q2, .inl (cI, 4, .inl (upd (upd (upd (fun _ => 0) 0 1) 1 1) 1 2))), (a0, .inr (8, [.int 4, .ref wa0, .ref na0])), (wa0, .inl (cI, 4, .inl fw0)), (al, .inr (4, [mc, .ref ed, .int (nI cc)])), (ed, .inl (cO, 10, .inr (.inr (.inr (.inr ee))))), (a1, .inr (8, [.int 4, .ref wa1, .ref na1])), (wa1, .inl (cI, 4, .inl fw1))] H38 := hP
  replace hD : va_D A [(mo, .inr (9, [th, .ref al, md, rf, kn])), (na0, .inl (cI, 4, .inl fn0)), (na1, .inl (cI, 4, .inl fn1)), (a2, .inr (8, [.int 4, .ref wa2, .ref na2])), (wa2, .inl (cI, 4, .inl fw2)), (na2, .inl (cI, 4, .inl fn2)), (a3, .inr (8, [.int 4, .ref wa3, .ref na3])), (wa3, .inl (cI, 4, .inl fw3)), (na3, .inl (cI, 4, .inl fn3)), (q2, .inl (cI, 4, .inl (upd (upd (upd (fun _ => 0) 0 1) 1 1) 1 2))), (a0, .inr (8, [.int 4, .ref wa0, .ref na0])), (wa0, .inl (cI, 4, .inl fw0)), (al, .inr (4, [mc, .ref ed, .int (nI cc)])), (ed, .inl (cO, 10, .inr (.inr (.inr (.inr ee))))), (a1, .inr (8, [.int 4, .ref wa1, .ref na1])), (wa1, .inl (cI, 4, .inl fw1))] := hD
  refine W.widen (k := 1) (n := 4) (by omega) (by omega) ?_
  refine lv_icmp_ge (tgt := 80) hx hb dX4_depthOf_40 (by decide) (fun c9 => ?_) (fun c9 => ?_)
  · exact absurd c9 (by decide)
  refine lv_aload hx hb dX4_depthOf_43 (lv_at hl 1 rfl) ?_
  refine lv_iload hx hb dX4_depthOf_45 (lv_at hl 0 rfl) ?_
  have hPc := hP.sub (ws' := [(a1, .inr (8, [.int 4, .ref wa1, .ref na1])), (wa1, .inl (cI, 4, .inl fw1))]) [14, 15] rfl
  have hDc := hD.sub (ws' := [(a1, .inr (8, [.int 4, .ref wa1, .ref na1])), (wa1, .inl (cI, 4, .inl fw1))]) [14, 15] (by decide) rfl
  have hFc := va_free (wc := [(a1, .inr (8, [.int 4, .ref wa1, .ref na1])), (wa1, .inl (cI, 4, .inl fw1))]) hD hS hA [14, 15] rfl
  have hDv := hDc.self (sz := H38.size)
  have hpre := zpre (xs' := []) (av := [.ref a1, .int 1]) hPc hK (hDc.weaken (fun _ _ _ h => h)) hZ hS hFc (fun r hr => by cases hr)
  refine va_calli (va_runV (As := [.int 1]) (rest := []) ⟨hx, hb, hml, hown, hts⟩ (k_mh1_3 l dC dI cI cB cR cO zk a1 wa1 na1 fw1 H38.size (hw1 1 (by decide))) (cwV 1 hts gX4_depthOf_X3_hangs rfl rfl rfl (by decide +kernel) ⟨Nat.le_of_ble_eq_true rfl, Nat.le_of_ble_eq_true rfl⟩) ⟨zblind, (zrecv_8 hK hPc (q0 := 0) rfl), hpre⟩ rfl rfl hl.1 rfl (lv_room (Nat.le_of_ble_eq_true rfl)) dX4_depthOf_47 ⟨Nat.le_of_ble_eq_true rfl, Nat.le_of_ble_eq_true rfl⟩) hS (fun q _ h => hFc q h) hFc (fun r41 u t H40 locs ht hvm hw hB hz1 hk1 hS => ?_)
  obtain rfl : 1 = r41 := (show r41 = 1 from hw).symm
  obtain ⟨hP1, hK1, hD1, hz2⟩ := hB
  rw [ht] at hP1 hz2
  have hPD9 := va_join (wr := [(mo, .inr (9, [th, .ref al, md, rf, kn])), (na0, .inl (cI, 4, .inl fn0)), (na1, .inl (cI, 4, .inl fn1)), (a2, .inr (8, [.int 4, .ref wa2, .ref na2])), (wa2, .inl (cI, 4, .inl fw2)), (na2, .inl (cI, 4, .inl fn2)), (a3, .inr (8, [.int 4, .ref wa3, .ref na3])), (wa3, .inl (cI, 4, .inl fw3)), (na3, .inl (cI, 4, .inl fn3)), (q2, .inl (cI, 4, .inl (upd (upd (upd (fun _ => 0) 0 1) 1 1) 1 2))), (a0, .inr (8, [.int 4, .ref wa0, .ref na0])), (wa0, .inl (cI, 4, .inl fw0)), (al, .inr (4, [mc, .ref ed, .int (nI cc)])), (ed, .inl (cO, 10, .inr (.inr (.inr (.inr ee)))))]) (w1 := [(a1, .inr (8, [.int 4, .ref wa1, .ref na1])), (wa1, .inl (cI, 4, .inl fw1))]) hP hD [14, 15] [0, 1, 2, 3, 4, 5, 6, 7, 8, 9, 10, 11, 12, 13] rfl rfl (by decide) (by decide) hk1 hFc hP1 hD1
  clear hPc hDc hFc hDv hpre hP hD hP1 hK1 hD1
  obtain ⟨hP, hD⟩ := hPD9
  replace hz : s.heap.size + 1 ≤ H40.size := by omega
  clear hz2
  replace hP : va_P (dC, dI) vwCl [(mo, .inr (9, [th, .ref al, md, rf, kn])), (na0, .inl (cI, 4, .inl fn0)), (na1, .inl (cI, 4, .inl fn1)), (a2, .inr (8, [.int 4, .ref wa2, .ref na2])), (wa2, .inl (cI, 4, .inl fw2)), (na2, .inl (cI, 4, .inl fn2)), (a3, .inr (8, [.int 4, .ref wa3, .ref na3])), (wa3, .inl (cI, 4, .inl fw3)), (na3, .inl (cI, 4, .inl fn3)), (q2, .inl (cI, 4, .inl (upd (upd (upd (fun _ => 0) 0 1) 1 1) 1 2))), (a0, .inr (8, [.int 4, .ref wa0, .ref na0])), (wa0, .inl (cI, 4, .inl fw0)), (al, .inr (4, [mc, .ref ed, .int (nI cc)])), (ed, .inl (cO, 10, .inr (.inr (.inr (.inr ee))))), (a1, .inr (8, [.int 4, .ref wa1, .ref na1])), (wa1, .inl (cI, 4, .inl fw1))] H40 := hP
  replace hD : va_D A [(mo, .inr (9, [th, .ref al, md, rf, kn])), (na0, .inl (cI, 4, .inl fn0)), (na1, .inl (cI, 4, .inl fn1)), (a2, .inr (8, [.int 4, .ref wa2, .ref na2])), (wa2, .inl (cI, 4, .inl fw2)), (na2, .inl (cI, 4, .inl fn2)), (a3, .inr (8, [.int 4, .ref wa3, .ref na3])), (wa3, .inl (cI, 4, .inl fw3)), (na3, .inl (cI, 4, .inl fn3)), (q2, .inl (cI, 4, .inl (upd (upd (upd (fun _ => 0) 0 1) 1 1) 1 2))), (a0, .inr (8, [.int 4, .ref wa0, .ref na0])), (wa0, .inl (cI, 4, .inl fw0)), (al, .inr (4, [mc, .ref ed, .int (nI cc)])), (ed, .inl (cO, 10, .inr (.inr (.inr (.inr ee))))), (a1, .inr (8, [.int 4, .ref wa1, .ref na1])), (wa1, .inl (cI, 4, .inl fw1))] := hD
  refine W.widen (k := 1) (n := 4) (by omega) (by omega) ?_
  refine lv_if_eq (tgt := 74) hx hb dX4_depthOf_50 (by decide) (fun c9 => ?_) (fun c9 => ?_)
  · exact absurd c9 (by decide)
  refine lv_aload_n hx hb dX4_depthOf_53 rfl (lv_at hl 3 rfl) ?_
  refine lv_iload_n hx hb dX4_depthOf_54 rfl (lv_at hl 2 rfl) ?_
  refine lv_aload_n hx hb dX4_depthOf_55 rfl (lv_at hl 3 rfl) ?_
  refine lv_iload_n hx hb dX4_depthOf_56 rfl (lv_at hl 2 rfl) ?_
  refine va_iald (D := (dC, dI)) (cl := vwCl) hx hb hK hP 9 0 rfl rfl (by unfold vp_in; decide) dX4_depthOf_57 ?_
  refine lv_topi (fun v42 ev42 => ?_)
  obtain rfl : v42 = 2 := ev42.trans (rfl)
  refine lv_iconst (v := 1) hx hb dX4_depthOf_58 (by decide) ?_
  refine lv_aload_n hx hb dX4_depthOf_59 rfl (lv_at hl 3 rfl) ?_
  refine lv_aload hx hb dX4_depthOf_60 (lv_at hl 1 rfl) ?_
  refine va_get (D := (dC, dI)) (ci := 8) (v := .ref na1) (C := RX3) (T := TX3) (N := 3) hx hb hts hi_X4_depthOf_X3 hown hK hP 14 rfl rfl 2 (by decide) (hts (.fieldLink RX4 48 "DeeprowsModel$Row" "numbers" "[I") (List.mem_cons_of_mem _ zw_1180)) (fun _ h9 => h9) rfl dX4_depthOf_62 ?_
  refine lv_iload hx hb dX4_depthOf_65 (lv_at hl 0 rfl) ?_
  refine va_iald (D := (dC, dI)) (cl := vwCl) hx hb hK hP 2 0 rfl rfl (by unfold vp_in; decide) dX4_depthOf_67 ?_
  refine lv_topi (fun v43 ev43 => ?_)
  obtain rfl : v43 = 0 := ev43.trans (hn1 1 (by decide))
  refine va_iald (D := (dC, dI)) (cl := vwCl) hx hb hK hP 9 0 rfl rfl (by unfold vp_in; decide) dX4_depthOf_68 ?_
  refine lv_topi (fun v44 ev44 => ?_)
  obtain rfl : v44 = 1 := ev44.trans (rfl)
  refine lv_iadd hx hb dX4_depthOf_69 ?_
  refine lv_topi (fun v45 ev45 => ?_)
  obtain rfl : v45 = 2 := ev45.trans (by decide)
  refine va_mmax (x := 2) (y := 2) hx hb (hml.trans hl.1.symm) hown (hts (.methodLink RX4 52 Lib.Math.max.name) (List.mem_cons_of_mem _ zw_1264)) (hts (.static Lib.Math.max.name) (List.mem_cons_of_mem _ zw_271)) (hts (.initialized "java/lang/Math") (List.mem_cons_of_mem _ zw_58)) (hts (.code Lib.Math.max.name Lib.Math.max.code 2 (some .int)) (List.mem_cons_of_mem _ zw_272)) (Nat.le_of_ble_eq_true rfl) (Nat.le_of_ble_eq_true rfl) (Nat.le_of_ble_eq_true rfl) (Nat.le_of_ble_eq_true rfl) dX4_depthOf_70 ?_
  refine lv_topi (fun v46 ev46 => ?_)
  obtain rfl : v46 = 2 := ev46.trans (by decide)
  refine va_iast (D := (dC, dI)) (cl := vwCl) hx hb hK hP hD (zS0 hS) 9 0 rfl rfl (by unfold vp_in; decide) dX4_depthOf_73 (fun H47 locs hP hD hS1 => ?_)
  have hz : s.heap.size + 1 ≤ H47.size := Nat.le_trans hz hS1.1
  have hS := zSS hS hS1
  replace hP : va_P (dC, dI) vwCl [(mo, .inr (9, [th, .ref al, md, rf, kn])), (na0, .inl (cI, 4, .inl fn0)), (na1, .inl (cI, 4, .inl fn1)), (a2, .inr (8, [.int 4, .ref wa2, .ref na2])), (wa2, .inl (cI, 4, .inl fw2)), (na2, .inl (cI, 4, .inl fn2)), (a3, .inr (8, [.int 4, .ref wa3, .ref na3])), (wa3, .inl (cI, 4, .inl fw3)), (na3, .inl (cI, 4, .inl fn3)), (q2, .inl (cI, 4, .inl (upd (upd (upd (upd (fun _ => 0) 0 1) 1 1) 1 2) 1 2))), (a0, .inr (8, [.int 4, .ref wa0, .ref na0])), (wa0, .inl (cI, 4, .inl fw0)), (al, .inr (4, [mc, .ref ed, .int (nI cc)])), (ed, .inl (cO, 10, .inr (.inr (.inr (.inr ee))))), (a1, .inr (8, [.int 4, .ref wa1, .ref na1])), (wa1, .inl (cI, 4, .inl fw1))] H47 := hP
  replace hD : va_D A [(mo, .inr (9, [th, .ref al, md, rf, kn])), (na0, .inl (cI, 4, .inl fn0)), (na1, .inl (cI, 4, .inl fn1)), (a2, .inr (8, [.int 4, .ref wa2, .ref na2])), (wa2, .inl (cI, 4, .inl fw2)), (na2, .inl (cI, 4, .inl fn2)), (a3, .inr (8, [.int 4, .ref wa3, .ref na3])), (wa3, .inl (cI, 4, .inl fw3)), (na3, .inl (cI, 4, .inl fn3)), (q2, .inl (cI, 4, .inl (upd (upd (upd (upd (fun _ => 0) 0 1) 1 1) 1 2) 1 2))), (a0, .inr (8, [.int 4, .ref wa0, .ref na0])), (wa0, .inl (cI, 4, .inl fw0)), (al, .inr (4, [mc, .ref ed, .int (nI cc)])), (ed, .inl (cO, 10, .inr (.inr (.inr (.inr ee))))), (a1, .inr (8, [.int 4, .ref wa1, .ref na1])), (wa1, .inl (cI, 4, .inl fw1))] := hD
  refine lv_iinc (v := 2) (lv' := [(5, .int 2), (4, .ref a1), (3, .int 1), (2, .ref q2), (0, .ref mo), (1, .int 3)]) hx hb dX4_depthOf_74 hl (k := 0) rfl (by decide) (by decide) rfl (fun ls hl => ?_)
  refine lv_goto (tgt := 33) hx hb dX4_depthOf_77 (by decide) ?_
  refine lv_iload hx hb dX4_depthOf_33 (lv_at hl 0 rfl) ?_
  refine lv_aload hx hb dX4_depthOf_35 (lv_at hl 1 rfl) ?_
  have hPc := hP.sub (ws' := [(a1, .inr (8, [.int 4, .ref wa1, .ref na1])), (wa1, .inl (cI, 4, .inl fw1))]) [14, 15] rfl
  have hDc := hD.sub (ws' := [(a1, .inr (8, [.int 4, .ref wa1, .ref na1])), (wa1, .inl (cI, 4, .inl fw1))]) [14, 15] (by decide) rfl
  have hFc := va_free (wc := [(a1, .inr (8, [.int 4, .ref wa1, .ref na1])), (wa1, .inl (cI, 4, .inl fw1))]) hD hS hA [14, 15] rfl
  have hDv := hDc.self (sz := H47.size)
  have hpre := zpre (xs' := []) (av := [.ref a1]) hPc hK (hDc.weaken (fun _ _ _ h => h)) hZ hS hFc (fun r hr => by cases hr)
  refine va_calli (va_runV (As := []) (rest := [.int 2]) ⟨hx, hb, hml, hown, hts⟩ (k_rlen l dC dI cI cB cR cO zk a1 wa1 na1 fw1 H47.size ) (cwV 0 hts gX4_depthOf_X3_length rfl rfl rfl (by decide +kernel) ⟨Nat.le_of_ble_eq_true rfl, Nat.le_of_ble_eq_true rfl⟩) ⟨zblind, (zrecv_8 hK hPc (q0 := 0) rfl), hpre⟩ rfl rfl hl.1 rfl (lv_room (Nat.le_of_ble_eq_true rfl)) dX4_depthOf_37 ⟨Nat.le_of_ble_eq_true rfl, Nat.le_of_ble_eq_true rfl⟩) hS (fun q _ h => hFc q h) hFc (fun r49 u t H48 locs ht hvm hw hB hz1 hk1 hS => ?_)
  obtain rfl : 4 = r49 := (show r49 = 4 from hw).symm
  obtain ⟨hP1, hK1, hD1, hz2⟩ := hB
  rw [ht] at hP1 hz2
  have hPD9 := va_join (wr := [(mo, .inr (9, [th, .ref al, md, rf, kn])), (na0, .inl (cI, 4, .inl fn0)), (na1, .inl (cI, 4, .inl fn1)), (a2, .inr (8, [.int 4, .ref wa2, .ref na2])), (wa2, .inl (cI, 4, .inl fw2)), (na2, .inl (cI, 4, .inl fn2)), (a3, .inr (8, [.int 4, .ref wa3, .ref na3])), (wa3, .inl (cI, 4, .inl fw3)), (na3, .inl (cI, 4, .inl fn3)), (q2, .inl (cI, 4, .inl (upd (upd (upd (upd (fun _ => 0) 0 1) 1 1) 1 2) 1 2))), (a0, .inr (8, [.int 4, .ref wa0, .ref na0])), (wa0, .inl (cI, 4, .inl fw0)), (al, .inr (4, [mc, .ref ed, .int (nI cc)])), (ed, .inl (cO, 10, .inr (.inr (.inr (.inr ee)))))]) (w1 := [(a1, .inr (8, [.int 4, .ref wa1, .ref na1])), (wa1, .inl (cI, 4, .inl fw1))]) hP hD [14, 15] [0, 1, 2, 3, 4, 5, 6, 7, 8, 9, 10, 11, 12, 13] rfl rfl (by decide) (by decide) hk1 hFc hP1 hD1
  clear hPc hDc hFc hDv hpre hP hD hP1 hK1 hD1
  obtain ⟨hP, hD⟩ := hPD9
  replace hz : s.heap.size + 1 ≤ H48.size := by omega
  clear hz2
  replace hP : va_P (dC, dI) vwCl [(mo, .inr (9, [th, .ref al, md, rf, kn])), (na0, .inl (cI, 4, .inl fn0)), (na1, .inl (cI, 4, .inl fn1)), (a2, .inr (8, [.int 4, .ref wa2, .ref na2])), (wa2, .inl (cI, 4, .inl fw2)), (na2, .inl (cI, 4, .inl fn2)), (a3, .inr (8, [.int 4, .ref wa3, .ref na3])), (wa3, .inl (cI, 4, .inl fw3)), (na3, .inl (cI, 4, .inl fn3)), (q2, .inl (cI, 4, .inl (upd (upd (upd (upd (fun _ => 0) 0 1) 1 1) 1 2) 1 2))), (a0, .inr (8, [.int 4, .ref wa0, .ref na0])), (wa0, .inl (cI, 4, .inl fw0)), (al, .inr (4, [mc, .ref ed, .int (nI cc)])), (ed, .inl (cO, 10, .inr (.inr (.inr (.inr ee))))), (a1, .inr (8, [.int 4, .ref wa1, .ref na1])), (wa1, .inl (cI, 4, .inl fw1))] H48 := hP
  replace hD : va_D A [(mo, .inr (9, [th, .ref al, md, rf, kn])), (na0, .inl (cI, 4, .inl fn0)), (na1, .inl (cI, 4, .inl fn1)), (a2, .inr (8, [.int 4, .ref wa2, .ref na2])), (wa2, .inl (cI, 4, .inl fw2)), (na2, .inl (cI, 4, .inl fn2)), (a3, .inr (8, [.int 4, .ref wa3, .ref na3])), (wa3, .inl (cI, 4, .inl fw3)), (na3, .inl (cI, 4, .inl fn3)), (q2, .inl (cI, 4, .inl (upd (upd (upd (upd (fun _ => 0) 0 1) 1 1) 1 2) 1 2))), (a0, .inr (8, [.int 4, .ref wa0, .ref na0])), (wa0, .inl (cI, 4, .inl fw0)), (al, .inr (4, [mc, .ref ed, .int (nI cc)])), (ed, .inl (cO, 10, .inr (.inr (.inr (.inr ee))))), (a1, .inr (8, [.int 4, .ref wa1, .ref na1])), (wa1, .inl (cI, 4, .inl fw1))] := hD
  refine W.widen (k := 1) (n := 4) (by omega) (by omega) ?_
  refine lv_icmp_ge (tgt := 80) hx hb dX4_depthOf_40 (by decide) (fun c9 => ?_) (fun c9 => ?_)
  · exact absurd c9 (by decide)
  refine lv_aload hx hb dX4_depthOf_43 (lv_at hl 1 rfl) ?_
  refine lv_iload hx hb dX4_depthOf_45 (lv_at hl 0 rfl) ?_
  have hPc := hP.sub (ws' := [(a1, .inr (8, [.int 4, .ref wa1, .ref na1])), (wa1, .inl (cI, 4, .inl fw1))]) [14, 15] rfl
  have hDc := hD.sub (ws' := [(a1, .inr (8, [.int 4, .ref wa1, .ref na1])), (wa1, .inl (cI, 4, .inl fw1))]) [14, 15] (by decide) rfl
  have hFc := va_free (wc := [(a1, .inr (8, [.int 4, .ref wa1, .ref na1])), (wa1, .inl (cI, 4, .inl fw1))]) hD hS hA [14, 15] rfl
  have hDv := hDc.self (sz := H48.size)
  have hpre := zpre (xs' := []) (av := [.ref a1, .int 2]) hPc hK (hDc.weaken (fun _ _ _ h => h)) hZ hS hFc (fun r hr => by cases hr)
  refine va_calli (va_runV (As := [.int 2]) (rest := []) ⟨hx, hb, hml, hown, hts⟩ (k_mh2_3 l dC dI cI cB cR cO zk a1 wa1 na1 fw1 H48.size (hw1 2 (by decide))) (cwV 1 hts gX4_depthOf_X3_hangs rfl rfl rfl (by decide +kernel) ⟨Nat.le_of_ble_eq_true rfl, Nat.le_of_ble_eq_true rfl⟩) ⟨zblind, (zrecv_8 hK hPc (q0 := 0) rfl), hpre⟩ rfl rfl hl.1 rfl (lv_room (Nat.le_of_ble_eq_true rfl)) dX4_depthOf_47 ⟨Nat.le_of_ble_eq_true rfl, Nat.le_of_ble_eq_true rfl⟩) hS (fun q _ h => hFc q h) hFc (fun r51 u t H50 locs ht hvm hw hB hz1 hk1 hS => ?_)
  obtain rfl : 1 = r51 := (show r51 = 1 from hw).symm
  obtain ⟨hP1, hK1, hD1, hz2⟩ := hB
  rw [ht] at hP1 hz2
  have hPD9 := va_join (wr := [(mo, .inr (9, [th, .ref al, md, rf, kn])), (na0, .inl (cI, 4, .inl fn0)), (na1, .inl (cI, 4, .inl fn1)), (a2, .inr (8, [.int 4, .ref wa2, .ref na2])), (wa2, .inl (cI, 4, .inl fw2)), (na2, .inl (cI, 4, .inl fn2)), (a3, .inr (8, [.int 4, .ref wa3, .ref na3])), (wa3, .inl (cI, 4, .inl fw3)), (na3, .inl (cI, 4, .inl fn3)), (q2, .inl (cI, 4, .inl (upd (upd (upd (upd (fun _ => 0) 0 1) 1 1) 1 2) 1 2))), (a0, .inr (8, [.int 4, .ref wa0, .ref na0])), (wa0, .inl (cI, 4, .inl fw0)), (al, .inr (4, [mc, .ref ed, .int (nI cc)])), (ed, .inl (cO, 10, .inr (.inr (.inr (.inr ee)))))]) (w1 := [(a1, .inr (8, [.int 4, .ref wa1, .ref na1])), (wa1, .inl (cI, 4, .inl fw1))]) hP hD [14, 15] [0, 1, 2, 3, 4, 5, 6, 7, 8, 9, 10, 11, 12, 13] rfl rfl (by decide) (by decide) hk1 hFc hP1 hD1
  clear hPc hDc hFc hDv hpre hP hD hP1 hK1 hD1
  obtain ⟨hP, hD⟩ := hPD9
  replace hz : s.heap.size + 1 ≤ H50.size := by omega
  clear hz2
  replace hP : va_P (dC, dI) vwCl [(mo, .inr (9, [th, .ref al, md, rf, kn])), (na0, .inl (cI, 4, .inl fn0)), (na1, .inl (cI, 4, .inl fn1)), (a2, .inr (8, [.int 4, .ref wa2, .ref na2])), (wa2, .inl (cI, 4, .inl fw2)), (na2, .inl (cI, 4, .inl fn2)), (a3, .inr (8, [.int 4, .ref wa3, .ref na3])), (wa3, .inl (cI, 4, .inl fw3)), (na3, .inl (cI, 4, .inl fn3)), (q2, .inl (cI, 4, .inl (upd (upd (upd (upd (fun _ => 0) 0 1) 1 1) 1 2) 1 2))), (a0, .inr (8, [.int 4, .ref wa0, .ref na0])), (wa0, .inl (cI, 4, .inl fw0)), (al, .inr (4, [mc, .ref ed, .int (nI cc)])), (ed, .inl (cO, 10, .inr (.inr (.inr (.inr ee))))), (a1, .inr (8, [.int 4, .ref wa1, .ref na1])), (wa1, .inl (cI, 4, .inl fw1))] H50 := hP
  replace hD : va_D A [(mo, .inr (9, [th, .ref al, md, rf, kn])), (na0, .inl (cI, 4, .inl fn0)), (na1, .inl (cI, 4, .inl fn1)), (a2, .inr (8, [.int 4, .ref wa2, .ref na2])), (wa2, .inl (cI, 4, .inl fw2)), (na2, .inl (cI, 4, .inl fn2)), (a3, .inr (8, [.int 4, .ref wa3, .ref na3])), (wa3, .inl (cI, 4, .inl fw3)), (na3, .inl (cI, 4, .inl fn3)), (q2, .inl (cI, 4, .inl (upd (upd (upd (upd (fun _ => 0) 0 1) 1 1) 1 2) 1 2))), (a0, .inr (8, [.int 4, .ref wa0, .ref na0])), (wa0, .inl (cI, 4, .inl fw0)), (al, .inr (4, [mc, .ref ed, .int (nI cc)])), (ed, .inl (cO, 10, .inr (.inr (.inr (.inr ee))))), (a1, .inr (8, [.int 4, .ref wa1, .ref na1])), (wa1, .inl (cI, 4, .inl fw1))] := hD
  refine W.widen (k := 1) (n := 4) (by omega) (by omega) ?_
  refine lv_if_eq (tgt := 74) hx hb dX4_depthOf_50 (by decide) (fun c9 => ?_) (fun c9 => ?_)
  · exact absurd c9 (by decide)
  refine lv_aload_n hx hb dX4_depthOf_53 rfl (lv_at hl 3 rfl) ?_
  refine lv_iload_n hx hb dX4_depthOf_54 rfl (lv_at hl 2 rfl) ?_
  refine lv_aload_n hx hb dX4_depthOf_55 rfl (lv_at hl 3 rfl) ?_
  refine lv_iload_n hx hb dX4_depthOf_56 rfl (lv_at hl 2 rfl) ?_
  refine va_iald (D := (dC, dI)) (cl := vwCl) hx hb hK hP 9 0 rfl rfl (by unfold vp_in; decide) dX4_depthOf_57 ?_
  refine lv_topi (fun v52 ev52 => ?_)
  obtain rfl : v52 = 2 := ev52.trans (rfl)
  refine lv_iconst (v := 1) hx hb dX4_depthOf_58 (by decide) ?_
  refine lv_aload_n hx hb dX4_depthOf_59 rfl (lv_at hl 3 rfl) ?_
  refine lv_aload hx hb dX4_depthOf_60 (lv_at hl 1 rfl) ?_
  refine va_get (D := (dC, dI)) (ci := 8) (v := .ref na1) (C := RX3) (T := TX3) (N := 3) hx hb hts hi_X4_depthOf_X3 hown hK hP 14 rfl rfl 2 (by decide) (hts (.fieldLink RX4 48 "DeeprowsModel$Row" "numbers" "[I") (List.mem_cons_of_mem _ zw_1180)) (fun _ h9 => h9) rfl dX4_depthOf_62 ?_
  refine lv_iload hx hb dX4_depthOf_65 (lv_at hl 0 rfl) ?_
  refine va_iald (D := (dC, dI)) (cl := vwCl) hx hb hK hP 2 0 rfl rfl (by unfold vp_in; decide) dX4_depthOf_67 ?_
  refine lv_topi (fun v53 ev53 => ?_)
  obtain rfl : v53 = 0 := ev53.trans (hn1 2 (by decide))
  refine va_iald (D := (dC, dI)) (cl := vwCl) hx hb hK hP 9 0 rfl rfl (by unfold vp_in; decide) dX4_depthOf_68 ?_
  refine lv_topi (fun v54 ev54 => ?_)
  obtain rfl : v54 = 1 := ev54.trans (rfl)
  refine lv_iadd hx hb dX4_depthOf_69 ?_
  refine lv_topi (fun v55 ev55 => ?_)
  obtain rfl : v55 = 2 := ev55.trans (by decide)
  refine va_mmax (x := 2) (y := 2) hx hb (hml.trans hl.1.symm) hown (hts (.methodLink RX4 52 Lib.Math.max.name) (List.mem_cons_of_mem _ zw_1264)) (hts (.static Lib.Math.max.name) (List.mem_cons_of_mem _ zw_271)) (hts (.initialized "java/lang/Math") (List.mem_cons_of_mem _ zw_58)) (hts (.code Lib.Math.max.name Lib.Math.max.code 2 (some .int)) (List.mem_cons_of_mem _ zw_272)) (Nat.le_of_ble_eq_true rfl) (Nat.le_of_ble_eq_true rfl) (Nat.le_of_ble_eq_true rfl) (Nat.le_of_ble_eq_true rfl) dX4_depthOf_70 ?_
  refine lv_topi (fun v56 ev56 => ?_)
  obtain rfl : v56 = 2 := ev56.trans (by decide)
  refine va_iast (D := (dC, dI)) (cl := vwCl) hx hb hK hP hD (zS0 hS) 9 0 rfl rfl (by unfold vp_in; decide) dX4_depthOf_73 (fun H57 locs hP hD hS1 => ?_)
  have hz : s.heap.size + 1 ≤ H57.size := Nat.le_trans hz hS1.1
  have hS := zSS hS hS1
  replace hP : va_P (dC, dI) vwCl [(mo, .inr (9, [th, .ref al, md, rf, kn])), (na0, .inl (cI, 4, .inl fn0)), (na1, .inl (cI, 4, .inl fn1)), (a2, .inr (8, [.int 4, .ref wa2, .ref na2])), (wa2, .inl (cI, 4, .inl fw2)), (na2, .inl (cI, 4, .inl fn2)), (a3, .inr (8, [.int 4, .ref wa3, .ref na3])), (wa3, .inl (cI, 4, .inl fw3)), (na3, .inl (cI, 4, .inl fn3)), (q2, .inl (cI, 4, .inl (upd (upd (upd (upd (upd (fun _ => 0) 0 1) 1 1) 1 2) 1 2) 1 2))), (a0, .inr (8, [.int 4, .ref wa0, .ref na0])), (wa0, .inl (cI, 4, .inl fw0)), (al, .inr (4, [mc, .ref ed, .int (nI cc)])), (ed, .inl (cO, 10, .inr (.inr (.inr (.inr ee))))), (a1, .inr (8, [.int 4, .ref wa1, .ref na1])), (wa1, .inl (cI, 4, .inl fw1))] H57 := hP
  replace hD : va_D A [(mo, .inr (9, [th, .ref al, md, rf, kn])), (na0, .inl (cI, 4, .inl fn0)), (na1, .inl (cI, 4, .inl fn1)), (a2, .inr (8, [.int 4, .ref wa2, .ref na2])), (wa2, .inl (cI, 4, .inl fw2)), (na2, .inl (cI, 4, .inl fn2)), (a3, .inr (8, [.int 4, .ref wa3, .ref na3])), (wa3, .inl (cI, 4, .inl fw3)), (na3, .inl (cI, 4, .inl fn3)), (q2, .inl (cI, 4, .inl (upd (upd (upd (upd (upd (fun _ => 0) 0 1) 1 1) 1 2) 1 2) 1 2))), (a0, .inr (8, [.int 4, .ref wa0, .ref na0])), (wa0, .inl (cI, 4, .inl fw0)), (al, .inr (4, [mc, .ref ed, .int (nI cc)])), (ed, .inl (cO, 10, .inr (.inr (.inr (.inr ee))))), (a1, .inr (8, [.int 4, .ref wa1, .ref na1])), (wa1, .inl (cI, 4, .inl fw1))] := hD
  refine lv_iinc (v := 3) (lv' := [(5, .int 3), (4, .ref a1), (3, .int 1), (2, .ref q2), (0, .ref mo), (1, .int 3)]) hx hb dX4_depthOf_74 hl (k := 0) rfl (by decide) (by decide) rfl (fun ls hl => ?_)
  refine lv_goto (tgt := 33) hx hb dX4_depthOf_77 (by decide) ?_
  refine lv_iload hx hb dX4_depthOf_33 (lv_at hl 0 rfl) ?_
  refine lv_aload hx hb dX4_depthOf_35 (lv_at hl 1 rfl) ?_
  have hPc := hP.sub (ws' := [(a1, .inr (8, [.int 4, .ref wa1, .ref na1])), (wa1, .inl (cI, 4, .inl fw1))]) [14, 15] rfl
  have hDc := hD.sub (ws' := [(a1, .inr (8, [.int 4, .ref wa1, .ref na1])), (wa1, .inl (cI, 4, .inl fw1))]) [14, 15] (by decide) rfl
  have hFc := va_free (wc := [(a1, .inr (8, [.int 4, .ref wa1, .ref na1])), (wa1, .inl (cI, 4, .inl fw1))]) hD hS hA [14, 15] rfl
  have hDv := hDc.self (sz := H57.size)
  have hpre := zpre (xs' := []) (av := [.ref a1]) hPc hK (hDc.weaken (fun _ _ _ h => h)) hZ hS hFc (fun r hr => by cases hr)
  refine va_calli (va_runV (As := []) (rest := [.int 3]) ⟨hx, hb, hml, hown, hts⟩ (k_rlen l dC dI cI cB cR cO zk a1 wa1 na1 fw1 H57.size ) (cwV 0 hts gX4_depthOf_X3_length rfl rfl rfl (by decide +kernel) ⟨Nat.le_of_ble_eq_true rfl, Nat.le_of_ble_eq_true rfl⟩) ⟨zblind, (zrecv_8 hK hPc (q0 := 0) rfl), hpre⟩ rfl rfl hl.1 rfl (lv_room (Nat.le_of_ble_eq_true rfl)) dX4_depthOf_37 ⟨Nat.le_of_ble_eq_true rfl, Nat.le_of_ble_eq_true rfl⟩) hS (fun q _ h => hFc q h) hFc (fun r59 u t H58 locs ht hvm hw hB hz1 hk1 hS => ?_)
  obtain rfl : 4 = r59 := (show r59 = 4 from hw).symm
  obtain ⟨hP1, hK1, hD1, hz2⟩ := hB
  rw [ht] at hP1 hz2
  have hPD9 := va_join (wr := [(mo, .inr (9, [th, .ref al, md, rf, kn])), (na0, .inl (cI, 4, .inl fn0)), (na1, .inl (cI, 4, .inl fn1)), (a2, .inr (8, [.int 4, .ref wa2, .ref na2])), (wa2, .inl (cI, 4, .inl fw2)), (na2, .inl (cI, 4, .inl fn2)), (a3, .inr (8, [.int 4, .ref wa3, .ref na3])), (wa3, .inl (cI, 4, .inl fw3)), (na3, .inl (cI, 4, .inl fn3)), (q2, .inl (cI, 4, .inl (upd (upd (upd (upd (upd (fun _ => 0) 0 1) 1 1) 1 2) 1 2) 1 2))), (a0, .inr (8, [.int 4, .ref wa0, .ref na0])), (wa0, .inl (cI, 4, .inl fw0)), (al, .inr (4, [mc, .ref ed, .int (nI cc)])), (ed, .inl (cO, 10, .inr (.inr (.inr (.inr ee)))))]) (w1 := [(a1, .inr (8, [.int 4, .ref wa1, .ref na1])), (wa1, .inl (cI, 4, .inl fw1))]) hP hD [14, 15] [0, 1, 2, 3, 4, 5, 6, 7, 8, 9, 10, 11, 12, 13] rfl rfl (by decide) (by decide) hk1 hFc hP1 hD1
  clear hPc hDc hFc hDv hpre hP hD hP1 hK1 hD1
  obtain ⟨hP, hD⟩ := hPD9
  replace hz : s.heap.size + 1 ≤ H58.size := by omega
  clear hz2
  replace hP : va_P (dC, dI) vwCl [(mo, .inr (9, [th, .ref al, md, rf, kn])), (na0, .inl (cI, 4, .inl fn0)), (na1, .inl (cI, 4, .inl fn1)), (a2, .inr (8, [.int 4, .ref wa2, .ref na2])), (wa2, .inl (cI, 4, .inl fw2)), (na2, .inl (cI, 4, .inl fn2)), (a3, .inr (8, [.int 4, .ref wa3, .ref na3])), (wa3, .inl (cI, 4, .inl fw3)), (na3, .inl (cI, 4, .inl fn3)), (q2, .inl (cI, 4, .inl (upd (upd (upd (upd (upd (fun _ => 0) 0 1) 1 1) 1 2) 1 2) 1 2))), (a0, .inr (8, [.int 4, .ref wa0, .ref na0])), (wa0, .inl (cI, 4, .inl fw0)), (al, .inr (4, [mc, .ref ed, .int (nI cc)])), (ed, .inl (cO, 10, .inr (.inr (.inr (.inr ee))))), (a1, .inr (8, [.int 4, .ref wa1, .ref na1])), (wa1, .inl (cI, 4, .inl fw1))] H58 := hP
  replace hD : va_D A [(mo, .inr (9, [th, .ref al, md, rf, kn])), (na0, .inl (cI, 4, .inl fn0)), (na1, .inl (cI, 4, .inl fn1)), (a2, .inr (8, [.int 4, .ref wa2, .ref na2])), (wa2, .inl (cI, 4, .inl fw2)), (na2, .inl (cI, 4, .inl fn2)), (a3, .inr (8, [.int 4, .ref wa3, .ref na3])), (wa3, .inl (cI, 4, .inl fw3)), (na3, .inl (cI, 4, .inl fn3)), (q2, .inl (cI, 4, .inl (upd (upd (upd (upd (upd (fun _ => 0) 0 1) 1 1) 1 2) 1 2) 1 2))), (a0, .inr (8, [.int 4, .ref wa0, .ref na0])), (wa0, .inl (cI, 4, .inl fw0)), (al, .inr (4, [mc, .ref ed, .int (nI cc)])), (ed, .inl (cO, 10, .inr (.inr (.inr (.inr ee))))), (a1, .inr (8, [.int 4, .ref wa1, .ref na1])), (wa1, .inl (cI, 4, .inl fw1))] := hD
  refine W.widen (k := 1) (n := 4) (by omega) (by omega) ?_
  refine lv_icmp_ge (tgt := 80) hx hb dX4_depthOf_40 (by decide) (fun c9 => ?_) (fun c9 => ?_)
  · exact absurd c9 (by decide)
  refine lv_aload hx hb dX4_depthOf_43 (lv_at hl 1 rfl) ?_
  refine lv_iload hx hb dX4_depthOf_45 (lv_at hl 0 rfl) ?_
  have hPc := hP.sub (ws' := [(a1, .inr (8, [.int 4, .ref wa1, .ref na1])), (wa1, .inl (cI, 4, .inl fw1))]) [14, 15] rfl
  have hDc := hD.sub (ws' := [(a1, .inr (8, [.int 4, .ref wa1, .ref na1])), (wa1, .inl (cI, 4, .inl fw1))]) [14, 15] (by decide) rfl
  have hFc := va_free (wc := [(a1, .inr (8, [.int 4, .ref wa1, .ref na1])), (wa1, .inl (cI, 4, .inl fw1))]) hD hS hA [14, 15] rfl
  have hDv := hDc.self (sz := H58.size)
  have hpre := zpre (xs' := []) (av := [.ref a1, .int 3]) hPc hK (hDc.weaken (fun _ _ _ h => h)) hZ hS hFc (fun r hr => by cases hr)
  refine va_calli (va_runV (As := [.int 3]) (rest := []) ⟨hx, hb, hml, hown, hts⟩ (k_mh3_3 l dC dI cI cB cR cO zk a1 wa1 na1 fw1 H58.size (hw1 3 (by decide))) (cwV 1 hts gX4_depthOf_X3_hangs rfl rfl rfl (by decide +kernel) ⟨Nat.le_of_ble_eq_true rfl, Nat.le_of_ble_eq_true rfl⟩) ⟨zblind, (zrecv_8 hK hPc (q0 := 0) rfl), hpre⟩ rfl rfl hl.1 rfl (lv_room (Nat.le_of_ble_eq_true rfl)) dX4_depthOf_47 ⟨Nat.le_of_ble_eq_true rfl, Nat.le_of_ble_eq_true rfl⟩) hS (fun q _ h => hFc q h) hFc (fun r61 u t H60 locs ht hvm hw hB hz1 hk1 hS => ?_)
  obtain rfl : 1 = r61 := (show r61 = 1 from hw).symm
  obtain ⟨hP1, hK1, hD1, hz2⟩ := hB
  rw [ht] at hP1 hz2
  have hPD9 := va_join (wr := [(mo, .inr (9, [th, .ref al, md, rf, kn])), (na0, .inl (cI, 4, .inl fn0)), (na1, .inl (cI, 4, .inl fn1)), (a2, .inr (8, [.int 4, .ref wa2, .ref na2])), (wa2, .inl (cI, 4, .inl fw2)), (na2, .inl (cI, 4, .inl fn2)), (a3, .inr (8, [.int 4, .ref wa3, .ref na3])), (wa3, .inl (cI, 4, .inl fw3)), (na3, .inl (cI, 4, .inl fn3)), (q2, .inl (cI, 4, .inl (upd (upd (upd (upd (upd (fun _ => 0) 0 1) 1 1) 1 2) 1 2) 1 2))), (a0, .inr (8, [.int 4, .ref wa0, .ref na0])), (wa0, .inl (cI, 4, .inl fw0)), (al, .inr (4, [mc, .ref ed, .int (nI cc)])), (ed, .inl (cO, 10, .inr (.inr (.inr (.inr ee)))))]) (w1 := [(a1, .inr (8, [.int 4, .ref wa1, .ref na1])), (wa1, .inl (cI, 4, .inl fw1))]) hP hD [14, 15] [0, 1, 2, 3, 4, 5, 6, 7, 8, 9, 10, 11, 12, 13] rfl rfl (by decide) (by decide) hk1 hFc hP1 hD1
  clear hPc hDc hFc hDv hpre hP hD hP1 hK1 hD1
  obtain ⟨hP, hD⟩ := hPD9
  replace hz : s.heap.size + 1 ≤ H60.size := by omega
  clear hz2
  replace hP : va_P (dC, dI) vwCl [(mo, .inr (9, [th, .ref al, md, rf, kn])), (na0, .inl (cI, 4, .inl fn0)), (na1, .inl (cI, 4, .inl fn1)), (a2, .inr (8, [.int 4, .ref wa2, .ref na2])), (wa2, .inl (cI, 4, .inl fw2)), (na2, .inl (cI, 4, .inl fn2)), (a3, .inr (8, [.int 4, .ref wa3, .ref na3])), (wa3, .inl (cI, 4, .inl fw3)), (na3, .inl (cI, 4, .inl fn3)), (q2, .inl (cI, 4, .inl (upd (upd (upd (upd (upd (fun _ => 0) 0 1) 1 1) 1 2) 1 2) 1 2))), (a0, .inr (8, [.int 4, .ref wa0, .ref na0])), (wa0, .inl (cI, 4, .inl fw0)), (al, .inr (4, [mc, .ref ed, .int (nI cc)])), (ed, .inl (cO, 10, .inr (.inr (.inr (.inr ee))))), (a1, .inr (8, [.int 4, .ref wa1, .ref na1])), (wa1, .inl (cI, 4, .inl fw1))] H60 := hP
  replace hD : va_D A [(mo, .inr (9, [th, .ref al, md, rf, kn])), (na0, .inl (cI, 4, .inl fn0)), (na1, .inl (cI, 4, .inl fn1)), (a2, .inr (8, [.int 4, .ref wa2, .ref na2])), (wa2, .inl (cI, 4, .inl fw2)), (na2, .inl (cI, 4, .inl fn2)), (a3, .inr (8, [.int 4, .ref wa3, .ref na3])), (wa3, .inl (cI, 4, .inl fw3)), (na3, .inl (cI, 4, .inl fn3)), (q2, .inl (cI, 4, .inl (upd (upd (upd (upd (upd (fun _ => 0) 0 1) 1 1) 1 2) 1 2) 1 2))), (a0, .inr (8, [.int 4, .ref wa0, .ref na0])), (wa0, .inl (cI, 4, .inl fw0)), (al, .inr (4, [mc, .ref ed, .int (nI cc)])), (ed, .inl (cO, 10, .inr (.inr (.inr (.inr ee))))), (a1, .inr (8, [.int 4, .ref wa1, .ref na1])), (wa1, .inl (cI, 4, .inl fw1))] := hD
  refine W.widen (k := 1) (n := 4) (by omega) (by omega) ?_
  refine lv_if_eq (tgt := 74) hx hb dX4_depthOf_50 (by decide) (fun c9 => ?_) (fun c9 => ?_)
  · exact absurd c9 (by decide)
  refine lv_aload_n hx hb dX4_depthOf_53 rfl (lv_at hl 3 rfl) ?_
  refine lv_iload_n hx hb dX4_depthOf_54 rfl (lv_at hl 2 rfl) ?_
  refine lv_aload_n hx hb dX4_depthOf_55 rfl (lv_at hl 3 rfl) ?_
  refine lv_iload_n hx hb dX4_depthOf_56 rfl (lv_at hl 2 rfl) ?_
  refine va_iald (D := (dC, dI)) (cl := vwCl) hx hb hK hP 9 0 rfl rfl (by unfold vp_in; decide) dX4_depthOf_57 ?_
  refine lv_topi (fun v62 ev62 => ?_)
  obtain rfl : v62 = 2 := ev62.trans (rfl)
  refine lv_iconst (v := 1) hx hb dX4_depthOf_58 (by decide) ?_
  refine lv_aload_n hx hb dX4_depthOf_59 rfl (lv_at hl 3 rfl) ?_
  refine lv_aload hx hb dX4_depthOf_60 (lv_at hl 1 rfl) ?_
  refine va_get (D := (dC, dI)) (ci := 8) (v := .ref na1) (C := RX3) (T := TX3) (N := 3) hx hb hts hi_X4_depthOf_X3 hown hK hP 14 rfl rfl 2 (by decide) (hts (.fieldLink RX4 48 "DeeprowsModel$Row" "numbers" "[I") (List.mem_cons_of_mem _ zw_1180)) (fun _ h9 => h9) rfl dX4_depthOf_62 ?_
  refine lv_iload hx hb dX4_depthOf_65 (lv_at hl 0 rfl) ?_
  refine va_iald (D := (dC, dI)) (cl := vwCl) hx hb hK hP 2 0 rfl rfl (by unfold vp_in; decide) dX4_depthOf_67 ?_
  refine lv_topi (fun v63 ev63 => ?_)
  obtain rfl : v63 = 0 := ev63.trans (hn1 3 (by decide))
  refine va_iald (D := (dC, dI)) (cl := vwCl) hx hb hK hP 9 0 rfl rfl (by unfold vp_in; decide) dX4_depthOf_68 ?_
  refine lv_topi (fun v64 ev64 => ?_)
  obtain rfl : v64 = 1 := ev64.trans (rfl)
  refine lv_iadd hx hb dX4_depthOf_69 ?_
  refine lv_topi (fun v65 ev65 => ?_)
  obtain rfl : v65 = 2 := ev65.trans (by decide)
  refine va_mmax (x := 2) (y := 2) hx hb (hml.trans hl.1.symm) hown (hts (.methodLink RX4 52 Lib.Math.max.name) (List.mem_cons_of_mem _ zw_1264)) (hts (.static Lib.Math.max.name) (List.mem_cons_of_mem _ zw_271)) (hts (.initialized "java/lang/Math") (List.mem_cons_of_mem _ zw_58)) (hts (.code Lib.Math.max.name Lib.Math.max.code 2 (some .int)) (List.mem_cons_of_mem _ zw_272)) (Nat.le_of_ble_eq_true rfl) (Nat.le_of_ble_eq_true rfl) (Nat.le_of_ble_eq_true rfl) (Nat.le_of_ble_eq_true rfl) dX4_depthOf_70 ?_
  refine lv_topi (fun v66 ev66 => ?_)
  obtain rfl : v66 = 2 := ev66.trans (by decide)
  refine va_iast (D := (dC, dI)) (cl := vwCl) hx hb hK hP hD (zS0 hS) 9 0 rfl rfl (by unfold vp_in; decide) dX4_depthOf_73 (fun H67 locs hP hD hS1 => ?_)
  have hz : s.heap.size + 1 ≤ H67.size := Nat.le_trans hz hS1.1
  have hS := zSS hS hS1
  replace hP : va_P (dC, dI) vwCl [(mo, .inr (9, [th, .ref al, md, rf, kn])), (na0, .inl (cI, 4, .inl fn0)), (na1, .inl (cI, 4, .inl fn1)), (a2, .inr (8, [.int 4, .ref wa2, .ref na2])), (wa2, .inl (cI, 4, .inl fw2)), (na2, .inl (cI, 4, .inl fn2)), (a3, .inr (8, [.int 4, .ref wa3, .ref na3])), (wa3, .inl (cI, 4, .inl fw3)), (na3, .inl (cI, 4, .inl fn3)), (q2, .inl (cI, 4, .inl (upd (upd (upd (upd (upd (upd (fun _ => 0) 0 1) 1 1) 1 2) 1 2) 1 2) 1 2))), (a0, .inr (8, [.int 4, .ref wa0, .ref na0])), (wa0, .inl (cI, 4, .inl fw0)), (al, .inr (4, [mc, .ref ed, .int (nI cc)])), (ed, .inl (cO, 10, .inr (.inr (.inr (.inr ee))))), (a1, .inr (8, [.int 4, .ref wa1, .ref na1])), (wa1, .inl (cI, 4, .inl fw1))] H67 := hP
  replace hD : va_D A [(mo, .inr (9, [th, .ref al, md, rf, kn])), (na0, .inl (cI, 4, .inl fn0)), (na1, .inl (cI, 4, .inl fn1)), (a2, .inr (8, [.int 4, .ref wa2, .ref na2])), (wa2, .inl (cI, 4, .inl fw2)), (na2, .inl (cI, 4, .inl fn2)), (a3, .inr (8, [.int 4, .ref wa3, .ref na3])), (wa3, .inl (cI, 4, .inl fw3)), (na3, .inl (cI, 4, .inl fn3)), (q2, .inl (cI, 4, .inl (upd (upd (upd (upd (upd (upd (fun _ => 0) 0 1) 1 1) 1 2) 1 2) 1 2) 1 2))), (a0, .inr (8, [.int 4, .ref wa0, .ref na0])), (wa0, .inl (cI, 4, .inl fw0)), (al, .inr (4, [mc, .ref ed, .int (nI cc)])), (ed, .inl (cO, 10, .inr (.inr (.inr (.inr ee))))), (a1, .inr (8, [.int 4, .ref wa1, .ref na1])), (wa1, .inl (cI, 4, .inl fw1))] := hD
  refine lv_iinc (v := 4) (lv' := [(5, .int 4), (4, .ref a1), (3, .int 1), (2, .ref q2), (0, .ref mo), (1, .int 3)]) hx hb dX4_depthOf_74 hl (k := 0) rfl (by decide) (by decide) rfl (fun ls hl => ?_)
  refine lv_goto (tgt := 33) hx hb dX4_depthOf_77 (by decide) ?_
  refine lv_iload hx hb dX4_depthOf_33 (lv_at hl 0 rfl) ?_
  refine lv_aload hx hb dX4_depthOf_35 (lv_at hl 1 rfl) ?_
  have hPc := hP.sub (ws' := [(a1, .inr (8, [.int 4, .ref wa1, .ref na1])), (wa1, .inl (cI, 4, .inl fw1))]) [14, 15] rfl
  have hDc := hD.sub (ws' := [(a1, .inr (8, [.int 4, .ref wa1, .ref na1])), (wa1, .inl (cI, 4, .inl fw1))]) [14, 15] (by decide) rfl
  have hFc := va_free (wc := [(a1, .inr (8, [.int 4, .ref wa1, .ref na1])), (wa1, .inl (cI, 4, .inl fw1))]) hD hS hA [14, 15] rfl
  have hDv := hDc.self (sz := H67.size)
  have hpre := zpre (xs' := []) (av := [.ref a1]) hPc hK (hDc.weaken (fun _ _ _ h => h)) hZ hS hFc (fun r hr => by cases hr)
  refine va_calli (va_runV (As := []) (rest := [.int 4]) ⟨hx, hb, hml, hown, hts⟩ (k_rlen l dC dI cI cB cR cO zk a1 wa1 na1 fw1 H67.size ) (cwV 0 hts gX4_depthOf_X3_length rfl rfl rfl (by decide +kernel) ⟨Nat.le_of_ble_eq_true rfl, Nat.le_of_ble_eq_true rfl⟩) ⟨zblind, (zrecv_8 hK hPc (q0 := 0) rfl), hpre⟩ rfl rfl hl.1 rfl (lv_room (Nat.le_of_ble_eq_true rfl)) dX4_depthOf_37 ⟨Nat.le_of_ble_eq_true rfl, Nat.le_of_ble_eq_true rfl⟩) hS (fun q _ h => hFc q h) hFc (fun r69 u t H68 locs ht hvm hw hB hz1 hk1 hS => ?_)
  obtain rfl : 4 = r69 := (show r69 = 4 from hw).symm
  obtain ⟨hP1, hK1, hD1, hz2⟩ := hB
  rw [ht] at hP1 hz2
  have hPD9 := va_join (wr := [(mo, .inr (9, [th, .ref al, md, rf, kn])), (na0, .inl (cI, 4, .inl fn0)), (na1, .inl (cI, 4, .inl fn1)), (a2, .inr (8, [.int 4, .ref wa2, .ref na2])), (wa2, .inl (cI, 4, .inl fw2)), (na2, .inl (cI, 4, .inl fn2)), (a3, .inr (8, [.int 4, .ref wa3, .ref na3])), (wa3, .inl (cI, 4, .inl fw3)), (na3, .inl (cI, 4, .inl fn3)), (q2, .inl (cI, 4, .inl (upd (upd (upd (upd (upd (upd (fun _ => 0) 0 1) 1 1) 1 2) 1 2) 1 2) 1 2))), (a0, .inr (8, [.int 4, .ref wa0, .ref na0])), (wa0, .inl (cI, 4, .inl fw0)), (al, .inr (4, [mc, .ref ed, .int (nI cc)])), (ed, .inl (cO, 10, .inr (.inr (.inr (.inr ee)))))]) (w1 := [(a1, .inr (8, [.int 4, .ref wa1, .ref na1])), (wa1, .inl (cI, 4, .inl fw1))]) hP hD [14, 15] [0, 1, 2, 3, 4, 5, 6, 7, 8, 9, 10, 11, 12, 13] rfl rfl (by decide) (by decide) hk1 hFc hP1 hD1
  clear hPc hDc hFc hDv hpre hP hD hP1 hK1 hD1
  obtain ⟨hP, hD⟩ := hPD9
  replace hz : s.heap.size + 1 ≤ H68.size := by omega
  clear hz2
  replace hP : va_P (dC, dI) vwCl [(mo, .inr (9, [th, .ref al, md, rf, kn])), (na0, .inl (cI, 4, .inl fn0)), (na1, .inl (cI, 4, .inl fn1)), (a2, .inr (8, [.int 4, .ref wa2, .ref na2])), (wa2, .inl (cI, 4, .inl fw2)), (na2, .inl (cI, 4, .inl fn2)), (a3, .inr (8, [.int 4, .ref wa3, .ref na3])), (wa3, .inl (cI, 4, .inl fw3)), (na3, .inl (cI, 4, .inl fn3)), (q2, .inl (cI, 4, .inl (upd (upd (upd (upd (upd (upd (fun _ => 0) 0 1) 1 1) 1 2) 1 2) 1 2) 1 2))), (a0, .inr (8, [.int 4, .ref wa0, .ref na0])), (wa0, .inl (cI, 4, .inl fw0)), (al, .inr (4, [mc, .ref ed, .int (nI cc)])), (ed, .inl (cO, 10, .inr (.inr (.inr (.inr ee))))), (a1, .inr (8, [.int 4, .ref wa1, .ref na1])), (wa1, .inl (cI, 4, .inl fw1))] H68 := hP
  replace hD : va_D A [(mo, .inr (9, [th, .ref al, md, rf, kn])), (na0, .inl (cI, 4, .inl fn0)), (na1, .inl (cI, 4, .inl fn1)), (a2, .inr (8, [.int 4, .ref wa2, .ref na2])), (wa2, .inl (cI, 4, .inl fw2)), (na2, .inl (cI, 4, .inl fn2)), (a3, .inr (8, [.int 4, .ref wa3, .ref na3])), (wa3, .inl (cI, 4, .inl fw3)), (na3, .inl (cI, 4, .inl fn3)), (q2, .inl (cI, 4, .inl (upd (upd (upd (upd (upd (upd (fun _ => 0) 0 1) 1 1) 1 2) 1 2) 1 2) 1 2))), (a0, .inr (8, [.int 4, .ref wa0, .ref na0])), (wa0, .inl (cI, 4, .inl fw0)), (al, .inr (4, [mc, .ref ed, .int (nI cc)])), (ed, .inl (cO, 10, .inr (.inr (.inr (.inr ee))))), (a1, .inr (8, [.int 4, .ref wa1, .ref na1])), (wa1, .inl (cI, 4, .inl fw1))] := hD
  refine W.widen (k := 1) (n := 4) (by omega) (by omega) ?_
  refine lv_icmp_ge (tgt := 80) hx hb dX4_depthOf_40 (by decide) (fun c9 => ?_) (fun c9 => ?_)
  rotate_left
  · exact absurd (by decide) c9
  refine lv_iinc (v := 2) (lv' := [(3, .int 2), (5, .int 4), (4, .ref a1), (2, .ref q2), (0, .ref mo), (1, .int 3)]) hx hb dX4_depthOf_80 hl (k := 2) rfl (by decide) (by decide) rfl (fun ls hl => ?_)
  refine lv_goto (tgt := 8) hx hb dX4_depthOf_83 (by decide) ?_
  refine lv_iload_n hx hb dX4_depthOf_8 rfl (lv_at hl 0 rfl) ?_
  refine lv_iload_n hx hb dX4_depthOf_9 rfl (lv_at hl 5 rfl) ?_
  refine lv_icmp_gt (tgt := 86) hx hb dX4_depthOf_10 (by decide) (fun c9 => ?_) (fun c9 => ?_)
  · exact absurd c9 (by decide)
  refine lv_aload_n hx hb dX4_depthOf_13 rfl (lv_at hl 4 rfl) ?_
  refine va_get (D := (dC, dI)) (ci := 9) (v := .ref al) (C := RX4) (T := TX4) (N := 5) hx hb hts hi_X4_depthOf_X4 hown hK hP 0 rfl rfl 1 (by decide) (hts (.fieldLink RX4 10 "DeeprowsModel" "rows" "Ljava/util/ArrayList;") (List.mem_cons_of_mem _ zw_1134)) (fun _ h9 => h9) rfl dX4_depthOf_14 ?_
  refine lv_iload_n hx hb dX4_depthOf_17 rfl (lv_at hl 0 rfl) ?_
  have hPc := hP.sub (ws' := [(al, .inr (4, [mc, .ref ed, .int (nI cc)])), (ed, .inl (cO, 10, .inr (.inr (.inr (.inr ee)))))]) [12, 13] rfl
  have hDc := hD.sub (ws' := [(al, .inr (4, [mc, .ref ed, .int (nI cc)])), (ed, .inl (cO, 10, .inr (.inr (.inr (.inr ee)))))]) [12, 13] (by decide) rfl
  have hFc := va_free (wc := [(al, .inr (4, [mc, .ref ed, .int (nI cc)])), (ed, .inl (cO, 10, .inr (.inr (.inr (.inr ee)))))]) hD hS hA [12, 13] rfl
  have hDv := hDc.self (sz := H68.size)
  have hpre := zpre (xs' := []) (av := [.ref al, .int 2]) hPc hK (hDc.weaken (fun _ _ _ h => h)) hZ hS hFc (fun r hr => by cases hr)
  refine va_callr (va_runV (As := [.int 2]) (rest := []) ⟨hx, hb, hml, hown, hts⟩ (k_get l dC dI cI cB cR cO zk al ed 2 cc 10 a2 ee mc H68.size (by omega) hcc2 (by decide) he2) (cwV 1 hts gX4_depthOf_Jx4a65c_get_915e3 rfl rfl rfl (by decide +kernel) ⟨Nat.le_of_ble_eq_true rfl, Nat.le_of_ble_eq_true rfl⟩) ⟨zblind, (zrecv_4 hK hPc (q0 := 0) rfl), hpre⟩ rfl rfl hl.1 rfl (lv_room (Nat.le_of_ble_eq_true rfl)) dX4_depthOf_18 ⟨Nat.le_of_ble_eq_true rfl, Nat.le_of_ble_eq_true rfl⟩) hS (fun q _ h => hFc q h) hFc (fun u r71 t H70 locs ht hvm hw hB hz1 hk1 hS => ?_)
  obtain ⟨⟨hP1, hK1, hD1, hz2⟩, her71⟩ := hB
  rw [ht] at hP1 hz2
  have hPD9 := va_join (wr := [(mo, .inr (9, [th, .ref al, md, rf, kn])), (na0, .inl (cI, 4, .inl fn0)), (na1, .inl (cI, 4, .inl fn1)), (a2, .inr (8, [.int 4, .ref wa2, .ref na2])), (wa2, .inl (cI, 4, .inl fw2)), (na2, .inl (cI, 4, .inl fn2)), (a3, .inr (8, [.int 4, .ref wa3, .ref na3])), (wa3, .inl (cI, 4, .inl fw3)), (na3, .inl (cI, 4, .inl fn3)), (q2, .inl (cI, 4, .inl (upd (upd (upd (upd (upd (upd (fun _ => 0) 0 1) 1 1) 1 2) 1 2) 1 2) 1 2))), (a0, .inr (8, [.int 4, .ref wa0, .ref na0])), (wa0, .inl (cI, 4, .inl fw0)), (a1, .inr (8, [.int 4, .ref wa1, .ref na1])), (wa1, .inl (cI, 4, .inl fw1))]) (w1 := [(al, .inr (4, [mc, .ref ed, .int (nI cc)])), (ed, .inl (cO, 10, .inr (.inr (.inr (.inr ee)))))]) hP hD [12, 13] [0, 1, 2, 3, 4, 5, 6, 7, 8, 9, 10, 11, 14, 15] rfl rfl (by decide) (by decide) hk1 hFc hP1 hD1
  clear hPc hDc hFc hDv hpre hP hD hP1 hK1 hD1
  obtain ⟨hP, hD⟩ := hPD9
  replace hz : s.heap.size + 1 ≤ H70.size := by omega
  clear hz2
  replace hP : va_P (dC, dI) vwCl [(mo, .inr (9, [th, .ref al, md, rf, kn])), (na0, .inl (cI, 4, .inl fn0)), (na1, .inl (cI, 4, .inl fn1)), (a2, .inr (8, [.int 4, .ref wa2, .ref na2])), (wa2, .inl (cI, 4, .inl fw2)), (na2, .inl (cI, 4, .inl fn2)), (a3, .inr (8, [.int 4, .ref wa3, .ref na3])), (wa3, .inl (cI, 4, .inl fw3)), (na3, .inl (cI, 4, .inl fn3)), (q2, .inl (cI, 4, .inl (upd (upd (upd (upd (upd (upd (fun _ => 0) 0 1) 1 1) 1 2) 1 2) 1 2) 1 2))), (a0, .inr (8, [.int 4, .ref wa0, .ref na0])), (wa0, .inl (cI, 4, .inl fw0)), (a1, .inr (8, [.int 4, .ref wa1, .ref na1])), (wa1, .inl (cI, 4, .inl fw1)), (al, .inr (4, [mc, .ref ed, .int (nI cc)])), (ed, .inl (cO, 10, .inr (.inr (.inr (.inr ee)))))] H70 := hP
  replace hD : va_D A [(mo, .inr (9, [th, .ref al, md, rf, kn])), (na0, .inl (cI, 4, .inl fn0)), (na1, .inl (cI, 4, .inl fn1)), (a2, .inr (8, [.int 4, .ref wa2, .ref na2])), (wa2, .inl (cI, 4, .inl fw2)), (na2, .inl (cI, 4, .inl fn2)), (a3, .inr (8, [.int 4, .ref wa3, .ref na3])), (wa3, .inl (cI, 4, .inl fw3)), (na3, .inl (cI, 4, .inl fn3)), (q2, .inl (cI, 4, .inl (upd (upd (upd (upd (upd (upd (fun _ => 0) 0 1) 1 1) 1 2) 1 2) 1 2) 1 2))), (a0, .inr (8, [.int 4, .ref wa0, .ref na0])), (wa0, .inl (cI, 4, .inl fw0)), (a1, .inr (8, [.int 4, .ref wa1, .ref na1])), (wa1, .inl (cI, 4, .inl fw1)), (al, .inr (4, [mc, .ref ed, .int (nI cc)])), (ed, .inl (cO, 10, .inr (.inr (.inr (.inr ee)))))] := hD
  refine W.widen (k := 1) (n := 4) (by omega) (by omega) ?_
  obtain rfl := her71.symm
  refine va_castE hx hb hown (hts (.classLink RX4 40 "DeeprowsModel$Row") (List.mem_cons_of_mem _ zw_1165)) (zrecv_8 hK hP (q0 := 3) rfl) dX4_depthOf_21 ?_
  refine lv_astore (lv' := [(4, .ref a2), (3, .int 2), (5, .int 4), (2, .ref q2), (0, .ref mo), (1, .int 3)]) hx hb dX4_depthOf_24 hl (by decide) rfl (fun ls hl => ?_)
  refine lv_aload_n hx hb dX4_depthOf_26 rfl (lv_at hl 3 rfl) ?_
  refine lv_iload_n hx hb dX4_depthOf_27 rfl (lv_at hl 1 rfl) ?_
  refine lv_iconst (v := 1) hx hb dX4_depthOf_28 (by decide) ?_
  refine va_iast (D := (dC, dI)) (cl := vwCl) hx hb hK hP hD (zS0 hS) 9 0 rfl rfl (by unfold vp_in; decide) dX4_depthOf_29 (fun H72 locs hP hD hS1 => ?_)
  have hz : s.heap.size + 1 ≤ H72.size := Nat.le_trans hz hS1.1
  have hS := zSS hS hS1
  replace hP : va_P (dC, dI) vwCl [(mo, .inr (9, [th, .ref al, md, rf, kn])), (na0, .inl (cI, 4, .inl fn0)), (na1, .inl (cI, 4, .inl fn1)), (a2, .inr (8, [.int 4, .ref wa2, .ref na2])), (wa2, .inl (cI, 4, .inl fw2)), (na2, .inl (cI, 4, .inl fn2)), (a3, .inr (8, [.int 4, .ref wa3, .ref na3])), (wa3, .inl (cI, 4, .inl fw3)), (na3, .inl (cI, 4, .inl fn3)), (q2, .inl (cI, 4, .inl (upd (upd (upd (upd (upd (upd (upd (fun _ => 0) 0 1) 1 1) 1 2) 1 2) 1 2) 1 2) 2 1))), (a0, .inr (8, [.int 4, .ref wa0, .ref na0])), (wa0, .inl (cI, 4, .inl fw0)), (a1, .inr (8, [.int 4, .ref wa1, .ref na1])), (wa1, .inl (cI, 4, .inl fw1)), (al, .inr (4, [mc, .ref ed, .int (nI cc)])), (ed, .inl (cO, 10, .inr (.inr (.inr (.inr ee)))))] H72 := hP
  replace hD : va_D A [(mo, .inr (9, [th, .ref al, md, rf, kn])), (na0, .inl (cI, 4, .inl fn0)), (na1, .inl (cI, 4, .inl fn1)), (a2, .inr (8, [.int 4, .ref wa2, .ref na2])), (wa2, .inl (cI, 4, .inl fw2)), (na2, .inl (cI, 4, .inl fn2)), (a3, .inr (8, [.int 4, .ref wa3, .ref na3])), (wa3, .inl (cI, 4, .inl fw3)), (na3, .inl (cI, 4, .inl fn3)), (q2, .inl (cI, 4, .inl (upd (upd (upd (upd (upd (upd (upd (fun _ => 0) 0 1) 1 1) 1 2) 1 2) 1 2) 1 2) 2 1))), (a0, .inr (8, [.int 4, .ref wa0, .ref na0])), (wa0, .inl (cI, 4, .inl fw0)), (a1, .inr (8, [.int 4, .ref wa1, .ref na1])), (wa1, .inl (cI, 4, .inl fw1)), (al, .inr (4, [mc, .ref ed, .int (nI cc)])), (ed, .inl (cO, 10, .inr (.inr (.inr (.inr ee)))))] := hD
  refine lv_iconst (v := 0) hx hb dX4_depthOf_30 (by decide) ?_
  refine lv_istore (lv' := [(5, .int 0), (4, .ref a2), (3, .int 2), (2, .ref q2), (0, .ref mo), (1, .int 3)]) hx hb dX4_depthOf_31 hl (by decide) rfl (fun ls hl => ?_)
  refine lv_iload hx hb dX4_depthOf_33 (lv_at hl 0 rfl) ?_
  refine lv_aload hx hb dX4_depthOf_35 (lv_at hl 1 rfl) ?_
  have hPc := hP.sub (ws' := [(a2, .inr (8, [.int 4, .ref wa2, .ref na2])), (wa2, .inl (cI, 4, .inl fw2))]) [3, 4] rfl
  have hDc := hD.sub (ws' := [(a2, .inr (8, [.int 4, .ref wa2, .ref na2])), (wa2, .inl (cI, 4, .inl fw2))]) [3, 4] (by decide) rfl
  have hFc := va_free (wc := [(a2, .inr (8, [.int 4, .ref wa2, .ref na2])), (wa2, .inl (cI, 4, .inl fw2))]) hD hS hA [3, 4] rfl
  have hDv := hDc.self (sz := H72.size)
  have hpre := zpre (xs' := []) (av := [.ref a2]) hPc hK (hDc.weaken (fun _ _ _ h => h)) hZ hS hFc (fun r hr => by cases hr)
  refine va_calli (va_runV (As := []) (rest := [.int 0]) ⟨hx, hb, hml, hown, hts⟩ (k_rlen l dC dI cI cB cR cO zk a2 wa2 na2 fw2 H72.size ) (cwV 0 hts gX4_depthOf_X3_length rfl rfl rfl (by decide +kernel) ⟨Nat.le_of_ble_eq_true rfl, Nat.le_of_ble_eq_true rfl⟩) ⟨zblind, (zrecv_8 hK hPc (q0 := 0) rfl), hpre⟩ rfl rfl hl.1 rfl (lv_room (Nat.le_of_ble_eq_true rfl)) dX4_depthOf_37 ⟨Nat.le_of_ble_eq_true rfl, Nat.le_of_ble_eq_true rfl⟩) hS (fun q _ h => hFc q h) hFc (fun r74 u t H73 locs ht hvm hw hB hz1 hk1 hS => ?_)
  obtain rfl : 4 = r74 := (show r74 = 4 from hw).symm
  obtain ⟨hP1, hK1, hD1, hz2⟩ := hB
  rw [ht] at hP1 hz2
  have hPD9 := va_join (wr := [(mo, .inr (9, [th, .ref al, md, rf, kn])), (na0, .inl (cI, 4, .inl fn0)), (na1, .inl (cI, 4, .inl fn1)), (na2, .inl (cI, 4, .inl fn2)), (a3, .inr (8, [.int 4, .ref wa3, .ref na3])), (wa3, .inl (cI, 4, .inl fw3)), (na3, .inl (cI, 4, .inl fn3)), (q2, .inl (cI, 4, .inl (upd (upd (upd (upd (upd (upd (upd (fun _ => 0) 0 1) 1 1) 1 2) 1 2) 1 2) 1 2) 2 1))), (a0, .inr (8, [.int 4, .ref wa0, .ref na0])), (wa0, .inl (cI, 4, .inl fw0)), (a1, .inr (8, [.int 4, .ref wa1, .ref na1])), (wa1, .inl (cI, 4, .inl fw1)), (al, .inr (4, [mc, .ref ed, .int (nI cc)])), (ed, .inl (cO, 10, .inr (.inr (.inr (.inr ee)))))]) (w1 := [(a2, .inr (8, [.int 4, .ref wa2, .ref na2])), (wa2, .inl (cI, 4, .inl fw2))]) hP hD [3, 4] [0, 1, 2, 5, 6, 7, 8, 9, 10, 11, 12, 13, 14, 15] rfl rfl (by decide) (by decide) hk1 hFc hP1 hD1
  clear hPc hDc hFc hDv hpre hP hD hP1 hK1 hD1
  obtain ⟨hP, hD⟩ := hPD9
  replace hz : s.heap.size + 1 ≤ H73.size := by omega
  clear hz2
  replace hP : va_P (dC, dI) vwCl [(mo, .inr (9, [th, .ref al, md, rf, kn])), (na0, .inl (cI, 4, .inl fn0)), (na1, .inl (cI, 4, .inl fn1)), (na2, .inl (cI, 4, .inl fn2)), (a3, .inr (8, [.int 4, .ref wa3, .ref na3])), (wa3, .inl (cI, 4, .inl fw3)), (na3, .inl (cI, 4, .inl fn3)), (q2, .inl (cI, 4, .inl (upd (upd (upd (upd (upd (upd (upd (fun _ => 0) 0 1) 1 1) 1 2) 1 2) 1 2) 1 2) 2 1))), (a0, .inr (8, [.int 4, .ref wa0, .ref na0])), (wa0, .inl (cI, 4, .inl fw0)), (a1, .inr (8, [.int 4, .ref wa1, .ref na1])), (wa1, .inl (cI, 4, .inl fw1)), (al, .inr (4, [mc, .ref ed, .int (nI cc)])), (ed, .inl (cO, 10, .inr (.inr (.inr (.inr ee))))), (a2, .inr (8, [.int 4, .ref wa2, .ref na2])), (wa2, .inl (cI, 4, .inl fw2))] H73 := hP
  replace hD : va_D A [(mo, .inr (9, [th, .ref al, md, rf, kn])), (na0, .inl (cI, 4, .inl fn0)), (na1, .inl (cI, 4, .inl fn1)), (na2, .inl (cI, 4, .inl fn2)), (a3, .inr (8, [.int 4, .ref wa3, .ref na3])), (wa3, .inl (cI, 4, .inl fw3)), (na3, .inl (cI, 4, .inl fn3)), (q2, .inl (cI, 4, .inl (upd (upd (upd (upd (upd (upd (upd (fun _ => 0) 0 1) 1 1) 1 2) 1 2) 1 2) 1 2) 2 1))), (a0, .inr (8, [.int 4, .ref wa0, .ref na0])), (wa0, .inl (cI, 4, .inl fw0)), (a1, .inr (8, [.int 4, .ref wa1, .ref na1])), (wa1, .inl (cI, 4, .inl fw1)), (al, .inr (4, [mc, .ref ed, .int (nI cc)])), (ed, .inl (cO, 10, .inr (.inr (.inr (.inr ee))))), (a2, .inr (8, [.int 4, .ref wa2, .ref na2])), (wa2, .inl (cI, 4, .inl fw2))] := hD
  refine W.widen (k := 1) (n := 4) (by omega) (by omega) ?_
  refine lv_icmp_ge (tgt := 80) hx hb dX4_depthOf_40 (by decide) (fun c9 => ?_) (fun c9 => ?_)
  · exact absurd c9 (by decide)
  refine lv_aload hx hb dX4_depthOf_43 (lv_at hl 1 rfl) ?_
  refine lv_iload hx hb dX4_depthOf_45 (lv_at hl 0 rfl) ?_
  have hPc := hP.sub (ws' := [(a2, .inr (8, [.int 4, .ref wa2, .ref na2])), (wa2, .inl (cI, 4, .inl fw2))]) [14, 15] rfl
  have hDc := hD.sub (ws' := [(a2, .inr (8, [.int 4, .ref wa2, .ref na2])), (wa2, .inl (cI, 4, .inl fw2))]) [14, 15] (by decide) rfl
  have hFc := va_free (wc := [(a2, .inr (8, [.int 4, .ref wa2, .ref na2])), (wa2, .inl (cI, 4, .inl fw2))]) hD hS hA [14, 15] rfl
  have hDv := hDc.self (sz := H73.size)
  have hpre := zpre (xs' := []) (av := [.ref a2, .int 0]) hPc hK (hDc.weaken (fun _ _ _ h => h)) hZ hS hFc (fun r hr => by cases hr)
  refine va_calli (va_runV (As := [.int 0]) (rest := []) ⟨hx, hb, hml, hown, hts⟩ (k_mh0_3 l dC dI cI cB cR cO zk a2 wa2 na2 fw2 H73.size (hw2 0 (by decide))) (cwV 1 hts gX4_depthOf_X3_hangs rfl rfl rfl (by decide +kernel) ⟨Nat.le_of_ble_eq_true rfl, Nat.le_of_ble_eq_true rfl⟩) ⟨zblind, (zrecv_8 hK hPc (q0 := 0) rfl), hpre⟩ rfl rfl hl.1 rfl (lv_room (Nat.le_of_ble_eq_true rfl)) dX4_depthOf_47 ⟨Nat.le_of_ble_eq_true rfl, Nat.le_of_ble_eq_true rfl⟩) hS (fun q _ h => hFc q h) hFc (fun r76 u t H75 locs ht hvm hw hB hz1 hk1 hS => ?_)
  obtain rfl : 1 = r76 := (show r76 = 1 from hw).symm
  obtain ⟨hP1, hK1, hD1, hz2⟩ := hB
  rw [ht] at hP1 hz2
  have hPD9 := va_join (wr := [(mo, .inr (9, [th, .ref al, md, rf, kn])), (na0, .inl (cI, 4, .inl fn0)), (na1, .inl (cI, 4, .inl fn1)), (na2, .inl (cI, 4, .inl fn2)), (a3, .inr (8, [.int 4, .ref wa3, .ref na3])), (wa3, .inl (cI, 4, .inl fw3)), (na3, .inl (cI, 4, .inl fn3)), (q2, .inl (cI, 4, .inl (upd (upd (upd (upd (upd (upd (upd (fun _ => 0) 0 1) 1 1) 1 2) 1 2) 1 2) 1 2) 2 1))), (a0, .inr (8, [.int 4, .ref wa0, .ref na0])), (wa0, .inl (cI, 4, .inl fw0)), (a1, .inr (8, [.int 4, .ref wa1, .ref na1])), (wa1, .inl (cI, 4, .inl fw1)), (al, .inr (4, [mc, .ref ed, .int (nI cc)])), (ed, .inl (cO, 10, .inr (.inr (.inr (.inr ee)))))]) (w1 := [(a2, .inr (8, [.int 4, .ref wa2, .ref na2])), (wa2, .inl (cI, 4, .inl fw2))]) hP hD [14, 15] [0, 1, 2, 3, 4, 5, 6, 7, 8, 9, 10, 11, 12, 13] rfl rfl (by decide) (by decide) hk1 hFc hP1 hD1
  clear hPc hDc hFc hDv hpre hP hD hP1 hK1 hD1
  obtain ⟨hP, hD⟩ := hPD9
  replace hz : s.heap.size + 1 ≤ H75.size := by omega
  clear hz2
  replace hP : va_P (dC, dI) vwCl [(mo, .inr (9, [th, .ref al, md, rf, kn])), (na0, .inl (cI, 4, .inl fn0)), (na1, .inl (cI, 4, .inl fn1)), (na2, .inl (cI, 4, .inl fn2)), (a3, .inr (8, [.int 4, .ref wa3, .ref na3])), (wa3, .inl (cI, 4, .inl fw3)), (na3, .inl (cI, 4, .inl fn3)), (q2, .inl (cI, 4, .inl (upd (upd (upd (upd (upd (upd (upd (fun _ => 0) 0 1) 1 1) 1 2) 1 2) 1 2) 1 2) 2 1))), (a0, .inr (8, [.int 4, .ref wa0, .ref na0])), (wa0, .inl (cI, 4, .inl fw0)), (a1, .inr (8, [.int 4, .ref wa1, .ref na1])), (wa1, .inl (cI, 4, .inl fw1)), (al, .inr (4, [mc, .ref ed, .int (nI cc)])), (ed, .inl (cO, 10, .inr (.inr (.inr (.inr ee))))), (a2, .inr (8, [.int 4, .ref wa2, .ref na2])), (wa2, .inl (cI, 4, .inl fw2))] H75 := hP
  replace hD : va_D A [(mo, .inr (9, [th, .ref al, md, rf, kn])), (na0, .inl (cI, 4, .inl fn0)), (na1, .inl (cI, 4, .inl fn1)), (na2, .inl (cI, 4, .inl fn2)), (a3, .inr (8, [.int 4, .ref wa3, .ref na3])), (wa3, .inl (cI, 4, .inl fw3)), (na3, .inl (cI, 4, .inl fn3)), (q2, .inl (cI, 4, .inl (upd (upd (upd (upd (upd (upd (upd (fun _ => 0) 0 1) 1 1) 1 2) 1 2) 1 2) 1 2) 2 1))), (a0, .inr (8, [.int 4, .ref wa0, .ref na0])), (wa0, .inl (cI, 4, .inl fw0)), (a1, .inr (8, [.int 4, .ref wa1, .ref na1])), (wa1, .inl (cI, 4, .inl fw1)), (al, .inr (4, [mc, .ref ed, .int (nI cc)])), (ed, .inl (cO, 10, .inr (.inr (.inr (.inr ee))))), (a2, .inr (8, [.int 4, .ref wa2, .ref na2])), (wa2, .inl (cI, 4, .inl fw2))] := hD
  refine W.widen (k := 1) (n := 4) (by omega) (by omega) ?_
  refine lv_if_eq (tgt := 74) hx hb dX4_depthOf_50 (by decide) (fun c9 => ?_) (fun c9 => ?_)
  · exact absurd c9 (by decide)
  refine lv_aload_n hx hb dX4_depthOf_53 rfl (lv_at hl 3 rfl) ?_
  refine lv_iload_n hx hb dX4_depthOf_54 rfl (lv_at hl 2 rfl) ?_
  refine lv_aload_n hx hb dX4_depthOf_55 rfl (lv_at hl 3 rfl) ?_
  refine lv_iload_n hx hb dX4_depthOf_56 rfl (lv_at hl 2 rfl) ?_
  refine va_iald (D := (dC, dI)) (cl := vwCl) hx hb hK hP 7 0 rfl rfl (by unfold vp_in; decide) dX4_depthOf_57 ?_
  refine lv_topi (fun v77 ev77 => ?_)
  obtain rfl : v77 = 1 := ev77.trans (rfl)
  refine lv_iconst (v := 1) hx hb dX4_depthOf_58 (by decide) ?_
  refine lv_aload_n hx hb dX4_depthOf_59 rfl (lv_at hl 3 rfl) ?_
  refine lv_aload hx hb dX4_depthOf_60 (lv_at hl 1 rfl) ?_
  refine va_get (D := (dC, dI)) (ci := 8) (v := .ref na2) (C := RX3) (T := TX3) (N := 3) hx hb hts hi_X4_depthOf_X3 hown hK hP 14 rfl rfl 2 (by decide) (hts (.fieldLink RX4 48 "DeeprowsModel$Row" "numbers" "[I") (List.mem_cons_of_mem _ zw_1180)) (fun _ h9 => h9) rfl dX4_depthOf_62 ?_
  refine lv_iload hx hb dX4_depthOf_65 (lv_at hl 0 rfl) ?_
  refine va_iald (D := (dC, dI)) (cl := vwCl) hx hb hK hP 3 0 rfl rfl (by unfold vp_in; decide) dX4_depthOf_67 ?_
  refine lv_topi (fun v78 ev78 => ?_)
  obtain rfl : v78 = 1 := ev78.trans (hn2 0 (by decide))
  refine va_iald (D := (dC, dI)) (cl := vwCl) hx hb hK hP 7 0 rfl rfl (by unfold vp_in; decide) dX4_depthOf_68 ?_
  refine lv_topi (fun v79 ev79 => ?_)
  obtain rfl : v79 = 2 := ev79.trans (rfl)
  refine lv_iadd hx hb dX4_depthOf_69 ?_
  refine lv_topi (fun v80 ev80 => ?_)
  obtain rfl : v80 = 3 := ev80.trans (by decide)
  refine va_mmax (x := 1) (y := 3) hx hb (hml.trans hl.1.symm) hown (hts (.methodLink RX4 52 Lib.Math.max.name) (List.mem_cons_of_mem _ zw_1264)) (hts (.static Lib.Math.max.name) (List.mem_cons_of_mem _ zw_271)) (hts (.initialized "java/lang/Math") (List.mem_cons_of_mem _ zw_58)) (hts (.code Lib.Math.max.name Lib.Math.max.code 2 (some .int)) (List.mem_cons_of_mem _ zw_272)) (Nat.le_of_ble_eq_true rfl) (Nat.le_of_ble_eq_true rfl) (Nat.le_of_ble_eq_true rfl) (Nat.le_of_ble_eq_true rfl) dX4_depthOf_70 ?_
  refine lv_topi (fun v81 ev81 => ?_)
  obtain rfl : v81 = 3 := ev81.trans (by decide)
  refine va_iast (D := (dC, dI)) (cl := vwCl) hx hb hK hP hD (zS0 hS) 7 0 rfl rfl (by unfold vp_in; decide) dX4_depthOf_73 (fun H82 locs hP hD hS1 => ?_)
  have hz : s.heap.size + 1 ≤ H82.size := Nat.le_trans hz hS1.1
  have hS := zSS hS hS1
  replace hP : va_P (dC, dI) vwCl [(mo, .inr (9, [th, .ref al, md, rf, kn])), (na0, .inl (cI, 4, .inl fn0)), (na1, .inl (cI, 4, .inl fn1)), (na2, .inl (cI, 4, .inl fn2)), (a3, .inr (8, [.int 4, .ref wa3, .ref na3])), (wa3, .inl (cI, 4, .inl fw3)), (na3, .inl (cI, 4, .inl fn3)), (q2, .inl (cI, 4, .inl (upd (upd (upd (upd (upd (upd (upd (upd (fun _ => 0) 0 1) 1 1) 1 2) 1 2) 1 2) 1 2) 2 1) 2 3))), (a0, .inr (8, [.int 4, .ref wa0, .ref na0])), (wa0, .inl (cI, 4, .inl fw0)), (a1, .inr (8, [.int 4, .ref wa1, .ref na1])), (wa1, .inl (cI, 4, .inl fw1)), (al, .inr (4, [mc, .ref ed, .int (nI cc)])), (ed, .inl (cO, 10, .inr (.inr (.inr (.inr ee))))), (a2, .inr (8, [.int 4, .ref wa2, .ref na2])), (wa2, .inl (cI, 4, .inl fw2))] H82 := hP
  replace hD : va_D A [(mo, .inr (9, [th, .ref al, md, rf, kn])), (na0, .inl (cI, 4, .inl fn0)), (na1, .inl (cI, 4, .inl fn1)), (na2, .inl (cI, 4, .inl fn2)), (a3, .inr (8, [.int 4, .ref wa3, .ref na3])), (wa3, .inl (cI, 4, .inl fw3)), (na3, .inl (cI, 4, .inl fn3)), (q2, .inl (cI, 4, .inl (upd (upd (upd (upd (upd (upd (upd (upd (fun _ => 0) 0 1) 1 1) 1 2) 1 2) 1 2) 1 2) 2 1) 2 3))), (a0, .inr (8, [.int 4, .ref wa0, .ref na0])), (wa0, .inl (cI, 4, .inl fw0)), (a1, .inr (8, [.int 4, .ref wa1, .ref na1])), (wa1, .inl (cI, 4, .inl fw1)), (al, .inr (4, [mc, .ref ed, .int (nI cc)])), (ed, .inl (cO, 10, .inr (.inr (.inr (.inr ee))))), (a2, .inr (8, [.int 4, .ref wa2, .ref na2])), (wa2, .inl (cI, 4, .inl fw2))] := hD
  refine lv_iinc (v := 1) (lv' := [(5, .int 1), (4, .ref a2), (3, .int 2), (2, .ref q2), (0, .ref mo), (1, .int 3)]) hx hb dX4_depthOf_74 hl (k := 0) rfl (by decide) (by decide) rfl (fun ls hl => ?_)
  refine lv_goto (tgt := 33) hx hb dX4_depthOf_77 (by decide) ?_
  refine lv_iload hx hb dX4_depthOf_33 (lv_at hl 0 rfl) ?_
  refine lv_aload hx hb dX4_depthOf_35 (lv_at hl 1 rfl) ?_
  have hPc := hP.sub (ws' := [(a2, .inr (8, [.int 4, .ref wa2, .ref na2])), (wa2, .inl (cI, 4, .inl fw2))]) [14, 15] rfl
  have hDc := hD.sub (ws' := [(a2, .inr (8, [.int 4, .ref wa2, .ref na2])), (wa2, .inl (cI, 4, .inl fw2))]) [14, 15] (by decide) rfl
  have hFc := va_free (wc := [(a2, .inr (8, [.int 4, .ref wa2, .ref na2])), (wa2, .inl (cI, 4, .inl fw2))]) hD hS hA [14, 15] rfl
  have hDv := hDc.self (sz := H82.size)
  have hpre := zpre (xs' := []) (av := [.ref a2]) hPc hK (hDc.weaken (fun _ _ _ h => h)) hZ hS hFc (fun r hr => by cases hr)
  refine va_calli (va_runV (As := []) (rest := [.int 1]) ⟨hx, hb, hml, hown, hts⟩ (k_rlen l dC dI cI cB cR cO zk a2 wa2 na2 fw2 H82.size ) (cwV 0 hts gX4_depthOf_X3_length rfl rfl rfl (by decide +kernel) ⟨Nat.le_of_ble_eq_true rfl, Nat.le_of_ble_eq_true rfl⟩) ⟨zblind, (zrecv_8 hK hPc (q0 := 0) rfl), hpre⟩ rfl rfl hl.1 rfl (lv_room (Nat.le_of_ble_eq_true rfl)) dX4_depthOf_37 ⟨Nat.le_of_ble_eq_true rfl, Nat.le_of_ble_eq_true rfl⟩) hS (fun q _ h => hFc q h) hFc (fun r84 u t H83 locs ht hvm hw hB hz1 hk1 hS => ?_)
  obtain rfl : 4 = r84 := (show r84 = 4 from hw).symm
  obtain ⟨hP1, hK1, hD1, hz2⟩ := hB
  rw [ht] at hP1 hz2
  have hPD9 := va_join (wr := [(mo, .inr (9, [th, .ref al, md, rf, kn])), (na0, .inl (cI, 4, .inl fn0)), (na1, .inl (cI, 4, .inl fn1)), (na2, .inl (cI, 4, .inl fn2)), (a3, .inr (8, [.int 4, .ref wa3, .ref na3])), (wa3, .inl (cI, 4, .inl fw3)), (na3, .inl (cI, 4, .inl fn3)), (q2, .inl (cI, 4, .inl (upd (upd (upd (upd (upd (upd (upd (upd (fun _ => 0) 0 1) 1 1) 1 2) 1 2) 1 2) 1 2) 2 1) 2 3))), (a0, .inr (8, [.int 4, .ref wa0, .ref na0])), (wa0, .inl (cI, 4, .inl fw0)), (a1, .inr (8, [.int 4, .ref wa1, .ref na1])), (wa1, .inl (cI, 4, .inl fw1)), (al, .inr (4, [mc, .ref ed, .int (nI cc)])), (ed, .inl (cO, 10, .inr (.inr (.inr (.inr ee)))))]) (w1 := [(a2, .inr (8, [.int 4, .ref wa2, .ref na2])), (wa2, .inl (cI, 4, .inl fw2))]) hP hD [14, 15] [0, 1, 2, 3, 4, 5, 6, 7, 8, 9, 10, 11, 12, 13] rfl rfl (by decide) (by decide) hk1 hFc hP1 hD1
  clear hPc hDc hFc hDv hpre hP hD hP1 hK1 hD1
  obtain ⟨hP, hD⟩ := hPD9
  replace hz : s.heap.size + 1 ≤ H83.size := by omega
  clear hz2
  replace hP : va_P (dC, dI) vwCl [(mo, .inr (9, [th, .ref al, md, rf, kn])), (na0, .inl (cI, 4, .inl fn0)), (na1, .inl (cI, 4, .inl fn1)), (na2, .inl (cI, 4, .inl fn2)), (a3, .inr (8, [.int 4, .ref wa3, .ref na3])), (wa3, .inl (cI, 4, .inl fw3)), (na3, .inl (cI, 4, .inl fn3)), (q2, .inl (cI, 4, .inl (upd (upd (upd (upd (upd (upd (upd (upd (fun _ => 0) 0 1) 1 1) 1 2) 1 2) 1 2) 1 2) 2 1) 2 3))), (a0, .inr (8, [.int 4, .ref wa0, .ref na0])), (wa0, .inl (cI, 4, .inl fw0)), (a1, .inr (8, [.int 4, .ref wa1, .ref na1])), (wa1, .inl (cI, 4, .inl fw1)), (al, .inr (4, [mc, .ref ed, .int (nI cc)])), (ed, .inl (cO, 10, .inr (.inr (.inr (.inr ee))))), (a2, .inr (8, [.int 4, .ref wa2, .ref na2])), (wa2, .inl (cI, 4, .inl fw2))] H83 := hP
  replace hD : va_D A [(mo, .inr (9, [th, .ref al, md, rf, kn])), (na0, .inl (cI, 4, .inl fn0)), (na1, .inl (cI, 4, .inl fn1)), (na2, .inl (cI, 4, .inl fn2)), (a3, .inr (8, [.int 4, .ref wa3, .ref na3])), (wa3, .inl (cI, 4, .inl fw3)), (na3, .inl (cI, 4, .inl fn3)), (q2, .inl (cI, 4, .inl (upd (upd (upd (upd (upd (upd (upd (upd (fun _ => 0) 0 1) 1 1) 1 2) 1 2) 1 2) 1 2) 2 1) 2 3))), (a0, .inr (8, [.int 4, .ref wa0, .ref na0])), (wa0, .inl (cI, 4, .inl fw0)), (a1, .inr (8, [.int 4, .ref wa1, .ref na1])), (wa1, .inl (cI, 4, .inl fw1)), (al, .inr (4, [mc, .ref ed, .int (nI cc)])), (ed, .inl (cO, 10, .inr (.inr (.inr (.inr ee))))), (a2, .inr (8, [.int 4, .ref wa2, .ref na2])), (wa2, .inl (cI, 4, .inl fw2))] := hD
  refine W.widen (k := 1) (n := 4) (by omega) (by omega) ?_
  refine lv_icmp_ge (tgt := 80) hx hb dX4_depthOf_40 (by decide) (fun c9 => ?_) (fun c9 => ?_)
  · exact absurd c9 (by decide)
  refine lv_aload hx hb dX4_depthOf_43 (lv_at hl 1 rfl) ?_
  refine lv_iload hx hb dX4_depthOf_45 (lv_at hl 0 rfl) ?_
  have hPc := hP.sub (ws' := [(a2, .inr (8, [.int 4, .ref wa2, .ref na2])), (wa2, .inl (cI, 4, .inl fw2))]) [14, 15] rfl
  have hDc := hD.sub (ws' := [(a2, .inr (8, [.int 4, .ref wa2, .ref na2])), (wa2, .inl (cI, 4, .inl fw2))]) [14, 15] (by decide) rfl
  have hFc := va_free (wc := [(a2, .inr (8, [.int 4, .ref wa2, .ref na2])), (wa2, .inl (cI, 4, .inl fw2))]) hD hS hA [14, 15] rfl
  have hDv := hDc.self (sz := H83.size)
  have hpre := zpre (xs' := []) (av := [.ref a2, .int 1]) hPc hK (hDc.weaken (fun _ _ _ h => h)) hZ hS hFc (fun r hr => by cases hr)
  refine va_calli (va_runV (As := [.int 1]) (rest := []) ⟨hx, hb, hml, hown, hts⟩ (k_mh1_3 l dC dI cI cB cR cO zk a2 wa2 na2 fw2 H83.size (hw2 1 (by decide))) (cwV 1 hts gX4_depthOf_X3_hangs rfl rfl rfl (by decide +kernel) ⟨Nat.le_of_ble_eq_true rfl, Nat.le_of_ble_eq_true rfl⟩) ⟨zblind, (zrecv_8 hK hPc (q0 := 0) rfl), hpre⟩ rfl rfl hl.1 rfl (lv_room (Nat.le_of_ble_eq_true rfl)) dX4_depthOf_47 ⟨Nat.le_of_ble_eq_true rfl, Nat.le_of_ble_eq_true rfl⟩) hS (fun q _ h => hFc q h) hFc (fun r86 u t H85 locs ht hvm hw hB hz1 hk1 hS => ?_)
  obtain rfl : 1 = r86 := (show r86 = 1 from hw).symm
  obtain ⟨hP1, hK1, hD1, hz2⟩ := hB
  rw [ht] at hP1 hz2
  have hPD9 := va_join (wr := [(mo, .inr (9, [th, .ref al, md, rf, kn])), (na0, .inl (cI, 4, .inl fn0)), (na1, .inl (cI, 4, .inl fn1)), (na2, .inl (cI, 4, .inl fn2)), (a3, .inr (8, [.int 4, .ref wa3, .ref na3])), (wa3, .inl (cI, 4, .inl fw3)), (na3, .inl (cI, 4, .inl fn3)), (q2, .inl (cI, 4, .inl (upd (upd (upd (upd (upd (upd (upd (upd (fun _ => 0) 0 1) 1 1) 1 2) 1 2) 1 2) 1 2) 2 1) 2 3))), (a0, .inr (8, [.int 4, .ref wa0, .ref na0])), (wa0, .inl (cI, 4, .inl fw0)), (a1, .inr (8, [.int 4, .ref wa1, .ref na1])), (wa1, .inl (cI, 4, .inl fw1)), (al, .inr (4, [mc, .ref ed, .int (nI cc)])), (ed, .inl (cO, 10, .inr (.inr (.inr (.inr ee)))))]) (w1 := [(a2, .inr (8, [.int 4, .ref wa2, .ref na2])), (wa2, .inl (cI, 4, .inl fw2))]) hP hD [14, 15] [0, 1, 2, 3, 4, 5, 6, 7, 8, 9, 10, 11, 12, 13] rfl rfl (by decide) (by decide) hk1 hFc hP1 hD1
  clear hPc hDc hFc hDv hpre hP hD hP1 hK1 hD1
  obtain ⟨hP, hD⟩ := hPD9
  replace hz : s.heap.size + 1 ≤ H85.size := by omega
  clear hz2
  replace hP : va_P (dC, dI) vwCl [(mo, .inr (9, [th, .ref al, md, rf, kn])), (na0, .inl (cI, 4, .inl fn0)), (na1, .inl (cI, 4, .inl fn1)), (na2, .inl (cI, 4, .inl fn2)), (a3, .inr (8, [.int 4, .ref wa3, .ref na3])), (wa3, .inl (cI, 4, .inl fw3)), (na3, .inl (cI, 4, .inl fn3)), (q2, .inl (cI, 4, .inl (upd (upd (upd (upd (upd (upd (upd (upd (fun _ => 0) 0 1) 1 1) 1 2) 1 2) 1 2) 1 2) 2 1) 2 3))), (a0, .inr (8, [.int 4, .ref wa0, .ref na0])), (wa0, .inl (cI, 4, .inl fw0)), (a1, .inr (8, [.int 4, .ref wa1, .ref na1])), (wa1, .inl (cI, 4, .inl fw1)), (al, .inr (4, [mc, .ref ed, .int (nI cc)])), (ed, .inl (cO, 10, .inr (.inr (.inr (.inr ee))))), (a2, .inr (8, [.int 4, .ref wa2, .ref na2])), (wa2, .inl (cI, 4, .inl fw2))] H85 := hP
  replace hD : va_D A [(mo, .inr (9, [th, .ref al, md, rf, kn])), (na0, .inl (cI, 4, .inl fn0)), (na1, .inl (cI, 4, .inl fn1)), (na2, .inl (cI, 4, .inl fn2)), (a3, .inr (8, [.int 4, .ref wa3, .ref na3])), (wa3, .inl (cI, 4, .inl fw3)), (na3, .inl (cI, 4, .inl fn3)), (q2, .inl (cI, 4, .inl (upd (upd (upd (upd (upd (upd (upd (upd (fun _ => 0) 0 1) 1 1) 1 2) 1 2) 1 2) 1 2) 2 1) 2 3))), (a0, .inr (8, [.int 4, .ref wa0, .ref na0])), (wa0, .inl (cI, 4, .inl fw0)), (a1, .inr (8, [.int 4, .ref wa1, .ref na1])), (wa1, .inl (cI, 4, .inl fw1)), (al, .inr (4, [mc, .ref ed, .int (nI cc)])), (ed, .inl (cO, 10, .inr (.inr (.inr (.inr ee))))), (a2, .inr (8, [.int 4, .ref wa2, .ref na2])), (wa2, .inl (cI, 4, .inl fw2))] := hD
  refine W.widen (k := 1) (n := 4) (by omega) (by omega) ?_
  refine lv_if_eq (tgt := 74) hx hb dX4_depthOf_50 (by decide) (fun c9 => ?_) (fun c9 => ?_)
  · exact absurd c9 (by decide)
  refine lv_aload_n hx hb dX4_depthOf_53 rfl (lv_at hl 3 rfl) ?_
  refine lv_iload_n hx hb dX4_depthOf_54 rfl (lv_at hl 2 rfl) ?_
  refine lv_aload_n hx hb dX4_depthOf_55 rfl (lv_at hl 3 rfl) ?_
  refine lv_iload_n hx hb dX4_depthOf_56 rfl (lv_at hl 2 rfl) ?_
  refine va_iald (D := (dC, dI)) (cl := vwCl) hx hb hK hP 7 0 rfl rfl (by unfold vp_in; decide) dX4_depthOf_57 ?_
  refine lv_topi (fun v87 ev87 => ?_)
  obtain rfl : v87 = 3 := ev87.trans (rfl)
  refine lv_iconst (v := 1) hx hb dX4_depthOf_58 (by decide) ?_
  refine lv_aload_n hx hb dX4_depthOf_59 rfl (lv_at hl 3 rfl) ?_
  refine lv_aload hx hb dX4_depthOf_60 (lv_at hl 1 rfl) ?_
  refine va_get (D := (dC, dI)) (ci := 8) (v := .ref na2) (C := RX3) (T := TX3) (N := 3) hx hb hts hi_X4_depthOf_X3 hown hK hP 14 rfl rfl 2 (by decide) (hts (.fieldLink RX4 48 "DeeprowsModel$Row" "numbers" "[I") (List.mem_cons_of_mem _ zw_1180)) (fun _ h9 => h9) rfl dX4_depthOf_62 ?_
  refine lv_iload hx hb dX4_depthOf_65 (lv_at hl 0 rfl) ?_
  refine va_iald (D := (dC, dI)) (cl := vwCl) hx hb hK hP 3 0 rfl rfl (by unfold vp_in; decide) dX4_depthOf_67 ?_
  refine lv_topi (fun v88 ev88 => ?_)
  obtain rfl : v88 = 1 := ev88.trans (hn2 1 (by decide))
  refine va_iald (D := (dC, dI)) (cl := vwCl) hx hb hK hP 7 0 rfl rfl (by unfold vp_in; decide) dX4_depthOf_68 ?_
  refine lv_topi (fun v89 ev89 => ?_)
  obtain rfl : v89 = 2 := ev89.trans (rfl)
  refine lv_iadd hx hb dX4_depthOf_69 ?_
  refine lv_topi (fun v90 ev90 => ?_)
  obtain rfl : v90 = 3 := ev90.trans (by decide)
  refine va_mmax (x := 3) (y := 3) hx hb (hml.trans hl.1.symm) hown (hts (.methodLink RX4 52 Lib.Math.max.name) (List.mem_cons_of_mem _ zw_1264)) (hts (.static Lib.Math.max.name) (List.mem_cons_of_mem _ zw_271)) (hts (.initialized "java/lang/Math") (List.mem_cons_of_mem _ zw_58)) (hts (.code Lib.Math.max.name Lib.Math.max.code 2 (some .int)) (List.mem_cons_of_mem _ zw_272)) (Nat.le_of_ble_eq_true rfl) (Nat.le_of_ble_eq_true rfl) (Nat.le_of_ble_eq_true rfl) (Nat.le_of_ble_eq_true rfl) dX4_depthOf_70 ?_
  refine lv_topi (fun v91 ev91 => ?_)
  obtain rfl : v91 = 3 := ev91.trans (by decide)
  refine va_iast (D := (dC, dI)) (cl := vwCl) hx hb hK hP hD (zS0 hS) 7 0 rfl rfl (by unfold vp_in; decide) dX4_depthOf_73 (fun H92 locs hP hD hS1 => ?_)
  have hz : s.heap.size + 1 ≤ H92.size := Nat.le_trans hz hS1.1
  have hS := zSS hS hS1
  replace hP : va_P (dC, dI) vwCl [(mo, .inr (9, [th, .ref al, md, rf, kn])), (na0, .inl (cI, 4, .inl fn0)), (na1, .inl (cI, 4, .inl fn1)), (na2, .inl (cI, 4, .inl fn2)), (a3, .inr (8, [.int 4, .ref wa3, .ref na3])), (wa3, .inl (cI, 4, .inl fw3)), (na3, .inl (cI, 4, .inl fn3)), (q2, .inl (cI, 4, .inl (upd (upd (upd (upd (upd (upd (upd (upd (upd (fun _ => 0) 0 1) 1 1) 1 2) 1 2) 1 2) 1 2) 2 1) 2 3) 2 3))), (a0, .inr (8, [.int 4, .ref wa0, .ref na0])), (wa0, .inl (cI, 4, .inl fw0)), (a1, .inr (8, [.int 4, .ref wa1, .ref na1])), (wa1, .inl (cI, 4, .inl fw1)), (al, .inr (4, [mc, .ref ed, .int (nI cc)])), (ed, .inl (cO, 10, .inr (.inr (.inr (.inr ee))))), (a2, .inr (8, [.int 4, .ref wa2, .ref na2])), (wa2, .inl (cI, 4, .inl fw2))] H92 := hP
  replace hD : va_D A [(mo, .inr (9, [th, .ref al, md, rf, kn])), (na0, .inl (cI, 4, .inl fn0)), (na1, .inl (cI, 4, .inl fn1)), (na2, .inl (cI, 4, .inl fn2)), (a3, .inr (8, [.int 4, .ref wa3, .ref na3])), (wa3, .inl (cI, 4, .inl fw3)), (na3, .inl (cI, 4, .inl fn3)), (q2, .inl (cI, 4, .inl (upd (upd (upd (upd (upd (upd (upd (upd (upd (fun _ => 0) 0 1) 1 1) 1 2) 1 2) 1 2) 1 2) 2 1) 2 3) 2 3))), (a0, .inr (8, [.int 4, .ref wa0, .ref na0])), (wa0, .inl (cI, 4, .inl fw0)), (a1, .inr (8, [.int 4, .ref wa1, .ref na1])), (wa1, .inl (cI, 4, .inl fw1)), (al, .inr (4, [mc, .ref ed, .int (nI cc)])), (ed, .inl (cO, 10, .inr (.inr (.inr (.inr ee))))), (a2, .inr (8, [.int 4, .ref wa2, .ref na2])), (wa2, .inl (cI, 4, .inl fw2))] := hD
  refine lv_iinc (v := 2) (lv' := [(5, .int 2), (4, .ref a2), (3, .int 2), (2, .ref q2), (0, .ref mo), (1, .int 3)]) hx hb dX4_depthOf_74 hl (k := 0) rfl (by decide) (by decide) rfl (fun ls hl => ?_)
  refine lv_goto (tgt := 33) hx hb dX4_depthOf_77 (by decide) ?_
  refine lv_iload hx hb dX4_depthOf_33 (lv_at hl 0 rfl) ?_
  refine lv_aload hx hb dX4_depthOf_35 (lv_at hl 1 rfl) ?_
  have hPc := hP.sub (ws' := [(a2, .inr (8, [.int 4, .ref wa2, .ref na2])), (wa2, .inl (cI, 4, .inl fw2))]) [14, 15] rfl
  have hDc := hD.sub (ws' := [(a2, .inr (8, [.int 4, .ref wa2, .ref na2])), (wa2, .inl (cI, 4, .inl fw2))]) [14, 15] (by decide) rfl
  have hFc := va_free (wc := [(a2, .inr (8, [.int 4, .ref wa2, .ref na2])), (wa2, .inl (cI, 4, .inl fw2))]) hD hS hA [14, 15] rfl
  have hDv := hDc.self (sz := H92.size)
  have hpre := zpre (xs' := []) (av := [.ref a2]) hPc hK (hDc.weaken (fun _ _ _ h => h)) hZ hS hFc (fun r hr => by cases hr)
  refine va_calli (va_runV (As := []) (rest := [.int 2]) ⟨hx, hb, hml, hown, hts⟩ (k_rlen l dC dI cI cB cR cO zk a2 wa2 na2 fw2 H92.size ) (cwV 0 hts gX4_depthOf_X3_length rfl rfl rfl (by decide +kernel) ⟨Nat.le_of_ble_eq_true rfl, Nat.le_of_ble_eq_true rfl⟩) ⟨zblind, (zrecv_8 hK hPc (q0 := 0) rfl), hpre⟩ rfl rfl hl.1 rfl (lv_room (Nat.le_of_ble_eq_true rfl)) dX4_depthOf_37 ⟨Nat.le_of_ble_eq_true rfl, Nat.le_of_ble_eq_true rfl⟩) hS (fun q _ h => hFc q h) hFc (fun r94 u t H93 locs ht hvm hw hB hz1 hk1 hS => ?_)
  obtain rfl : 4 = r94 := (show r94 = 4 from hw).symm
  obtain ⟨hP1, hK1, hD1, hz2⟩ := hB
  rw [ht] at hP1 hz2
  have hPD9 := va_join (wr := [(mo, .inr (9, [th, .ref al, md, rf, kn])), (na0, .inl (cI, 4, .inl fn0)), (na1, .inl (cI, 4, .inl fn1)), (na2, .inl (cI, 4, .inl fn2)), (a3, .inr (8, [.int 4, .ref wa3, .ref na3])), (wa3, .inl (cI, 4, .inl fw3)), (na3, .inl (cI, 4, .inl fn3)), (q2, .inl (cI, 4, .inl (upd (upd (upd (upd (upd (upd (upd (upd (upd (fun _ => 0) 0 1) 1 1) 1 2) 1 2) 1 2) 1 2) 2 1) 2 3) 2 3))), (a0, .inr (8, [.int 4, .ref wa0, .ref na0])), (wa0, .inl (cI, 4, .inl fw0)), (a1, .inr (8, [.int 4, .ref wa1, .ref na1])), (wa1, .inl (cI, 4, .inl fw1)), (al, .inr (4, [mc, .ref ed, .int (nI cc)])), (ed, .inl (cO, 10, .inr (.inr (.inr (.inr ee)))))]) (w1 := [(a2, .inr (8, [.int 4, .ref wa2, .ref na2])), (wa2, .inl (cI, 4, .inl fw2))]) hP hD [14, 15] [0, 1, 2, 3, 4, 5, 6, 7, 8, 9, 10, 11, 12, 13] rfl rfl (by decide) (by decide) hk1 hFc hP1 hD1
  clear hPc hDc hFc hDv hpre hP hD hP1 hK1 hD1
  obtain ⟨hP, hD⟩ := hPD9
  replace hz : s.heap.size + 1 ≤ H93.size := by omega
  clear hz2
  replace hP : va_P (dC, dI) vwCl [(mo, .inr (9, [th, .ref al, md, rf, kn])), (na0, .inl (cI, 4, .inl fn0)), (na1, .inl (cI, 4, .inl fn1)), (na2, .inl (cI, 4, .inl fn2)), (a3, .inr (8, [.int 4, .ref wa3, .ref na3])), (wa3, .inl (cI, 4, .inl fw3)), (na3, .inl (cI, 4, .inl fn3)), (q2, .inl (cI, 4, .inl (upd (upd (upd (upd (upd (upd (upd (upd (upd (fun _ => 0) 0 1) 1 1) 1 2) 1 2) 1 2) 1 2) 2 1) 2 3) 2 3))), (a0, .inr (8, [.int 4, .ref wa0, .ref na0])), (wa0, .inl (cI, 4, .inl fw0)), (a1, .inr (8, [.int 4, .ref wa1, .ref na1])), (wa1, .inl (cI, 4, .inl fw1)), (al, .inr (4, [mc, .ref ed, .int (nI cc)])), (ed, .inl (cO, 10, .inr (.inr (.inr (.inr ee))))), (a2, .inr (8, [.int 4, .ref wa2, .ref na2])), (wa2, .inl (cI, 4, .inl fw2))] H93 := hP
  replace hD : va_D A [(mo, .inr (9, [th, .ref al, md, rf, kn])), (na0, .inl (cI, 4, .inl fn0)), (na1, .inl (cI, 4, .inl fn1)), (na2, .inl (cI, 4, .inl fn2)), (a3, .inr (8, [.int 4, .ref wa3, .ref na3])), (wa3, .inl (cI, 4, .inl fw3)), (na3, .inl (cI, 4, .inl fn3)), (q2, .inl (cI, 4, .inl (upd (upd (upd (upd (upd (upd (upd (upd (upd (fun _ => 0) 0 1) 1 1) 1 2) 1 2) 1 2) 1 2) 2 1) 2 3) 2 3))), (a0, .inr (8, [.int 4, .ref wa0, .ref na0])), (wa0, .inl (cI, 4, .inl fw0)), (a1, .inr (8, [.int 4, .ref wa1, .ref na1])), (wa1, .inl (cI, 4, .inl fw1)), (al, .inr (4, [mc, .ref ed, .int (nI cc)])), (ed, .inl (cO, 10, .inr (.inr (.inr (.inr ee))))), (a2, .inr (8, [.int 4, .ref wa2, .ref na2])), (wa2, .inl (cI, 4, .inl fw2))] := hD
  refine W.widen (k := 1) (n := 4) (by omega) (by omega) ?_
  refine lv_icmp_ge (tgt := 80) hx hb dX4_depthOf_40 (by decide) (fun c9 => ?_) (fun c9 => ?_)
  · exact absurd c9 (by decide)
  refine lv_aload hx hb dX4_depthOf_43 (lv_at hl 1 rfl) ?_
  refine lv_iload hx hb dX4_depthOf_45 (lv_at hl 0 rfl) ?_
  have hPc := hP.sub (ws' := [(a2, .inr (8, [.int 4, .ref wa2, .ref na2])), (wa2, .inl (cI, 4, .inl fw2))]) [14, 15] rfl
  have hDc := hD.sub (ws' := [(a2, .inr (8, [.int 4, .ref wa2, .ref na2])), (wa2, .inl (cI, 4, .inl fw2))]) [14, 15] (by decide) rfl
  have hFc := va_free (wc := [(a2, .inr (8, [.int 4, .ref wa2, .ref na2])), (wa2, .inl (cI, 4, .inl fw2))]) hD hS hA [14, 15] rfl
  have hDv := hDc.self (sz := H93.size)
  have hpre := zpre (xs' := []) (av := [.ref a2, .int 2]) hPc hK (hDc.weaken (fun _ _ _ h => h)) hZ hS hFc (fun r hr => by cases hr)
  refine va_calli (va_runV (As := [.int 2]) (rest := []) ⟨hx, hb, hml, hown, hts⟩ (k_mh2_3 l dC dI cI cB cR cO zk a2 wa2 na2 fw2 H93.size (hw2 2 (by decide))) (cwV 1 hts gX4_depthOf_X3_hangs rfl rfl rfl (by decide +kernel) ⟨Nat.le_of_ble_eq_true rfl, Nat.le_of_ble_eq_true rfl⟩) ⟨zblind, (zrecv_8 hK hPc (q0 := 0) rfl), hpre⟩ rfl rfl hl.1 rfl (lv_room (Nat.le_of_ble_eq_true rfl)) dX4_depthOf_47 ⟨Nat.le_of_ble_eq_true rfl, Nat.le_of_ble_eq_true rfl⟩) hS (fun q _ h => hFc q h) hFc (fun r96 u t H95 locs ht hvm hw hB hz1 hk1 hS => ?_)
  obtain rfl : 1 = r96 := (show r96 = 1 from hw).symm
  obtain ⟨hP1, hK1, hD1, hz2⟩ := hB
  rw [ht] at hP1 hz2
  have hPD9 := va_join (wr := [(mo, .inr (9, [th, .ref al, md, rf, kn])), (na0, .inl (cI, 4, .inl fn0)), (na1, .inl (cI, 4, .inl fn1)), (na2, .inl (cI, 4, .inl fn2)), (a3, .inr (8, [.int 4, .ref wa3, .ref na3])), (wa3, .inl (cI, 4, .inl fw3)), (na3, .inl (cI, 4, .inl fn3)), (q2, .inl (cI, 4, .inl (upd (upd (upd (upd (upd (upd (upd (upd (upd (fun _ => 0) 0 1) 1 1) 1 2) 1 2) 1 2) 1 2) 2 1) 2 3) 2 3))), (a0, .inr (8, [.int 4, .ref wa0, .ref na0])), (wa0, .inl (cI, 4, .inl fw0)), (a1, .inr (8, [.int 4, .ref wa1, .ref na1])), (wa1, .inl (cI, 4, .inl fw1)), (al, .inr (4, [mc, .ref ed, .int (nI cc)])), (ed, .inl (cO, 10, .inr (.inr (.inr (.inr ee)))))]) (w1 := [(a2, .inr (8, [.int 4, .ref wa2, .ref na2])), (wa2, .inl (cI, 4, .inl fw2))]) hP hD [14, 15] [0, 1, 2, 3, 4, 5, 6, 7, 8, 9, 10, 11, 12, 13] rfl rfl (by decide) (by decide) hk1 hFc hP1 hD1
  clear hPc hDc hFc hDv hpre hP hD hP1 hK1 hD1
  obtain ⟨hP, hD⟩ := hPD9
  replace hz : s.heap.size + 1 ≤ H95.size := by omega
  clear hz2
  replace hP : va_P (dC, dI) vwCl [(mo, .inr (9, [th, .ref al, md, rf, kn])), (na0, .inl (cI, 4, .inl fn0)), (na1, .inl (cI, 4, .inl fn1)), (na2, .inl (cI, 4, .inl fn2)), (a3, .inr (8, [.int 4, .ref wa3, .ref na3])), (wa3, .inl (cI, 4, .inl fw3)), (na3, .inl (cI, 4, .inl fn3)), (q2, .inl (cI, 4, .inl (upd (upd (upd (upd (upd (upd (upd (upd (upd (fun _ => 0) 0 1) 1 1) 1 2) 1 2) 1 2) 1 2) 2 1) 2 3) 2 3))), (a0, .inr (8, [.int 4, .ref wa0, .ref na0])), (wa0, .inl (cI, 4, .inl fw0)), (a1, .inr (8, [.int 4, .ref wa1, .ref na1])), (wa1, .inl (cI, 4, .inl fw1)), (al, .inr (4, [mc, .ref ed, .int (nI cc)])), (ed, .inl (cO, 10, .inr (.inr (.inr (.inr ee))))), (a2, .inr (8, [.int 4, .ref wa2, .ref na2])), (wa2, .inl (cI, 4, .inl fw2))] H95 := hP
  replace hD : va_D A [(mo, .inr (9, [th, .ref al, md, rf, kn])), (na0, .inl (cI, 4, .inl fn0)), (na1, .inl (cI, 4, .inl fn1)), (na2, .inl (cI, 4, .inl fn2)), (a3, .inr (8, [.int 4, .ref wa3, .ref na3])), (wa3, .inl (cI, 4, .inl fw3)), (na3, .inl (cI, 4, .inl fn3)), (q2, .inl (cI, 4, .inl (upd (upd (upd (upd (upd (upd (upd (upd (upd (fun _ => 0) 0 1) 1 1) 1 2) 1 2) 1 2) 1 2) 2 1) 2 3) 2 3))), (a0, .inr (8, [.int 4, .ref wa0, .ref na0])), (wa0, .inl (cI, 4, .inl fw0)), (a1, .inr (8, [.int 4, .ref wa1, .ref na1])), (wa1, .inl (cI, 4, .inl fw1)), (al, .inr (4, [mc, .ref ed, .int (nI cc)])), (ed, .inl (cO, 10, .inr (.inr (.inr (.inr ee))))), (a2, .inr (8, [.int 4, .ref wa2, .ref na2])), (wa2, .inl (cI, 4, .inl fw2))] := hD
  refine W.widen (k := 1) (n := 4) (by omega) (by omega) ?_
  refine lv_if_eq (tgt := 74) hx hb dX4_depthOf_50 (by decide) (fun c9 => ?_) (fun c9 => ?_)
  · exact absurd c9 (by decide)
  refine lv_aload_n hx hb dX4_depthOf_53 rfl (lv_at hl 3 rfl) ?_
  refine lv_iload_n hx hb dX4_depthOf_54 rfl (lv_at hl 2 rfl) ?_
  refine lv_aload_n hx hb dX4_depthOf_55 rfl (lv_at hl 3 rfl) ?_
  refine lv_iload_n hx hb dX4_depthOf_56 rfl (lv_at hl 2 rfl) ?_
  refine va_iald (D := (dC, dI)) (cl := vwCl) hx hb hK hP 7 0 rfl rfl (by unfold vp_in; decide) dX4_depthOf_57 ?_
  refine lv_topi (fun v97 ev97 => ?_)
  obtain rfl : v97 = 3 := ev97.trans (rfl)
  refine lv_iconst (v := 1) hx hb dX4_depthOf_58 (by decide) ?_
  refine lv_aload_n hx hb dX4_depthOf_59 rfl (lv_at hl 3 rfl) ?_
  refine lv_aload hx hb dX4_depthOf_60 (lv_at hl 1 rfl) ?_
  refine va_get (D := (dC, dI)) (ci := 8) (v := .ref na2) (C := RX3) (T := TX3) (N := 3) hx hb hts hi_X4_depthOf_X3 hown hK hP 14 rfl rfl 2 (by decide) (hts (.fieldLink RX4 48 "DeeprowsModel$Row" "numbers" "[I") (List.mem_cons_of_mem _ zw_1180)) (fun _ h9 => h9) rfl dX4_depthOf_62 ?_
  refine lv_iload hx hb dX4_depthOf_65 (lv_at hl 0 rfl) ?_
  refine va_iald (D := (dC, dI)) (cl := vwCl) hx hb hK hP 3 0 rfl rfl (by unfold vp_in; decide) dX4_depthOf_67 ?_
  refine lv_topi (fun v98 ev98 => ?_)
  obtain rfl : v98 = 1 := ev98.trans (hn2 2 (by decide))
  refine va_iald (D := (dC, dI)) (cl := vwCl) hx hb hK hP 7 0 rfl rfl (by unfold vp_in; decide) dX4_depthOf_68 ?_
  refine lv_topi (fun v99 ev99 => ?_)
  obtain rfl : v99 = 2 := ev99.trans (rfl)
  refine lv_iadd hx hb dX4_depthOf_69 ?_
  refine lv_topi (fun v100 ev100 => ?_)
  obtain rfl : v100 = 3 := ev100.trans (by decide)
  refine va_mmax (x := 3) (y := 3) hx hb (hml.trans hl.1.symm) hown (hts (.methodLink RX4 52 Lib.Math.max.name) (List.mem_cons_of_mem _ zw_1264)) (hts (.static Lib.Math.max.name) (List.mem_cons_of_mem _ zw_271)) (hts (.initialized "java/lang/Math") (List.mem_cons_of_mem _ zw_58)) (hts (.code Lib.Math.max.name Lib.Math.max.code 2 (some .int)) (List.mem_cons_of_mem _ zw_272)) (Nat.le_of_ble_eq_true rfl) (Nat.le_of_ble_eq_true rfl) (Nat.le_of_ble_eq_true rfl) (Nat.le_of_ble_eq_true rfl) dX4_depthOf_70 ?_
  refine lv_topi (fun v101 ev101 => ?_)
  obtain rfl : v101 = 3 := ev101.trans (by decide)
  refine va_iast (D := (dC, dI)) (cl := vwCl) hx hb hK hP hD (zS0 hS) 7 0 rfl rfl (by unfold vp_in; decide) dX4_depthOf_73 (fun H102 locs hP hD hS1 => ?_)
  have hz : s.heap.size + 1 ≤ H102.size := Nat.le_trans hz hS1.1
  have hS := zSS hS hS1
  replace hP : va_P (dC, dI) vwCl [(mo, .inr (9, [th, .ref al, md, rf, kn])), (na0, .inl (cI, 4, .inl fn0)), (na1, .inl (cI, 4, .inl fn1)), (na2, .inl (cI, 4, .inl fn2)), (a3, .inr (8, [.int 4, .ref wa3, .ref na3])), (wa3, .inl (cI, 4, .inl fw3)), (na3, .inl (cI, 4, .inl fn3)), (q2, .inl (cI, 4, .inl (upd (upd (upd (upd (upd (upd (upd (upd (upd (upd (fun _ => 0) 0 1) 1 1) 1 2) 1 2) 1 2) 1 2) 2 1) 2 3) 2 3) 2 3))), (a0, .inr (8, [.int 4, .ref wa0, .ref na0])), (wa0, .inl (cI, 4, .inl fw0)), (a1, .inr (8, [.int 4, .ref wa1, .ref na1])), (wa1, .inl (cI, 4, .inl fw1)), (al, .inr (4, [mc, .ref ed, .int (nI cc)])), (ed, .inl (cO, 10, .inr (.inr (.inr (.inr ee))))), (a2, .inr (8, [.int 4, .ref wa2, .ref na2])), (wa2, .inl (cI, 4, .inl fw2))] H102 := hP
  replace hD : va_D A [(mo, .inr (9, [th, .ref al, md, rf, kn])), (na0, .inl (cI, 4, .inl fn0)), (na1, .inl (cI, 4, .inl fn1)), (na2, .inl (cI, 4, .inl fn2)), (a3, .inr (8, [.int 4, .ref wa3, .ref na3])), (wa3, .inl (cI, 4, .inl fw3)), (na3, .inl (cI, 4, .inl fn3)), (q2, .inl (cI, 4, .inl (upd (upd (upd (upd (upd (upd (upd (upd (upd (upd (fun _ => 0) 0 1) 1 1) 1 2) 1 2) 1 2) 1 2) 2 1) 2 3) 2 3) 2 3))), (a0, .inr (8, [.int 4, .ref wa0, .ref na0])), (wa0, .inl (cI, 4, .inl fw0)), (a1, .inr (8, [.int 4, .ref wa1, .ref na1])), (wa1, .inl (cI, 4, .inl fw1)), (al, .inr (4, [mc, .ref ed, .int (nI cc)])), (ed, .inl (cO, 10, .inr (.inr (.inr (.inr ee))))), (a2, .inr (8, [.int 4, .ref wa2, .ref na2])), (wa2, .inl (cI, 4, .inl fw2))] := hD
  refine lv_iinc (v := 3) (lv' := [(5, .int 3), (4, .ref a2), (3, .int 2), (2, .ref q2), (0, .ref mo), (1, .int 3)]) hx hb dX4_depthOf_74 hl (k := 0) rfl (by decide) (by decide) rfl (fun ls hl => ?_)
  refine lv_goto (tgt := 33) hx hb dX4_depthOf_77 (by decide) ?_
  refine lv_iload hx hb dX4_depthOf_33 (lv_at hl 0 rfl) ?_
  refine lv_aload hx hb dX4_depthOf_35 (lv_at hl 1 rfl) ?_
  have hPc := hP.sub (ws' := [(a2, .inr (8, [.int 4, .ref wa2, .ref na2])), (wa2, .inl (cI, 4, .inl fw2))]) [14, 15] rfl
  have hDc := hD.sub (ws' := [(a2, .inr (8, [.int 4, .ref wa2, .ref na2])), (wa2, .inl (cI, 4, .inl fw2))]) [14, 15] (by decide) rfl
  have hFc := va_free (wc := [(a2, .inr (8, [.int 4, .ref wa2, .ref na2])), (wa2, .inl (cI, 4, .inl fw2))]) hD hS hA [14, 15] rfl
  have hDv := hDc.self (sz := H102.size)
  have hpre := zpre (xs' := []) (av := [.ref a2]) hPc hK (hDc.weaken (fun _ _ _ h => h)) hZ hS hFc (fun r hr => by cases hr)
  refine va_calli (va_runV (As := []) (rest := [.int 3]) ⟨hx, hb, hml, hown, hts⟩ (k_rlen l dC dI cI cB cR cO zk a2 wa2 na2 fw2 H102.size ) (cwV 0 hts gX4_depthOf_X3_length rfl rfl rfl (by decide +kernel) ⟨Nat.le_of_ble_eq_true rfl, Nat.le_of_ble_eq_true rfl⟩) ⟨zblind, (zrecv_8 hK hPc (q0 := 0) rfl), hpre⟩ rfl rfl hl.1 rfl (lv_room (Nat.le_of_ble_eq_true rfl)) dX4_depthOf_37 ⟨Nat.le_of_ble_eq_true rfl, Nat.le_of_ble_eq_true rfl⟩) hS (fun q _ h => hFc q h) hFc (fun r104 u t H103 locs ht hvm hw hB hz1 hk1 hS => ?_)
  obtain rfl : 4 = r104 := (show r104 = 4 from hw).symm
  obtain ⟨hP1, hK1, hD1, hz2⟩ := hB
  rw [ht] at hP1 hz2
  have hPD9 := va_join (wr := [(mo, .inr (9, [th, .ref al, md, rf, kn])), (na0, .inl (cI, 4, .inl fn0)), (na1, .inl (cI, 4, .inl fn1)), (na2, .inl (cI, 4, .inl fn2)), (a3, .inr (8, [.int 4, .ref wa3, .ref na3])), (wa3, .inl (cI, 4, .inl fw3)), (na3, .inl (cI, 4, .inl fn3)), (q2, .inl (cI, 4, .inl (upd (upd (upd (upd (upd (upd (upd (upd (upd (upd (fun _ => 0) 0 1) 1 1) 1 2) 1 2) 1 2) 1 2) 2 1) 2 3) 2 3) 2 3))), (a0, .inr (8, [.int 4, .ref wa0, .ref na0])), (wa0, .inl (cI, 4, .inl fw0)), (a1, .inr (8, [.int 4, .ref wa1, .ref na1])), (wa1, .inl (cI, 4, .inl fw1)), (al, .inr (4, [mc, .ref ed, .int (nI cc)])), (ed, .inl (cO, 10, .inr (.inr (.inr (.inr ee)))))]) (w1 := [(a2, .inr (8, [.int 4, .ref wa2, .ref na2])), (wa2, .inl (cI, 4, .inl fw2))]) hP hD [14, 15] [0, 1, 2, 3, 4, 5, 6, 7, 8, 9, 10, 11, 12, 13] rfl rfl (by decide) (by decide) hk1 hFc hP1 hD1
  clear hPc hDc hFc hDv hpre hP hD hP1 hK1 hD1
  obtain ⟨hP, hD⟩ := hPD9
  replace hz : s.heap.size + 1 ≤ H103.size := by omega
  clear hz2
  replace hP : va_P (dC, dI) vwCl [(mo, .inr (9, [th, .ref al, md, rf, kn])), (na0, .inl (cI, 4, .inl fn0)), (na1, .inl (cI, 4, .inl fn1)), (na2, .inl (cI, 4, .inl fn2)), (a3, .inr (8, [.int 4, .ref wa3, .ref na3])), (wa3, .inl (cI, 4, .inl fw3)), (na3, .inl (cI, 4, .inl fn3)), (q2, .inl (cI, 4, .inl (upd (upd (upd (upd (upd (upd (upd (upd (upd (upd (fun _ => 0) 0 1) 1 1) 1 2) 1 2) 1 2) 1 2) 2 1) 2 3) 2 3) 2 3))), (a0, .inr (8, [.int 4, .ref wa0, .ref na0])), (wa0, .inl (cI, 4, .inl fw0)), (a1, .inr (8, [.int 4, .ref wa1, .ref na1])), (wa1, .inl (cI, 4, .inl fw1)), (al, .inr (4, [mc, .ref ed, .int (nI cc)])), (ed, .inl (cO, 10, .inr (.inr (.inr (.inr ee))))), (a2, .inr (8, [.int 4, .ref wa2, .ref na2])), (wa2, .inl (cI, 4, .inl fw2))] H103 := hP
  replace hD : va_D A [(mo, .inr (9, [th, .ref al, md, rf, kn])), (na0, .inl (cI, 4, .inl fn0)), (na1, .inl (cI, 4, .inl fn1)), (na2, .inl (cI, 4, .inl fn2)), (a3, .inr (8, [.int 4, .ref wa3, .ref na3])), (wa3, .inl (cI, 4, .inl fw3)), (na3, .inl (cI, 4, .inl fn3)), (q2, .inl (cI, 4, .inl (upd (upd (upd (upd (upd (upd (upd (upd (upd (upd (fun _ => 0) 0 1) 1 1) 1 2) 1 2) 1 2) 1 2) 2 1) 2 3) 2 3) 2 3))), (a0, .inr (8, [.int 4, .ref wa0, .ref na0])), (wa0, .inl (cI, 4, .inl fw0)), (a1, .inr (8, [.int 4, .ref wa1, .ref na1])), (wa1, .inl (cI, 4, .inl fw1)), (al, .inr (4, [mc, .ref ed, .int (nI cc)])), (ed, .inl (cO, 10, .inr (.inr (.inr (.inr ee))))), (a2, .inr (8, [.int 4, .ref wa2, .ref na2])), (wa2, .inl (cI, 4, .inl fw2))] := hD
  refine W.widen (k := 1) (n := 4) (by omega) (by omega) ?_
  refine lv_icmp_ge (tgt := 80) hx hb dX4_depthOf_40 (by decide) (fun c9 => ?_) (fun c9 => ?_)
  · exact absurd c9 (by decide)
  refine lv_aload hx hb dX4_depthOf_43 (lv_at hl 1 rfl) ?_
  refine lv_iload hx hb dX4_depthOf_45 (lv_at hl 0 rfl) ?_
  have hPc := hP.sub (ws' := [(a2, .inr (8, [.int 4, .ref wa2, .ref na2])), (wa2, .inl (cI, 4, .inl fw2))]) [14, 15] rfl
  have hDc := hD.sub (ws' := [(a2, .inr (8, [.int 4, .ref wa2, .ref na2])), (wa2, .inl (cI, 4, .inl fw2))]) [14, 15] (by decide) rfl
  have hFc := va_free (wc := [(a2, .inr (8, [.int 4, .ref wa2, .ref na2])), (wa2, .inl (cI, 4, .inl fw2))]) hD hS hA [14, 15] rfl
  have hDv := hDc.self (sz := H103.size)
  have hpre := zpre (xs' := []) (av := [.ref a2, .int 3]) hPc hK (hDc.weaken (fun _ _ _ h => h)) hZ hS hFc (fun r hr => by cases hr)
  refine va_calli (va_runV (As := [.int 3]) (rest := []) ⟨hx, hb, hml, hown, hts⟩ (k_mh3_3 l dC dI cI cB cR cO zk a2 wa2 na2 fw2 H103.size (hw2 3 (by decide))) (cwV 1 hts gX4_depthOf_X3_hangs rfl rfl rfl (by decide +kernel) ⟨Nat.le_of_ble_eq_true rfl, Nat.le_of_ble_eq_true rfl⟩) ⟨zblind, (zrecv_8 hK hPc (q0 := 0) rfl), hpre⟩ rfl rfl hl.1 rfl (lv_room (Nat.le_of_ble_eq_true rfl)) dX4_depthOf_47 ⟨Nat.le_of_ble_eq_true rfl, Nat.le_of_ble_eq_true rfl⟩) hS (fun q _ h => hFc q h) hFc (fun r106 u t H105 locs ht hvm hw hB hz1 hk1 hS => ?_)
  obtain rfl : 1 = r106 := (show r106 = 1 from hw).symm
  obtain ⟨hP1, hK1, hD1, hz2⟩ := hB
  rw [ht] at hP1 hz2
  have hPD9 := va_join (wr := [(mo, .inr (9, [th, .ref al, md, rf, kn])), (na0, .inl (cI, 4, .inl fn0)), (na1, .inl (cI, 4, .inl fn1)), (na2, .inl (cI, 4, .inl fn2)), (a3, .inr (8, [.int 4, .ref wa3, .ref na3])), (wa3, .inl (cI, 4, .inl fw3)), (na3, .inl (cI, 4, .inl fn3)), (q2, .inl (cI, 4, .inl (upd (upd (upd (upd (upd (upd (upd (upd (upd (upd (fun _ => 0) 0 1) 1 1) 1 2) 1 2) 1 2) 1 2) 2 1) 2 3) 2 3) 2 3))), (a0, .inr (8, [.int 4, .ref wa0, .ref na0])), (wa0, .inl (cI, 4, .inl fw0)), (a1, .inr (8, [.int 4, .ref wa1, .ref na1])), (wa1, .inl (cI, 4, .inl fw1)), (al, .inr (4, [mc, .ref ed, .int (nI cc)])), (ed, .inl (cO, 10, .inr (.inr (.inr (.inr ee)))))]) (w1 := [(a2, .inr (8, [.int 4, .ref wa2, .ref na2])), (wa2, .inl (cI, 4, .inl fw2))]) hP hD [14, 15] [0, 1, 2, 3, 4, 5, 6, 7, 8, 9, 10, 11, 12, 13] rfl rfl (by decide) (by decide) hk1 hFc hP1 hD1
  clear hPc hDc hFc hDv hpre hP hD hP1 hK1 hD1
  obtain ⟨hP, hD⟩ := hPD9
  replace hz : s.heap.size + 1 ≤ H105.size := by omega
  clear hz2
  replace hP : va_P (dC, dI) vwCl [(mo, .inr (9, [th, .ref al, md, rf, kn])), (na0, .inl (cI, 4, .inl fn0)), (na1, .inl (cI, 4, .inl fn1)), (na2, .inl (cI, 4, .inl fn2)), (a3, .inr (8, [.int 4, .ref wa3, .ref na3])), (wa3, .inl (cI, 4, .inl fw3)), (na3, .inl (cI, 4, .inl fn3)), (q2, .inl (cI, 4, .inl (upd (upd (upd (upd (upd (upd (upd (upd (upd (upd (fun _ => 0) 0 1) 1 1) 1 2) 1 2) 1 2) 1 2) 2 1) 2 3) 2 3) 2 3))), (a0, .inr (8, [.int 4, .ref wa0, .ref na0])), (wa0, .inl (cI, 4, .inl fw0)), (a1, .inr (8, [.int 4, .ref wa1, .ref na1])), (wa1, .inl (cI, 4, .inl fw1)), (al, .inr (4, [mc, .ref ed, .int (nI cc)])), (ed, .inl (cO, 10, .inr (.inr (.inr (.inr ee))))), (a2, .inr (8, [.int 4, .ref wa2, .ref na2])), (wa2, .inl (cI, 4, .inl fw2))] H105 := hP
  replace hD : va_D A [(mo, .inr (9, [th, .ref al, md, rf, kn])), (na0, .inl (cI, 4, .inl fn0)), (na1, .inl (cI, 4, .inl fn1)), (na2, .inl (cI, 4, .inl fn2)), (a3, .inr (8, [.int 4, .ref wa3, .ref na3])), (wa3, .inl (cI, 4, .inl fw3)), (na3, .inl (cI, 4, .inl fn3)), (q2, .inl (cI, 4, .inl (upd (upd (upd (upd (upd (upd (upd (upd (upd (upd (fun _ => 0) 0 1) 1 1) 1 2) 1 2) 1 2) 1 2) 2 1) 2 3) 2 3) 2 3))), (a0, .inr (8, [.int 4, .ref wa0, .ref na0])), (wa0, .inl (cI, 4, .inl fw0)), (a1, .inr (8, [.int 4, .ref wa1, .ref na1])), (wa1, .inl (cI, 4, .inl fw1)), (al, .inr (4, [mc, .ref ed, .int (nI cc)])), (ed, .inl (cO, 10, .inr (.inr (.inr (.inr ee))))), (a2, .inr (8, [.int 4, .ref wa2, .ref na2])), (wa2, .inl (cI, 4, .inl fw2))] := hD
  refine W.widen (k := 1) (n := 4) (by omega) (by omega) ?_
  refine lv_if_eq (tgt := 74) hx hb dX4_depthOf_50 (by decide) (fun c9 => ?_) (fun c9 => ?_)
  · exact absurd c9 (by decide)
  refine lv_aload_n hx hb dX4_depthOf_53 rfl (lv_at hl 3 rfl) ?_
  refine lv_iload_n hx hb dX4_depthOf_54 rfl (lv_at hl 2 rfl) ?_
  refine lv_aload_n hx hb dX4_depthOf_55 rfl (lv_at hl 3 rfl) ?_
  refine lv_iload_n hx hb dX4_depthOf_56 rfl (lv_at hl 2 rfl) ?_
  refine va_iald (D := (dC, dI)) (cl := vwCl) hx hb hK hP 7 0 rfl rfl (by unfold vp_in; decide) dX4_depthOf_57 ?_
  refine lv_topi (fun v107 ev107 => ?_)
  obtain rfl : v107 = 3 := ev107.trans (rfl)
  refine lv_iconst (v := 1) hx hb dX4_depthOf_58 (by decide) ?_
  refine lv_aload_n hx hb dX4_depthOf_59 rfl (lv_at hl 3 rfl) ?_
  refine lv_aload hx hb dX4_depthOf_60 (lv_at hl 1 rfl) ?_
  refine va_get (D := (dC, dI)) (ci := 8) (v := .ref na2) (C := RX3) (T := TX3) (N := 3) hx hb hts hi_X4_depthOf_X3 hown hK hP 14 rfl rfl 2 (by decide) (hts (.fieldLink RX4 48 "DeeprowsModel$Row" "numbers" "[I") (List.mem_cons_of_mem _ zw_1180)) (fun _ h9 => h9) rfl dX4_depthOf_62 ?_
  refine lv_iload hx hb dX4_depthOf_65 (lv_at hl 0 rfl) ?_
  refine va_iald (D := (dC, dI)) (cl := vwCl) hx hb hK hP 3 0 rfl rfl (by unfold vp_in; decide) dX4_depthOf_67 ?_
  refine lv_topi (fun v108 ev108 => ?_)
  obtain rfl : v108 = 1 := ev108.trans (hn2 3 (by decide))
  refine va_iald (D := (dC, dI)) (cl := vwCl) hx hb hK hP 7 0 rfl rfl (by unfold vp_in; decide) dX4_depthOf_68 ?_
  refine lv_topi (fun v109 ev109 => ?_)
  obtain rfl : v109 = 2 := ev109.trans (rfl)
  refine lv_iadd hx hb dX4_depthOf_69 ?_
  refine lv_topi (fun v110 ev110 => ?_)
  obtain rfl : v110 = 3 := ev110.trans (by decide)
  refine va_mmax (x := 3) (y := 3) hx hb (hml.trans hl.1.symm) hown (hts (.methodLink RX4 52 Lib.Math.max.name) (List.mem_cons_of_mem _ zw_1264)) (hts (.static Lib.Math.max.name) (List.mem_cons_of_mem _ zw_271)) (hts (.initialized "java/lang/Math") (List.mem_cons_of_mem _ zw_58)) (hts (.code Lib.Math.max.name Lib.Math.max.code 2 (some .int)) (List.mem_cons_of_mem _ zw_272)) (Nat.le_of_ble_eq_true rfl) (Nat.le_of_ble_eq_true rfl) (Nat.le_of_ble_eq_true rfl) (Nat.le_of_ble_eq_true rfl) dX4_depthOf_70 ?_
  refine lv_topi (fun v111 ev111 => ?_)
  obtain rfl : v111 = 3 := ev111.trans (by decide)
  refine va_iast (D := (dC, dI)) (cl := vwCl) hx hb hK hP hD (zS0 hS) 7 0 rfl rfl (by unfold vp_in; decide) dX4_depthOf_73 (fun H112 locs hP hD hS1 => ?_)
  have hz : s.heap.size + 1 ≤ H112.size := Nat.le_trans hz hS1.1
  have hS := zSS hS hS1
  replace hP : va_P (dC, dI) vwCl [(mo, .inr (9, [th, .ref al, md, rf, kn])), (na0, .inl (cI, 4, .inl fn0)), (na1, .inl (cI, 4, .inl fn1)), (na2, .inl (cI, 4, .inl fn2)), (a3, .inr (8, [.int 4, .ref wa3, .ref na3])), (wa3, .inl (cI, 4, .inl fw3)), (na3, .inl (cI, 4, .inl fn3)), (q2, .inl (cI, 4, .inl (upd (upd (upd (upd (upd (upd (upd (upd (upd (upd (upd (fun _ => 0) 0 1) 1 1) 1 2) 1 2) 1 2) 1 2) 2 1) 2 3) 2 3) 2 3) 2 3))), (a0, .inr (8, [.int 4, .ref wa0, .ref na0])), (wa0, .inl (cI, 4, .inl fw0)), (a1, .inr (8, [.int 4, .ref wa1, .ref na1])), (wa1, .inl (cI, 4, .inl fw1)), (al, .inr (4, [mc, .ref ed, .int (nI cc)])), (ed, .inl (cO, 10, .inr (.inr (.inr (.inr ee))))), (a2, .inr (8, [.int 4, .ref wa2, .ref na2])), (wa2, .inl (cI, 4, .inl fw2))] H112 := hP
  replace hD : va_D A [(mo, .inr (9, [th, .ref al, md, rf, kn])), (na0, .inl (cI, 4, .inl fn0)), (na1, .inl (cI, 4, .inl fn1)), (na2, .inl (cI, 4, .inl fn2)), (a3, .inr (8, [.int 4, .ref wa3, .ref na3])), (wa3, .inl (cI, 4, .inl fw3)), (na3, .inl (cI, 4, .inl fn3)), (q2, .inl (cI, 4, .inl (upd (upd (upd (upd (upd (upd (upd (upd (upd (upd (upd (fun _ => 0) 0 1) 1 1) 1 2) 1 2) 1 2) 1 2) 2 1) 2 3) 2 3) 2 3) 2 3))), (a0, .inr (8, [.int 4, .ref wa0, .ref na0])), (wa0, .inl (cI, 4, .inl fw0)), (a1, .inr (8, [.int 4, .ref wa1, .ref na1])), (wa1, .inl (cI, 4, .inl fw1)), (al, .inr (4, [mc, .ref ed, .int (nI cc)])), (ed, .inl (cO, 10, .inr (.inr (.inr (.inr ee))))), (a2, .inr (8, [.int 4, .ref wa2, .ref na2])), (wa2, .inl (cI, 4, .inl fw2))] := hD
  refine lv_iinc (v := 4) (lv' := [(5, .int 4), (4, .ref a2), (3, .int 2), (2, .ref q2), (0, .ref mo), (1, .int 3)]) hx hb dX4_depthOf_74 hl (k := 0) rfl (by decide) (by decide) rfl (fun ls hl => ?_)
  refine lv_goto (tgt := 33) hx hb dX4_depthOf_77 (by decide) ?_
  refine lv_iload hx hb dX4_depthOf_33 (lv_at hl 0 rfl) ?_
  refine lv_aload hx hb dX4_depthOf_35 (lv_at hl 1 rfl) ?_
  have hPc := hP.sub (ws' := [(a2, .inr (8, [.int 4, .ref wa2, .ref na2])), (wa2, .inl (cI, 4, .inl fw2))]) [14, 15] rfl
  have hDc := hD.sub (ws' := [(a2, .inr (8, [.int 4, .ref wa2, .ref na2])), (wa2, .inl (cI, 4, .inl fw2))]) [14, 15] (by decide) rfl
  have hFc := va_free (wc := [(a2, .inr (8, [.int 4, .ref wa2, .ref na2])), (wa2, .inl (cI, 4, .inl fw2))]) hD hS hA [14, 15] rfl
  have hDv := hDc.self (sz := H112.size)
  have hpre := zpre (xs' := []) (av := [.ref a2]) hPc hK (hDc.weaken (fun _ _ _ h => h)) hZ hS hFc (fun r hr => by cases hr)
  refine va_calli (va_runV (As := []) (rest := [.int 4]) ⟨hx, hb, hml, hown, hts⟩ (k_rlen l dC dI cI cB cR cO zk a2 wa2 na2 fw2 H112.size ) (cwV 0 hts gX4_depthOf_X3_length rfl rfl rfl (by decide +kernel) ⟨Nat.le_of_ble_eq_true rfl, Nat.le_of_ble_eq_true rfl⟩) ⟨zblind, (zrecv_8 hK hPc (q0 := 0) rfl), hpre⟩ rfl rfl hl.1 rfl (lv_room (Nat.le_of_ble_eq_true rfl)) dX4_depthOf_37 ⟨Nat.le_of_ble_eq_true rfl, Nat.le_of_ble_eq_true rfl⟩) hS (fun q _ h => hFc q h) hFc (fun r114 u t H113 locs ht hvm hw hB hz1 hk1 hS => ?_)
  obtain rfl : 4 = r114 := (show r114 = 4 from hw).symm
  obtain ⟨hP1, hK1, hD1, hz2⟩ := hB
  rw [ht] at hP1 hz2
  have hPD9 := va_join (wr := [(mo, .inr (9, [th, .ref al, md, rf, kn])), (na0, .inl (cI, 4, .inl fn0)), (na1, .inl (cI, 4, .inl fn1)), (na2, .inl (cI, 4, .inl fn2)), (a3, .inr (8, [.int 4, .ref wa3, .ref na3])), (wa3, .inl (cI, 4, .inl fw3)), (na3, .inl (cI, 4, .inl fn3)), (q2, .inl (cI, 4, .inl (upd (upd (upd (upd (upd (upd (upd (upd (upd (upd (upd (fun _ => 0) 0 1) 1 1) 1 2) 1 2) 1 2) 1 2) 2 1) 2 3) 2 3) 2 3) 2 3))), (a0, .inr (8, [.int 4, .ref wa0, .ref na0])), (wa0, .inl (cI, 4, .inl fw0)), (a1, .inr (8, [.int 4, .ref wa1, .ref na1])), (wa1, .inl (cI, 4, .inl fw1)), (al, .inr (4, [mc, .ref ed, .int (nI cc)])), (ed, .inl (cO, 10, .inr (.inr (.inr (.inr ee)))))]) (w1 := [(a2, .inr (8, [.int 4, .ref wa2, .ref na2])), (wa2, .inl (cI, 4, .inl fw2))]) hP hD [14, 15] [0, 1, 2, 3, 4, 5, 6, 7, 8, 9, 10, 11, 12, 13] rfl rfl (by decide) (by decide) hk1 hFc hP1 hD1
  clear hPc hDc hFc hDv hpre hP hD hP1 hK1 hD1
  obtain ⟨hP, hD⟩ := hPD9
  replace hz : s.heap.size + 1 ≤ H113.size := by omega
  clear hz2
  replace hP : va_P (dC, dI) vwCl [(mo, .inr (9, [th, .ref al, md, rf, kn])), (na0, .inl (cI, 4, .inl fn0)), (na1, .inl (cI, 4, .inl fn1)), (na2, .inl (cI, 4, .inl fn2)), (a3, .inr (8, [.int 4, .ref wa3, .ref na3])), (wa3, .inl (cI, 4, .inl fw3)), (na3, .inl (cI, 4, .inl fn3)), (q2, .inl (cI, 4, .inl (upd (upd (upd (upd (upd (upd (upd (upd (upd (upd (upd (fun _ => 0) 0 1) 1 1) 1 2) 1 2) 1 2) 1 2) 2 1) 2 3) 2 3) 2 3) 2 3))), (a0, .inr (8, [.int 4, .ref wa0, .ref na0])), (wa0, .inl (cI, 4, .inl fw0)), (a1, .inr (8, [.int 4, .ref wa1, .ref na1])), (wa1, .inl (cI, 4, .inl fw1)), (al, .inr (4, [mc, .ref ed, .int (nI cc)])), (ed, .inl (cO, 10, .inr (.inr (.inr (.inr ee))))), (a2, .inr (8, [.int 4, .ref wa2, .ref na2])), (wa2, .inl (cI, 4, .inl fw2))] H113 := hP
  replace hD : va_D A [(mo, .inr (9, [th, .ref al, md, rf, kn])), (na0, .inl (cI, 4, .inl fn0)), (na1, .inl (cI, 4, .inl fn1)), (na2, .inl (cI, 4, .inl fn2)), (a3, .inr (8, [.int 4, .ref wa3, .ref na3])), (wa3, .inl (cI, 4, .inl fw3)), (na3, .inl (cI, 4, .inl fn3)), (q2, .inl (cI, 4, .inl (upd (upd (upd (upd (upd (upd (upd (upd (upd (upd (upd (fun _ => 0) 0 1) 1 1) 1 2) 1 2) 1 2) 1 2) 2 1) 2 3) 2 3) 2 3) 2 3))), (a0, .inr (8, [.int 4, .ref wa0, .ref na0])), (wa0, .inl (cI, 4, .inl fw0)), (a1, .inr (8, [.int 4, .ref wa1, .ref na1])), (wa1, .inl (cI, 4, .inl fw1)), (al, .inr (4, [mc, .ref ed, .int (nI cc)])), (ed, .inl (cO, 10, .inr (.inr (.inr (.inr ee))))), (a2, .inr (8, [.int 4, .ref wa2, .ref na2])), (wa2, .inl (cI, 4, .inl fw2))] := hD
  refine W.widen (k := 1) (n := 4) (by omega) (by omega) ?_
  refine lv_icmp_ge (tgt := 80) hx hb dX4_depthOf_40 (by decide) (fun c9 => ?_) (fun c9 => ?_)
  rotate_left
  · exact absurd (by decide) c9
  refine lv_iinc (v := 3) (lv' := [(3, .int 3), (5, .int 4), (4, .ref a2), (2, .ref q2), (0, .ref mo), (1, .int 3)]) hx hb dX4_depthOf_80 hl (k := 2) rfl (by decide) (by decide) rfl (fun ls hl => ?_)
  refine lv_goto (tgt := 8) hx hb dX4_depthOf_83 (by decide) ?_
  refine lv_iload_n hx hb dX4_depthOf_8 rfl (lv_at hl 0 rfl) ?_
  refine lv_iload_n hx hb dX4_depthOf_9 rfl (lv_at hl 5 rfl) ?_
  refine lv_icmp_gt (tgt := 86) hx hb dX4_depthOf_10 (by decide) (fun c9 => ?_) (fun c9 => ?_)
  · exact absurd c9 (by decide)
  refine lv_aload_n hx hb dX4_depthOf_13 rfl (lv_at hl 4 rfl) ?_
  refine va_get (D := (dC, dI)) (ci := 9) (v := .ref al) (C := RX4) (T := TX4) (N := 5) hx hb hts hi_X4_depthOf_X4 hown hK hP 0 rfl rfl 1 (by decide) (hts (.fieldLink RX4 10 "DeeprowsModel" "rows" "Ljava/util/ArrayList;") (List.mem_cons_of_mem _ zw_1134)) (fun _ h9 => h9) rfl dX4_depthOf_14 ?_
  refine lv_iload_n hx hb dX4_depthOf_17 rfl (lv_at hl 0 rfl) ?_
  have hPc := hP.sub (ws' := [(al, .inr (4, [mc, .ref ed, .int (nI cc)])), (ed, .inl (cO, 10, .inr (.inr (.inr (.inr ee)))))]) [12, 13] rfl
  have hDc := hD.sub (ws' := [(al, .inr (4, [mc, .ref ed, .int (nI cc)])), (ed, .inl (cO, 10, .inr (.inr (.inr (.inr ee)))))]) [12, 13] (by decide) rfl
  have hFc := va_free (wc := [(al, .inr (4, [mc, .ref ed, .int (nI cc)])), (ed, .inl (cO, 10, .inr (.inr (.inr (.inr ee)))))]) hD hS hA [12, 13] rfl
  have hDv := hDc.self (sz := H113.size)
  have hpre := zpre (xs' := []) (av := [.ref al, .int 3]) hPc hK (hDc.weaken (fun _ _ _ h => h)) hZ hS hFc (fun r hr => by cases hr)
  refine va_callr (va_runV (As := [.int 3]) (rest := []) ⟨hx, hb, hml, hown, hts⟩ (k_get l dC dI cI cB cR cO zk al ed 3 cc 10 a3 ee mc H113.size (by omega) hcc2 (by decide) he3) (cwV 1 hts gX4_depthOf_Jx4a65c_get_915e3 rfl rfl rfl (by decide +kernel) ⟨Nat.le_of_ble_eq_true rfl, Nat.le_of_ble_eq_true rfl⟩) ⟨zblind, (zrecv_4 hK hPc (q0 := 0) rfl), hpre⟩ rfl rfl hl.1 rfl (lv_room (Nat.le_of_ble_eq_true rfl)) dX4_depthOf_18 ⟨Nat.le_of_ble_eq_true rfl, Nat.le_of_ble_eq_true rfl⟩) hS (fun q _ h => hFc q h) hFc (fun u r116 t H115 locs ht hvm hw hB hz1 hk1 hS => ?_)
  obtain ⟨⟨hP1, hK1, hD1, hz2⟩, her116⟩ := hB
  rw [ht] at hP1 hz2
  have hPD9 := va_join (wr := [(mo, .inr (9, [th, .ref al, md, rf, kn])), (na0, .inl (cI, 4, .inl fn0)), (na1, .inl (cI, 4, .inl fn1)), (na2, .inl (cI, 4, .inl fn2)), (a3, .inr (8, [.int 4, .ref wa3, .ref na3])), (wa3, .inl (cI, 4, .inl fw3)), (na3, .inl (cI, 4, .inl fn3)), (q2, .inl (cI, 4, .inl (upd (upd (upd (upd (upd (upd (upd (upd (upd (upd (upd (fun _ => 0) 0 1) 1 1) 1 2) 1 2) 1 2) 1 2) 2 1) 2 3) 2 3) 2 3) 2 3))), (a0, .inr (8, [.int 4, .ref wa0, .ref na0])), (wa0, .inl (cI, 4, .inl fw0)), (a1, .inr (8, [.int 4, .ref wa1, .ref na1])), (wa1, .inl (cI, 4, .inl fw1)), (a2, .inr (8, [.int 4, .ref wa2, .ref na2])), (wa2, .inl (cI, 4, .inl fw2))]) (w1 := [(al, .inr (4, [mc, .ref ed, .int (nI cc)])), (ed, .inl (cO, 10, .inr (.inr (.inr (.inr ee)))))]) hP hD [12, 13] [0, 1, 2, 3, 4, 5, 6, 7, 8, 9, 10, 11, 14, 15] rfl rfl (by decide) (by decide) hk1 hFc hP1 hD1
  clear hPc hDc hFc hDv hpre hP hD hP1 hK1 hD1
  obtain ⟨hP, hD⟩ := hPD9
  replace hz : s.heap.size + 1 ≤ H115.size := by omega
  clear hz2
  replace hP : va_P (dC, dI) vwCl [(mo, .inr (9, [th, .ref al, md, rf, kn])), (na0, .inl (cI, 4, .inl fn0)), (na1, .inl (cI, 4, .inl fn1)), (na2, .inl (cI, 4, .inl fn2)), (a3, .inr (8, [.int 4, .ref wa3, .ref na3])), (wa3, .inl (cI, 4, .inl fw3)), (na3, .inl (cI, 4, .inl fn3)), (q2, .inl (cI, 4, .inl (upd (upd (upd (upd (upd (upd (upd (upd (upd (upd (upd (fun _ => 0) 0 1) 1 1) 1 2) 1 2) 1 2) 1 2) 2 1) 2 3) 2 3) 2 3) 2 3))), (a0, .inr (8, [.int 4, .ref wa0, .ref na0])), (wa0, .inl (cI, 4, .inl fw0)), (a1, .inr (8, [.int 4, .ref wa1, .ref na1])), (wa1, .inl (cI, 4, .inl fw1)), (a2, .inr (8, [.int 4, .ref wa2, .ref na2])), (wa2, .inl (cI, 4, .inl fw2)), (al, .inr (4, [mc, .ref ed, .int (nI cc)])), (ed, .inl (cO, 10, .inr (.inr (.inr (.inr ee)))))] H115 := hP
  replace hD : va_D A [(mo, .inr (9, [th, .ref al, md, rf, kn])), (na0, .inl (cI, 4, .inl fn0)), (na1, .inl (cI, 4, .inl fn1)), (na2, .inl (cI, 4, .inl fn2)), (a3, .inr (8, [.int 4, .ref wa3, .ref na3])), (wa3, .inl (cI, 4, .inl fw3)), (na3, .inl (cI, 4, .inl fn3)), (q2, .inl (cI, 4, .inl (upd (upd (upd (upd (upd (upd (upd (upd (upd (upd (upd (fun _ => 0) 0 1) 1 1) 1 2) 1 2) 1 2) 1 2) 2 1) 2 3) 2 3) 2 3) 2 3))), (a0, .inr (8, [.int 4, .ref wa0, .ref na0])), (wa0, .inl (cI, 4, .inl fw0)), (a1, .inr (8, [.int 4, .ref wa1, .ref na1])), (wa1, .inl (cI, 4, .inl fw1)), (a2, .inr (8, [.int 4, .ref wa2, .ref na2])), (wa2, .inl (cI, 4, .inl fw2)), (al, .inr (4, [mc, .ref ed, .int (nI cc)])), (ed, .inl (cO, 10, .inr (.inr (.inr (.inr ee)))))] := hD
  refine W.widen (k := 1) (n := 4) (by omega) (by omega) ?_
  obtain rfl := her116.symm
  refine va_castE hx hb hown (hts (.classLink RX4 40 "DeeprowsModel$Row") (List.mem_cons_of_mem _ zw_1165)) (zrecv_8 hK hP (q0 := 4) rfl) dX4_depthOf_21 ?_
  refine lv_astore (lv' := [(4, .ref a3), (3, .int 3), (5, .int 4), (2, .ref q2), (0, .ref mo), (1, .int 3)]) hx hb dX4_depthOf_24 hl (by decide) rfl (fun ls hl => ?_)
  refine lv_aload_n hx hb dX4_depthOf_26 rfl (lv_at hl 3 rfl) ?_
  refine lv_iload_n hx hb dX4_depthOf_27 rfl (lv_at hl 1 rfl) ?_
  refine lv_iconst (v := 1) hx hb dX4_depthOf_28 (by decide) ?_
  refine va_iast (D := (dC, dI)) (cl := vwCl) hx hb hK hP hD (zS0 hS) 7 0 rfl rfl (by unfold vp_in; decide) dX4_depthOf_29 (fun H117 locs hP hD hS1 => ?_)
  have hz : s.heap.size + 1 ≤ H117.size := Nat.le_trans hz hS1.1
  have hS := zSS hS hS1
  replace hP : va_P (dC, dI) vwCl [(mo, .inr (9, [th, .ref al, md, rf, kn])), (na0, .inl (cI, 4, .inl fn0)), (na1, .inl (cI, 4, .inl fn1)), (na2, .inl (cI, 4, .inl fn2)), (a3, .inr (8, [.int 4, .ref wa3, .ref na3])), (wa3, .inl (cI, 4, .inl fw3)), (na3, .inl (cI, 4, .inl fn3)), (q2, .inl (cI, 4, .inl (upd (upd (upd (upd (upd (upd (upd (upd (upd (upd (upd (upd (fun _ => 0) 0 1) 1 1) 1 2) 1 2) 1 2) 1 2) 2 1) 2 3) 2 3) 2 3) 2 3) 3 1))), (a0, .inr (8, [.int 4, .ref wa0, .ref na0])), (wa0, .inl (cI, 4, .inl fw0)), (a1, .inr (8, [.int 4, .ref wa1, .ref na1])), (wa1, .inl (cI, 4, .inl fw1)), (a2, .inr (8, [.int 4, .ref wa2, .ref na2])), (wa2, .inl (cI, 4, .inl fw2)), (al, .inr (4, [mc, .ref ed, .int (nI cc)])), (ed, .inl (cO, 10, .inr (.inr (.inr (.inr ee)))))] H117 := hP
  replace hD : va_D A [(mo, .inr (9, [th, .ref al, md, rf, kn])), (na0, .inl (cI, 4, .inl fn0)), (na1, .inl (cI, 4, .inl fn1)), (na2, .inl (cI, 4, .inl fn2)), (a3, .inr (8, [.int 4, .ref wa3, .ref na3])), (wa3, .inl (cI, 4, .inl fw3)), (na3, .inl (cI, 4, .inl fn3)), (q2, .inl (cI, 4, .inl (upd (upd (upd (upd (upd (upd (upd (upd (upd (upd (upd (upd (fun _ => 0) 0 1) 1 1) 1 2) 1 2) 1 2) 1 2) 2 1) 2 3) 2 3) 2 3) 2 3) 3 1))), (a0, .inr (8, [.int 4, .ref wa0, .ref na0])), (wa0, .inl (cI, 4, .inl fw0)), (a1, .inr (8, [.int 4, .ref wa1, .ref na1])), (wa1, .inl (cI, 4, .inl fw1)), (a2, .inr (8, [.int 4, .ref wa2, .ref na2])), (wa2, .inl (cI, 4, .inl fw2)), (al, .inr (4, [mc, .ref ed, .int (nI cc)])), (ed, .inl (cO, 10, .inr (.inr (.inr (.inr ee)))))] := hD
  refine lv_iconst (v := 0) hx hb dX4_depthOf_30 (by decide) ?_
  refine lv_istore (lv' := [(5, .int 0), (4, .ref a3), (3, .int 3), (2, .ref q2), (0, .ref mo), (1, .int 3)]) hx hb dX4_depthOf_31 hl (by decide) rfl (fun ls hl => ?_)
  refine lv_iload hx hb dX4_depthOf_33 (lv_at hl 0 rfl) ?_
  refine lv_aload hx hb dX4_depthOf_35 (lv_at hl 1 rfl) ?_
  have hPc := hP.sub (ws' := [(a3, .inr (8, [.int 4, .ref wa3, .ref na3])), (wa3, .inl (cI, 4, .inl fw3))]) [4, 5] rfl
  have hDc := hD.sub (ws' := [(a3, .inr (8, [.int 4, .ref wa3, .ref na3])), (wa3, .inl (cI, 4, .inl fw3))]) [4, 5] (by decide) rfl
  have hFc := va_free (wc := [(a3, .inr (8, [.int 4, .ref wa3, .ref na3])), (wa3, .inl (cI, 4, .inl fw3))]) hD hS hA [4, 5] rfl
  have hDv := hDc.self (sz := H117.size)
  have hpre := zpre (xs' := []) (av := [.ref a3]) hPc hK (hDc.weaken (fun _ _ _ h => h)) hZ hS hFc (fun r hr => by cases hr)
  refine va_calli (va_runV (As := []) (rest := [.int 0]) ⟨hx, hb, hml, hown, hts⟩ (k_rlen l dC dI cI cB cR cO zk a3 wa3 na3 fw3 H117.size ) (cwV 0 hts gX4_depthOf_X3_length rfl rfl rfl (by decide +kernel) ⟨Nat.le_of_ble_eq_true rfl, Nat.le_of_ble_eq_true rfl⟩) ⟨zblind, (zrecv_8 hK hPc (q0 := 0) rfl), hpre⟩ rfl rfl hl.1 rfl (lv_room (Nat.le_of_ble_eq_true rfl)) dX4_depthOf_37 ⟨Nat.le_of_ble_eq_true rfl, Nat.le_of_ble_eq_true rfl⟩) hS (fun q _ h => hFc q h) hFc (fun r119 u t H118 locs ht hvm hw hB hz1 hk1 hS => ?_)
  obtain rfl : 4 = r119 := (show r119 = 4 from hw).symm
  obtain ⟨hP1, hK1, hD1, hz2⟩ := hB
  rw [ht] at hP1 hz2
  have hPD9 := va_join (wr := [(mo, .inr (9, [th, .ref al, md, rf, kn])), (na0, .inl (cI, 4, .inl fn0)), (na1, .inl (cI, 4, .inl fn1)), (na2, .inl (cI, 4, .inl fn2)), (na3, .inl (cI, 4, .inl fn3)), (q2, .inl (cI, 4, .inl (upd (upd (upd (upd (upd (upd (upd (upd (upd (upd (upd (upd (fun _ => 0) 0 1) 1 1) 1 2) 1 2) 1 2) 1 2) 2 1) 2 3) 2 3) 2 3) 2 3) 3 1))), (a0, .inr (8, [.int 4, .ref wa0, .ref na0])), (wa0, .inl (cI, 4, .inl fw0)), (a1, .inr (8, [.int 4, .ref wa1, .ref na1])), (wa1, .inl (cI, 4, .inl fw1)), (a2, .inr (8, [.int 4, .ref wa2, .ref na2])), (wa2, .inl (cI, 4, .inl fw2)), (al, .inr (4, [mc, .ref ed, .int (nI cc)])), (ed, .inl (cO, 10, .inr (.inr (.inr (.inr ee)))))]) (w1 := [(a3, .inr (8, [.int 4, .ref wa3, .ref na3])), (wa3, .inl (cI, 4, .inl fw3))]) hP hD [4, 5] [0, 1, 2, 3, 6, 7, 8, 9, 10, 11, 12, 13, 14, 15] rfl rfl (by decide) (by decide) hk1 hFc hP1 hD1
  clear hPc hDc hFc hDv hpre hP hD hP1 hK1 hD1
  obtain ⟨hP, hD⟩ := hPD9
  replace hz : s.heap.size + 1 ≤ H118.size := by omega
  clear hz2
  replace hP : va_P (dC, dI) vwCl [(mo, .inr (9, [th, .ref al, md, rf, kn])), (na0, .inl (cI, 4, .inl fn0)), (na1, .inl (cI, 4, .inl fn1)), (na2, .inl (cI, 4, .inl fn2)), (na3, .inl (cI, 4, .inl fn3)), (q2, .inl (cI, 4, .inl (upd (upd (upd (upd (upd (upd (upd (upd (upd (upd (upd (upd (fun _ => 0) 0 1) 1 1) 1 2) 1 2) 1 2) 1 2) 2 1) 2 3) 2 3) 2 3) 2 3) 3 1))), (a0, .inr (8, [.int 4, .ref wa0, .ref na0])), (wa0, .inl (cI, 4, .inl fw0)), (a1, .inr (8, [.int 4, .ref wa1, .ref na1])), (wa1, .inl (cI, 4, .inl fw1)), (a2, .inr (8, [.int 4, .ref wa2, .ref na2])), (wa2, .inl (cI, 4, .inl fw2)), (al, .inr (4, [mc, .ref ed, .int (nI cc)])), (ed, .inl (cO, 10, .inr (.inr (.inr (.inr ee))))), (a3, .inr (8, [.int 4, .ref wa3, .ref na3])), (wa3, .inl (cI, 4, .inl fw3))] H118 := hP
  replace hD : va_D A [(mo, .inr (9, [th, .ref al, md, rf, kn])), (na0, .inl (cI, 4, .inl fn0)), (na1, .inl (cI, 4, .inl fn1)), (na2, .inl (cI, 4, .inl fn2)), (na3, .inl (cI, 4, .inl fn3)), (q2, .inl (cI, 4, .inl (upd (upd (upd (upd (upd (upd (upd (upd (upd (upd (upd (upd (fun _ => 0) 0 1) 1 1) 1 2) 1 2) 1 2) 1 2) 2 1) 2 3) 2 3) 2 3) 2 3) 3 1))), (a0, .inr (8, [.int 4, .ref wa0, .ref na0])), (wa0, .inl (cI, 4, .inl fw0)), (a1, .inr (8, [.int 4, .ref wa1, .ref na1])), (wa1, .inl (cI, 4, .inl fw1)), (a2, .inr (8, [.int 4, .ref wa2, .ref na2])), (wa2, .inl (cI, 4, .inl fw2)), (al, .inr (4, [mc, .ref ed, .int (nI cc)])), (ed, .inl (cO, 10, .inr (.inr (.inr (.inr ee))))), (a3, .inr (8, [.int 4, .ref wa3, .ref na3])), (wa3, .inl (cI, 4, .inl fw3))] := hD
  refine W.widen (k := 1) (n := 4) (by omega) (by omega) ?_
  refine lv_icmp_ge (tgt := 80) hx hb dX4_depthOf_40 (by decide) (fun c9 => ?_) (fun c9 => ?_)
  · exact absurd c9 (by decide)
  refine lv_aload hx hb dX4_depthOf_43 (lv_at hl 1 rfl) ?_
  refine lv_iload hx hb dX4_depthOf_45 (lv_at hl 0 rfl) ?_
  have hPc := hP.sub (ws' := [(a3, .inr (8, [.int 4, .ref wa3, .ref na3])), (wa3, .inl (cI, 4, .inl fw3))]) [14, 15] rfl
  have hDc := hD.sub (ws' := [(a3, .inr (8, [.int 4, .ref wa3, .ref na3])), (wa3, .inl (cI, 4, .inl fw3))]) [14, 15] (by decide) rfl
  have hFc := va_free (wc := [(a3, .inr (8, [.int 4, .ref wa3, .ref na3])), (wa3, .inl (cI, 4, .inl fw3))]) hD hS hA [14, 15] rfl
  have hDv := hDc.self (sz := H118.size)
  have hpre := zpre (xs' := []) (av := [.ref a3, .int 0]) hPc hK (hDc.weaken (fun _ _ _ h => h)) hZ hS hFc (fun r hr => by cases hr)
  refine va_calli (va_runV (As := [.int 0]) (rest := []) ⟨hx, hb, hml, hown, hts⟩ (k_mh0_3 l dC dI cI cB cR cO zk a3 wa3 na3 fw3 H118.size (hw3 0 (by decide))) (cwV 1 hts gX4_depthOf_X3_hangs rfl rfl rfl (by decide +kernel) ⟨Nat.le_of_ble_eq_true rfl, Nat.le_of_ble_eq_true rfl⟩) ⟨zblind, (zrecv_8 hK hPc (q0 := 0) rfl), hpre⟩ rfl rfl hl.1 rfl (lv_room (Nat.le_of_ble_eq_true rfl)) dX4_depthOf_47 ⟨Nat.le_of_ble_eq_true rfl, Nat.le_of_ble_eq_true rfl⟩) hS (fun q _ h => hFc q h) hFc (fun r121 u t H120 locs ht hvm hw hB hz1 hk1 hS => ?_)
  obtain rfl : 1 = r121 := (show r121 = 1 from hw).symm
  obtain ⟨hP1, hK1, hD1, hz2⟩ := hB
  rw [ht] at hP1 hz2
  have hPD9 := va_join (wr := [(mo, .inr (9, [th, .ref al, md, rf, kn])), (na0, .inl (cI, 4, .inl fn0)), (na1, .inl (cI, 4, .inl fn1)), (na2, .inl (cI, 4, .inl fn2)), (na3, .inl (cI, 4, .inl fn3)), (q2, .inl (cI, 4, .inl (upd (upd (upd (upd (upd (upd (upd (upd (upd (upd (upd (upd (fun _ => 0) 0 1) 1 1) 1 2) 1 2) 1 2) 1 2) 2 1) 2 3) 2 3) 2 3) 2 3) 3 1))), (a0, .inr (8, [.int 4, .ref wa0, .ref na0])), (wa0, .inl (cI, 4, .inl fw0)), (a1, .inr (8, [.int 4, .ref wa1, .ref na1])), (wa1, .inl (cI, 4, .inl fw1)), (a2, .inr (8, [.int 4, .ref wa2, .ref na2])), (wa2, .inl (cI, 4, .inl fw2)), (al, .inr (4, [mc, .ref ed, .int (nI cc)])), (ed, .inl (cO, 10, .inr (.inr (.inr (.inr ee)))))]) (w1 := [(a3, .inr (8, [.int 4, .ref wa3, .ref na3])), (wa3, .inl (cI, 4, .inl fw3))]) hP hD [14, 15] [0, 1, 2, 3, 4, 5, 6, 7, 8, 9, 10, 11, 12, 13] rfl rfl (by decide) (by decide) hk1 hFc hP1 hD1
  clear hPc hDc hFc hDv hpre hP hD hP1 hK1 hD1
  obtain ⟨hP, hD⟩ := hPD9
  replace hz : s.heap.size + 1 ≤ H120.size := by omega
  clear hz2
  replace hP : va_P (dC, dI) vwCl [(mo, .inr (9, [th, .ref al, md, rf, kn])), (na0, .inl (cI, 4, .inl fn0)), (na1, .inl (cI, 4, .inl fn1)), (na2, .inl (cI, 4, .inl fn2)), (na3, .inl (cI, 4, .inl fn3)), (q2, .inl (cI, 4, .inl (upd (upd (upd (upd (upd (upd (upd (upd (upd (upd (upd (upd (fun _ => 0) 0 1) 1 1) 1 2) 1 2) 1 2) 1 2) 2 1) 2 3) 2 3) 2 3) 2 3) 3 1))), (a0, .inr (8, [.int 4, .ref wa0, .ref na0])), (wa0, .inl (cI, 4, .inl fw0)), (a1, .inr (8, [.int 4, .ref wa1, .ref na1])), (wa1, .inl (cI, 4, .inl fw1)), (a2, .inr (8, [.int 4, .ref wa2, .ref na2])), (wa2, .inl (cI, 4, .inl fw2)), (al, .inr (4, [mc, .ref ed, .int (nI cc)])), (ed, .inl (cO, 10, .inr (.inr (.inr (.inr ee))))), (a3, .inr (8, [.int 4, .ref wa3, .ref na3])), (wa3, .inl (cI, 4, .inl fw3))] H120 := hP
  replace hD : va_D A [(mo, .inr (9, [th, .ref al, md, rf, kn])), (na0, .inl (cI, 4, .inl fn0)), (na1, .inl (cI, 4, .inl fn1)), (na2, .inl (cI, 4, .inl fn2)), (na3, .inl (cI, 4, .inl fn3)), (q2, .inl (cI, 4, .inl (upd (upd (upd (upd (upd (upd (upd (upd (upd (upd (upd (upd (fun _ => 0) 0 1) 1 1) 1 2) 1 2) 1 2) 1 2) 2 1) 2 3) 2 3) 2 3) 2 3) 3 1))), (a0, .inr (8, [.int 4, .ref wa0, .ref na0])), (wa0, .inl (cI, 4, .inl fw0)), (a1, .inr (8, [.int 4, .ref wa1, .ref na1])), (wa1, .inl (cI, 4, .inl fw1)), (a2, .inr (8, [.int 4, .ref wa2, .ref na2])), (wa2, .inl (cI, 4, .inl fw2)), (al, .inr (4, [mc, .ref ed, .int (nI cc)])), (ed, .inl (cO, 10, .inr (.inr (.inr (.inr ee))))), (a3, .inr (8, [.int 4, .ref wa3, .ref na3])), (wa3, .inl (cI, 4, .inl fw3))] := hD
  refine W.widen (k := 1) (n := 4) (by omega) (by omega) ?_
  refine lv_if_eq (tgt := 74) hx hb dX4_depthOf_50 (by decide) (fun c9 => ?_) (fun c9 => ?_)
  · exact absurd c9 (by decide)
  refine lv_aload_n hx hb dX4_depthOf_53 rfl (lv_at hl 3 rfl) ?_
  refine lv_iload_n hx hb dX4_depthOf_54 rfl (lv_at hl 2 rfl) ?_
  refine lv_aload_n hx hb dX4_depthOf_55 rfl (lv_at hl 3 rfl) ?_
  refine lv_iload_n hx hb dX4_depthOf_56 rfl (lv_at hl 2 rfl) ?_
  refine va_iald (D := (dC, dI)) (cl := vwCl) hx hb hK hP 5 0 rfl rfl (by unfold vp_in; decide) dX4_depthOf_57 ?_
  refine lv_topi (fun v122 ev122 => ?_)
  obtain rfl : v122 = 1 := ev122.trans (rfl)
  refine lv_iconst (v := 1) hx hb dX4_depthOf_58 (by decide) ?_
  refine lv_aload_n hx hb dX4_depthOf_59 rfl (lv_at hl 3 rfl) ?_
  refine lv_aload hx hb dX4_depthOf_60 (lv_at hl 1 rfl) ?_
  refine va_get (D := (dC, dI)) (ci := 8) (v := .ref na3) (C := RX3) (T := TX3) (N := 3) hx hb hts hi_X4_depthOf_X3 hown hK hP 14 rfl rfl 2 (by decide) (hts (.fieldLink RX4 48 "DeeprowsModel$Row" "numbers" "[I") (List.mem_cons_of_mem _ zw_1180)) (fun _ h9 => h9) rfl dX4_depthOf_62 ?_
  refine lv_iload hx hb dX4_depthOf_65 (lv_at hl 0 rfl) ?_
  refine va_iald (D := (dC, dI)) (cl := vwCl) hx hb hK hP 4 0 rfl rfl (by unfold vp_in; decide) dX4_depthOf_67 ?_
  refine lv_topi (fun v123 ev123 => ?_)
  obtain rfl : v123 = 2 := ev123.trans (hn3 0 (by decide))
  refine va_iald (D := (dC, dI)) (cl := vwCl) hx hb hK hP 5 0 rfl rfl (by unfold vp_in; decide) dX4_depthOf_68 ?_
  refine lv_topi (fun v124 ev124 => ?_)
  obtain rfl : v124 = 3 := ev124.trans (rfl)
  refine lv_iadd hx hb dX4_depthOf_69 ?_
  refine lv_topi (fun v125 ev125 => ?_)
  obtain rfl : v125 = 4 := ev125.trans (by decide)
  refine va_mmax (x := 1) (y := 4) hx hb (hml.trans hl.1.symm) hown (hts (.methodLink RX4 52 Lib.Math.max.name) (List.mem_cons_of_mem _ zw_1264)) (hts (.static Lib.Math.max.name) (List.mem_cons_of_mem _ zw_271)) (hts (.initialized "java/lang/Math") (List.mem_cons_of_mem _ zw_58)) (hts (.code Lib.Math.max.name Lib.Math.max.code 2 (some .int)) (List.mem_cons_of_mem _ zw_272)) (Nat.le_of_ble_eq_true rfl) (Nat.le_of_ble_eq_true rfl) (Nat.le_of_ble_eq_true rfl) (Nat.le_of_ble_eq_true rfl) dX4_depthOf_70 ?_
  refine lv_topi (fun v126 ev126 => ?_)
  obtain rfl : v126 = 4 := ev126.trans (by decide)
  refine va_iast (D := (dC, dI)) (cl := vwCl) hx hb hK hP hD (zS0 hS) 5 0 rfl rfl (by unfold vp_in; decide) dX4_depthOf_73 (fun H127 locs hP hD hS1 => ?_)
  have hz : s.heap.size + 1 ≤ H127.size := Nat.le_trans hz hS1.1
  have hS := zSS hS hS1
  replace hP : va_P (dC, dI) vwCl [(mo, .inr (9, [th, .ref al, md, rf, kn])), (na0, .inl (cI, 4, .inl fn0)), (na1, .inl (cI, 4, .inl fn1)), (na2, .inl (cI, 4, .inl fn2)), (na3, .inl (cI, 4, .inl fn3)), (q2, .inl (cI, 4, .inl (upd (upd (upd (upd (upd (upd (upd (upd (upd (upd (upd (upd (upd (fun _ => 0) 0 1) 1 1) 1 2) 1 2) 1 2) 1 2) 2 1) 2 3) 2 3) 2 3) 2 3) 3 1) 3 4))), (a0, .inr (8, [.int 4, .ref wa0, .ref na0])), (wa0, .inl (cI, 4, .inl fw0)), (a1, .inr (8, [.int 4, .ref wa1, .ref na1])), (wa1, .inl (cI, 4, .inl fw1)), (a2, .inr (8, [.int 4, .ref wa2, .ref na2])), (wa2, .inl (cI, 4, .inl fw2)), (al, .inr (4, [mc, .ref ed, .int (nI cc)])), (ed, .inl (cO, 10, .inr (.inr (.inr (.inr ee))))), (a3, .inr (8, [.int 4, .ref wa3, .ref na3])), (wa3, .inl (cI, 4, .inl fw3))] H127 := hP
  replace hD : va_D A [(mo, .inr (9, [th, .ref al, md, rf, kn])), (na0, .inl (cI, 4, .inl fn0)), (na1, .inl (cI, 4, .inl fn1)), (na2, .inl (cI, 4, .inl fn2)), (na3, .inl (cI, 4, .inl fn3)), (q2, .inl (cI, 4, .inl (upd (upd (upd (upd (upd (upd (upd (upd (upd (upd (upd (upd (upd (fun _ => 0) 0 1) 1 1) 1 2) 1 2) 1 2) 1 2) 2 1) 2 3) 2 3) 2 3) 2 3) 3 1) 3 4))), (a0, .inr (8, [.int 4, .ref wa0, .ref na0])), (wa0, .inl (cI, 4, .inl fw0)), (a1, .inr (8, [.int 4, .ref wa1, .ref na1])), (wa1, .inl (cI, 4, .inl fw1)), (a2, .inr (8, [.int 4, .ref wa2, .ref na2])), (wa2, .inl (cI, 4, .inl fw2)), (al, .inr (4, [mc, .ref ed, .int (nI cc)])), (ed, .inl (cO, 10, .inr (.inr (.inr (.inr ee))))), (a3, .inr (8, [.int 4, .ref wa3, .ref na3])), (wa3, .inl (cI, 4, .inl fw3))] := hD
  refine lv_iinc (v := 1) (lv' := [(5, .int 1), (4, .ref a3), (3, .int 3), (2, .ref q2), (0, .ref mo), (1, .int 3)]) hx hb dX4_depthOf_74 hl (k := 0) rfl (by decide) (by decide) rfl (fun ls hl => ?_)
  refine lv_goto (tgt := 33) hx hb dX4_depthOf_77 (by decide) ?_
  refine lv_iload hx hb dX4_depthOf_33 (lv_at hl 0 rfl) ?_
  refine lv_aload hx hb dX4_depthOf_35 (lv_at hl 1 rfl) ?_
  have hPc := hP.sub (ws' := [(a3, .inr (8, [.int 4, .ref wa3, .ref na3])), (wa3, .inl (cI, 4, .inl fw3))]) [14, 15] rfl
  have hDc := hD.sub (ws' := [(a3, .inr (8, [.int 4, .ref wa3, .ref na3])), (wa3, .inl (cI, 4, .inl fw3))]) [14, 15] (by decide) rfl
  have hFc := va_free (wc := [(a3, .inr (8, [.int 4, .ref wa3, .ref na3])), (wa3, .inl (cI, 4, .inl fw3))]) hD hS hA [14, 15] rfl
  have hDv := hDc.self (sz := H127.size)
  have hpre := zpre (xs' := []) (av := [.ref a3]) hPc hK (hDc.weaken (fun _ _ _ h => h)) hZ hS hFc (fun r hr => by cases hr)
  refine va_calli (va_runV (As := []) (rest := [.int 1]) ⟨hx, hb, hml, hown, hts⟩ (k_rlen l dC dI cI cB cR cO zk a3 wa3 na3 fw3 H127.size ) (cwV 0 hts gX4_depthOf_X3_length rfl rfl rfl (by decide +kernel) ⟨Nat.le_of_ble_eq_true rfl, Nat.le_of_ble_eq_true rfl⟩) ⟨zblind, (zrecv_8 hK hPc (q0 := 0) rfl), hpre⟩ rfl rfl hl.1 rfl (lv_room (Nat.le_of_ble_eq_true rfl)) dX4_depthOf_37 ⟨Nat.le_of_ble_eq_true rfl, Nat.le_of_ble_eq_true rfl⟩) hS (fun q _ h => hFc q h) hFc (fun r129 u t H128 locs ht hvm hw hB hz1 hk1 hS => ?_)
  obtain rfl : 4 = r129 := (show r129 = 4 from hw).symm
  obtain ⟨hP1, hK1, hD1, hz2⟩ := hB
  rw [ht] at hP1 hz2
  have hPD9 := va_join (wr := [(mo, .inr (9, [th, .ref al, md, rf, kn])), (na0, .inl (cI, 4, .inl fn0)), (na1, .inl (cI, 4, .inl fn1)), (na2, .inl (cI, 4, .inl fn2)), (na3, .inl (cI, 4, .inl fn3)), (q2, .inl (cI, 4, .inl (upd (upd (upd (upd (upd (upd (upd (upd (upd (upd (upd (upd (upd (fun _ => 0) 0 1) 1 1) 1 2) 1 2) 1 2) 1 2) 2 1) 2 3) 2 3) 2 3) 2 3) 3 1) 3 4))), (a0, .inr (8, [.int 4, .ref wa0, .ref na0])), (wa0, .inl (cI, 4, .inl fw0)), (a1, .inr (8, [.int 4, .ref wa1, .ref na1])), (wa1, .inl (cI, 4, .inl fw1)), (a2, .inr (8, [.int 4, .ref wa2, .ref na2])), (wa2, .inl (cI, 4, .inl fw2)), (al, .inr (4, [mc, .ref ed, .int (nI cc)])), (ed, .inl (cO, 10, .inr (.inr (.inr (.inr ee)))))]) (w1 := [(a3, .inr (8, [.int 4, .ref wa3, .ref na3])), (wa3, .inl (cI, 4, .inl fw3))]) hP hD [14, 15] [0, 1, 2, 3, 4, 5, 6, 7, 8, 9, 10, 11, 12, 13] rfl rfl (by decide) (by decide) hk1 hFc hP1 hD1
  clear hPc hDc hFc hDv hpre hP hD hP1 hK1 hD1
  obtain ⟨hP, hD⟩ := hPD9
  replace hz : s.heap.size + 1 ≤ H128.size := by omega
  clear hz2
  replace hP : va_P (dC, dI) vwCl [(mo, .inr (9, [th, .ref al, md, rf, kn])), (na0, .inl (cI, 4, .inl fn0)), (na1, .inl (cI, 4, .inl fn1)), (na2, .inl (cI, 4, .inl fn2)), (na3, .inl (cI, 4, .inl fn3)), (q2, .inl (cI, 4, .inl (upd (upd (upd (upd (upd (upd (upd (upd (upd (upd (upd (upd (upd (fun _ => 0) 0 1) 1 1) 1 2) 1 2) 1 2) 1 2) 2 1) 2 3) 2 3) 2 3) 2 3) 3 1) 3 4))), (a0, .inr (8, [.int 4, .ref wa0, .ref na0])), (wa0, .inl (cI, 4, .inl fw0)), (a1, .inr (8, [.int 4, .ref wa1, .ref na1])), (wa1, .inl (cI, 4, .inl fw1)), (a2, .inr (8, [.int 4, .ref wa2, .ref na2])), (wa2, .inl (cI, 4, .inl fw2)), (al, .inr (4, [mc, .ref ed, .int (nI cc)])), (ed, .inl (cO, 10, .inr (.inr (.inr (.inr ee))))), (a3, .inr (8, [.int 4, .ref wa3, .ref na3])), (wa3, .inl (cI, 4, .inl fw3))] H128 := hP
  replace hD : va_D A [(mo, .inr (9, [th, .ref al, md, rf, kn])), (na0, .inl (cI, 4, .inl fn0)), (na1, .inl (cI, 4, .inl fn1)), (na2, .inl (cI, 4, .inl fn2)), (na3, .inl (cI, 4, .inl fn3)), (q2, .inl (cI, 4, .inl (upd (upd (upd (upd (upd (upd (upd (upd (upd (upd (upd (upd (upd (fun _ => 0) 0 1) 1 1) 1 2) 1 2) 1 2) 1 2) 2 1) 2 3) 2 3) 2 3) 2 3) 3 1) 3 4))), (a0, .inr (8, [.int 4, .ref wa0, .ref na0])), (wa0, .inl (cI, 4, .inl fw0)), (a1, .inr (8, [.int 4, .ref wa1, .ref na1])), (wa1, .inl (cI, 4, .inl fw1)), (a2, .inr (8, [.int 4, .ref wa2, .ref na2])), (wa2, .inl (cI, 4, .inl fw2)), (al, .inr (4, [mc, .ref ed, .int (nI cc)])), (ed, .inl (cO, 10, .inr (.inr (.inr (.inr ee))))), (a3, .inr (8, [.int 4, .ref wa3, .ref na3])), (wa3, .inl (cI, 4, .inl fw3))] := hD
  refine W.widen (k := 1) (n := 4) (by omega) (by omega) ?_
  refine lv_icmp_ge (tgt := 80) hx hb dX4_depthOf_40 (by decide) (fun c9 => ?_) (fun c9 => ?_)
  · exact absurd c9 (by decide)
  refine lv_aload hx hb dX4_depthOf_43 (lv_at hl 1 rfl) ?_
  refine lv_iload hx hb dX4_depthOf_45 (lv_at hl 0 rfl) ?_
  have hPc := hP.sub (ws' := [(a3, .inr (8, [.int 4, .ref wa3, .ref na3])), (wa3, .inl (cI, 4, .inl fw3))]) [14, 15] rfl
  have hDc := hD.sub (ws' := [(a3, .inr (8, [.int 4, .ref wa3, .ref na3])), (wa3, .inl (cI, 4, .inl fw3))]) [14, 15] (by decide) rfl
  have hFc := va_free (wc := [(a3, .inr (8, [.int 4, .ref wa3, .ref na3])), (wa3, .inl (cI, 4, .inl fw3))]) hD hS hA [14, 15] rfl
  have hDv := hDc.self (sz := H128.size)
  have hpre := zpre (xs' := []) (av := [.ref a3, .int 1]) hPc hK (hDc.weaken (fun _ _ _ h => h)) hZ hS hFc (fun r hr => by cases hr)
  refine va_calli (va_runV (As := [.int 1]) (rest := []) ⟨hx, hb, hml, hown, hts⟩ (k_mh1_3 l dC dI cI cB cR cO zk a3 wa3 na3 fw3 H128.size (hw3 1 (by decide))) (cwV 1 hts gX4_depthOf_X3_hangs rfl rfl rfl (by decide +kernel) ⟨Nat.le_of_ble_eq_true rfl, Nat.le_of_ble_eq_true rfl⟩) ⟨zblind, (zrecv_8 hK hPc (q0 := 0) rfl), hpre⟩ rfl rfl hl.1 rfl (lv_room (Nat.le_of_ble_eq_true rfl)) dX4_depthOf_47 ⟨Nat.le_of_ble_eq_true rfl, Nat.le_of_ble_eq_true rfl⟩) hS (fun q _ h => hFc q h) hFc (fun r131 u t H130 locs ht hvm hw hB hz1 hk1 hS => ?_)
  obtain rfl : 1 = r131 := (show r131 = 1 from hw).symm
  obtain ⟨hP1, hK1, hD1, hz2⟩ := hB
  rw [ht] at hP1 hz2
  have hPD9 := va_join (wr := [(mo, .inr (9, [th, .ref al, md, rf, kn])), (na0, .inl (cI, 4, .inl fn0)), (na1, .inl (cI, 4, .inl fn1)), (na2, .inl (cI, 4, .inl fn2)), (na3, .inl (cI, 4, .inl fn3)), (q2, .inl (cI, 4, .inl (upd (upd (upd (upd (upd (upd (upd (upd (upd (upd (upd (upd (upd (fun _ => 0) 0 1) 1 1) 1 2) 1 2) 1 2) 1 2) 2 1) 2 3) 2 3) 2 3) 2 3) 3 1) 3 4))), (a0, .inr (8, [.int 4, .ref wa0, .ref na0])), (wa0, .inl (cI, 4, .inl fw0)), (a1, .inr (8, [.int 4, .ref wa1, .ref na1])), (wa1, .inl (cI, 4, .inl fw1)), (a2, .inr (8, [.int 4, .ref wa2, .ref na2])), (wa2, .inl (cI, 4, .inl fw2)), (al, .inr (4, [mc, .ref ed, .int (nI cc)])), (ed, .inl (cO, 10, .inr (.inr (.inr (.inr ee)))))]) (w1 := [(a3, .inr (8, [.int 4, .ref wa3, .ref na3])), (wa3, .inl (cI, 4, .inl fw3))]) hP hD [14, 15] [0, 1, 2, 3, 4, 5, 6, 7, 8, 9, 10, 11, 12, 13] rfl rfl (by decide) (by decide) hk1 hFc hP1 hD1
  clear hPc hDc hFc hDv hpre hP hD hP1 hK1 hD1
  obtain ⟨hP, hD⟩ := hPD9
  replace hz : s.heap.size + 1 ≤ H130.size := by omega
  clear hz2
  replace hP : va_P (dC, dI) vwCl [(mo, .inr (9, [th, .ref al, md, rf, kn])), (na0, .inl (cI, 4, .inl fn0)), (na1, .inl (cI, 4, .inl fn1)), (na2, .inl (cI, 4, .inl fn2)), (na3, .inl (cI, 4, .inl fn3)), (q2, .inl (cI, 4, .inl (upd (upd (upd (upd (upd (upd (upd (upd (upd (upd (upd (upd (upd (fun _ => 0) 0 1) 1 1) 1 2) 1 2) 1 2) 1 2) 2 1) 2 3) 2 3) 2 3) 2 3) 3 1) 3 4))), (a0, .inr (8, [.int 4, .ref wa0, .ref na0])), (wa0, .inl (cI, 4, .inl fw0)), (a1, .inr (8, [.int 4, .ref wa1, .ref na1])), (wa1, .inl (cI, 4, .inl fw1)), (a2, .inr (8, [.int 4, .ref wa2, .ref na2])), (wa2, .inl (cI, 4, .inl fw2)), (al, .inr (4, [mc, .ref ed, .int (nI cc)])), (ed, .inl (cO, 10, .inr (.inr (.inr (.inr ee))))), (a3, .inr (8, [.int 4, .ref wa3, .ref na3])), (wa3, .inl (cI, 4, .inl fw3))] H130 := hP
  replace hD : va_D A [(mo, .inr (9, [th, .ref al, md, rf, kn])), (na0, .inl (cI, 4, .inl fn0)), (na1, .inl (cI, 4, .inl fn1)), (na2, .inl (cI, 4, .inl fn2)), (na3, .inl (cI, 4, .inl fn3)), (q2, .inl (cI, 4, .inl (upd (upd (upd (upd (upd (upd (upd (upd (upd (upd (upd (upd (upd (fun _ => 0) 0 1) 1 1) 1 2) 1 2) 1 2) 1 2) 2 1) 2 3) 2 3) 2 3) 2 3) 3 1) 3 4))), (a0, .inr (8, [.int 4, .ref wa0, .ref na0])), (wa0, .inl (cI, 4, .inl fw0)), (a1, .inr (8, [.int 4, .ref wa1, .ref na1])), (wa1, .inl (cI, 4, .inl fw1)), (a2, .inr (8, [.int 4, .ref wa2, .ref na2])), (wa2, .inl (cI, 4, .inl fw2)), (al, .inr (4, [mc, .ref ed, .int (nI cc)])), (ed, .inl (cO, 10, .inr (.inr (.inr (.inr ee))))), (a3, .inr (8, [.int 4, .ref wa3, .ref na3])), (wa3, .inl (cI, 4, .inl fw3))] := hD
  refine W.widen (k := 1) (n := 4) (by omega) (by omega) ?_
  refine lv_if_eq (tgt := 74) hx hb dX4_depthOf_50 (by decide) (fun c9 => ?_) (fun c9 => ?_)
  · exact absurd c9 (by decide)
  refine lv_aload_n hx hb dX4_depthOf_53 rfl (lv_at hl 3 rfl) ?_
  refine lv_iload_n hx hb dX4_depthOf_54 rfl (lv_at hl 2 rfl) ?_
  refine lv_aload_n hx hb dX4_depthOf_55 rfl (lv_at hl 3 rfl) ?_
  refine lv_iload_n hx hb dX4_depthOf_56 rfl (lv_at hl 2 rfl) ?_
  refine va_iald (D := (dC, dI)) (cl := vwCl) hx hb hK hP 5 0 rfl rfl (by unfold vp_in; decide) dX4_depthOf_57 ?_
  refine lv_topi (fun v132 ev132 => ?_)
  obtain rfl : v132 = 4 := ev132.trans (rfl)
  refine lv_iconst (v := 1) hx hb dX4_depthOf_58 (by decide) ?_
  refine lv_aload_n hx hb dX4_depthOf_59 rfl (lv_at hl 3 rfl) ?_
  refine lv_aload hx hb dX4_depthOf_60 (lv_at hl 1 rfl) ?_
  refine va_get (D := (dC, dI)) (ci := 8) (v := .ref na3) (C := RX3) (T := TX3) (N := 3) hx hb hts hi_X4_depthOf_X3 hown hK hP 14 rfl rfl 2 (by decide) (hts (.fieldLink RX4 48 "DeeprowsModel$Row" "numbers" "[I") (List.mem_cons_of_mem _ zw_1180)) (fun _ h9 => h9) rfl dX4_depthOf_62 ?_
  refine lv_iload hx hb dX4_depthOf_65 (lv_at hl 0 rfl) ?_
  refine va_iald (D := (dC, dI)) (cl := vwCl) hx hb hK hP 4 0 rfl rfl (by unfold vp_in; decide) dX4_depthOf_67 ?_
  refine lv_topi (fun v133 ev133 => ?_)
  obtain rfl : v133 = 2 := ev133.trans (hn3 1 (by decide))
  refine va_iald (D := (dC, dI)) (cl := vwCl) hx hb hK hP 5 0 rfl rfl (by unfold vp_in; decide) dX4_depthOf_68 ?_
  refine lv_topi (fun v134 ev134 => ?_)
  obtain rfl : v134 = 3 := ev134.trans (rfl)
  refine lv_iadd hx hb dX4_depthOf_69 ?_
  refine lv_topi (fun v135 ev135 => ?_)
  obtain rfl : v135 = 4 := ev135.trans (by decide)
  refine va_mmax (x := 4) (y := 4) hx hb (hml.trans hl.1.symm) hown (hts (.methodLink RX4 52 Lib.Math.max.name) (List.mem_cons_of_mem _ zw_1264)) (hts (.static Lib.Math.max.name) (List.mem_cons_of_mem _ zw_271)) (hts (.initialized "java/lang/Math") (List.mem_cons_of_mem _ zw_58)) (hts (.code Lib.Math.max.name Lib.Math.max.code 2 (some .int)) (List.mem_cons_of_mem _ zw_272)) (Nat.le_of_ble_eq_true rfl) (Nat.le_of_ble_eq_true rfl) (Nat.le_of_ble_eq_true rfl) (Nat.le_of_ble_eq_true rfl) dX4_depthOf_70 ?_
  refine lv_topi (fun v136 ev136 => ?_)
  obtain rfl : v136 = 4 := ev136.trans (by decide)
  refine va_iast (D := (dC, dI)) (cl := vwCl) hx hb hK hP hD (zS0 hS) 5 0 rfl rfl (by unfold vp_in; decide) dX4_depthOf_73 (fun H137 locs hP hD hS1 => ?_)
  have hz : s.heap.size + 1 ≤ H137.size := Nat.le_trans hz hS1.1
  have hS := zSS hS hS1
  replace hP : va_P (dC, dI) vwCl [(mo, .inr (9, [th, .ref al, md, rf, kn])), (na0, .inl (cI, 4, .inl fn0)), (na1, .inl (cI, 4, .inl fn1)), (na2, .inl (cI, 4, .inl fn2)), (na3, .inl (cI, 4, .inl fn3)), (q2, .inl (cI, 4, .inl (upd (upd (upd (upd (upd (upd (upd (upd (upd (upd (upd (upd (upd (upd (fun _ => 0) 0 1) 1 1) 1 2) 1 2) 1 2) 1 2) 2 1) 2 3) 2 3) 2 3) 2 3) 3 1) 3 4) 3 4))), (a0, .inr (8, [.int 4, .ref wa0, .ref na0])), (wa0, .inl (cI, 4, .inl fw0)), (a1, .inr (8, [.int 4, .ref wa1, .ref na1])), (wa1, .inl (cI, 4, .inl fw1)), (a2, .inr (8, [.int 4, .ref wa2, .ref na2])), (wa2, .inl (cI, 4, .inl fw2)), (al, .inr (4, [mc, .ref ed, .int (nI cc)])), (ed, .inl (cO, 10, .inr (.inr (.inr (.inr ee))))), (a3, .inr (8, [.int 4, .ref wa3, .ref na3])), (wa3, .inl (cI, 4, .inl fw3))] H137 := hP
  replace hD : va_D A [(mo, .inr (9, [th, .ref al, md, rf, kn])), (na0, .inl (cI, 4, .inl fn0)), (na1, .inl (cI, 4, .inl fn1)), (na2, .inl (cI, 4, .inl fn2)), (na3, .inl (cI, 4, .inl fn3)), (q2, .inl (cI, 4, .inl (upd (upd (upd (upd (upd (upd (upd (upd (upd (upd (upd (upd (upd (upd (fun _ => 0) 0 1) 1 1) 1 2) 1 2) 1 2) 1 2) 2 1) 2 3) 2 3) 2 3) 2 3) 3 1) 3 4) 3 4))), (a0, .inr (8, [.int 4, .ref wa0, .ref na0])), (wa0, .inl (cI, 4, .inl fw0)), (a1, .inr (8, [.int 4, .ref wa1, .ref na1])), (wa1, .inl (cI, 4, .inl fw1)), (a2, .inr (8, [.int 4, .ref wa2, .ref na2])), (wa2, .inl (cI, 4, .inl fw2)), (al, .inr (4, [mc, .ref ed, .int (nI cc)])), (ed, .inl (cO, 10, .inr (.inr (.inr (.inr ee))))), (a3, .inr (8, [.int 4, .ref wa3, .ref na3])), (wa3, .inl (cI, 4, .inl fw3))] := hD
  refine lv_iinc (v := 2) (lv' := [(5, .int 2), (4, .ref a3), (3, .int 3), (2, .ref q2), (0, .ref mo), (1, .int 3)]) hx hb dX4_depthOf_74 hl (k := 0) rfl (by decide) (by decide) rfl (fun ls hl => ?_)
  refine lv_goto (tgt := 33) hx hb dX4_depthOf_77 (by decide) ?_
  refine lv_iload hx hb dX4_depthOf_33 (lv_at hl 0 rfl) ?_
  refine lv_aload hx hb dX4_depthOf_35 (lv_at hl 1 rfl) ?_
  have hPc := hP.sub (ws' := [(a3, .inr (8, [.int 4, .ref wa3, .ref na3])), (wa3, .inl (cI, 4, .inl fw3))]) [14, 15] rfl
  have hDc := hD.sub (ws' := [(a3, .inr (8, [.int 4, .ref wa3, .ref na3])), (wa3, .inl (cI, 4, .inl fw3))]) [14, 15] (by decide) rfl
  have hFc := va_free (wc := [(a3, .inr (8, [.int 4, .ref wa3, .ref na3])), (wa3, .inl (cI, 4, .inl fw3))]) hD hS hA [14, 15] rfl
  have hDv := hDc.self (sz := H137.size)
  have hpre := zpre (xs' := []) (av := [.ref a3]) hPc hK (hDc.weaken (fun _ _ _ h => h)) hZ hS hFc (fun r hr => by cases hr)
  refine va_calli (va_runV (As := []) (rest := [.int 2]) ⟨hx, hb, hml, hown, hts⟩ (k_rlen l dC dI cI cB cR cO zk a3 wa3 na3 fw3 H137.size ) (cwV 0 hts gX4_depthOf_X3_length rfl rfl rfl (by decide +kernel) ⟨Nat.le_of_ble_eq_true rfl, Nat.le_of_ble_eq_true rfl⟩) ⟨zblind, (zrecv_8 hK hPc (q0 := 0) rfl), hpre⟩ rfl rfl hl.1 rfl (lv_room (Nat.le_of_ble_eq_true rfl)) dX4_depthOf_37 ⟨Nat.le_of_ble_eq_true rfl, Nat.le_of_ble_eq_true rfl⟩) hS (fun q _ h => hFc q h) hFc (fun r139 u t H138 locs ht hvm hw hB hz1 hk1 hS => ?_)
  obtain rfl : 4 = r139 := (show r139 = 4 from hw).symm
  obtain ⟨hP1, hK1, hD1, hz2⟩ := hB
  rw [ht] at hP1 hz2
  have hPD9 := va_join (wr := [(mo, .inr (9, [th, .ref al, md, rf, kn])), (na0, .inl (cI, 4, .inl fn0)), (na1, .inl (cI, 4, .inl fn1)), (na2, .inl (cI, 4, .inl fn2)), (na3, .inl (cI, 4, .inl fn3)), (q2, .inl (cI, 4, .inl (upd (upd (upd (upd (upd (upd (upd (upd (upd (upd (upd (upd (upd (upd (fun _ => 0) 0 1) 1 1) 1 2) 1 2) 1 2) 1 2) 2 1) 2 3) 2 3) 2 3) 2 3) 3 1) 3 4) 3 4))), (a0, .inr (8, [.int 4, .ref wa0, .ref na0])), (wa0, .inl (cI, 4, .inl fw0)), (a1, .inr (8, [.int 4, .ref wa1, .ref na1])), (wa1, .inl (cI, 4, .inl fw1)), (a2, .inr (8, [.int 4, .ref wa2, .ref na2])), (wa2, .inl (cI, 4, .inl fw2)), (al, .inr (4, [mc, .ref ed, .int (nI cc)])), (ed, .inl (cO, 10, .inr (.inr (.inr (.inr ee)))))]) (w1 := [(a3, .inr (8, [.int 4, .ref wa3, .ref na3])), (wa3, .inl (cI, 4, .inl fw3))]) hP hD [14, 15] [0, 1, 2, 3, 4, 5, 6, 7, 8, 9, 10, 11, 12, 13] rfl rfl (by decide) (by decide) hk1 hFc hP1 hD1
  clear hPc hDc hFc hDv hpre hP hD hP1 hK1 hD1
  obtain ⟨hP, hD⟩ := hPD9
  replace hz : s.heap.size + 1 ≤ H138.size := by omega
  clear hz2
  replace hP : va_P (dC, dI) vwCl [(mo, .inr (9, [th, .ref al, md, rf, kn])), (na0, .inl (cI, 4, .inl fn0)), (na1, .inl (cI, 4, .inl fn1)), (na2, .inl (cI, 4, .inl fn2)), (na3, .inl (cI, 4, .inl fn3)), (q2, .inl (cI, 4, .inl (upd (upd (upd (upd (upd (upd (upd (upd (upd (upd (upd (upd (upd (upd (fun _ => 0) 0 1) 1 1) 1 2) 1 2) 1 2) 1 2) 2 1) 2 3) 2 3) 2 3) 2 3) 3 1) 3 4) 3 4))), (a0, .inr (8, [.int 4, .ref wa0, .ref na0])), (wa0, .inl (cI, 4, .inl fw0)), (a1, .inr (8, [.int 4, .ref wa1, .ref na1])), (wa1, .inl (cI, 4, .inl fw1)), (a2, .inr (8, [.int 4, .ref wa2, .ref na2])), (wa2, .inl (cI, 4, .inl fw2)), (al, .inr (4, [mc, .ref ed, .int (nI cc)])), (ed, .inl (cO, 10, .inr (.inr (.inr (.inr ee))))), (a3, .inr (8, [.int 4, .ref wa3, .ref na3])), (wa3, .inl (cI, 4, .inl fw3))] H138 := hP
  replace hD : va_D A [(mo, .inr (9, [th, .ref al, md, rf, kn])), (na0, .inl (cI, 4, .inl fn0)), (na1, .inl (cI, 4, .inl fn1)), (na2, .inl (cI, 4, .inl fn2)), (na3, .inl (cI, 4, .inl fn3)), (q2, .inl (cI, 4, .inl (upd (upd (upd (upd (upd (upd (upd (upd (upd (upd (upd (upd (upd (upd (fun _ => 0) 0 1) 1 1) 1 2) 1 2) 1 2) 1 2) 2 1) 2 3) 2 3) 2 3) 2 3) 3 1) 3 4) 3 4))), (a0, .inr (8, [.int 4, .ref wa0, .ref na0])), (wa0, .inl (cI, 4, .inl fw0)), (a1, .inr (8, [.int 4, .ref wa1, .ref na1])), (wa1, .inl (cI, 4, .inl fw1)), (a2, .inr (8, [.int 4, .ref wa2, .ref na2])), (wa2, .inl (cI, 4, .inl fw2)), (al, .inr (4, [mc, .ref ed, .int (nI cc)])), (ed, .inl (cO, 10, .inr (.inr (.inr (.inr ee))))), (a3, .inr (8, [.int 4, .ref wa3, .ref na3])), (wa3, .inl (cI, 4, .inl fw3))] := hD
  refine W.widen (k := 1) (n := 4) (by omega) (by omega) ?_
  refine lv_icmp_ge (tgt := 80) hx hb dX4_depthOf_40 (by decide) (fun c9 => ?_) (fun c9 => ?_)
  · exact absurd c9 (by decide)
  refine lv_aload hx hb dX4_depthOf_43 (lv_at hl 1 rfl) ?_
  refine lv_iload hx hb dX4_depthOf_45 (lv_at hl 0 rfl) ?_
  have hPc := hP.sub (ws' := [(a3, .inr (8, [.int 4, .ref wa3, .ref na3])), (wa3, .inl (cI, 4, .inl fw3))]) [14, 15] rfl
  have hDc := hD.sub (ws' := [(a3, .inr (8, [.int 4, .ref wa3, .ref na3])), (wa3, .inl (cI, 4, .inl fw3))]) [14, 15] (by decide) rfl
  have hFc := va_free (wc := [(a3, .inr (8, [.int 4, .ref wa3, .ref na3])), (wa3, .inl (cI, 4, .inl fw3))]) hD hS hA [14, 15] rfl
  have hDv := hDc.self (sz := H138.size)
  have hpre := zpre (xs' := []) (av := [.ref a3, .int 2]) hPc hK (hDc.weaken (fun _ _ _ h => h)) hZ hS hFc (fun r hr => by cases hr)
  refine va_calli (va_runV (As := [.int 2]) (rest := []) ⟨hx, hb, hml, hown, hts⟩ (k_mh2_3 l dC dI cI cB cR cO zk a3 wa3 na3 fw3 H138.size (hw3 2 (by decide))) (cwV 1 hts gX4_depthOf_X3_hangs rfl rfl rfl (by decide +kernel) ⟨Nat.le_of_ble_eq_true rfl, Nat.le_of_ble_eq_true rfl⟩) ⟨zblind, (zrecv_8 hK hPc (q0 := 0) rfl), hpre⟩ rfl rfl hl.1 rfl (lv_room (Nat.le_of_ble_eq_true rfl)) dX4_depthOf_47 ⟨Nat.le_of_ble_eq_true rfl, Nat.le_of_ble_eq_true rfl⟩) hS (fun q _ h => hFc q h) hFc (fun r141 u t H140 locs ht hvm hw hB hz1 hk1 hS => ?_)
  obtain rfl : 1 = r141 := (show r141 = 1 from hw).symm
  obtain ⟨hP1, hK1, hD1, hz2⟩ := hB
  rw [ht] at hP1 hz2
  have hPD9 := va_join (wr := [(mo, .inr (9, [th, .ref al, md, rf, kn])), (na0, .inl (cI, 4, .inl fn0)), (na1, .inl (cI, 4, .inl fn1)), (na2, .inl (cI, 4, .inl fn2)), (na3, .inl (cI, 4, .inl fn3)), (q2, .inl (cI, 4, .inl (upd (upd (upd (upd (upd (upd (upd (upd (upd (upd (upd (upd (upd (upd (fun _ => 0) 0 1) 1 1) 1 2) 1 2) 1 2) 1 2) 2 1) 2 3) 2 3) 2 3) 2 3) 3 1) 3 4) 3 4))), (a0, .inr (8, [.int 4, .ref wa0, .ref na0])), (wa0, .inl (cI, 4, .inl fw0)), (a1, .inr (8, [.int 4, .ref wa1, .ref na1])), (wa1, .inl (cI, 4, .inl fw1)), (a2, .inr (8, [.int 4, .ref wa2, .ref na2])), (wa2, .inl (cI, 4, .inl fw2)), (al, .inr (4, [mc, .ref ed, .int (nI cc)])), (ed, .inl (cO, 10, .inr (.inr (.inr (.inr ee)))))]) (w1 := [(a3, .inr (8, [.int 4, .ref wa3, .ref na3])), (wa3, .inl (cI, 4, .inl fw3))]) hP hD [14, 15] [0, 1, 2, 3, 4, 5, 6, 7, 8, 9, 10, 11, 12, 13] rfl rfl (by decide) (by decide) hk1 hFc hP1 hD1
  clear hPc hDc hFc hDv hpre hP hD hP1 hK1 hD1
  obtain ⟨hP, hD⟩ := hPD9
  replace hz : s.heap.size + 1 ≤ H140.size := by omega
  clear hz2
  replace hP : va_P (dC, dI) vwCl [(mo, .inr (9, [th, .ref al, md, rf, kn])), (na0, .inl (cI, 4, .inl fn0)), (na1, .inl (cI, 4, .inl fn1)), (na2, .inl (cI, 4, .inl fn2)), (na3, .inl (cI, 4, .inl fn3)), (q2, .inl (cI, 4, .inl (upd (upd (upd (upd (upd (upd (upd (upd (upd (upd (upd (upd (upd (upd (fun _ => 0) 0 1) 1 1) 1 2) 1 2) 1 2) 1 2) 2 1) 2 3) 2 3) 2 3) 2 3) 3 1) 3 4) 3 4))), (a0, .inr (8, [.int 4, .ref wa0, .ref na0])), (wa0, .inl (cI, 4, .inl fw0)), (a1, .inr (8, [.int 4, .ref wa1, .ref na1])), (wa1, .inl (cI, 4, .inl fw1)), (a2, .inr (8, [.int 4, .ref wa2, .ref na2])), (wa2, .inl (cI, 4, .inl fw2)), (al, .inr (4, [mc, .ref ed, .int (nI cc)])), (ed, .inl (cO, 10, .inr (.inr (.inr (.inr ee))))), (a3, .inr (8, [.int 4, .ref wa3, .ref na3])), (wa3, .inl (cI, 4, .inl fw3))] H140 := hP
  replace hD : va_D A [(mo, .inr (9, [th, .ref al, md, rf, kn])), (na0, .inl (cI, 4, .inl fn0)), (na1, .inl (cI, 4, .inl fn1)), (na2, .inl (cI, 4, .inl fn2)), (na3, .inl (cI, 4, .inl fn3)), (q2, .inl (cI, 4, .inl (upd (upd (upd (upd (upd (upd (upd (upd (upd (upd (upd (upd (upd (upd (fun _ => 0) 0 1) 1 1) 1 2) 1 2) 1 2) 1 2) 2 1) 2 3) 2 3) 2 3) 2 3) 3 1) 3 4) 3 4))), (a0, .inr (8, [.int 4, .ref wa0, .ref na0])), (wa0, .inl (cI, 4, .inl fw0)), (a1, .inr (8, [.int 4, .ref wa1, .ref na1])), (wa1, .inl (cI, 4, .inl fw1)), (a2, .inr (8, [.int 4, .ref wa2, .ref na2])), (wa2, .inl (cI, 4, .inl fw2)), (al, .inr (4, [mc, .ref ed, .int (nI cc)])), (ed, .inl (cO, 10, .inr (.inr (.inr (.inr ee))))), (a3, .inr (8, [.int 4, .ref wa3, .ref na3])), (wa3, .inl (cI, 4, .inl fw3))] := hD
  refine W.widen (k := 1) (n := 4) (by omega) (by omega) ?_
  refine lv_if_eq (tgt := 74) hx hb dX4_depthOf_50 (by decide) (fun c9 => ?_) (fun c9 => ?_)
  · exact absurd c9 (by decide)
  refine lv_aload_n hx hb dX4_depthOf_53 rfl (lv_at hl 3 rfl) ?_
  refine lv_iload_n hx hb dX4_depthOf_54 rfl (lv_at hl 2 rfl) ?_
  refine lv_aload_n hx hb dX4_depthOf_55 rfl (lv_at hl 3 rfl) ?_
  refine lv_iload_n hx hb dX4_depthOf_56 rfl (lv_at hl 2 rfl) ?_
  refine va_iald (D := (dC, dI)) (cl := vwCl) hx hb hK hP 5 0 rfl rfl (by unfold vp_in; decide) dX4_depthOf_57 ?_
  refine lv_topi (fun v142 ev142 => ?_)
  obtain rfl : v142 = 4 := ev142.trans (rfl)
  refine lv_iconst (v := 1) hx hb dX4_depthOf_58 (by decide) ?_
  refine lv_aload_n hx hb dX4_depthOf_59 rfl (lv_at hl 3 rfl) ?_
  refine lv_aload hx hb dX4_depthOf_60 (lv_at hl 1 rfl) ?_
  refine va_get (D := (dC, dI)) (ci := 8) (v := .ref na3) (C := RX3) (T := TX3) (N := 3) hx hb hts hi_X4_depthOf_X3 hown hK hP 14 rfl rfl 2 (by decide) (hts (.fieldLink RX4 48 "DeeprowsModel$Row" "numbers" "[I") (List.mem_cons_of_mem _ zw_1180)) (fun _ h9 => h9) rfl dX4_depthOf_62 ?_
  refine lv_iload hx hb dX4_depthOf_65 (lv_at hl 0 rfl) ?_
  refine va_iald (D := (dC, dI)) (cl := vwCl) hx hb hK hP 4 0 rfl rfl (by unfold vp_in; decide) dX4_depthOf_67 ?_
  refine lv_topi (fun v143 ev143 => ?_)
  obtain rfl : v143 = 2 := ev143.trans (hn3 2 (by decide))
  refine va_iald (D := (dC, dI)) (cl := vwCl) hx hb hK hP 5 0 rfl rfl (by unfold vp_in; decide) dX4_depthOf_68 ?_
  refine lv_topi (fun v144 ev144 => ?_)
  obtain rfl : v144 = 3 := ev144.trans (rfl)
  refine lv_iadd hx hb dX4_depthOf_69 ?_
  refine lv_topi (fun v145 ev145 => ?_)
  obtain rfl : v145 = 4 := ev145.trans (by decide)
  refine va_mmax (x := 4) (y := 4) hx hb (hml.trans hl.1.symm) hown (hts (.methodLink RX4 52 Lib.Math.max.name) (List.mem_cons_of_mem _ zw_1264)) (hts (.static Lib.Math.max.name) (List.mem_cons_of_mem _ zw_271)) (hts (.initialized "java/lang/Math") (List.mem_cons_of_mem _ zw_58)) (hts (.code Lib.Math.max.name Lib.Math.max.code 2 (some .int)) (List.mem_cons_of_mem _ zw_272)) (Nat.le_of_ble_eq_true rfl) (Nat.le_of_ble_eq_true rfl) (Nat.le_of_ble_eq_true rfl) (Nat.le_of_ble_eq_true rfl) dX4_depthOf_70 ?_
  refine lv_topi (fun v146 ev146 => ?_)
  obtain rfl : v146 = 4 := ev146.trans (by decide)
  refine va_iast (D := (dC, dI)) (cl := vwCl) hx hb hK hP hD (zS0 hS) 5 0 rfl rfl (by unfold vp_in; decide) dX4_depthOf_73 (fun H147 locs hP hD hS1 => ?_)
  have hz : s.heap.size + 1 ≤ H147.size := Nat.le_trans hz hS1.1
  have hS := zSS hS hS1
  replace hP : va_P (dC, dI) vwCl [(mo, .inr (9, [th, .ref al, md, rf, kn])), (na0, .inl (cI, 4, .inl fn0)), (na1, .inl (cI, 4, .inl fn1)), (na2, .inl (cI, 4, .inl fn2)), (na3, .inl (cI, 4, .inl fn3)), (q2, .inl (cI, 4, .inl (upd (upd (upd (upd (upd (upd (upd (upd (upd (upd (upd (upd (upd (upd (upd (fun _ => 0) 0 1) 1 1) 1 2) 1 2) 1 2) 1 2) 2 1) 2 3) 2 3) 2 3) 2 3) 3 1) 3 4) 3 4) 3 4))), (a0, .inr (8, [.int 4, .ref wa0, .ref na0])), (wa0, .inl (cI, 4, .inl fw0)), (a1, .inr (8, [.int 4, .ref wa1, .ref na1])), (wa1, .inl (cI, 4, .inl fw1)), (a2, .inr (8, [.int 4, .ref wa2, .ref na2])), (wa2, .inl (cI, 4, .inl fw2)), (al, .inr (4, [mc, .ref ed, .int (nI cc)])), (ed, .inl (cO, 10, .inr (.inr (.inr (.inr ee))))), (a3, .inr (8, [.int 4, .ref wa3, .ref na3])), (wa3, .inl (cI, 4, .inl fw3))] H147 := hP
  replace hD : va_D A [(mo, .inr (9, [th, .ref al, md, rf, kn])), (na0, .inl (cI, 4, .inl fn0)), (na1, .inl (cI, 4, .inl fn1)), (na2, .inl (cI, 4, .inl fn2)), (na3, .inl (cI, 4, .inl fn3)), (q2, .inl (cI, 4, .inl (upd (upd (upd (upd (upd (upd (upd (upd (upd (upd (upd (upd (upd (upd (upd (fun _ => 0) 0 1) 1 1) 1 2) 1 2) 1 2) 1 2) 2 1) 2 3) 2 3) 2 3) 2 3) 3 1) 3 4) 3 4) 3 4))), (a0, .inr (8, [.int 4, .ref wa0, .ref na0])), (wa0, .inl (cI, 4, .inl fw0)), (a1, .inr (8, [.int 4, .ref wa1, .ref na1])), (wa1, .inl (cI, 4, .inl fw1)), (a2, .inr (8, [.int 4, .ref wa2, .ref na2])), (wa2, .inl (cI, 4, .inl fw2)), (al, .inr (4, [mc, .ref ed, .int (nI cc)])), (ed, .inl (cO, 10, .inr (.inr (.inr (.inr ee))))), (a3, .inr (8, [.int 4, .ref wa3, .ref na3])), (wa3, .inl (cI, 4, .inl fw3))] := hD
  refine lv_iinc (v := 3) (lv' := [(5, .int 3), (4, .ref a3), (3, .int 3), (2, .ref q2), (0, .ref mo), (1, .int 3)]) hx hb dX4_depthOf_74 hl (k := 0) rfl (by decide) (by decide) rfl (fun ls hl => ?_)
  refine lv_goto (tgt := 33) hx hb dX4_depthOf_77 (by decide) ?_
  refine lv_iload hx hb dX4_depthOf_33 (lv_at hl 0 rfl) ?_
  refine lv_aload hx hb dX4_depthOf_35 (lv_at hl 1 rfl) ?_
  have hPc := hP.sub (ws' := [(a3, .inr (8, [.int 4, .ref wa3, .ref na3])), (wa3, .inl (cI, 4, .inl fw3))]) [14, 15] rfl
  have hDc := hD.sub (ws' := [(a3, .inr (8, [.int 4, .ref wa3, .ref na3])), (wa3, .inl (cI, 4, .inl fw3))]) [14, 15] (by decide) rfl
  have hFc := va_free (wc := [(a3, .inr (8, [.int 4, .ref wa3, .ref na3])), (wa3, .inl (cI, 4, .inl fw3))]) hD hS hA [14, 15] rfl
  have hDv := hDc.self (sz := H147.size)
  have hpre := zpre (xs' := []) (av := [.ref a3]) hPc hK (hDc.weaken (fun _ _ _ h => h)) hZ hS hFc (fun r hr => by cases hr)
  refine va_calli (va_runV (As := []) (rest := [.int 3]) ⟨hx, hb, hml, hown, hts⟩ (k_rlen l dC dI cI cB cR cO zk a3 wa3 na3 fw3 H147.size ) (cwV 0 hts gX4_depthOf_X3_length rfl rfl rfl (by decide +kernel) ⟨Nat.le_of_ble_eq_true rfl, Nat.le_of_ble_eq_true rfl⟩) ⟨zblind, (zrecv_8 hK hPc (q0 := 0) rfl), hpre⟩ rfl rfl hl.1 rfl (lv_room (Nat.le_of_ble_eq_true rfl)) dX4_depthOf_37 ⟨Nat.le_of_ble_eq_true rfl, Nat.le_of_ble_eq_true rfl⟩) hS (fun q _ h => hFc q h) hFc (fun r149 u t H148 locs ht hvm hw hB hz1 hk1 hS => ?_)
  obtain rfl : 4 = r149 := (show r149 = 4 from hw).symm
  obtain ⟨hP1, hK1, hD1, hz2⟩ := hB
  rw [ht] at hP1 hz2
  have hPD9 := va_join (wr := [(mo, .inr (9, [th, .ref al, md, rf, kn])), (na0, .inl (cI, 4, .inl fn0)), (na1, .inl (cI, 4, .inl fn1)), (na2, .inl (cI, 4, .inl fn2)), (na3, .inl (cI, 4, .inl fn3)), (q2, .inl (cI, 4, .inl (upd (upd (upd (upd (upd (upd (upd (upd (upd (upd (upd (upd (upd (upd (upd (fun _ => 0) 0 1) 1 1) 1 2) 1 2) 1 2) 1 2) 2 1) 2 3) 2 3) 2 3) 2 3) 3 1) 3 4) 3 4) 3 4))), (a0, .inr (8, [.int 4, .ref wa0, .ref na0])), (wa0, .inl (cI, 4, .inl fw0)), (a1, .inr (8, [.int 4, .ref wa1, .ref na1])), (wa1, .inl (cI, 4, .inl fw1)), (a2, .inr (8, [.int 4, .ref wa2, .ref na2])), (wa2, .inl (cI, 4, .inl fw2)), (al, .inr (4, [mc, .ref ed, .int (nI cc)])), (ed, .inl (cO, 10, .inr (.inr (.inr (.inr ee)))))]) (w1 := [(a3, .inr (8, [.int 4, .ref wa3, .ref na3])), (wa3, .inl (cI, 4, .inl fw3))]) hP hD [14, 15] [0, 1, 2, 3, 4, 5, 6, 7, 8, 9, 10, 11, 12, 13] rfl rfl (by decide) (by decide) hk1 hFc hP1 hD1
  clear hPc hDc hFc hDv hpre hP hD hP1 hK1 hD1
  obtain ⟨hP, hD⟩ := hPD9
  replace hz : s.heap.size + 1 ≤ H148.size := by omega
  clear hz2
  replace hP : va_P (dC, dI) vwCl [(mo, .inr (9, [th, .ref al, md, rf, kn])), (na0, .inl (cI, 4, .inl fn0)), (na1, .inl (cI, 4, .inl fn1)), (na2, .inl (cI, 4, .inl fn2)), (na3, .inl (cI, 4, .inl fn3)), (q2, .inl (cI, 4, .inl (upd (upd (upd (upd (upd (upd (upd (upd (upd (upd (upd (upd (upd (upd (upd (fun _ => 0) 0 1) 1 1) 1 2) 1 2) 1 2) 1 2) 2 1) 2 3) 2 3) 2 3) 2 3) 3 1) 3 4) 3 4) 3 4))), (a0, .inr (8, [.int 4, .ref wa0, .ref na0])), (wa0, .inl (cI, 4, .inl fw0)), (a1, .inr (8, [.int 4, .ref wa1, .ref na1])), (wa1, .inl (cI, 4, .inl fw1)), (a2, .inr (8, [.int 4, .ref wa2, .ref na2])), (wa2, .inl (cI, 4, .inl fw2)), (al, .inr (4, [mc, .ref ed, .int (nI cc)])), (ed, .inl (cO, 10, .inr (.inr (.inr (.inr ee))))), (a3, .inr (8, [.int 4, .ref wa3, .ref na3])), (wa3, .inl (cI, 4, .inl fw3))] H148 := hP
  replace hD : va_D A [(mo, .inr (9, [th, .ref al, md, rf, kn])), (na0, .inl (cI, 4, .inl fn0)), (na1, .inl (cI, 4, .inl fn1)), (na2, .inl (cI, 4, .inl fn2)), (na3, .inl (cI, 4, .inl fn3)), (q2, .inl (cI, 4, .inl (upd (upd (upd (upd (upd (upd (upd (upd (upd (upd (upd (upd (upd (upd (upd (fun _ => 0) 0 1) 1 1) 1 2) 1 2) 1 2) 1 2) 2 1) 2 3) 2 3) 2 3) 2 3) 3 1) 3 4) 3 4) 3 4))), (a0, .inr (8, [.int 4, .ref wa0, .ref na0])), (wa0, .inl (cI, 4, .inl fw0)), (a1, .inr (8, [.int 4, .ref wa1, .ref na1])), (wa1, .inl (cI, 4, .inl fw1)), (a2, .inr (8, [.int 4, .ref wa2, .ref na2])), (wa2, .inl (cI, 4, .inl fw2)), (al, .inr (4, [mc, .ref ed, .int (nI cc)])), (ed, .inl (cO, 10, .inr (.inr (.inr (.inr ee))))), (a3, .inr (8, [.int 4, .ref wa3, .ref na3])), (wa3, .inl (cI, 4, .inl fw3))] := hD
  refine W.widen (k := 1) (n := 4) (by omega) (by omega) ?_
  refine lv_icmp_ge (tgt := 80) hx hb dX4_depthOf_40 (by decide) (fun c9 => ?_) (fun c9 => ?_)
  · exact absurd c9 (by decide)
  refine lv_aload hx hb dX4_depthOf_43 (lv_at hl 1 rfl) ?_
  refine lv_iload hx hb dX4_depthOf_45 (lv_at hl 0 rfl) ?_
  have hPc := hP.sub (ws' := [(a3, .inr (8, [.int 4, .ref wa3, .ref na3])), (wa3, .inl (cI, 4, .inl fw3))]) [14, 15] rfl
  have hDc := hD.sub (ws' := [(a3, .inr (8, [.int 4, .ref wa3, .ref na3])), (wa3, .inl (cI, 4, .inl fw3))]) [14, 15] (by decide) rfl
  have hFc := va_free (wc := [(a3, .inr (8, [.int 4, .ref wa3, .ref na3])), (wa3, .inl (cI, 4, .inl fw3))]) hD hS hA [14, 15] rfl
  have hDv := hDc.self (sz := H148.size)
  have hpre := zpre (xs' := []) (av := [.ref a3, .int 3]) hPc hK (hDc.weaken (fun _ _ _ h => h)) hZ hS hFc (fun r hr => by cases hr)
  refine va_calli (va_runV (As := [.int 3]) (rest := []) ⟨hx, hb, hml, hown, hts⟩ (k_mh3_3 l dC dI cI cB cR cO zk a3 wa3 na3 fw3 H148.size (hw3 3 (by decide))) (cwV 1 hts gX4_depthOf_X3_hangs rfl rfl rfl (by decide +kernel) ⟨Nat.le_of_ble_eq_true rfl, Nat.le_of_ble_eq_true rfl⟩) ⟨zblind, (zrecv_8 hK hPc (q0 := 0) rfl), hpre⟩ rfl rfl hl.1 rfl (lv_room (Nat.le_of_ble_eq_true rfl)) dX4_depthOf_47 ⟨Nat.le_of_ble_eq_true rfl, Nat.le_of_ble_eq_true rfl⟩) hS (fun q _ h => hFc q h) hFc (fun r151 u t H150 locs ht hvm hw hB hz1 hk1 hS => ?_)
  obtain rfl : 1 = r151 := (show r151 = 1 from hw).symm
  obtain ⟨hP1, hK1, hD1, hz2⟩ := hB
  rw [ht] at hP1 hz2
  have hPD9 := va_join (wr := [(mo, .inr (9, [th, .ref al, md, rf, kn])), (na0, .inl (cI, 4, .inl fn0)), (na1, .inl (cI, 4, .inl fn1)), (na2, .inl (cI, 4, .inl fn2)), (na3, .inl (cI, 4, .inl fn3)), (q2, .inl (cI, 4, .inl (upd (upd (upd (upd (upd (upd (upd (upd (upd (upd (upd (upd (upd (upd (upd (fun _ => 0) 0 1) 1 1) 1 2) 1 2) 1 2) 1 2) 2 1) 2 3) 2 3) 2 3) 2 3) 3 1) 3 4) 3 4) 3 4))), (a0, .inr (8, [.int 4, .ref wa0, .ref na0])), (wa0, .inl (cI, 4, .inl fw0)), (a1, .inr (8, [.int 4, .ref wa1, .ref na1])), (wa1, .inl (cI, 4, .inl fw1)), (a2, .inr (8, [.int 4, .ref wa2, .ref na2])), (wa2, .inl (cI, 4, .inl fw2)), (al, .inr (4, [mc, .ref ed, .int (nI cc)])), (ed, .inl (cO, 10, .inr (.inr (.inr (.inr ee)))))]) (w1 := [(a3, .inr (8, [.int 4, .ref wa3, .ref na3])), (wa3, .inl (cI, 4, .inl fw3))]) hP hD [14, 15] [0, 1, 2, 3, 4, 5, 6, 7, 8, 9, 10, 11, 12, 13] rfl rfl (by decide) (by decide) hk1 hFc hP1 hD1
  clear hPc hDc hFc hDv hpre hP hD hP1 hK1 hD1
  obtain ⟨hP, hD⟩ := hPD9
  replace hz : s.heap.size + 1 ≤ H150.size := by omega
  clear hz2
  replace hP : va_P (dC, dI) vwCl [(mo, .inr (9, [th, .ref al, md, rf, kn])), (na0, .inl (cI, 4, .inl fn0)), (na1, .inl (cI, 4, .inl fn1)), (na2, .inl (cI, 4, .inl fn2)), (na3, .inl (cI, 4, .inl fn3)), (q2, .inl (cI, 4, .inl (upd (upd (upd (upd (upd (upd (upd (upd (upd (upd (upd (upd (upd (upd (upd (fun _ => 0) 0 1) 1 1) 1 2) 1 2) 1 2) 1 2) 2 1) 2 3) 2 3) 2 3) 2 3) 3 1) 3 4) 3 4) 3 4))), (a0, .inr (8, [.int 4, .ref wa0, .ref na0])), (wa0, .inl (cI, 4, .inl fw0)), (a1, .inr (8, [.int 4, .ref wa1, .ref na1])), (wa1, .inl (cI, 4, .inl fw1)), (a2, .inr (8, [.int 4, .ref wa2, .ref na2])), (wa2, .inl (cI, 4, .inl fw2)), (al, .inr (4, [mc, .ref ed, .int (nI cc)])), (ed, .inl (cO, 10, .inr (.inr (.inr (.inr ee))))), (a3, .inr (8, [.int 4, .ref wa3, .ref na3])), (wa3, .inl (cI, 4, .inl fw3))] H150 := hP
  replace hD : va_D A [(mo, .inr (9, [th, .ref al, md, rf, kn])), (na0, .inl (cI, 4, .inl fn0)), (na1, .inl (cI, 4, .inl fn1)), (na2, .inl (cI, 4, .inl fn2)), (na3, .inl (cI, 4, .inl fn3)), (q2, .inl (cI, 4, .inl (upd (upd (upd (upd (upd (upd (upd (upd (upd (upd (upd (upd (upd (upd (upd (fun _ => 0) 0 1) 1 1) 1 2) 1 2) 1 2) 1 2) 2 1) 2 3) 2 3) 2 3) 2 3) 3 1) 3 4) 3 4) 3 4))), (a0, .inr (8, [.int 4, .ref wa0, .ref na0])), (wa0, .inl (cI, 4, .inl fw0)), (a1, .inr (8, [.int 4, .ref wa1, .ref na1])), (wa1, .inl (cI, 4, .inl fw1)), (a2, .inr (8, [.int 4, .ref wa2, .ref na2])), (wa2, .inl (cI, 4, .inl fw2)), (al, .inr (4, [mc, .ref ed, .int (nI cc)])), (ed, .inl (cO, 10, .inr (.inr (.inr (.inr ee))))), (a3, .inr (8, [.int 4, .ref wa3, .ref na3])), (wa3, .inl (cI, 4, .inl fw3))] := hD
  refine W.widen (k := 1) (n := 4) (by omega) (by omega) ?_
  refine lv_if_eq (tgt := 74) hx hb dX4_depthOf_50 (by decide) (fun c9 => ?_) (fun c9 => ?_)
  · exact absurd c9 (by decide)
  refine lv_aload_n hx hb dX4_depthOf_53 rfl (lv_at hl 3 rfl) ?_
  refine lv_iload_n hx hb dX4_depthOf_54 rfl (lv_at hl 2 rfl) ?_
  refine lv_aload_n hx hb dX4_depthOf_55 rfl (lv_at hl 3 rfl) ?_
  refine lv_iload_n hx hb dX4_depthOf_56 rfl (lv_at hl 2 rfl) ?_
  refine va_iald (D := (dC, dI)) (cl := vwCl) hx hb hK hP 5 0 rfl rfl (by unfold vp_in; decide) dX4_depthOf_57 ?_
  refine lv_topi (fun v152 ev152 => ?_)
  obtain rfl : v152 = 4 := ev152.trans (rfl)
  refine lv_iconst (v := 1) hx hb dX4_depthOf_58 (by decide) ?_
  refine lv_aload_n hx hb dX4_depthOf_59 rfl (lv_at hl 3 rfl) ?_
  refine lv_aload hx hb dX4_depthOf_60 (lv_at hl 1 rfl) ?_
  refine va_get (D := (dC, dI)) (ci := 8) (v := .ref na3) (C := RX3) (T := TX3) (N := 3) hx hb hts hi_X4_depthOf_X3 hown hK hP 14 rfl rfl 2 (by decide) (hts (.fieldLink RX4 48 "DeeprowsModel$Row" "numbers" "[I") (List.mem_cons_of_mem _ zw_1180)) (fun _ h9 => h9) rfl dX4_depthOf_62 ?_
  refine lv_iload hx hb dX4_depthOf_65 (lv_at hl 0 rfl) ?_
  refine va_iald (D := (dC, dI)) (cl := vwCl) hx hb hK hP 4 0 rfl rfl (by unfold vp_in; decide) dX4_depthOf_67 ?_
  refine lv_topi (fun v153 ev153 => ?_)
  obtain rfl : v153 = 2 := ev153.trans (hn3 3 (by decide))
  refine va_iald (D := (dC, dI)) (cl := vwCl) hx hb hK hP 5 0 rfl rfl (by unfold vp_in; decide) dX4_depthOf_68 ?_
  refine lv_topi (fun v154 ev154 => ?_)
  obtain rfl : v154 = 3 := ev154.trans (rfl)
  refine lv_iadd hx hb dX4_depthOf_69 ?_
  refine lv_topi (fun v155 ev155 => ?_)
  obtain rfl : v155 = 4 := ev155.trans (by decide)
  refine va_mmax (x := 4) (y := 4) hx hb (hml.trans hl.1.symm) hown (hts (.methodLink RX4 52 Lib.Math.max.name) (List.mem_cons_of_mem _ zw_1264)) (hts (.static Lib.Math.max.name) (List.mem_cons_of_mem _ zw_271)) (hts (.initialized "java/lang/Math") (List.mem_cons_of_mem _ zw_58)) (hts (.code Lib.Math.max.name Lib.Math.max.code 2 (some .int)) (List.mem_cons_of_mem _ zw_272)) (Nat.le_of_ble_eq_true rfl) (Nat.le_of_ble_eq_true rfl) (Nat.le_of_ble_eq_true rfl) (Nat.le_of_ble_eq_true rfl) dX4_depthOf_70 ?_
  refine lv_topi (fun v156 ev156 => ?_)
  obtain rfl : v156 = 4 := ev156.trans (by decide)
  refine va_iast (D := (dC, dI)) (cl := vwCl) hx hb hK hP hD (zS0 hS) 5 0 rfl rfl (by unfold vp_in; decide) dX4_depthOf_73 (fun H157 locs hP hD hS1 => ?_)
  have hz : s.heap.size + 1 ≤ H157.size := Nat.le_trans hz hS1.1
  have hS := zSS hS hS1
  replace hP : va_P (dC, dI) vwCl [(mo, .inr (9, [th, .ref al, md, rf, kn])), (na0, .inl (cI, 4, .inl fn0)), (na1, .inl (cI, 4, .inl fn1)), (na2, .inl (cI, 4, .inl fn2)), (na3, .inl (cI, 4, .inl fn3)), (q2, .inl (cI, 4, .inl (upd (upd (upd (upd (upd (upd (upd (upd (upd (upd (upd (upd (upd (upd (upd (upd (fun _ => 0) 0 1) 1 1) 1 2) 1 2) 1 2) 1 2) 2 1) 2 3) 2 3) 2 3) 2 3) 3 1) 3 4) 3 4) 3 4) 3 4))), (a0, .inr (8, [.int 4, .ref wa0, .ref na0])), (wa0, .inl (cI, 4, .inl fw0)), (a1, .inr (8, [.int 4, .ref wa1, .ref na1])), (wa1, .inl (cI, 4, .inl fw1)), (a2, .inr (8, [.int 4, .ref wa2, .ref na2])), (wa2, .inl (cI, 4, .inl fw2)), (al, .inr (4, [mc, .ref ed, .int (nI cc)])), (ed, .inl (cO, 10, .inr (.inr (.inr (.inr ee))))), (a3, .inr (8, [.int 4, .ref wa3, .ref na3])), (wa3, .inl (cI, 4, .inl fw3))] H157 := hP
  replace hD : va_D A [(mo, .inr (9, [th, .ref al, md, rf, kn])), (na0, .inl (cI, 4, .inl fn0)), (na1, .inl (cI, 4, .inl fn1)), (na2, .inl (cI, 4, .inl fn2)), (na3, .inl (cI, 4, .inl fn3)), (q2, .inl (cI, 4, .inl (upd (upd (upd (upd (upd (upd (upd (upd (upd (upd (upd (upd (upd (upd (upd (upd (fun _ => 0) 0 1) 1 1) 1 2) 1 2) 1 2) 1 2) 2 1) 2 3) 2 3) 2 3) 2 3) 3 1) 3 4) 3 4) 3 4) 3 4))), (a0, .inr (8, [.int 4, .ref wa0, .ref na0])), (wa0, .inl (cI, 4, .inl fw0)), (a1, .inr (8, [.int 4, .ref wa1, .ref na1])), (wa1, .inl (cI, 4, .inl fw1)), (a2, .inr (8, [.int 4, .ref wa2, .ref na2])), (wa2, .inl (cI, 4, .inl fw2)), (al, .inr (4, [mc, .ref ed, .int (nI cc)])), (ed, .inl (cO, 10, .inr (.inr (.inr (.inr ee))))), (a3, .inr (8, [.int 4, .ref wa3, .ref na3])), (wa3, .inl (cI, 4, .inl fw3))] := hD
  refine lv_iinc (v := 4) (lv' := [(5, .int 4), (4, .ref a3), (3, .int 3), (2, .ref q2), (0, .ref mo), (1, .int 3)]) hx hb dX4_depthOf_74 hl (k := 0) rfl (by decide) (by decide) rfl (fun ls hl => ?_)
  refine lv_goto (tgt := 33) hx hb dX4_depthOf_77 (by decide) ?_
  refine lv_iload hx hb dX4_depthOf_33 (lv_at hl 0 rfl) ?_
  refine lv_aload hx hb dX4_depthOf_35 (lv_at hl 1 rfl) ?_
  have hPc := hP.sub (ws' := [(a3, .inr (8, [.int 4, .ref wa3, .ref na3])), (wa3, .inl (cI, 4, .inl fw3))]) [14, 15] rfl
  have hDc := hD.sub (ws' := [(a3, .inr (8, [.int 4, .ref wa3, .ref na3])), (wa3, .inl (cI, 4, .inl fw3))]) [14, 15] (by decide) rfl
  have hFc := va_free (wc := [(a3, .inr (8, [.int 4, .ref wa3, .ref na3])), (wa3, .inl (cI, 4, .inl fw3))]) hD hS hA [14, 15] rfl
  have hDv := hDc.self (sz := H157.size)
  have hpre := zpre (xs' := []) (av := [.ref a3]) hPc hK (hDc.weaken (fun _ _ _ h => h)) hZ hS hFc (fun r hr => by cases hr)
  refine va_calli (va_runV (As := []) (rest := [.int 4]) ⟨hx, hb, hml, hown, hts⟩ (k_rlen l dC dI cI cB cR cO zk a3 wa3 na3 fw3 H157.size ) (cwV 0 hts gX4_depthOf_X3_length rfl rfl rfl (by decide +kernel) ⟨Nat.le_of_ble_eq_true rfl, Nat.le_of_ble_eq_true rfl⟩) ⟨zblind, (zrecv_8 hK hPc (q0 := 0) rfl), hpre⟩ rfl rfl hl.1 rfl (lv_room (Nat.le_of_ble_eq_true rfl)) dX4_depthOf_37 ⟨Nat.le_of_ble_eq_true rfl, Nat.le_of_ble_eq_true rfl⟩) hS (fun q _ h => hFc q h) hFc (fun r159 u t H158 locs ht hvm hw hB hz1 hk1 hS => ?_)
  obtain rfl : 4 = r159 := (show r159 = 4 from hw).symm
  obtain ⟨hP1, hK1, hD1, hz2⟩ := hB
  rw [ht] at hP1 hz2
  have hPD9 := va_join (wr := [(mo, .inr (9, [th, .ref al, md, rf, kn])), (na0, .inl (cI, 4, .inl fn0)), (na1, .inl (cI, 4, .inl fn1)), (na2, .inl (cI, 4, .inl fn2)), (na3, .inl (cI, 4, .inl fn3)), (q2, .inl (cI, 4, .inl (upd (upd (upd (upd (upd (upd (upd (upd (upd (upd (upd (upd (upd (upd (upd (upd (fun _ => 0) 0 1) 1 1) 1 2) 1 2) 1 2) 1 2) 2 1) 2 3) 2 3) 2 3) 2 3) 3 1) 3 4) 3 4) 3 4) 3 4))), (a0, .inr (8, [.int 4, .ref wa0, .ref na0])), (wa0, .inl (cI, 4, .inl fw0)), (a1, .inr (8, [.int 4, .ref wa1, .ref na1])), (wa1, .inl (cI, 4, .inl fw1)), (a2, .inr (8, [.int 4, .ref wa2, .ref na2])), (wa2, .inl (cI, 4, .inl fw2)), (al, .inr (4, [mc, .ref ed, .int (nI cc)])), (ed, .inl (cO, 10, .inr (.inr (.inr (.inr ee)))))]) (w1 := [(a3, .inr (8, [.int 4, .ref wa3, .ref na3])), (wa3, .inl (cI, 4, .inl fw3))]) hP hD [14, 15] [0, 1, 2, 3, 4, 5, 6, 7, 8, 9, 10, 11, 12, 13] rfl rfl (by decide) (by decide) hk1 hFc hP1 hD1
  clear hPc hDc hFc hDv hpre hP hD hP1 hK1 hD1
  obtain ⟨hP, hD⟩ := hPD9
  replace hz : s.heap.size + 1 ≤ H158.size := by omega
  clear hz2
  replace hP : va_P (dC, dI) vwCl [(mo, .inr (9, [th, .ref al, md, rf, kn])), (na0, .inl (cI, 4, .inl fn0)), (na1, .inl (cI, 4, .inl fn1)), (na2, .inl (cI, 4, .inl fn2)), (na3, .inl (cI, 4, .inl fn3)), (q2, .inl (cI, 4, .inl (upd (upd (upd (upd (upd (upd (upd (upd (upd (upd (upd (upd (upd (upd (upd (upd (fun _ => 0) 0 1) 1 1) 1 2) 1 2) 1 2) 1 2) 2 1) 2 3) 2 3) 2 3) 2 3) 3 1) 3 4) 3 4) 3 4) 3 4))), (a0, .inr (8, [.int 4, .ref wa0, .ref na0])), (wa0, .inl (cI, 4, .inl fw0)), (a1, .inr (8, [.int 4, .ref wa1, .ref na1])), (wa1, .inl (cI, 4, .inl fw1)), (a2, .inr (8, [.int 4, .ref wa2, .ref na2])), (wa2, .inl (cI, 4, .inl fw2)), (al, .inr (4, [mc, .ref ed, .int (nI cc)])), (ed, .inl (cO, 10, .inr (.inr (.inr (.inr ee))))), (a3, .inr (8, [.int 4, .ref wa3, .ref na3])), (wa3, .inl (cI, 4, .inl fw3))] H158 := hP
  replace hD : va_D A [(mo, .inr (9, [th, .ref al, md, rf, kn])), (na0, .inl (cI, 4, .inl fn0)), (na1, .inl (cI, 4, .inl fn1)), (na2, .inl (cI, 4, .inl fn2)), (na3, .inl (cI, 4, .inl fn3)), (q2, .inl (cI, 4, .inl (upd (upd (upd (upd (upd (upd (upd (upd (upd (upd (upd (upd (upd (upd (upd (upd (fun _ => 0) 0 1) 1 1) 1 2) 1 2) 1 2) 1 2) 2 1) 2 3) 2 3) 2 3) 2 3) 3 1) 3 4) 3 4) 3 4) 3 4))), (a0, .inr (8, [.int 4, .ref wa0, .ref na0])), (wa0, .inl (cI, 4, .inl fw0)), (a1, .inr (8, [.int 4, .ref wa1, .ref na1])), (wa1, .inl (cI, 4, .inl fw1)), (a2, .inr (8, [.int 4, .ref wa2, .ref na2])), (wa2, .inl (cI, 4, .inl fw2)), (al, .inr (4, [mc, .ref ed, .int (nI cc)])), (ed, .inl (cO, 10, .inr (.inr (.inr (.inr ee))))), (a3, .inr (8, [.int 4, .ref wa3, .ref na3])), (wa3, .inl (cI, 4, .inl fw3))] := hD
  refine W.widen (k := 1) (n := 4) (by omega) (by omega) ?_
  refine lv_icmp_ge (tgt := 80) hx hb dX4_depthOf_40 (by decide) (fun c9 => ?_) (fun c9 => ?_)
  rotate_left
  · exact absurd (by decide) c9
  refine lv_iinc (v := 4) (lv' := [(3, .int 4), (5, .int 4), (4, .ref a3), (2, .ref q2), (0, .ref mo), (1, .int 3)]) hx hb dX4_depthOf_80 hl (k := 2) rfl (by decide) (by decide) rfl (fun ls hl => ?_)
  refine lv_goto (tgt := 8) hx hb dX4_depthOf_83 (by decide) ?_
  refine lv_iload_n hx hb dX4_depthOf_8 rfl (lv_at hl 0 rfl) ?_
  refine lv_iload_n hx hb dX4_depthOf_9 rfl (lv_at hl 5 rfl) ?_
  refine lv_icmp_gt (tgt := 86) hx hb dX4_depthOf_10 (by decide) (fun c9 => ?_) (fun c9 => ?_)
  rotate_left
  · exact absurd (by decide) c9
  refine lv_aload_n hx hb dX4_depthOf_86 rfl (lv_at hl 3 rfl) ?_
  refine lv_iload_n hx hb dX4_depthOf_87 rfl (lv_at hl 5 rfl) ?_
  refine va_iald (D := (dC, dI)) (cl := vwCl) hx hb hK hP 5 0 rfl rfl (by unfold vp_in; decide) dX4_depthOf_88 ?_
  refine lv_topi (fun v160 ev160 => ?_)
  obtain rfl : v160 = 4 := ev160.trans (rfl)
  have hP9 := hP.sub (ws' := [(mo, .inr (9, [th, .ref al, md, rf, kn])), (al, .inr (4, [mc, .ref ed, .int (nI cc)])), (ed, .inl (cO, 10, .inr (.inr (.inr (.inr ee))))), (a0, .inr (8, [.int 4, .ref wa0, .ref na0])), (wa0, .inl (cI, 4, .inl fw0)), (na0, .inl (cI, 4, .inl fn0)), (a1, .inr (8, [.int 4, .ref wa1, .ref na1])), (wa1, .inl (cI, 4, .inl fw1)), (na1, .inl (cI, 4, .inl fn1)), (a2, .inr (8, [.int 4, .ref wa2, .ref na2])), (wa2, .inl (cI, 4, .inl fw2)), (na2, .inl (cI, 4, .inl fn2)), (a3, .inr (8, [.int 4, .ref wa3, .ref na3])), (wa3, .inl (cI, 4, .inl fw3)), (na3, .inl (cI, 4, .inl fn3))]) [0, 12, 13, 6, 7, 1, 8, 9, 2, 10, 11, 3, 14, 15, 4] rfl
  have hD9 := hD.sub (ws' := [(mo, .inr (9, [th, .ref al, md, rf, kn])), (al, .inr (4, [mc, .ref ed, .int (nI cc)])), (ed, .inl (cO, 10, .inr (.inr (.inr (.inr ee))))), (a0, .inr (8, [.int 4, .ref wa0, .ref na0])), (wa0, .inl (cI, 4, .inl fw0)), (na0, .inl (cI, 4, .inl fn0)), (a1, .inr (8, [.int 4, .ref wa1, .ref na1])), (wa1, .inl (cI, 4, .inl fw1)), (na1, .inl (cI, 4, .inl fn1)), (a2, .inr (8, [.int 4, .ref wa2, .ref na2])), (wa2, .inl (cI, 4, .inl fw2)), (na2, .inl (cI, 4, .inl fn2)), (a3, .inr (8, [.int 4, .ref wa3, .ref na3])), (wa3, .inl (cI, 4, .inl fw3)), (na3, .inl (cI, 4, .inl fn3))]) [0, 12, 13, 6, 7, 1, 8, 9, 2, 10, 11, 3, 14, 15, 4] (by decide) rfl
  exact W.iret (v := 4) hx hb hr (fun t ht hW => ⟨⟨_, (), rfl, rfl, ⟨by rw [ht]; exact hP9, va_K.moved hW.alike hK, hD9, by rw [ht]; exact hz⟩⟩, hS.F ht⟩) hS.2.2 dX4_depthOf_89
