theorem hi_Jx4a65c_isEmpty_aae02_Jx4a65c : ∀ w ∈ u_ws RJx4a65c TJx4a65c 3, w ∈ wsJx4a65c_isEmpty_aae02 := fun w h => List.mem_cons_of_mem _ (zhi_Jx4a65c w h)
set_option maxHeartbeats 4000000 in
set_option maxRecDepth 100000 in
theorem k_isEmp (l : Launch) (dC : Nat → ClassId) (dI : Nat → Nat → Nat) (cI cB cR cO : ClassId) (zk : Nat → Nat) (al : Nat) (mc : Int32) (sz : Nat)  : Met l yJx4a65c_isEmpty_aae02 wsJx4a65c_isEmpty_aae02 ({ frames := 0, cells := 0, slots := 0, locals := 0 }) (va_Pc [.ref al] (zPre (dC, dI) (zT cI cB cR cO) zk [] [(al, .inr (4, [.int mc, .ref (zk 0), .int 0]))] sz)) (va_Qi (fun r (_ : Unit) => r = 1) (fun _ t => zEnd (dC, dI) (zT cI cB cR cO) (va_A [(al, .inr (4, [.int mc, .ref (zk 0), .int 0]))] sz) [(al, .inr (4, [.int mc, .ref (zk 0), .int 0]))] sz 0 t) (va_A [(al, .inr (4, [.int mc, .ref (zk 0), .int 0]))] sz)) 0 0 (va_A [(al, .inr (4, [.int mc, .ref (zk 0), .int 0]))] sz) := by
  refine Met.ofW (cc := cJx4a65c_isEmpty_aae02) (maxL := 1) (ret := (some .boolean)) (by decide) rfl ?_
  intro p e s mY args below meth c s₁ B hml hv
  obtain ⟨rfl, hsz, hP, hK, hD0, hZ⟩ := hv
  have hx := B.exec
  have hb := B.bytes
  have hr := B.returns
  have hts := atoms_spec (ws := wsJx4a65c_isEmpty_aae02) B.pre
  have hown : s.vm.findClass RJx4a65c = some mY.cls := findClass_of_methodNamed B.named
  have hlocks := B.notSynchronized
  subst hsz
  have hD := hD0.self (sz := s.heap.size)
  generalize hAe : va_A [(al, .inr (4, [.int mc, .ref (zk 0), .int 0]))] s.heap.size = A at hD hZ ⊢
  have hA : ∀ q : Nat, s.heap.size ≤ q → A q := fun q h => by rw [← hAe]; exact Or.inr h
  have hS : va_S A s.heap s.heap [] := va_S.rf
  have hz : s.heap.size + 0 ≤ s.heap.size := Nat.le_refl _
  have hl := lv_entry ([.ref al]) (n := 1) (Nat.le_of_ble_eq_true rfl)
  rw [lg_entry_eq]
  generalize (lg_sl ([.ref al]) ++ List.replicate (1 - (lg_sl ([.ref al])).length) Slot.unset).toArray = ls at hl ⊢
  have hl : lv_has ls 1 [(0, .ref al)] := hl
  have hP : va_P (dC, dI) vwCl [(al, .inr (4, [.int mc, .ref (zk 0), .int 0]))] s.heap := hP
  have hD : va_D A [(al, .inr (4, [.int mc, .ref (zk 0), .int 0]))] := hD
  refine lv_aload_n hx hb dJx4a65c_isEmpty_aae02_0 rfl (lv_at hl 0 rfl) ?_
  refine va_get (D := (dC, dI)) (ci := 4) (v := .int 0) (C := RJx4a65c) (T := TJx4a65c) (N := 3) hx hb hts hi_Jx4a65c_isEmpty_aae02_Jx4a65c hown hK hP 0 rfl rfl 2 (by decide) (hts (.fieldLink RJx4a65c 48 "java/util/ArrayList" "size" "I") (List.mem_cons_of_mem _ zw_88)) (fun _ h9 => h9) rfl dJx4a65c_isEmpty_aae02_1 ?_
  refine lv_if_ne (tgt := 11) hx hb dJx4a65c_isEmpty_aae02_4 (by decide) (fun c9 => ?_) (fun c9 => ?_)
  · exact absurd (by decide) c9
  refine lv_iconst (v := 1) hx hb dJx4a65c_isEmpty_aae02_7 (by decide) ?_
  refine lv_goto (tgt := 12) hx hb dJx4a65c_isEmpty_aae02_8 (by decide) ?_
  have hP9 := hP.sub (ws' := [(al, .inr (4, [.int mc, .ref (zk 0), .int 0]))]) [0] rfl
  have hD9 := hD.sub (ws' := [(al, .inr (4, [.int mc, .ref (zk 0), .int 0]))]) [0] (by decide) rfl
  exact W.zret (v := 1) hx hb hr (by decide +kernel) (fun t ht hW => ⟨⟨_, (), rfl, rfl, ⟨by rw [ht]; exact hP9, va_K.moved hW.alike hK, hD9, by rw [ht]; exact hz⟩⟩, hS.F ht⟩) hS.2.2 dJx4a65c_isEmpty_aae02_12

theorem hi_X1_drop_X1 : ∀ w ∈ u_ws RX1 TX1 8, w ∈ wsX1_drop := fun w h => List.mem_cons_of_mem _ (zhi_X1 w h)
set_option maxHeartbeats 4000000 in
set_option maxRecDepth 100000 in
theorem k_dropX (l : Launch) (dC : Nat → ClassId) (dI : Nat → Nat → Nat) (cI cB cR cO : ClassId) (zk : Nat → Nat) (hfl : l.stackTraces = false) (xo al b1 : Nat) (x1 x2 x3 x4 x5 x7 : Value) (mc : Int32) (sz : Nat)  : vx_Met l yX1_drop wsX1_drop ({ frames := 6, cells := 1, slots := 6, locals := 90 }) (va_Pc [.ref xo] (zPre (dC, dI) (zT cI cB cR cO) zk [] [(xo, .inr (6, [.ref al, x1, x2, x3, x4, x5, .ref b1, x7])), (al, .inr (4, [.int mc, .ref (zk 0), .int 0]))] sz)) (va_Qi (fun (_ : Int32) (_ : Unit) => False) (fun _ _ => True) (va_A [(xo, .inr (6, [.ref al, x1, x2, x3, x4, x5, .ref b1, x7])), (al, .inr (4, [.int mc, .ref (zk 0), .int 0]))] sz)) (vx_X (fun _ : Unit => True) (fun E9 _ t => E9 = "java/lang/IllegalStateException" ∧ zEnd (dC, dI) (zT cI cB cR cO) (va_A [(xo, .inr (6, [.ref al, x1, x2, x3, x4, x5, .ref b1, x7])), (al, .inr (4, [.int mc, .ref (zk 0), .int 0]))] sz) [(xo, .inr (6, [.ref al, x1, x2, x3, x4, x5, .ref b1, x7])), (al, .inr (4, [.int mc, .ref (zk 0), .int 0]))] sz 0 t) (va_A [(xo, .inr (6, [.ref al, x1, x2, x3, x4, x5, .ref b1, x7])), (al, .inr (4, [.int mc, .ref (zk 0), .int 0]))] sz)) 1 6 (va_A [(xo, .inr (6, [.ref al, x1, x2, x3, x4, x5, .ref b1, x7])), (al, .inr (4, [.int mc, .ref (zk 0), .int 0]))] sz) := by
  refine vx_ofW (cc := cX1_drop) (maxL := 1) (ret := (some .int)) (by decide) rfl ?_
  intro p e s mY args below meth c s₁ B hml hntab hv
  obtain ⟨rfl, hsz, hP, hK, hD0, hZ⟩ := hv
  have hx := B.exec
  have hb := B.bytes
  have hr := B.returns
  have hts := atoms_spec (ws := wsX1_drop) B.pre
  have hown : s.vm.findClass RX1 = some mY.cls := findClass_of_methodNamed B.named
  have hlocks := B.notSynchronized
  subst hsz
  have hD := hD0.self (sz := s.heap.size)
  generalize hAe : va_A [(xo, .inr (6, [.ref al, x1, x2, x3, x4, x5, .ref b1, x7])), (al, .inr (4, [.int mc, .ref (zk 0), .int 0]))] s.heap.size = A at hD hZ ⊢
  have hA : ∀ q : Nat, s.heap.size ≤ q → A q := fun q h => by rw [← hAe]; exact Or.inr h
  have hS : va_S A s.heap s.heap [] := va_S.rf
  have hz : s.heap.size + 0 ≤ s.heap.size := Nat.le_refl _
  have hl := lv_entry ([.ref xo]) (n := 1) (Nat.le_of_ble_eq_true rfl)
  rw [lg_entry_eq]
  generalize (lg_sl ([.ref xo]) ++ List.replicate (1 - (lg_sl ([.ref xo])).length) Slot.unset).toArray = ls at hl ⊢
  have hl : lv_has ls 1 [(0, .ref xo)] := hl
  have hP : va_P (dC, dI) vwCl [(xo, .inr (6, [.ref al, x1, x2, x3, x4, x5, .ref b1, x7])), (al, .inr (4, [.int mc, .ref (zk 0), .int 0]))] s.heap := hP
  have hD : va_D A [(xo, .inr (6, [.ref al, x1, x2, x3, x4, x5, .ref b1, x7])), (al, .inr (4, [.int mc, .ref (zk 0), .int 0]))] := hD
  refine lv_aload_n hx hb dX1_drop_0 rfl (lv_at hl 0 rfl) ?_
  refine va_get (D := (dC, dI)) (ci := 6) (v := .ref al) (C := RX1) (T := TX1) (N := 8) hx hb hts hi_X1_drop_X1 hown hK hP 0 rfl rfl 0 (by decide) (hts (.fieldLink RX1 12 "Deeprows" "rows" "Ljava/util/ArrayList;") (List.mem_cons_of_mem _ zw_165)) (fun _ h9 => h9) rfl dX1_drop_1 ?_
  have hPc := hP.sub (ws' := [(al, .inr (4, [.int mc, .ref (zk 0), .int 0]))]) [1] rfl
  have hDc := hD.sub (ws' := [(al, .inr (4, [.int mc, .ref (zk 0), .int 0]))]) [1] (by decide) rfl
  have hFc := va_free (wc := [(al, .inr (4, [.int mc, .ref (zk 0), .int 0]))]) hD hS hA [1] rfl
  have hDv := hDc.self (sz := s.heap.size)
  have hpre := zpre (xs' := []) (av := [.ref al]) hPc hK (hDc.weaken (fun _ _ _ h => h)) hZ hS hFc (fun r hr => by cases hr)
  refine va_calli (va_runV (As := []) (rest := []) ⟨hx, hb, hml, hown, hts⟩ (k_isEmp l dC dI cI cB cR cO zk al mc s.heap.size ) (cwV 0 hts gX1_drop_Jx4a65c_isEmpty_aae02 rfl rfl rfl (by decide +kernel) ⟨Nat.le_of_ble_eq_true rfl, Nat.le_of_ble_eq_true rfl⟩) ⟨zblind, (zrecv_4 hK hPc (q0 := 0) rfl), hpre⟩ rfl rfl hl.1 rfl (lv_room (Nat.le_of_ble_eq_true rfl)) dX1_drop_4 ⟨Nat.le_of_ble_eq_true rfl, Nat.le_of_ble_eq_true rfl⟩) hS (fun q _ h => hFc q h) hFc (fun r2 u t H1 locs ht hvm hw hB hz1 hk1 hS => ?_)
  obtain rfl : 1 = r2 := (show r2 = 1 from hw).symm
  obtain ⟨hP1, hK1, hD1, hz2⟩ := hB
  rw [ht] at hP1 hz2
  have hPD9 := va_join (wr := [(xo, .inr (6, [.ref al, x1, x2, x3, x4, x5, .ref b1, x7]))]) (w1 := [(al, .inr (4, [.int mc, .ref (zk 0), .int 0]))]) hP hD [1] [0] rfl rfl (by decide) (by decide) hk1 hFc hP1 hD1
  clear hPc hDc hFc hDv hpre hP hD hP1 hK1 hD1
  obtain ⟨hP, hD⟩ := hPD9
  replace hz : s.heap.size + 0 ≤ H1.size := by omega
  clear hz2
  replace hP : va_P (dC, dI) vwCl [(xo, .inr (6, [.ref al, x1, x2, x3, x4, x5, .ref b1, x7])), (al, .inr (4, [.int mc, .ref (zk 0), .int 0]))] H1 := hP
  replace hD : va_D A [(xo, .inr (6, [.ref al, x1, x2, x3, x4, x5, .ref b1, x7])), (al, .inr (4, [.int mc, .ref (zk 0), .int 0]))] := hD
  refine W.widen (k := 0) (n := 0) (by omega) (by omega) ?_
  refine lv_if_eq (tgt := 20) hx hb dX1_drop_7 (by decide) (fun c9 => ?_) (fun c9 => ?_)
  · exact absurd c9 (by decide)
  have hP9 := hP.sub (ws' := [(xo, .inr (6, [.ref al, x1, x2, x3, x4, x5, .ref b1, x7])), (al, .inr (4, [.int mc, .ref (zk 0), .int 0]))]) [0, 1] rfl
  have hD9 := hD.sub (ws' := [(xo, .inr (6, [.ref al, x1, x2, x3, x4, x5, .ref b1, x7])), (al, .inr (4, [.int mc, .ref (zk 0), .int 0]))]) [0, 1] (by decide) rfl
  exact vx_throwS (text := "there is no row") (names := ["java/lang/RuntimeException", "java/lang/Exception"]) hx hb hfl hown rfl (by decide) (hts (.classLink RX1 73 "java/lang/IllegalStateException") (List.mem_cons_of_mem _ zw_795)) (hts (.initialized "java/lang/IllegalStateException") (List.mem_cons_of_mem _ zw_50)) (zl3 hZ) (zat1 hts (fun w hw => List.mem_cons_of_mem _ hw) hZ) zgd1 hZ.1.2.1 hZ.1.2.2.2.2.1 hS (hl.1.trans hml.symm) dX1_drop_10 dX1_drop_13 dX1_drop_14 dX1_drop_16 dX1_drop_19 (fun x hx9 => (hntab x hx9).elim) (Nat.le_of_ble_eq_true rfl) (Nat.le_of_ble_eq_true rfl) (Nat.le_of_ble_eq_true rfl) (Nat.le_of_ble_eq_true rfl) hlocks (fun t hal hs9 hq9 => ⟨(), trivial, ⟨rfl, hP9.kept (fun k9 x9 h9 => hq9 x9.1 (hP9 k9 x9 h9).lt), va_K.moved hal hK, hD9, Nat.le_trans hz hs9⟩, zF hS hs9 hq9⟩) hS.2.2 (Nat.le_of_ble_eq_true rfl) (Nat.le_of_ble_eq_true rfl)

set_option maxHeartbeats 4000000 in
set_option maxRecDepth 100000 in
theorem k_dropH (l : Launch) (dC : Nat → ClassId) (dI : Nat → Nat → Nat) (cI cB cR cO : ClassId) (zk : Nat → Nat) (hfl : l.stackTraces = false) (xo al b1 : Nat) (x1 x2 x3 x4 x5 x7 : Value) (mc : Int32) (ou : Nat) (sz : Nat)  : Met l yL_drop wsL_drop ({ frames := 7, cells := 1, slots := 6, locals := 110 }) (va_Pc [.ref xo, .ref ou] (zPre (dC, dI) (zT cI cB cR cO) zk [] [(xo, .inr (6, [.ref al, x1, x2, x3, x4, x5, .ref b1, x7])), (al, .inr (4, [.int mc, .ref (zk 0), .int 0]))] sz)) (va_Qi (fun r (_ : Unit) => r = 1) (fun _ t => zEnd (dC, dI) (zT cI cB cR cO) (va_A [(xo, .inr (6, [.ref al, x1, x2, x3, x4, x5, .ref b1, x7])), (al, .inr (4, [.int mc, .ref (zk 0), .int 0]))] sz) [(xo, .inr (6, [.ref al, x1, x2, x3, x4, x5, .ref b1, x7])), (al, .inr (4, [.int mc, .ref (zk 0), .int 0]))] sz 0 t) (va_A [(xo, .inr (6, [.ref al, x1, x2, x3, x4, x5, .ref b1, x7])), (al, .inr (4, [.int mc, .ref (zk 0), .int 0]))] sz)) 1 6 (va_A [(xo, .inr (6, [.ref al, x1, x2, x3, x4, x5, .ref b1, x7])), (al, .inr (4, [.int mc, .ref (zk 0), .int 0]))] sz) := by
  refine zofWHt (cc := cL_drop) (maxL := 3) (ret := (some .int)) (by decide) rfl ?_
  intro p e s mY args below meth c s₁ B hml htab hv
  obtain ⟨rfl, hsz, hP, hK, hD0, hZ⟩ := hv
  have hx := B.exec
  have hb := B.bytes
  have hr := B.returns
  have hts := atoms_spec (ws := wsL_drop) B.pre
  have hown : s.vm.findClass RL = some mY.cls := findClass_of_methodNamed B.named
  have hlocks := B.notSynchronized
  subst hsz
  have hD := hD0.self (sz := s.heap.size)
  generalize hAe : va_A [(xo, .inr (6, [.ref al, x1, x2, x3, x4, x5, .ref b1, x7])), (al, .inr (4, [.int mc, .ref (zk 0), .int 0]))] s.heap.size = A at hD hZ ⊢
  have hA : ∀ q : Nat, s.heap.size ≤ q → A q := fun q h => by rw [← hAe]; exact Or.inr h
  have hS : va_S A s.heap s.heap [] := va_S.rf
  have hz : s.heap.size + 0 ≤ s.heap.size := Nat.le_refl _
  have hl := lv_entry ([.ref xo, .ref ou]) (n := 3) (Nat.le_of_ble_eq_true rfl)
  rw [lg_entry_eq]
  generalize (lg_sl ([.ref xo, .ref ou]) ++ List.replicate (3 - (lg_sl ([.ref xo, .ref ou])).length) Slot.unset).toArray = ls at hl ⊢
  have hl : lv_has ls 3 [(0, .ref xo), (1, .ref ou)] := hl
  have hP : va_P (dC, dI) vwCl [(xo, .inr (6, [.ref al, x1, x2, x3, x4, x5, .ref b1, x7])), (al, .inr (4, [.int mc, .ref (zk 0), .int 0]))] s.heap := hP
  have hD : va_D A [(xo, .inr (6, [.ref al, x1, x2, x3, x4, x5, .ref b1, x7])), (al, .inr (4, [.int mc, .ref (zk 0), .int 0]))] := hD
  refine lv_aload_n hx hb dL_drop_0 rfl (lv_at hl 1 rfl) ?_
  refine lv_aload_n hx hb dL_drop_1 rfl (lv_at hl 0 rfl) ?_
  have hPc := hP.sub (ws' := [(xo, .inr (6, [.ref al, x1, x2, x3, x4, x5, .ref b1, x7])), (al, .inr (4, [.int mc, .ref (zk 0), .int 0]))]) [0, 1] rfl
  have hDc := hD.sub (ws' := [(xo, .inr (6, [.ref al, x1, x2, x3, x4, x5, .ref b1, x7])), (al, .inr (4, [.int mc, .ref (zk 0), .int 0]))]) [0, 1] (by decide) rfl
  have hFc := va_free (wc := [(xo, .inr (6, [.ref al, x1, x2, x3, x4, x5, .ref b1, x7])), (al, .inr (4, [.int mc, .ref (zk 0), .int 0]))]) hD hS hA [0, 1] rfl
  have hDv := hDc.self (sz := s.heap.size)
  have hpre := zpre (xs' := []) (av := [.ref xo]) hPc hK (hDc.weaken (fun _ _ _ h => h)) hZ hS hFc (fun r hr => by cases hr)
  refine vx_calli (vx_runV (As := []) (rest := [.ref ou]) ⟨hx, hb, hml, hown, hts⟩ (k_dropX l dC dI cI cB cR cO zk hfl xo al b1 x1 x2 x3 x4 x5 x7 mc s.heap.size ) (cwV 0 hts gL_drop_X1_drop rfl rfl rfl (by decide +kernel) ⟨(Nat.le_of_ble_eq_true rfl), (Nat.le_of_ble_eq_true rfl)⟩) ⟨zblind, (zrecv_6 hK hPc (q0 := 0) rfl), hpre⟩ rfl rfl hl.1 rfl (lv_room (Nat.le_of_ble_eq_true rfl)) dL_drop_2 ⟨(Nat.le_of_ble_eq_true rfl), (Nat.le_of_ble_eq_true rfl)⟩) hS (fun q _ h => hFc q h) hFc (fun q _ h => hFc q h) (fun E9 ce q9 u t H1 locs ht hvm hu hB hz1 hk1 hS hcell hcv hcl => ?_) (fun _ _ _ _ _ _ _ hw9 _ _ _ _ => hw9.elim)
  obtain ⟨hE9, hP1, hK1, hD1, hz2⟩ := hB
  subst hE9
  rw [ht] at hP1 hz2
  have hPD9 := va_join (wr := []) (w1 := [(xo, .inr (6, [.ref al, x1, x2, x3, x4, x5, .ref b1, x7])), (al, .inr (4, [.int mc, .ref (zk 0), .int 0]))]) hP hD [0, 1] [] rfl rfl (by decide) (by decide) hk1 hFc hP1 hD1
  clear hPc hDc hFc hDv hpre hP hD hP1 hK1 hD1
  obtain ⟨hP, hD⟩ := hPD9
  replace hz : s.heap.size + 0 ≤ H1.size := by omega
  clear hz2
  replace hP : va_P (dC, dI) vwCl [(xo, .inr (6, [.ref al, x1, x2, x3, x4, x5, .ref b1, x7])), (al, .inr (4, [.int mc, .ref (zk 0), .int 0]))] H1 := hP
  replace hD : va_D A [(xo, .inr (6, [.ref al, x1, x2, x3, x4, x5, .ref b1, x7])), (al, .inr (4, [.int mc, .ref (zk 0), .int 0]))] := hD
  refine vx_catch hown [] ⟨0, 9, 12, 21⟩ [] htab (fun z hz9 => absurd hz9 List.not_mem_nil) (by decide) (by decide) (hts (.classLink RL 21 "java/lang/IllegalStateException") (List.mem_cons_of_mem _ zw_781)) (zce2 hZ) hcell hcv hcl ?_
  refine W.eq (g2 := F0 mY 12 ls [.ref q9]) rfl ?_
  refine lv_astore_n (lv' := [(2, .ref q9), (0, .ref xo), (1, .ref ou)]) hx hb dL_drop_12 rfl hl (by decide) rfl (fun ls hl => ?_)
  refine lv_iconst (v := 1) hx hb dL_drop_13 (by decide) ?_
  have hP9 := hP.sub (ws' := [(xo, .inr (6, [.ref al, x1, x2, x3, x4, x5, .ref b1, x7])), (al, .inr (4, [.int mc, .ref (zk 0), .int 0]))]) [0, 1] rfl
  have hD9 := hD.sub (ws' := [(xo, .inr (6, [.ref al, x1, x2, x3, x4, x5, .ref b1, x7])), (al, .inr (4, [.int mc, .ref (zk 0), .int 0]))]) [0, 1] (by decide) rfl
  exact W.iret (v := 1) hx hb hr (fun t ht hW => ⟨⟨_, (), rfl, rfl, ⟨by rw [ht]; exact hP9, va_K.moved hW.alike hK, hD9, by rw [ht]; exact hz⟩⟩, hS.F ht⟩) hS.2.2 dL_drop_14

theorem hi_X4_drop_X4 : ∀ w ∈ u_ws RX4 TX4 5, w ∈ wsX4_drop := fun w h => List.mem_cons_of_mem _ (zhi_X4 w h)
set_option maxHeartbeats 4000000 in
set_option maxRecDepth 100000 in
theorem k_dropM (l : Launch) (dC : Nat → ClassId) (dI : Nat → Nat → Nat) (cI cB cR cO : ClassId) (zk : Nat → Nat) (mo am : Nat) (th md rf kn : Value) (mm : Int32) (sz : Nat)  : Met l yX4_drop wsX4_drop ({ frames := 2, cells := 0, slots := 0, locals := 44 }) (va_Pc [.ref mo] (zPre (dC, dI) (zT cI cB cR cO) zk [] [(mo, .inr (9, [th, .ref am, md, rf, kn])), (am, .inr (4, [.int mm, .ref (zk 0), .int 0]))] sz)) (va_Qi (fun r (_ : Unit) => True) (fun _ t => zEnd (dC, dI) (zT cI cB cR cO) (va_A [(mo, .inr (9, [th, .ref am, md, rf, kn])), (am, .inr (4, [.int mm, .ref (zk 0), .int 0]))] sz) [(mo, .inr (9, [.int 1, .ref am, md, rf, kn])), (am, .inr (4, [.int mm, .ref (zk 0), .int 0]))] sz 0 t) (va_A [(mo, .inr (9, [th, .ref am, md, rf, kn])), (am, .inr (4, [.int mm, .ref (zk 0), .int 0]))] sz)) 0 0 (va_A [(mo, .inr (9, [th, .ref am, md, rf, kn])), (am, .inr (4, [.int mm, .ref (zk 0), .int 0]))] sz) := by
  refine Met.ofW (cc := cX4_drop) (maxL := 1) (ret := (some .int)) (by decide) rfl ?_
  intro p e s mY args below meth c s₁ B hml hv
  obtain ⟨rfl, hsz, hP, hK, hD0, hZ⟩ := hv
  have hx := B.exec
  have hb := B.bytes
  have hr := B.returns
  have hts := atoms_spec (ws := wsX4_drop) B.pre
  have hown : s.vm.findClass RX4 = some mY.cls := findClass_of_methodNamed B.named
  have hlocks := B.notSynchronized
  subst hsz
  have hD := hD0.self (sz := s.heap.size)
  generalize hAe : va_A [(mo, .inr (9, [th, .ref am, md, rf, kn])), (am, .inr (4, [.int mm, .ref (zk 0), .int 0]))] s.heap.size = A at hD hZ ⊢
  have hA : ∀ q : Nat, s.heap.size ≤ q → A q := fun q h => by rw [← hAe]; exact Or.inr h
  have hS : va_S A s.heap s.heap [] := va_S.rf
  have hz : s.heap.size + 0 ≤ s.heap.size := Nat.le_refl _
  have hl := lv_entry ([.ref mo]) (n := 1) (Nat.le_of_ble_eq_true rfl)
  rw [lg_entry_eq]
  generalize (lg_sl ([.ref mo]) ++ List.replicate (1 - (lg_sl ([.ref mo])).length) Slot.unset).toArray = ls at hl ⊢
  have hl : lv_has ls 1 [(0, .ref mo)] := hl
  have hP : va_P (dC, dI) vwCl [(mo, .inr (9, [th, .ref am, md, rf, kn])), (am, .inr (4, [.int mm, .ref (zk 0), .int 0]))] s.heap := hP
  have hD : va_D A [(mo, .inr (9, [th, .ref am, md, rf, kn])), (am, .inr (4, [.int mm, .ref (zk 0), .int 0]))] := hD
  refine lv_aload_n hx hb dX4_drop_0 rfl (lv_at hl 0 rfl) ?_
  refine lv_aload_n hx hb dX4_drop_1 rfl (lv_at hl 0 rfl) ?_
  refine va_get (D := (dC, dI)) (ci := 9) (v := .ref am) (C := RX4) (T := TX4) (N := 5) hx hb hts hi_X4_drop_X4 hown hK hP 0 rfl rfl 1 (by decide) (hts (.fieldLink RX4 10 "DeeprowsModel" "rows" "Ljava/util/ArrayList;") (List.mem_cons_of_mem _ zw_1128)) (fun _ h9 => h9) rfl dX4_drop_2 ?_
  have hPc := hP.sub (ws' := [(am, .inr (4, [.int mm, .ref (zk 0), .int 0]))]) [1] rfl
  have hDc := hD.sub (ws' := [(am, .inr (4, [.int mm, .ref (zk 0), .int 0]))]) [1] (by decide) rfl
  have hFc := va_free (wc := [(am, .inr (4, [.int mm, .ref (zk 0), .int 0]))]) hD hS hA [1] rfl
  have hDv := hDc.self (sz := s.heap.size)
  have hpre := zpre (xs' := []) (av := [.ref am]) hPc hK (hDc.weaken (fun _ _ _ h => h)) hZ hS hFc (fun r hr => by cases hr)
  refine va_calli (va_runV (As := []) (rest := [.ref mo]) ⟨hx, hb, hml, hown, hts⟩ (k_isEmp l dC dI cI cB cR cO zk am mm s.heap.size ) (cwV 0 hts gX4_drop_Jx4a65c_isEmpty_aae02 rfl rfl rfl (by decide +kernel) ⟨Nat.le_of_ble_eq_true rfl, Nat.le_of_ble_eq_true rfl⟩) ⟨zblind, (zrecv_4 hK hPc (q0 := 0) rfl), hpre⟩ rfl rfl hl.1 rfl (lv_room (Nat.le_of_ble_eq_true rfl)) dX4_drop_5 ⟨Nat.le_of_ble_eq_true rfl, Nat.le_of_ble_eq_true rfl⟩) hS (fun q _ h => hFc q h) hFc (fun r2 u t H1 locs ht hvm hw hB hz1 hk1 hS => ?_)
  obtain rfl : 1 = r2 := (show r2 = 1 from hw).symm
  obtain ⟨hP1, hK1, hD1, hz2⟩ := hB
  rw [ht] at hP1 hz2
  have hPD9 := va_join (wr := [(mo, .inr (9, [th, .ref am, md, rf, kn]))]) (w1 := [(am, .inr (4, [.int mm, .ref (zk 0), .int 0]))]) hP hD [1] [0] rfl rfl (by decide) (by decide) hk1 hFc hP1 hD1
  clear hPc hDc hFc hDv hpre hP hD hP1 hK1 hD1
  obtain ⟨hP, hD⟩ := hPD9
  replace hz : s.heap.size + 0 ≤ H1.size := by omega
  clear hz2
  replace hP : va_P (dC, dI) vwCl [(mo, .inr (9, [th, .ref am, md, rf, kn])), (am, .inr (4, [.int mm, .ref (zk 0), .int 0]))] H1 := hP
  replace hD : va_D A [(mo, .inr (9, [th, .ref am, md, rf, kn])), (am, .inr (4, [.int mm, .ref (zk 0), .int 0]))] := hD
  refine W.widen (k := 0) (n := 0) (by omega) (by omega) ?_
  refine lv_iconst (v := 1) hx hb dX4_drop_8 (by decide) ?_
  have hPc := hP.sub (ws' := [(mo, .inr (9, [th, .ref am, md, rf, kn]))]) [0] rfl
  have hDc := hD.sub (ws' := [(mo, .inr (9, [th, .ref am, md, rf, kn]))]) [0] (by decide) rfl
  have hFc := va_free (wc := [(mo, .inr (9, [th, .ref am, md, rf, kn]))]) hD hS hA [0] rfl
  have hDv := hDc.self (sz := H1.size)
  have hpre := zpre (xs' := []) (av := [.ref mo, .int 1, .int 1]) hPc hK (hDc.weaken (fun _ _ _ h => h)) hZ hS hFc (fun r hr => by cases hr)
  refine va_calli (va_runV (As := [.int 1, .int 1]) (rest := []) ⟨hx, hb, hml, hown, hts⟩ (k_sttz l dC dI cI cB cR cO zk mo am th md rf kn H1.size ) (cwV 2 hts gX4_drop_X4_start rfl rfl rfl (by decide +kernel) ⟨Nat.le_of_ble_eq_true rfl, Nat.le_of_ble_eq_true rfl⟩) ⟨zblind, (zrecv_9 hK hPc (q0 := 0) rfl), hpre⟩ rfl rfl hl.1 rfl (lv_room (Nat.le_of_ble_eq_true rfl)) dX4_drop_9 ⟨Nat.le_of_ble_eq_true rfl, Nat.le_of_ble_eq_true rfl⟩) hS (fun q _ h => hFc q h) hFc (fun r4 u t H3 locs ht hvm hw hB hz1 hk1 hS => ?_)
  obtain rfl : 1 = r4 := (show r4 = 1 from hw).symm
  obtain ⟨hP1, hK1, hD1, hz2⟩ := hB
  rw [ht] at hP1 hz2
  have hPD9 := va_join (wr := [(am, .inr (4, [.int mm, .ref (zk 0), .int 0]))]) (w1 := [(mo, .inr (9, [.int 1, .ref am, md, rf, kn]))]) hP hD [0] [1] rfl rfl (by decide) (by decide) hk1 hFc hP1 hD1
  clear hPc hDc hFc hDv hpre hP hD hP1 hK1 hD1
  obtain ⟨hP, hD⟩ := hPD9
  replace hz : s.heap.size + 0 ≤ H3.size := by omega
  clear hz2
  replace hP : va_P (dC, dI) vwCl [(am, .inr (4, [.int mm, .ref (zk 0), .int 0])), (mo, .inr (9, [.int 1, .ref am, md, rf, kn]))] H3 := hP
  replace hD : va_D A [(am, .inr (4, [.int mm, .ref (zk 0), .int 0])), (mo, .inr (9, [.int 1, .ref am, md, rf, kn]))] := hD
  refine W.widen (k := 0) (n := 0) (by omega) (by omega) ?_
  refine lv_if_eq (tgt := 17) hx hb dX4_drop_12 (by decide) (fun c9 => ?_) (fun c9 => ?_)
  · exact absurd c9 (by decide)
  refine lv_iconst (v := 0) hx hb dX4_drop_15 (by decide) ?_
  have hP9 := hP.sub (ws' := [(mo, .inr (9, [.int 1, .ref am, md, rf, kn])), (am, .inr (4, [.int mm, .ref (zk 0), .int 0]))]) [1, 0] rfl
  have hD9 := hD.sub (ws' := [(mo, .inr (9, [.int 1, .ref am, md, rf, kn])), (am, .inr (4, [.int mm, .ref (zk 0), .int 0]))]) [1, 0] (by decide) rfl
  exact W.iret (v := 0) hx hb hr (fun t ht hW => ⟨⟨_, (), rfl, trivial, ⟨by rw [ht]; exact hP9, va_K.moved hW.alike hK, hD9, by rw [ht]; exact hz⟩⟩, hS.F ht⟩) hS.2.2 dX4_drop_16

theorem hi_Jx4a65c_clear_da8c8_Jx4a65c : ∀ w ∈ u_ws RJx4a65c TJx4a65c 3, w ∈ wsJx4a65c_clear_da8c8 := fun w h => List.mem_cons_of_mem _ (zhi_Jx4a65c w h)
set_option maxHeartbeats 4000000 in
set_option maxRecDepth 100000 in
theorem k_clr (l : Launch) (dC : Nat → ClassId) (dI : Nat → Nat → Nat) (cI cB cR cO : ClassId) (zk : Nat → Nat) (al : Nat) (mc : Int32) (sz : Nat)  : Met l yJx4a65c_clear_da8c8 wsJx4a65c_clear_da8c8 ({ frames := 0, cells := 0, slots := 0, locals := 0 }) (va_Pc [.ref al] (zPre (dC, dI) (zT cI cB cR cO) zk [] [(al, .inr (4, [.int mc, .ref (zk 0), .int 0]))] sz)) (va_Qv (fun _ : Unit => True) (fun _ t => ∃ (mc2 : Int32), zEnd (dC, dI) (zT cI cB cR cO) (va_A [(al, .inr (4, [.int mc, .ref (zk 0), .int 0]))] sz) [(al, .inr (4, [.int mc2, .ref (zk 0), .int 0]))] sz 0 t) (va_A [(al, .inr (4, [.int mc, .ref (zk 0), .int 0]))] sz)) 0 0 (va_A [(al, .inr (4, [.int mc, .ref (zk 0), .int 0]))] sz) := by
  refine Met.ofW (cc := cJx4a65c_clear_da8c8) (maxL := 4) (ret := none) (by decide) rfl ?_
  intro p e s mY args below meth c s₁ B hml hv
  obtain ⟨rfl, hsz, hP, hK, hD0, hZ⟩ := hv
  have hx := B.exec
  have hb := B.bytes
  have hr := B.returns
  have hts := atoms_spec (ws := wsJx4a65c_clear_da8c8) B.pre
  have hown : s.vm.findClass RJx4a65c = some mY.cls := findClass_of_methodNamed B.named
  have hlocks := B.notSynchronized
  subst hsz
  have hD := hD0.self (sz := s.heap.size)
  generalize hAe : va_A [(al, .inr (4, [.int mc, .ref (zk 0), .int 0]))] s.heap.size = A at hD hZ ⊢
  have hA : ∀ q : Nat, s.heap.size ≤ q → A q := fun q h => by rw [← hAe]; exact Or.inr h
  have hS : va_S A s.heap s.heap [] := va_S.rf
  have hz : s.heap.size + 0 ≤ s.heap.size := Nat.le_refl _
  have hl := lv_entry ([.ref al]) (n := 4) (Nat.le_of_ble_eq_true rfl)
  rw [lg_entry_eq]
  generalize (lg_sl ([.ref al]) ++ List.replicate (4 - (lg_sl ([.ref al])).length) Slot.unset).toArray = ls at hl ⊢
  have hl : lv_has ls 4 [(0, .ref al)] := hl
  have hP : va_P (dC, dI) vwCl [(al, .inr (4, [.int mc, .ref (zk 0), .int 0]))] s.heap := hP
  have hD : va_D A [(al, .inr (4, [.int mc, .ref (zk 0), .int 0]))] := hD
  refine lv_aload_n hx hb dJx4a65c_clear_da8c8_0 rfl (lv_at hl 0 rfl) ?_
  refine lv_dup hx hb dJx4a65c_clear_da8c8_1 rfl ?_
  refine va_get (D := (dC, dI)) (ci := 4) (v := .int mc) (C := RJx4a65c) (T := TJx4a65c) (N := 3) hx hb hts hi_Jx4a65c_clear_da8c8_Jx4a65c hown hK hP 0 rfl rfl 0 (by decide) (hts (.fieldLink RJx4a65c 63 "java/util/ArrayList" "modCount" "I") (List.mem_cons_of_mem _ zw_90)) (fun x9 h9 => u_same (hts (.sameField "java/util/ArrayList" "java/util/AbstractList" "modCount" "I") (List.mem_cons_of_mem _ zw_91)) x9 h9) rfl dJx4a65c_clear_da8c8_2 ?_
  refine lv_iconst (v := 1) hx hb dJx4a65c_clear_da8c8_5 (by decide) ?_
  refine lv_iadd hx hb dJx4a65c_clear_da8c8_6 ?_
  refine lv_topi (fun v1 ev1 => ?_)
  refine va_put (D := (dC, dI)) (ci := 4) (v := .int v1) (ty := .int) (C := RJx4a65c) (T := TJx4a65c) (N := 3) hx hb hts hi_Jx4a65c_clear_da8c8_Jx4a65c tyJx4a65c tyJx4a65c_ok nmJx4a65c hown hK hP hD (zS0 hS) 0 rfl rfl 0 (by decide) (hts (.fieldLink RJx4a65c 63 "java/util/ArrayList" "modCount" "I") (List.mem_cons_of_mem _ zw_90)) (fun x9 h9 => u_same (hts (.sameField "java/util/ArrayList" "java/util/AbstractList" "modCount" "I") (List.mem_cons_of_mem _ zw_91)) x9 h9) rfl (by decide +kernel) rfl rfl (Nat.le_of_ble_eq_true rfl) dJx4a65c_clear_da8c8_7 (fun H2 locs hP hD hS1 => ?_)
  have hz : s.heap.size + 0 ≤ H2.size := Nat.le_trans hz hS1.1
  have hS := zSS hS hS1
  replace hP : va_P (dC, dI) vwCl [(al, .inr (4, [.int v1, .ref (zk 0), .int 0]))] H2 := hP
  replace hD : va_D A [(al, .inr (4, [.int v1, .ref (zk 0), .int 0]))] := hD
  refine lv_aload_n hx hb dJx4a65c_clear_da8c8_10 rfl (lv_at hl 0 rfl) ?_
  refine va_get (D := (dC, dI)) (ci := 4) (v := .ref (zk 0)) (C := RJx4a65c) (T := TJx4a65c) (N := 3) hx hb hts hi_Jx4a65c_clear_da8c8_Jx4a65c hown hK hP 0 rfl rfl 1 (by decide) (hts (.fieldLink RJx4a65c 9 "java/util/ArrayList" "elementData" "[Ljava/lang/Object;") (List.mem_cons_of_mem _ zw_87)) (fun _ h9 => h9) rfl dJx4a65c_clear_da8c8_11 ?_
  refine lv_astore_n (lv' := [(1, .ref (zk 0)), (0, .ref al)]) hx hb dJx4a65c_clear_da8c8_14 rfl hl (by decide) rfl (fun ls hl => ?_)
  refine lv_aload_n hx hb dJx4a65c_clear_da8c8_15 rfl (lv_at hl 1 rfl) ?_
  refine va_get (D := (dC, dI)) (ci := 4) (v := .int 0) (C := RJx4a65c) (T := TJx4a65c) (N := 3) hx hb hts hi_Jx4a65c_clear_da8c8_Jx4a65c hown hK hP 0 rfl rfl 2 (by decide) (hts (.fieldLink RJx4a65c 48 "java/util/ArrayList" "size" "I") (List.mem_cons_of_mem _ zw_88)) (fun _ h9 => h9) rfl dJx4a65c_clear_da8c8_16 ?_
  refine lv_istore_n (lv' := [(2, .int 0), (1, .ref (zk 0)), (0, .ref al)]) hx hb dJx4a65c_clear_da8c8_19 rfl hl (by decide) rfl (fun ls hl => ?_)
  refine lv_aload_n hx hb dJx4a65c_clear_da8c8_20 rfl (lv_at hl 2 rfl) ?_
  refine lv_iconst (v := 0) hx hb dJx4a65c_clear_da8c8_21 (by decide) ?_
  refine lv_dup_x1 hx hb dJx4a65c_clear_da8c8_22 rfl rfl ?_
  refine va_put (D := (dC, dI)) (ci := 4) (v := .int 0) (ty := .int) (C := RJx4a65c) (T := TJx4a65c) (N := 3) hx hb hts hi_Jx4a65c_clear_da8c8_Jx4a65c tyJx4a65c tyJx4a65c_ok nmJx4a65c hown hK hP hD (zS0 hS) 0 rfl rfl 2 (by decide) (hts (.fieldLink RJx4a65c 48 "java/util/ArrayList" "size" "I") (List.mem_cons_of_mem _ zw_88)) (fun _ h9 => h9) rfl (by decide +kernel) rfl rfl (Nat.le_of_ble_eq_true rfl) dJx4a65c_clear_da8c8_23 (fun H3 locs hP hD hS1 => ?_)
  have hz : s.heap.size + 0 ≤ H3.size := Nat.le_trans hz hS1.1
  have hS := zSS hS hS1
  replace hP : va_P (dC, dI) vwCl [(al, .inr (4, [.int v1, .ref (zk 0), .int 0]))] H3 := hP
  replace hD : va_D A [(al, .inr (4, [.int v1, .ref (zk 0), .int 0]))] := hD
  refine lv_istore_n (lv' := [(3, .int 0), (2, .int 0), (1, .ref (zk 0)), (0, .ref al)]) hx hb dJx4a65c_clear_da8c8_26 rfl hl (by decide) rfl (fun ls hl => ?_)
  refine lv_iload_n hx hb dJx4a65c_clear_da8c8_27 rfl (lv_at hl 0 rfl) ?_
  refine lv_iload_n hx hb dJx4a65c_clear_da8c8_28 rfl (lv_at hl 1 rfl) ?_
  refine lv_icmp_ge (tgt := 42) hx hb dJx4a65c_clear_da8c8_29 (by decide) (fun c9 => ?_) (fun c9 => ?_)
  rotate_left
  · exact absurd (by decide) c9
  have hP9 := hP.sub (ws' := [(al, .inr (4, [.int v1, .ref (zk 0), .int 0]))]) [0] rfl
  have hD9 := hD.sub (ws' := [(al, .inr (4, [.int v1, .ref (zk 0), .int 0]))]) [0] (by decide) rfl
  exact W.vret hx hb hr (fun t ht hW => ⟨⟨(), rfl, trivial, ⟨_, ⟨by rw [ht]; exact hP9, va_K.moved hW.alike hK, hD9, by rw [ht]; exact hz⟩⟩⟩, hS.F ht⟩) hS.2.2 dJx4a65c_clear_da8c8_42

theorem hi_X1_empty_X1 : ∀ w ∈ u_ws RX1 TX1 8, w ∈ wsX1_empty := fun w h => List.mem_cons_of_mem _ (zhi_X1 w h)
set_option maxHeartbeats 4000000 in
set_option maxRecDepth 100000 in
theorem k_emptyX (l : Launch) (dC : Nat → ClassId) (dI : Nat → Nat → Nat) (cI cB cR cO : ClassId) (zk : Nat → Nat) (xo al b1 : Nat) (x1 x2 x3 x4 x5 x7 : Value) (mc : Int32) (sz : Nat)  : Met l yX1_empty wsX1_empty ({ frames := 1, cells := 0, slots := 0, locals := 23 }) (va_Pc [.ref xo] (zPre (dC, dI) (zT cI cB cR cO) zk [] [(xo, .inr (6, [.ref al, x1, x2, x3, x4, x5, .ref b1, x7])), (al, .inr (4, [.int mc, .ref (zk 0), .int 0]))] sz)) (va_Qi (fun r (_ : Unit) => r = 0) (fun _ t => ∃ (mc2 : Int32), zEnd (dC, dI) (zT cI cB cR cO) (va_A [(xo, .inr (6, [.ref al, x1, x2, x3, x4, x5, .ref b1, x7])), (al, .inr (4, [.int mc, .ref (zk 0), .int 0]))] sz) [(xo, .inr (6, [.ref al, x1, x2, x3, x4, x5, .ref b1, x7])), (al, .inr (4, [.int mc2, .ref (zk 0), .int 0]))] sz 0 t) (va_A [(xo, .inr (6, [.ref al, x1, x2, x3, x4, x5, .ref b1, x7])), (al, .inr (4, [.int mc, .ref (zk 0), .int 0]))] sz)) 0 0 (va_A [(xo, .inr (6, [.ref al, x1, x2, x3, x4, x5, .ref b1, x7])), (al, .inr (4, [.int mc, .ref (zk 0), .int 0]))] sz) := by
  refine Met.ofW (cc := cX1_empty) (maxL := 2) (ret := (some .int)) (by decide) rfl ?_
  intro p e s mY args below meth c s₁ B hml hv
  obtain ⟨rfl, hsz, hP, hK, hD0, hZ⟩ := hv
  have hx := B.exec
  have hb := B.bytes
  have hr := B.returns
  have hts := atoms_spec (ws := wsX1_empty) B.pre
  have hown : s.vm.findClass RX1 = some mY.cls := findClass_of_methodNamed B.named
  have hlocks := B.notSynchronized
  subst hsz
  have hD := hD0.self (sz := s.heap.size)
  generalize hAe : va_A [(xo, .inr (6, [.ref al, x1, x2, x3, x4, x5, .ref b1, x7])), (al, .inr (4, [.int mc, .ref (zk 0), .int 0]))] s.heap.size = A at hD hZ ⊢
  have hA : ∀ q : Nat, s.heap.size ≤ q → A q := fun q h => by rw [← hAe]; exact Or.inr h
  have hS : va_S A s.heap s.heap [] := va_S.rf
  have hz : s.heap.size + 0 ≤ s.heap.size := Nat.le_refl _
  have hl := lv_entry ([.ref xo]) (n := 2) (Nat.le_of_ble_eq_true rfl)
  rw [lg_entry_eq]
  generalize (lg_sl ([.ref xo]) ++ List.replicate (2 - (lg_sl ([.ref xo])).length) Slot.unset).toArray = ls at hl ⊢
  have hl : lv_has ls 2 [(0, .ref xo)] := hl
  have hP : va_P (dC, dI) vwCl [(xo, .inr (6, [.ref al, x1, x2, x3, x4, x5, .ref b1, x7])), (al, .inr (4, [.int mc, .ref (zk 0), .int 0]))] s.heap := hP
  have hD : va_D A [(xo, .inr (6, [.ref al, x1, x2, x3, x4, x5, .ref b1, x7])), (al, .inr (4, [.int mc, .ref (zk 0), .int 0]))] := hD
  refine lv_aload_n hx hb dX1_empty_0 rfl (lv_at hl 0 rfl) ?_
  refine va_get (D := (dC, dI)) (ci := 6) (v := .ref al) (C := RX1) (T := TX1) (N := 8) hx hb hts hi_X1_empty_X1 hown hK hP 0 rfl rfl 0 (by decide) (hts (.fieldLink RX1 12 "Deeprows" "rows" "Ljava/util/ArrayList;") (List.mem_cons_of_mem _ zw_165)) (fun _ h9 => h9) rfl dX1_empty_1 ?_
  have hPc := hP.sub (ws' := [(al, .inr (4, [.int mc, .ref (zk 0), .int 0]))]) [1] rfl
  have hDc := hD.sub (ws' := [(al, .inr (4, [.int mc, .ref (zk 0), .int 0]))]) [1] (by decide) rfl
  have hFc := va_free (wc := [(al, .inr (4, [.int mc, .ref (zk 0), .int 0]))]) hD hS hA [1] rfl
  have hDv := hDc.self (sz := s.heap.size)
  have hpre := zpre (xs' := []) (av := [.ref al]) hPc hK (hDc.weaken (fun _ _ _ h => h)) hZ hS hFc (fun r hr => by cases hr)
  refine va_calli (va_runV (As := []) (rest := []) ⟨hx, hb, hml, hown, hts⟩ (k_size l dC dI cI cB cR cO zk al (zk 0) 0 (.int mc) s.heap.size ) (cwV 0 hts gX1_empty_Jx4a65c_size_8abf5 rfl rfl rfl (by decide +kernel) ⟨Nat.le_of_ble_eq_true rfl, Nat.le_of_ble_eq_true rfl⟩) ⟨zblind, (zrecv_4 hK hPc (q0 := 0) rfl), hpre⟩ rfl rfl hl.1 rfl (lv_room (Nat.le_of_ble_eq_true rfl)) dX1_empty_4 ⟨Nat.le_of_ble_eq_true rfl, Nat.le_of_ble_eq_true rfl⟩) hS (fun q _ h => hFc q h) hFc (fun r2 u t H1 locs ht hvm hw hB hz1 hk1 hS => ?_)
  obtain rfl : 0 = r2 := (show r2 = 0 from hw).symm
  obtain ⟨hP1, hK1, hD1, hz2⟩ := hB
  rw [ht] at hP1 hz2
  have hPD9 := va_join (wr := [(xo, .inr (6, [.ref al, x1, x2, x3, x4, x5, .ref b1, x7]))]) (w1 := [(al, .inr (4, [.int mc, .ref (zk 0), .int 0]))]) hP hD [1] [0] rfl rfl (by decide) (by decide) hk1 hFc hP1 hD1
  clear hPc hDc hFc hDv hpre hP hD hP1 hK1 hD1
  obtain ⟨hP, hD⟩ := hPD9
  replace hz : s.heap.size + 0 ≤ H1.size := by omega
  clear hz2
  replace hP : va_P (dC, dI) vwCl [(xo, .inr (6, [.ref al, x1, x2, x3, x4, x5, .ref b1, x7])), (al, .inr (4, [.int mc, .ref (zk 0), .int 0]))] H1 := hP
  replace hD : va_D A [(xo, .inr (6, [.ref al, x1, x2, x3, x4, x5, .ref b1, x7])), (al, .inr (4, [.int mc, .ref (zk 0), .int 0]))] := hD
  refine W.widen (k := 0) (n := 0) (by omega) (by omega) ?_
  refine lv_istore_n (lv' := [(1, .int 0), (0, .ref xo)]) hx hb dX1_empty_7 rfl hl (by decide) rfl (fun ls hl => ?_)
  refine lv_aload_n hx hb dX1_empty_8 rfl (lv_at hl 1 rfl) ?_
  refine va_get (D := (dC, dI)) (ci := 6) (v := .ref al) (C := RX1) (T := TX1) (N := 8) hx hb hts hi_X1_empty_X1 hown hK hP 0 rfl rfl 0 (by decide) (hts (.fieldLink RX1 12 "Deeprows" "rows" "Ljava/util/ArrayList;") (List.mem_cons_of_mem _ zw_165)) (fun _ h9 => h9) rfl dX1_empty_9 ?_
  have hPc := hP.sub (ws' := [(al, .inr (4, [.int mc, .ref (zk 0), .int 0]))]) [1] rfl
  have hDc := hD.sub (ws' := [(al, .inr (4, [.int mc, .ref (zk 0), .int 0]))]) [1] (by decide) rfl
  have hFc := va_free (wc := [(al, .inr (4, [.int mc, .ref (zk 0), .int 0]))]) hD hS hA [1] rfl
  have hDv := hDc.self (sz := H1.size)
  have hpre := zpre (xs' := []) (av := [.ref al]) hPc hK (hDc.weaken (fun _ _ _ h => h)) hZ hS hFc (fun r hr => by cases hr)
  refine va_callv (va_runV (As := []) (rest := []) ⟨hx, hb, hml, hown, hts⟩ (k_clr l dC dI cI cB cR cO zk al mc H1.size ) (cwV 0 hts gX1_empty_Jx4a65c_clear_da8c8 rfl rfl rfl (by decide +kernel) ⟨Nat.le_of_ble_eq_true rfl, Nat.le_of_ble_eq_true rfl⟩) ⟨zblind, (zrecv_4 hK hPc (q0 := 0) rfl), hpre⟩ rfl rfl hl.1 rfl (lv_room (Nat.le_of_ble_eq_true rfl)) dX1_empty_12 ⟨Nat.le_of_ble_eq_true rfl, Nat.le_of_ble_eq_true rfl⟩) hS (fun q _ h => hFc q h) hFc (fun u t H4 locs ht hvm hw hB hz1 hk1 hS => ?_)
  obtain ⟨mc3, ⟨hP1, hK1, hD1, hz2⟩⟩ := hB
  rw [ht] at hP1 hz2
  have hPD9 := va_join (wr := [(xo, .inr (6, [.ref al, x1, x2, x3, x4, x5, .ref b1, x7]))]) (w1 := [(al, .inr (4, [.int mc3, .ref (zk 0), .int 0]))]) hP hD [1] [0] rfl rfl (by decide) (by decide) hk1 hFc hP1 hD1
  clear hPc hDc hFc hDv hpre hP hD hP1 hK1 hD1
  obtain ⟨hP, hD⟩ := hPD9
  replace hz : s.heap.size + 0 ≤ H4.size := by omega
  clear hz2
  replace hP : va_P (dC, dI) vwCl [(xo, .inr (6, [.ref al, x1, x2, x3, x4, x5, .ref b1, x7])), (al, .inr (4, [.int mc3, .ref (zk 0), .int 0]))] H4 := hP
  replace hD : va_D A [(xo, .inr (6, [.ref al, x1, x2, x3, x4, x5, .ref b1, x7])), (al, .inr (4, [.int mc3, .ref (zk 0), .int 0]))] := hD
  refine W.widen (k := 0) (n := 0) (by omega) (by omega) ?_
  refine lv_iload_n hx hb dX1_empty_15 rfl (lv_at hl 0 rfl) ?_
  have hP9 := hP.sub (ws' := [(xo, .inr (6, [.ref al, x1, x2, x3, x4, x5, .ref b1, x7])), (al, .inr (4, [.int mc3, .ref (zk 0), .int 0]))]) [0, 1] rfl
  have hD9 := hD.sub (ws' := [(xo, .inr (6, [.ref al, x1, x2, x3, x4, x5, .ref b1, x7])), (al, .inr (4, [.int mc3, .ref (zk 0), .int 0]))]) [0, 1] (by decide) rfl
  exact W.iret (v := 0) hx hb hr (fun t ht hW => ⟨⟨_, (), rfl, rfl, ⟨_, ⟨by rw [ht]; exact hP9, va_K.moved hW.alike hK, hD9, by rw [ht]; exact hz⟩⟩⟩, hS.F ht⟩) hS.2.2 dX1_empty_16

theorem hi_X4_empty_X4 : ∀ w ∈ u_ws RX4 TX4 5, w ∈ wsX4_empty := fun w h => List.mem_cons_of_mem _ (zhi_X4 w h)
set_option maxHeartbeats 4000000 in
set_option maxRecDepth 100000 in
theorem k_emptyM (l : Launch) (dC : Nat → ClassId) (dI : Nat → Nat → Nat) (cI cB cR cO : ClassId) (zk : Nat → Nat) (mo am : Nat) (th md rf kn : Value) (mm : Int32) (sz : Nat)  : Met l yX4_empty wsX4_empty ({ frames := 1, cells := 0, slots := 0, locals := 23 }) (va_Pc [.ref mo] (zPre (dC, dI) (zT cI cB cR cO) zk [] [(mo, .inr (9, [th, .ref am, md, rf, kn])), (am, .inr (4, [.int mm, .ref (zk 0), .int 0]))] sz)) (va_Qi (fun r (_ : Unit) => r = 0) (fun _ t => ∃ (mc2 : Int32), zEnd (dC, dI) (zT cI cB cR cO) (va_A [(mo, .inr (9, [th, .ref am, md, rf, kn])), (am, .inr (4, [.int mm, .ref (zk 0), .int 0]))] sz) [(mo, .inr (9, [.int 0, .ref am, md, rf, kn])), (am, .inr (4, [.int mc2, .ref (zk 0), .int 0]))] sz 0 t) (va_A [(mo, .inr (9, [th, .ref am, md, rf, kn])), (am, .inr (4, [.int mm, .ref (zk 0), .int 0]))] sz)) 0 0 (va_A [(mo, .inr (9, [th, .ref am, md, rf, kn])), (am, .inr (4, [.int mm, .ref (zk 0), .int 0]))] sz) := by
  refine Met.ofW (cc := cX4_empty) (maxL := 2) (ret := (some .int)) (by decide) rfl ?_
  intro p e s mY args below meth c s₁ B hml hv
  obtain ⟨rfl, hsz, hP, hK, hD0, hZ⟩ := hv
  have hx := B.exec
  have hb := B.bytes
  have hr := B.returns
  have hts := atoms_spec (ws := wsX4_empty) B.pre
  have hown : s.vm.findClass RX4 = some mY.cls := findClass_of_methodNamed B.named
  have hlocks := B.notSynchronized
  subst hsz
  have hD := hD0.self (sz := s.heap.size)
  generalize hAe : va_A [(mo, .inr (9, [th, .ref am, md, rf, kn])), (am, .inr (4, [.int mm, .ref (zk 0), .int 0]))] s.heap.size = A at hD hZ ⊢
  have hA : ∀ q : Nat, s.heap.size ≤ q → A q := fun q h => by rw [← hAe]; exact Or.inr h
  have hS : va_S A s.heap s.heap [] := va_S.rf
  have hz : s.heap.size + 0 ≤ s.heap.size := Nat.le_refl _
  have hl := lv_entry ([.ref mo]) (n := 2) (Nat.le_of_ble_eq_true rfl)
  rw [lg_entry_eq]
  generalize (lg_sl ([.ref mo]) ++ List.replicate (2 - (lg_sl ([.ref mo])).length) Slot.unset).toArray = ls at hl ⊢
  have hl : lv_has ls 2 [(0, .ref mo)] := hl
  have hP : va_P (dC, dI) vwCl [(mo, .inr (9, [th, .ref am, md, rf, kn])), (am, .inr (4, [.int mm, .ref (zk 0), .int 0]))] s.heap := hP
  have hD : va_D A [(mo, .inr (9, [th, .ref am, md, rf, kn])), (am, .inr (4, [.int mm, .ref (zk 0), .int 0]))] := hD
  refine lv_aload_n hx hb dX4_empty_0 rfl (lv_at hl 0 rfl) ?_
  refine lv_iconst (v := 0) hx hb dX4_empty_1 (by decide) ?_
  refine va_put (D := (dC, dI)) (ci := 9) (v := .int 0) (ty := .int) (C := RX4) (T := TX4) (N := 5) hx hb hts hi_X4_empty_X4 tyX4 tyX4_ok nmX4 hown hK hP hD (zS0 hS) 0 rfl rfl 0 (by decide) (hts (.fieldLink RX4 16 "DeeprowsModel" "thrown" "I") (List.mem_cons_of_mem _ zw_1127)) (fun _ h9 => h9) rfl (by decide +kernel) rfl rfl (Nat.le_of_ble_eq_true rfl) dX4_empty_2 (fun H1 locs hP hD hS1 => ?_)
  have hz : s.heap.size + 0 ≤ H1.size := Nat.le_trans hz hS1.1
  have hS := zSS hS hS1
  replace hP : va_P (dC, dI) vwCl [(mo, .inr (9, [.int 0, .ref am, md, rf, kn])), (am, .inr (4, [.int mm, .ref (zk 0), .int 0]))] H1 := hP
  replace hD : va_D A [(mo, .inr (9, [.int 0, .ref am, md, rf, kn])), (am, .inr (4, [.int mm, .ref (zk 0), .int 0]))] := hD
  refine lv_aload_n hx hb dX4_empty_5 rfl (lv_at hl 0 rfl) ?_
  refine va_get (D := (dC, dI)) (ci := 9) (v := .ref am) (C := RX4) (T := TX4) (N := 5) hx hb hts hi_X4_empty_X4 hown hK hP 0 rfl rfl 1 (by decide) (hts (.fieldLink RX4 10 "DeeprowsModel" "rows" "Ljava/util/ArrayList;") (List.mem_cons_of_mem _ zw_1128)) (fun _ h9 => h9) rfl dX4_empty_6 ?_
  have hPc := hP.sub (ws' := [(am, .inr (4, [.int mm, .ref (zk 0), .int 0]))]) [1] rfl
  have hDc := hD.sub (ws' := [(am, .inr (4, [.int mm, .ref (zk 0), .int 0]))]) [1] (by decide) rfl
  have hFc := va_free (wc := [(am, .inr (4, [.int mm, .ref (zk 0), .int 0]))]) hD hS hA [1] rfl
  have hDv := hDc.self (sz := H1.size)
  have hpre := zpre (xs' := []) (av := [.ref am]) hPc hK (hDc.weaken (fun _ _ _ h => h)) hZ hS hFc (fun r hr => by cases hr)
  refine va_calli (va_runV (As := []) (rest := []) ⟨hx, hb, hml, hown, hts⟩ (k_size l dC dI cI cB cR cO zk am (zk 0) 0 (.int mm) H1.size ) (cwV 0 hts gX4_empty_Jx4a65c_size_8abf5 rfl rfl rfl (by decide +kernel) ⟨Nat.le_of_ble_eq_true rfl, Nat.le_of_ble_eq_true rfl⟩) ⟨zblind, (zrecv_4 hK hPc (q0 := 0) rfl), hpre⟩ rfl rfl hl.1 rfl (lv_room (Nat.le_of_ble_eq_true rfl)) dX4_empty_9 ⟨Nat.le_of_ble_eq_true rfl, Nat.le_of_ble_eq_true rfl⟩) hS (fun q _ h => hFc q h) hFc (fun r3 u t H2 locs ht hvm hw hB hz1 hk1 hS => ?_)
  obtain rfl : 0 = r3 := (show r3 = 0 from hw).symm
  obtain ⟨hP1, hK1, hD1, hz2⟩ := hB
  rw [ht] at hP1 hz2
  have hPD9 := va_join (wr := [(mo, .inr (9, [.int 0, .ref am, md, rf, kn]))]) (w1 := [(am, .inr (4, [.int mm, .ref (zk 0), .int 0]))]) hP hD [1] [0] rfl rfl (by decide) (by decide) hk1 hFc hP1 hD1
  clear hPc hDc hFc hDv hpre hP hD hP1 hK1 hD1
  obtain ⟨hP, hD⟩ := hPD9
  replace hz : s.heap.size + 0 ≤ H2.size := by omega
  clear hz2
  replace hP : va_P (dC, dI) vwCl [(mo, .inr (9, [.int 0, .ref am, md, rf, kn])), (am, .inr (4, [.int mm, .ref (zk 0), .int 0]))] H2 := hP
  replace hD : va_D A [(mo, .inr (9, [.int 0, .ref am, md, rf, kn])), (am, .inr (4, [.int mm, .ref (zk 0), .int 0]))] := hD
  refine W.widen (k := 0) (n := 0) (by omega) (by omega) ?_
  refine lv_istore_n (lv' := [(1, .int 0), (0, .ref mo)]) hx hb dX4_empty_12 rfl hl (by decide) rfl (fun ls hl => ?_)
  refine lv_aload_n hx hb dX4_empty_13 rfl (lv_at hl 1 rfl) ?_
  refine va_get (D := (dC, dI)) (ci := 9) (v := .ref am) (C := RX4) (T := TX4) (N := 5) hx hb hts hi_X4_empty_X4 hown hK hP 0 rfl rfl 1 (by decide) (hts (.fieldLink RX4 10 "DeeprowsModel" "rows" "Ljava/util/ArrayList;") (List.mem_cons_of_mem _ zw_1128)) (fun _ h9 => h9) rfl dX4_empty_14 ?_
  have hPc := hP.sub (ws' := [(am, .inr (4, [.int mm, .ref (zk 0), .int 0]))]) [1] rfl
  have hDc := hD.sub (ws' := [(am, .inr (4, [.int mm, .ref (zk 0), .int 0]))]) [1] (by decide) rfl
  have hFc := va_free (wc := [(am, .inr (4, [.int mm, .ref (zk 0), .int 0]))]) hD hS hA [1] rfl
  have hDv := hDc.self (sz := H2.size)
  have hpre := zpre (xs' := []) (av := [.ref am]) hPc hK (hDc.weaken (fun _ _ _ h => h)) hZ hS hFc (fun r hr => by cases hr)
  refine va_callv (va_runV (As := []) (rest := []) ⟨hx, hb, hml, hown, hts⟩ (k_clr l dC dI cI cB cR cO zk am mm H2.size ) (cwV 0 hts gX4_empty_Jx4a65c_clear_da8c8 rfl rfl rfl (by decide +kernel) ⟨Nat.le_of_ble_eq_true rfl, Nat.le_of_ble_eq_true rfl⟩) ⟨zblind, (zrecv_4 hK hPc (q0 := 0) rfl), hpre⟩ rfl rfl hl.1 rfl (lv_room (Nat.le_of_ble_eq_true rfl)) dX4_empty_17 ⟨Nat.le_of_ble_eq_true rfl, Nat.le_of_ble_eq_true rfl⟩) hS (fun q _ h => hFc q h) hFc (fun u t H5 locs ht hvm hw hB hz1 hk1 hS => ?_)
  obtain ⟨mc4, ⟨hP1, hK1, hD1, hz2⟩⟩ := hB
  rw [ht] at hP1 hz2
  have hPD9 := va_join (wr := [(mo, .inr (9, [.int 0, .ref am, md, rf, kn]))]) (w1 := [(am, .inr (4, [.int mc4, .ref (zk 0), .int 0]))]) hP hD [1] [0] rfl rfl (by decide) (by decide) hk1 hFc hP1 hD1
  clear hPc hDc hFc hDv hpre hP hD hP1 hK1 hD1
  obtain ⟨hP, hD⟩ := hPD9
  replace hz : s.heap.size + 0 ≤ H5.size := by omega
  clear hz2
  replace hP : va_P (dC, dI) vwCl [(mo, .inr (9, [.int 0, .ref am, md, rf, kn])), (am, .inr (4, [.int mc4, .ref (zk 0), .int 0]))] H5 := hP
  replace hD : va_D A [(mo, .inr (9, [.int 0, .ref am, md, rf, kn])), (am, .inr (4, [.int mc4, .ref (zk 0), .int 0]))] := hD
  refine W.widen (k := 0) (n := 0) (by omega) (by omega) ?_
  refine lv_iload_n hx hb dX4_empty_20 rfl (lv_at hl 0 rfl) ?_
  have hP9 := hP.sub (ws' := [(mo, .inr (9, [.int 0, .ref am, md, rf, kn])), (am, .inr (4, [.int mc4, .ref (zk 0), .int 0]))]) [0, 1] rfl
  have hD9 := hD.sub (ws' := [(mo, .inr (9, [.int 0, .ref am, md, rf, kn])), (am, .inr (4, [.int mc4, .ref (zk 0), .int 0]))]) [0, 1] (by decide) rfl
  exact W.iret (v := 0) hx hb hr (fun t ht hW => ⟨⟨_, (), rfl, rfl, ⟨_, ⟨by rw [ht]; exact hP9, va_K.moved hW.alike hK, hD9, by rw [ht]; exact hz⟩⟩⟩, hS.F ht⟩) hS.2.2 dX4_empty_21

theorem hi_X1_knock_X1 : ∀ w ∈ u_ws RX1 TX1 8, w ∈ wsX1_knock := fun w h => List.mem_cons_of_mem _ (zhi_X1 w h)
set_option maxHeartbeats 4000000 in
set_option maxRecDepth 100000 in
theorem k_knockX (l : Launch) (dC : Nat → ClassId) (dI : Nat → Nat → Nat) (cI cB cR cO : ClassId) (zk : Nat → Nat) (xo al b1 : Nat) (x4 x5 x7 : Value) (mc : Int32) (sz : Nat)  : Met l yX1_knock wsX1_knock ({ frames := 0, cells := 0, slots := 0, locals := 0 }) (va_Pc [.ref xo] (zPre (dC, dI) (zT cI cB cR cO) zk [] [(xo, .inr (6, [.ref al, .int 0, .int 0, .int 0, x4, x5, .ref b1, x7])), (al, .inr (4, [.int mc, .ref (zk 0), .int 0]))] sz)) (va_Qi (fun r (_ : Unit) => r = 1) (fun _ t => zEnd (dC, dI) (zT cI cB cR cO) (va_A [(xo, .inr (6, [.ref al, .int 0, .int 0, .int 0, x4, x5, .ref b1, x7])), (al, .inr (4, [.int mc, .ref (zk 0), .int 0]))] sz) [(xo, .inr (6, [.ref al, .int 0, .int 0, .int 1, x4, x5, .ref b1, x7])), (al, .inr (4, [.int mc, .ref (zk 0), .int 0]))] sz 0 t) (va_A [(xo, .inr (6, [.ref al, .int 0, .int 0, .int 0, x4, x5, .ref b1, x7])), (al, .inr (4, [.int mc, .ref (zk 0), .int 0]))] sz)) 0 0 (va_A [(xo, .inr (6, [.ref al, .int 0, .int 0, .int 0, x4, x5, .ref b1, x7])), (al, .inr (4, [.int mc, .ref (zk 0), .int 0]))] sz) := by
  refine Met.ofW (cc := cX1_knock) (maxL := 1) (ret := (some .int)) (by decide) rfl ?_
  intro p e s mY args below meth c s₁ B hml hv
  obtain ⟨rfl, hsz, hP, hK, hD0, hZ⟩ := hv
  have hx := B.exec
  have hb := B.bytes
  have hr := B.returns
  have hts := atoms_spec (ws := wsX1_knock) B.pre
  have hown : s.vm.findClass RX1 = some mY.cls := findClass_of_methodNamed B.named
  have hlocks := B.notSynchronized
  subst hsz
  have hD := hD0.self (sz := s.heap.size)
  generalize hAe : va_A [(xo, .inr (6, [.ref al, .int 0, .int 0, .int 0, x4, x5, .ref b1, x7])), (al, .inr (4, [.int mc, .ref (zk 0), .int 0]))] s.heap.size = A at hD hZ ⊢
  have hA : ∀ q : Nat, s.heap.size ≤ q → A q := fun q h => by rw [← hAe]; exact Or.inr h
  have hS : va_S A s.heap s.heap [] := va_S.rf
  have hz : s.heap.size + 0 ≤ s.heap.size := Nat.le_refl _
  have hl := lv_entry ([.ref xo]) (n := 1) (Nat.le_of_ble_eq_true rfl)
  rw [lg_entry_eq]
  generalize (lg_sl ([.ref xo]) ++ List.replicate (1 - (lg_sl ([.ref xo])).length) Slot.unset).toArray = ls at hl ⊢
  have hl : lv_has ls 1 [(0, .ref xo)] := hl
  have hP : va_P (dC, dI) vwCl [(xo, .inr (6, [.ref al, .int 0, .int 0, .int 0, x4, x5, .ref b1, x7])), (al, .inr (4, [.int mc, .ref (zk 0), .int 0]))] s.heap := hP
  have hD : va_D A [(xo, .inr (6, [.ref al, .int 0, .int 0, .int 0, x4, x5, .ref b1, x7])), (al, .inr (4, [.int mc, .ref (zk 0), .int 0]))] := hD
  refine lv_aload_n hx hb dX1_knock_0 rfl (lv_at hl 0 rfl) ?_
  refine lv_dup hx hb dX1_knock_1 rfl ?_
  refine va_get (D := (dC, dI)) (ci := 6) (v := .int 0) (C := RX1) (T := TX1) (N := 8) hx hb hts hi_X1_knock_X1 hown hK hP 0 rfl rfl 3 (by decide) (hts (.fieldLink RX1 23 "Deeprows" "knocks" "I") (List.mem_cons_of_mem _ zw_168)) (fun _ h9 => h9) rfl dX1_knock_2 ?_
  refine lv_iconst (v := 1) hx hb dX1_knock_5 (by decide) ?_
  refine lv_iadd hx hb dX1_knock_6 ?_
  refine lv_topi (fun v1 ev1 => ?_)
  obtain rfl : v1 = 1 := ev1.trans (by decide)
  refine va_put (D := (dC, dI)) (ci := 6) (v := .int 1) (ty := .int) (C := RX1) (T := TX1) (N := 8) hx hb hts hi_X1_knock_X1 tyX1 tyX1_ok nmX1 hown hK hP hD (zS0 hS) 0 rfl rfl 3 (by decide) (hts (.fieldLink RX1 23 "Deeprows" "knocks" "I") (List.mem_cons_of_mem _ zw_168)) (fun _ h9 => h9) rfl (by decide +kernel) rfl rfl (Nat.le_of_ble_eq_true rfl) dX1_knock_7 (fun H2 locs hP hD hS1 => ?_)
  have hz : s.heap.size + 0 ≤ H2.size := Nat.le_trans hz hS1.1
  have hS := zSS hS hS1
  replace hP : va_P (dC, dI) vwCl [(xo, .inr (6, [.ref al, .int 0, .int 0, .int 1, x4, x5, .ref b1, x7])), (al, .inr (4, [.int mc, .ref (zk 0), .int 0]))] H2 := hP
  replace hD : va_D A [(xo, .inr (6, [.ref al, .int 0, .int 0, .int 1, x4, x5, .ref b1, x7])), (al, .inr (4, [.int mc, .ref (zk 0), .int 0]))] := hD
  refine lv_aload_n hx hb dX1_knock_10 rfl (lv_at hl 0 rfl) ?_
  refine va_get (D := (dC, dI)) (ci := 6) (v := .int 1) (C := RX1) (T := TX1) (N := 8) hx hb hts hi_X1_knock_X1 hown hK hP 0 rfl rfl 3 (by decide) (hts (.fieldLink RX1 23 "Deeprows" "knocks" "I") (List.mem_cons_of_mem _ zw_168)) (fun _ h9 => h9) rfl dX1_knock_11 ?_
  have hP9 := hP.sub (ws' := [(xo, .inr (6, [.ref al, .int 0, .int 0, .int 1, x4, x5, .ref b1, x7])), (al, .inr (4, [.int mc, .ref (zk 0), .int 0]))]) [0, 1] rfl
  have hD9 := hD.sub (ws' := [(xo, .inr (6, [.ref al, .int 0, .int 0, .int 1, x4, x5, .ref b1, x7])), (al, .inr (4, [.int mc, .ref (zk 0), .int 0]))]) [0, 1] (by decide) rfl
  exact W.iret (v := 1) hx hb hr (fun t ht hW => ⟨⟨_, (), rfl, rfl, ⟨by rw [ht]; exact hP9, va_K.moved hW.alike hK, hD9, by rw [ht]; exact hz⟩⟩, hS.F ht⟩) hS.2.2 dX1_knock_14

theorem hi_X4_knock_X4 : ∀ w ∈ u_ws RX4 TX4 5, w ∈ wsX4_knock := fun w h => List.mem_cons_of_mem _ (zhi_X4 w h)
set_option maxHeartbeats 4000000 in
set_option maxRecDepth 100000 in
theorem k_knockM (l : Launch) (dC : Nat → ClassId) (dI : Nat → Nat → Nat) (cI cB cR cO : ClassId) (zk : Nat → Nat) (mo am : Nat) (th : Value) (mm : Int32) (sz : Nat)  : Met l yX4_knock wsX4_knock ({ frames := 0, cells := 0, slots := 0, locals := 0 }) (va_Pc [.ref mo] (zPre (dC, dI) (zT cI cB cR cO) zk [] [(mo, .inr (9, [th, .ref am, .int 0, .int 0, .int 0])), (am, .inr (4, [.int mm, .ref (zk 0), .int 0]))] sz)) (va_Qi (fun r (_ : Unit) => r = 1) (fun _ t => zEnd (dC, dI) (zT cI cB cR cO) (va_A [(mo, .inr (9, [th, .ref am, .int 0, .int 0, .int 0])), (am, .inr (4, [.int mm, .ref (zk 0), .int 0]))] sz) [(mo, .inr (9, [.int 0, .ref am, .int 0, .int 0, .int 1])), (am, .inr (4, [.int mm, .ref (zk 0), .int 0]))] sz 0 t) (va_A [(mo, .inr (9, [th, .ref am, .int 0, .int 0, .int 0])), (am, .inr (4, [.int mm, .ref (zk 0), .int 0]))] sz)) 0 0 (va_A [(mo, .inr (9, [th, .ref am, .int 0, .int 0, .int 0])), (am, .inr (4, [.int mm, .ref (zk 0), .int 0]))] sz) := by
  refine Met.ofW (cc := cX4_knock) (maxL := 1) (ret := (some .int)) (by decide) rfl ?_
  intro p e s mY args below meth c s₁ B hml hv
  obtain ⟨rfl, hsz, hP, hK, hD0, hZ⟩ := hv
  have hx := B.exec
  have hb := B.bytes
  have hr := B.returns
  have hts := atoms_spec (ws := wsX4_knock) B.pre
  have hown : s.vm.findClass RX4 = some mY.cls := findClass_of_methodNamed B.named
  have hlocks := B.notSynchronized
  subst hsz
  have hD := hD0.self (sz := s.heap.size)
  generalize hAe : va_A [(mo, .inr (9, [th, .ref am, .int 0, .int 0, .int 0])), (am, .inr (4, [.int mm, .ref (zk 0), .int 0]))] s.heap.size = A at hD hZ ⊢
  have hA : ∀ q : Nat, s.heap.size ≤ q → A q := fun q h => by rw [← hAe]; exact Or.inr h
  have hS : va_S A s.heap s.heap [] := va_S.rf
  have hz : s.heap.size + 0 ≤ s.heap.size := Nat.le_refl _
  have hl := lv_entry ([.ref mo]) (n := 1) (Nat.le_of_ble_eq_true rfl)
  rw [lg_entry_eq]
  generalize (lg_sl ([.ref mo]) ++ List.replicate (1 - (lg_sl ([.ref mo])).length) Slot.unset).toArray = ls at hl ⊢
  have hl : lv_has ls 1 [(0, .ref mo)] := hl
  have hP : va_P (dC, dI) vwCl [(mo, .inr (9, [th, .ref am, .int 0, .int 0, .int 0])), (am, .inr (4, [.int mm, .ref (zk 0), .int 0]))] s.heap := hP
  have hD : va_D A [(mo, .inr (9, [th, .ref am, .int 0, .int 0, .int 0])), (am, .inr (4, [.int mm, .ref (zk 0), .int 0]))] := hD
  refine lv_aload_n hx hb dX4_knock_0 rfl (lv_at hl 0 rfl) ?_
  refine lv_iconst (v := 0) hx hb dX4_knock_1 (by decide) ?_
  refine va_put (D := (dC, dI)) (ci := 9) (v := .int 0) (ty := .int) (C := RX4) (T := TX4) (N := 5) hx hb hts hi_X4_knock_X4 tyX4 tyX4_ok nmX4 hown hK hP hD (zS0 hS) 0 rfl rfl 0 (by decide) (hts (.fieldLink RX4 16 "DeeprowsModel" "thrown" "I") (List.mem_cons_of_mem _ zw_1127)) (fun _ h9 => h9) rfl (by decide +kernel) rfl rfl (Nat.le_of_ble_eq_true rfl) dX4_knock_2 (fun H1 locs hP hD hS1 => ?_)
  have hz : s.heap.size + 0 ≤ H1.size := Nat.le_trans hz hS1.1
  have hS := zSS hS hS1
  replace hP : va_P (dC, dI) vwCl [(mo, .inr (9, [.int 0, .ref am, .int 0, .int 0, .int 0])), (am, .inr (4, [.int mm, .ref (zk 0), .int 0]))] H1 := hP
  replace hD : va_D A [(mo, .inr (9, [.int 0, .ref am, .int 0, .int 0, .int 0])), (am, .inr (4, [.int mm, .ref (zk 0), .int 0]))] := hD
  refine lv_aload_n hx hb dX4_knock_5 rfl (lv_at hl 0 rfl) ?_
  refine lv_dup hx hb dX4_knock_6 rfl ?_
  refine va_get (D := (dC, dI)) (ci := 9) (v := .int 0) (C := RX4) (T := TX4) (N := 5) hx hb hts hi_X4_knock_X4 hown hK hP 0 rfl rfl 4 (by decide) (hts (.fieldLink RX4 207 "DeeprowsModel" "knocked" "I") (List.mem_cons_of_mem _ zw_1131)) (fun _ h9 => h9) rfl dX4_knock_7 ?_
  refine lv_iconst (v := 1) hx hb dX4_knock_10 (by decide) ?_
  refine lv_iadd hx hb dX4_knock_11 ?_
  refine lv_topi (fun v2 ev2 => ?_)
  obtain rfl : v2 = 1 := ev2.trans (by decide)
  refine lv_dup_x1 hx hb dX4_knock_12 rfl rfl ?_
  refine va_put (D := (dC, dI)) (ci := 9) (v := .int 1) (ty := .int) (C := RX4) (T := TX4) (N := 5) hx hb hts hi_X4_knock_X4 tyX4 tyX4_ok nmX4 hown hK hP hD (zS0 hS) 0 rfl rfl 4 (by decide) (hts (.fieldLink RX4 207 "DeeprowsModel" "knocked" "I") (List.mem_cons_of_mem _ zw_1131)) (fun _ h9 => h9) rfl (by decide +kernel) rfl rfl (Nat.le_of_ble_eq_true rfl) dX4_knock_13 (fun H3 locs hP hD hS1 => ?_)
  have hz : s.heap.size + 0 ≤ H3.size := Nat.le_trans hz hS1.1
  have hS := zSS hS hS1
  replace hP : va_P (dC, dI) vwCl [(mo, .inr (9, [.int 0, .ref am, .int 0, .int 0, .int 1])), (am, .inr (4, [.int mm, .ref (zk 0), .int 0]))] H3 := hP
  replace hD : va_D A [(mo, .inr (9, [.int 0, .ref am, .int 0, .int 0, .int 1])), (am, .inr (4, [.int mm, .ref (zk 0), .int 0]))] := hD
  have hP9 := hP.sub (ws' := [(mo, .inr (9, [.int 0, .ref am, .int 0, .int 0, .int 1])), (am, .inr (4, [.int mm, .ref (zk 0), .int 0]))]) [0, 1] rfl
  have hD9 := hD.sub (ws' := [(mo, .inr (9, [.int 0, .ref am, .int 0, .int 0, .int 1])), (am, .inr (4, [.int mm, .ref (zk 0), .int 0]))]) [0, 1] (by decide) rfl
  exact W.iret (v := 1) hx hb hr (fun t ht hW => ⟨⟨_, (), rfl, rfl, ⟨by rw [ht]; exact hP9, va_K.moved hW.alike hK, hD9, by rw [ht]; exact hz⟩⟩, hS.F ht⟩) hS.2.2 dX4_knock_16

theorem hi_X1_pairsDeep_X1 : ∀ w ∈ u_ws RX1 TX1 8, w ∈ wsX1_pairsDeep := fun w h => List.mem_cons_of_mem _ (zhi_X1 w h)
set_option maxHeartbeats 4000000 in
set_option maxRecDepth 100000 in
theorem k_pairs (l : Launch) (dC : Nat → ClassId) (dI : Nat → Nat → Nat) (cI cB cR cO : ClassId) (zk : Nat → Nat) (xo al b1 : Nat) (x4 x5 x7 : Value) (mc : Int32) (sz : Nat)  : Met l yX1_pairsDeep wsX1_pairsDeep ({ frames := 1, cells := 0, slots := 0, locals := 20 }) (va_Pc [.ref xo] (zPre (dC, dI) (zT cI cB cR cO) zk [] [(xo, .inr (6, [.ref al, .int 0, .int 0, .int 0, x4, x5, .ref b1, x7])), (al, .inr (4, [.int mc, .ref (zk 0), .int 0]))] sz)) (va_Qi (fun r (_ : Unit) => r = 0) (fun _ t => zEnd (dC, dI) (zT cI cB cR cO) (va_A [(xo, .inr (6, [.ref al, .int 0, .int 0, .int 0, x4, x5, .ref b1, x7])), (al, .inr (4, [.int mc, .ref (zk 0), .int 0]))] sz) [(xo, .inr (6, [.ref al, .int 0, .int 0, .int 0, x4, x5, .ref b1, x7])), (al, .inr (4, [.int mc, .ref (zk 0), .int 0]))] sz 0 t) (va_A [(xo, .inr (6, [.ref al, .int 0, .int 0, .int 0, x4, x5, .ref b1, x7])), (al, .inr (4, [.int mc, .ref (zk 0), .int 0]))] sz)) 0 0 (va_A [(xo, .inr (6, [.ref al, .int 0, .int 0, .int 0, x4, x5, .ref b1, x7])), (al, .inr (4, [.int mc, .ref (zk 0), .int 0]))] sz) := by
  refine Met.ofW (cc := cX1_pairsDeep) (maxL := 4) (ret := (some .int)) (by decide) rfl ?_
  intro p e s mY args below meth c s₁ B hml hv
  obtain ⟨rfl, hsz, hP, hK, hD0, hZ⟩ := hv
  have hx := B.exec
  have hb := B.bytes
  have hr := B.returns
  have hts := atoms_spec (ws := wsX1_pairsDeep) B.pre
  have hown : s.vm.findClass RX1 = some mY.cls := findClass_of_methodNamed B.named
  have hlocks := B.notSynchronized
  subst hsz
  have hD := hD0.self (sz := s.heap.size)
  generalize hAe : va_A [(xo, .inr (6, [.ref al, .int 0, .int 0, .int 0, x4, x5, .ref b1, x7])), (al, .inr (4, [.int mc, .ref (zk 0), .int 0]))] s.heap.size = A at hD hZ ⊢
  have hA : ∀ q : Nat, s.heap.size ≤ q → A q := fun q h => by rw [← hAe]; exact Or.inr h
  have hS : va_S A s.heap s.heap [] := va_S.rf
  have hz : s.heap.size + 0 ≤ s.heap.size := Nat.le_refl _
  have hl := lv_entry ([.ref xo]) (n := 4) (Nat.le_of_ble_eq_true rfl)
  rw [lg_entry_eq]
  generalize (lg_sl ([.ref xo]) ++ List.replicate (4 - (lg_sl ([.ref xo])).length) Slot.unset).toArray = ls at hl ⊢
  have hl : lv_has ls 4 [(0, .ref xo)] := hl
  have hP : va_P (dC, dI) vwCl [(xo, .inr (6, [.ref al, .int 0, .int 0, .int 0, x4, x5, .ref b1, x7])), (al, .inr (4, [.int mc, .ref (zk 0), .int 0]))] s.heap := hP
  have hD : va_D A [(xo, .inr (6, [.ref al, .int 0, .int 0, .int 0, x4, x5, .ref b1, x7])), (al, .inr (4, [.int mc, .ref (zk 0), .int 0]))] := hD
  refine lv_iconst (v := 0) hx hb dX1_pairsDeep_0 (by decide) ?_
  refine lv_istore_n (lv' := [(1, .int 0), (0, .ref xo)]) hx hb dX1_pairsDeep_1 rfl hl (by decide) rfl (fun ls hl => ?_)
  refine lv_iconst (v := 0) hx hb dX1_pairsDeep_2 (by decide) ?_
  refine lv_istore_n (lv' := [(2, .int 0), (1, .int 0), (0, .ref xo)]) hx hb dX1_pairsDeep_3 rfl hl (by decide) rfl (fun ls hl => ?_)
  refine lv_iload_n hx hb dX1_pairsDeep_4 rfl (lv_at hl 0 rfl) ?_
  refine lv_aload_n hx hb dX1_pairsDeep_5 rfl (lv_at hl 2 rfl) ?_
  refine va_get (D := (dC, dI)) (ci := 6) (v := .ref al) (C := RX1) (T := TX1) (N := 8) hx hb hts hi_X1_pairsDeep_X1 hown hK hP 0 rfl rfl 0 (by decide) (hts (.fieldLink RX1 12 "Deeprows" "rows" "Ljava/util/ArrayList;") (List.mem_cons_of_mem _ zw_165)) (fun _ h9 => h9) rfl dX1_pairsDeep_6 ?_
  have hPc := hP.sub (ws' := [(al, .inr (4, [.int mc, .ref (zk 0), .int 0]))]) [1] rfl
  have hDc := hD.sub (ws' := [(al, .inr (4, [.int mc, .ref (zk 0), .int 0]))]) [1] (by decide) rfl
  have hFc := va_free (wc := [(al, .inr (4, [.int mc, .ref (zk 0), .int 0]))]) hD hS hA [1] rfl
  have hDv := hDc.self (sz := s.heap.size)
  have hpre := zpre (xs' := []) (av := [.ref al]) hPc hK (hDc.weaken (fun _ _ _ h => h)) hZ hS hFc (fun r hr => by cases hr)
  refine va_calli (va_runV (As := []) (rest := [.int 0]) ⟨hx, hb, hml, hown, hts⟩ (k_size l dC dI cI cB cR cO zk al (zk 0) 0 (.int mc) s.heap.size ) (cwV 0 hts gX1_pairsDeep_Jx4a65c_size_8abf5 rfl rfl rfl (by decide +kernel) ⟨Nat.le_of_ble_eq_true rfl, Nat.le_of_ble_eq_true rfl⟩) ⟨zblind, (zrecv_4 hK hPc (q0 := 0) rfl), hpre⟩ rfl rfl hl.1 rfl (lv_room (Nat.le_of_ble_eq_true rfl)) dX1_pairsDeep_9 ⟨Nat.le_of_ble_eq_true rfl, Nat.le_of_ble_eq_true rfl⟩) hS (fun q _ h => hFc q h) hFc (fun r2 u t H1 locs ht hvm hw hB hz1 hk1 hS => ?_)
  obtain rfl : 0 = r2 := (show r2 = 0 from hw).symm
  obtain ⟨hP1, hK1, hD1, hz2⟩ := hB
  rw [ht] at hP1 hz2
  have hPD9 := va_join (wr := [(xo, .inr (6, [.ref al, .int 0, .int 0, .int 0, x4, x5, .ref b1, x7]))]) (w1 := [(al, .inr (4, [.int mc, .ref (zk 0), .int 0]))]) hP hD [1] [0] rfl rfl (by decide) (by decide) hk1 hFc hP1 hD1
  clear hPc hDc hFc hDv hpre hP hD hP1 hK1 hD1
  obtain ⟨hP, hD⟩ := hPD9
  replace hz : s.heap.size + 0 ≤ H1.size := by omega
  clear hz2
  replace hP : va_P (dC, dI) vwCl [(xo, .inr (6, [.ref al, .int 0, .int 0, .int 0, x4, x5, .ref b1, x7])), (al, .inr (4, [.int mc, .ref (zk 0), .int 0]))] H1 := hP
  replace hD : va_D A [(xo, .inr (6, [.ref al, .int 0, .int 0, .int 0, x4, x5, .ref b1, x7])), (al, .inr (4, [.int mc, .ref (zk 0), .int 0]))] := hD
  refine W.widen (k := 0) (n := 0) (by omega) (by omega) ?_
  refine lv_icmp_ge (tgt := 74) hx hb dX1_pairsDeep_12 (by decide) (fun c9 => ?_) (fun c9 => ?_)
  rotate_left
  · exact absurd (by decide) c9
  refine lv_iload_n hx hb dX1_pairsDeep_74 rfl (lv_at hl 1 rfl) ?_
  have hP9 := hP.sub (ws' := [(xo, .inr (6, [.ref al, .int 0, .int 0, .int 0, x4, x5, .ref b1, x7])), (al, .inr (4, [.int mc, .ref (zk 0), .int 0]))]) [0, 1] rfl
  have hD9 := hD.sub (ws' := [(xo, .inr (6, [.ref al, .int 0, .int 0, .int 0, x4, x5, .ref b1, x7])), (al, .inr (4, [.int mc, .ref (zk 0), .int 0]))]) [0, 1] (by decide) rfl
  exact W.iret (v := 0) hx hb hr (fun t ht hW => ⟨⟨_, (), rfl, rfl, ⟨by rw [ht]; exact hP9, va_K.moved hW.alike hK, hD9, by rw [ht]; exact hz⟩⟩, hS.F ht⟩) hS.2.2 dX1_pairsDeep_75

theorem hi_X1_greatestDepth_X1 : ∀ w ∈ u_ws RX1 TX1 8, w ∈ wsX1_greatestDepth := fun w h => List.mem_cons_of_mem _ (zhi_X1 w h)
set_option maxHeartbeats 4000000 in
set_option maxRecDepth 100000 in
theorem k_gdep (l : Launch) (dC : Nat → ClassId) (dI : Nat → Nat → Nat) (cI cB cR cO : ClassId) (zk : Nat → Nat) (xo al b1 : Nat) (x4 x5 x7 : Value) (mc : Int32) (sz : Nat)  : Met l yX1_greatestDepth wsX1_greatestDepth ({ frames := 1, cells := 0, slots := 0, locals := 20 }) (va_Pc [.ref xo] (zPre (dC, dI) (zT cI cB cR cO) zk [] [(xo, .inr (6, [.ref al, .int 0, .int 0, .int 0, x4, x5, .ref b1, x7])), (al, .inr (4, [.int mc, .ref (zk 0), .int 0]))] sz)) (va_Qi (fun r (_ : Unit) => r = 0) (fun _ t => zEnd (dC, dI) (zT cI cB cR cO) (va_A [(xo, .inr (6, [.ref al, .int 0, .int 0, .int 0, x4, x5, .ref b1, x7])), (al, .inr (4, [.int mc, .ref (zk 0), .int 0]))] sz) [(xo, .inr (6, [.ref al, .int 0, .int 0, .int 0, x4, x5, .ref b1, x7])), (al, .inr (4, [.int mc, .ref (zk 0), .int 0]))] sz 0 t) (va_A [(xo, .inr (6, [.ref al, .int 0, .int 0, .int 0, x4, x5, .ref b1, x7])), (al, .inr (4, [.int mc, .ref (zk 0), .int 0]))] sz)) 0 0 (va_A [(xo, .inr (6, [.ref al, .int 0, .int 0, .int 0, x4, x5, .ref b1, x7])), (al, .inr (4, [.int mc, .ref (zk 0), .int 0]))] sz) := by
  refine Met.ofW (cc := cX1_greatestDepth) (maxL := 3) (ret := (some .int)) (by decide) rfl ?_
  intro p e s mY args below meth c s₁ B hml hv
  obtain ⟨rfl, hsz, hP, hK, hD0, hZ⟩ := hv
  have hx := B.exec
  have hb := B.bytes
  have hr := B.returns
  have hts := atoms_spec (ws := wsX1_greatestDepth) B.pre
  have hown : s.vm.findClass RX1 = some mY.cls := findClass_of_methodNamed B.named
  have hlocks := B.notSynchronized
  subst hsz
  have hD := hD0.self (sz := s.heap.size)
  generalize hAe : va_A [(xo, .inr (6, [.ref al, .int 0, .int 0, .int 0, x4, x5, .ref b1, x7])), (al, .inr (4, [.int mc, .ref (zk 0), .int 0]))] s.heap.size = A at hD hZ ⊢
  have hA : ∀ q : Nat, s.heap.size ≤ q → A q := fun q h => by rw [← hAe]; exact Or.inr h
  have hS : va_S A s.heap s.heap [] := va_S.rf
  have hz : s.heap.size + 0 ≤ s.heap.size := Nat.le_refl _
  have hl := lv_entry ([.ref xo]) (n := 3) (Nat.le_of_ble_eq_true rfl)
  rw [lg_entry_eq]
  generalize (lg_sl ([.ref xo]) ++ List.replicate (3 - (lg_sl ([.ref xo])).length) Slot.unset).toArray = ls at hl ⊢
  have hl : lv_has ls 3 [(0, .ref xo)] := hl
  have hP : va_P (dC, dI) vwCl [(xo, .inr (6, [.ref al, .int 0, .int 0, .int 0, x4, x5, .ref b1, x7])), (al, .inr (4, [.int mc, .ref (zk 0), .int 0]))] s.heap := hP
  have hD : va_D A [(xo, .inr (6, [.ref al, .int 0, .int 0, .int 0, x4, x5, .ref b1, x7])), (al, .inr (4, [.int mc, .ref (zk 0), .int 0]))] := hD
  refine lv_iconst (v := 0) hx hb dX1_greatestDepth_0 (by decide) ?_
  refine lv_istore_n (lv' := [(1, .int 0), (0, .ref xo)]) hx hb dX1_greatestDepth_1 rfl hl (by decide) rfl (fun ls hl => ?_)
  refine lv_iconst (v := 0) hx hb dX1_greatestDepth_2 (by decide) ?_
  refine lv_istore_n (lv' := [(2, .int 0), (1, .int 0), (0, .ref xo)]) hx hb dX1_greatestDepth_3 rfl hl (by decide) rfl (fun ls hl => ?_)
  refine lv_iload_n hx hb dX1_greatestDepth_4 rfl (lv_at hl 0 rfl) ?_
  refine lv_aload_n hx hb dX1_greatestDepth_5 rfl (lv_at hl 2 rfl) ?_
  refine va_get (D := (dC, dI)) (ci := 6) (v := .ref al) (C := RX1) (T := TX1) (N := 8) hx hb hts hi_X1_greatestDepth_X1 hown hK hP 0 rfl rfl 0 (by decide) (hts (.fieldLink RX1 12 "Deeprows" "rows" "Ljava/util/ArrayList;") (List.mem_cons_of_mem _ zw_165)) (fun _ h9 => h9) rfl dX1_greatestDepth_6 ?_
  have hPc := hP.sub (ws' := [(al, .inr (4, [.int mc, .ref (zk 0), .int 0]))]) [1] rfl
  have hDc := hD.sub (ws' := [(al, .inr (4, [.int mc, .ref (zk 0), .int 0]))]) [1] (by decide) rfl
  have hFc := va_free (wc := [(al, .inr (4, [.int mc, .ref (zk 0), .int 0]))]) hD hS hA [1] rfl
  have hDv := hDc.self (sz := s.heap.size)
  have hpre := zpre (xs' := []) (av := [.ref al]) hPc hK (hDc.weaken (fun _ _ _ h => h)) hZ hS hFc (fun r hr => by cases hr)
  refine va_calli (va_runV (As := []) (rest := [.int 0]) ⟨hx, hb, hml, hown, hts⟩ (k_size l dC dI cI cB cR cO zk al (zk 0) 0 (.int mc) s.heap.size ) (cwV 0 hts gX1_greatestDepth_Jx4a65c_size_8abf5 rfl rfl rfl (by decide +kernel) ⟨Nat.le_of_ble_eq_true rfl, Nat.le_of_ble_eq_true rfl⟩) ⟨zblind, (zrecv_4 hK hPc (q0 := 0) rfl), hpre⟩ rfl rfl hl.1 rfl (lv_room (Nat.le_of_ble_eq_true rfl)) dX1_greatestDepth_9 ⟨Nat.le_of_ble_eq_true rfl, Nat.le_of_ble_eq_true rfl⟩) hS (fun q _ h => hFc q h) hFc (fun r2 u t H1 locs ht hvm hw hB hz1 hk1 hS => ?_)
  obtain rfl : 0 = r2 := (show r2 = 0 from hw).symm
  obtain ⟨hP1, hK1, hD1, hz2⟩ := hB
  rw [ht] at hP1 hz2
  have hPD9 := va_join (wr := [(xo, .inr (6, [.ref al, .int 0, .int 0, .int 0, x4, x5, .ref b1, x7]))]) (w1 := [(al, .inr (4, [.int mc, .ref (zk 0), .int 0]))]) hP hD [1] [0] rfl rfl (by decide) (by decide) hk1 hFc hP1 hD1
  clear hPc hDc hFc hDv hpre hP hD hP1 hK1 hD1
  obtain ⟨hP, hD⟩ := hPD9
  replace hz : s.heap.size + 0 ≤ H1.size := by omega
  clear hz2
  replace hP : va_P (dC, dI) vwCl [(xo, .inr (6, [.ref al, .int 0, .int 0, .int 0, x4, x5, .ref b1, x7])), (al, .inr (4, [.int mc, .ref (zk 0), .int 0]))] H1 := hP
  replace hD : va_D A [(xo, .inr (6, [.ref al, .int 0, .int 0, .int 0, x4, x5, .ref b1, x7])), (al, .inr (4, [.int mc, .ref (zk 0), .int 0]))] := hD
  refine W.widen (k := 0) (n := 0) (by omega) (by omega) ?_
  refine lv_icmp_ge (tgt := 40) hx hb dX1_greatestDepth_12 (by decide) (fun c9 => ?_) (fun c9 => ?_)
  rotate_left
  · exact absurd (by decide) c9
  refine lv_iload_n hx hb dX1_greatestDepth_40 rfl (lv_at hl 1 rfl) ?_
  have hP9 := hP.sub (ws' := [(xo, .inr (6, [.ref al, .int 0, .int 0, .int 0, x4, x5, .ref b1, x7])), (al, .inr (4, [.int mc, .ref (zk 0), .int 0]))]) [0, 1] rfl
  have hD9 := hD.sub (ws' := [(xo, .inr (6, [.ref al, .int 0, .int 0, .int 0, x4, x5, .ref b1, x7])), (al, .inr (4, [.int mc, .ref (zk 0), .int 0]))]) [0, 1] (by decide) rfl
  exact W.iret (v := 0) hx hb hr (fun t ht hW => ⟨⟨_, (), rfl, rfl, ⟨by rw [ht]; exact hP9, va_K.moved hW.alike hK, hD9, by rw [ht]; exact hz⟩⟩, hS.F ht⟩) hS.2.2 dX1_greatestDepth_41

theorem hi_X1_house_X1 : ∀ w ∈ u_ws RX1 TX1 8, w ∈ wsX1_house := fun w h => List.mem_cons_of_mem _ (zhi_X1 w h)
set_option maxHeartbeats 4000000 in
set_option maxRecDepth 100000 in
theorem k_house0X (l : Launch) (dC : Nat → ClassId) (dI : Nat → Nat → Nat) (cI cB cR cO : ClassId) (zk : Nat → Nat) (xo al b1 : Nat) (x4 x5 x7 : Value) (mc : Int32) (sz : Nat)  : Met l yX1_house wsX1_house ({ frames := 1, cells := 0, slots := 0, locals := 20 }) (va_Pc [.ref xo, .int 0] (zPre (dC, dI) (zT cI cB cR cO) zk [] [(xo, .inr (6, [.ref al, .int 0, .int 0, .int 0, x4, x5, .ref b1, x7])), (al, .inr (4, [.int mc, .ref (zk 0), .int 0]))] sz)) (va_Qi (fun r (_ : Unit) => r = 0) (fun _ t => zEnd (dC, dI) (zT cI cB cR cO) (va_A [(xo, .inr (6, [.ref al, .int 0, .int 0, .int 0, x4, x5, .ref b1, x7])), (al, .inr (4, [.int mc, .ref (zk 0), .int 0]))] sz) [(xo, .inr (6, [.ref al, .int 0, .int 0, .int 0, x4, x5, .ref b1, x7])), (al, .inr (4, [.int mc, .ref (zk 0), .int 0]))] sz 0 t) (va_A [(xo, .inr (6, [.ref al, .int 0, .int 0, .int 0, x4, x5, .ref b1, x7])), (al, .inr (4, [.int mc, .ref (zk 0), .int 0]))] sz)) 0 0 (va_A [(xo, .inr (6, [.ref al, .int 0, .int 0, .int 0, x4, x5, .ref b1, x7])), (al, .inr (4, [.int mc, .ref (zk 0), .int 0]))] sz) := by
  refine Met.ofW (cc := cX1_house) (maxL := 2) (ret := (some .int)) (by decide) rfl ?_
  intro p e s mY args below meth c s₁ B hml hv
  obtain ⟨rfl, hsz, hP, hK, hD0, hZ⟩ := hv
  have hx := B.exec
  have hb := B.bytes
  have hr := B.returns
  have hts := atoms_spec (ws := wsX1_house) B.pre
  have hown : s.vm.findClass RX1 = some mY.cls := findClass_of_methodNamed B.named
  have hlocks := B.notSynchronized
  subst hsz
  have hD := hD0.self (sz := s.heap.size)
  generalize hAe : va_A [(xo, .inr (6, [.ref al, .int 0, .int 0, .int 0, x4, x5, .ref b1, x7])), (al, .inr (4, [.int mc, .ref (zk 0), .int 0]))] s.heap.size = A at hD hZ ⊢
  have hA : ∀ q : Nat, s.heap.size ≤ q → A q := fun q h => by rw [← hAe]; exact Or.inr h
  have hS : va_S A s.heap s.heap [] := va_S.rf
  have hz : s.heap.size + 0 ≤ s.heap.size := Nat.le_refl _
  have hl := lv_entry ([.ref xo, .int 0]) (n := 2) (Nat.le_of_ble_eq_true rfl)
  rw [lg_entry_eq]
  generalize (lg_sl ([.ref xo, .int 0]) ++ List.replicate (2 - (lg_sl ([.ref xo, .int 0])).length) Slot.unset).toArray = ls at hl ⊢
  have hl : lv_has ls 2 [(0, .ref xo), (1, .int 0)] := hl
  have hP : va_P (dC, dI) vwCl [(xo, .inr (6, [.ref al, .int 0, .int 0, .int 0, x4, x5, .ref b1, x7])), (al, .inr (4, [.int mc, .ref (zk 0), .int 0]))] s.heap := hP
  have hD : va_D A [(xo, .inr (6, [.ref al, .int 0, .int 0, .int 0, x4, x5, .ref b1, x7])), (al, .inr (4, [.int mc, .ref (zk 0), .int 0]))] := hD
  refine lv_iload_n hx hb dX1_house_0 rfl (lv_at hl 1 rfl) ?_
  refine lv_tableIn (off := 39) (tgt := 40) hx hb dX1_house_1 (by decide) (by decide) (by decide) (by decide) ?_
  refine lv_aload_n hx hb dX1_house_40 rfl (lv_at hl 0 rfl) ?_
  refine va_get (D := (dC, dI)) (ci := 6) (v := .ref al) (C := RX1) (T := TX1) (N := 8) hx hb hts hi_X1_house_X1 hown hK hP 0 rfl rfl 0 (by decide) (hts (.fieldLink RX1 12 "Deeprows" "rows" "Ljava/util/ArrayList;") (List.mem_cons_of_mem _ zw_165)) (fun _ h9 => h9) rfl dX1_house_41 ?_
  have hPc := hP.sub (ws' := [(al, .inr (4, [.int mc, .ref (zk 0), .int 0]))]) [1] rfl
  have hDc := hD.sub (ws' := [(al, .inr (4, [.int mc, .ref (zk 0), .int 0]))]) [1] (by decide) rfl
  have hFc := va_free (wc := [(al, .inr (4, [.int mc, .ref (zk 0), .int 0]))]) hD hS hA [1] rfl
  have hDv := hDc.self (sz := s.heap.size)
  have hpre := zpre (xs' := []) (av := [.ref al]) hPc hK (hDc.weaken (fun _ _ _ h => h)) hZ hS hFc (fun r hr => by cases hr)
  refine va_calli (va_runV (As := []) (rest := []) ⟨hx, hb, hml, hown, hts⟩ (k_size l dC dI cI cB cR cO zk al (zk 0) 0 (.int mc) s.heap.size ) (cwV 0 hts gX1_house_Jx4a65c_size_8abf5 rfl rfl rfl (by decide +kernel) ⟨Nat.le_of_ble_eq_true rfl, Nat.le_of_ble_eq_true rfl⟩) ⟨zblind, (zrecv_4 hK hPc (q0 := 0) rfl), hpre⟩ rfl rfl hl.1 rfl (lv_room (Nat.le_of_ble_eq_true rfl)) dX1_house_44 ⟨Nat.le_of_ble_eq_true rfl, Nat.le_of_ble_eq_true rfl⟩) hS (fun q _ h => hFc q h) hFc (fun r2 u t H1 locs ht hvm hw hB hz1 hk1 hS => ?_)
  obtain rfl : 0 = r2 := (show r2 = 0 from hw).symm
  obtain ⟨hP1, hK1, hD1, hz2⟩ := hB
  rw [ht] at hP1 hz2
  have hPD9 := va_join (wr := [(xo, .inr (6, [.ref al, .int 0, .int 0, .int 0, x4, x5, .ref b1, x7]))]) (w1 := [(al, .inr (4, [.int mc, .ref (zk 0), .int 0]))]) hP hD [1] [0] rfl rfl (by decide) (by decide) hk1 hFc hP1 hD1
  clear hPc hDc hFc hDv hpre hP hD hP1 hK1 hD1
  obtain ⟨hP, hD⟩ := hPD9
  replace hz : s.heap.size + 0 ≤ H1.size := by omega
  clear hz2
  replace hP : va_P (dC, dI) vwCl [(xo, .inr (6, [.ref al, .int 0, .int 0, .int 0, x4, x5, .ref b1, x7])), (al, .inr (4, [.int mc, .ref (zk 0), .int 0]))] H1 := hP
  replace hD : va_D A [(xo, .inr (6, [.ref al, .int 0, .int 0, .int 0, x4, x5, .ref b1, x7])), (al, .inr (4, [.int mc, .ref (zk 0), .int 0]))] := hD
  refine W.widen (k := 0) (n := 0) (by omega) (by omega) ?_
  have hP9 := hP.sub (ws' := [(xo, .inr (6, [.ref al, .int 0, .int 0, .int 0, x4, x5, .ref b1, x7])), (al, .inr (4, [.int mc, .ref (zk 0), .int 0]))]) [0, 1] rfl
  have hD9 := hD.sub (ws' := [(xo, .inr (6, [.ref al, .int 0, .int 0, .int 0, x4, x5, .ref b1, x7])), (al, .inr (4, [.int mc, .ref (zk 0), .int 0]))]) [0, 1] (by decide) rfl
  exact W.iret (v := 0) hx hb hr (fun t ht hW => ⟨⟨_, (), rfl, rfl, ⟨by rw [ht]; exact hP9, va_K.moved hW.alike hK, hD9, by rw [ht]; exact hz⟩⟩, hS.F ht⟩) hS.2.2 dX1_house_47

set_option maxHeartbeats 4000000 in
set_option maxRecDepth 100000 in
theorem k_house1X (l : Launch) (dC : Nat → ClassId) (dI : Nat → Nat → Nat) (cI cB cR cO : ClassId) (zk : Nat → Nat) (xo al b1 : Nat) (x4 x5 x7 : Value) (mc : Int32) (sz : Nat)  : Met l yX1_house wsX1_house ({ frames := 0, cells := 0, slots := 0, locals := 0 }) (va_Pc [.ref xo, .int 1] (zPre (dC, dI) (zT cI cB cR cO) zk [] [(xo, .inr (6, [.ref al, .int 0, .int 0, .int 0, x4, x5, .ref b1, x7])), (al, .inr (4, [.int mc, .ref (zk 0), .int 0]))] sz)) (va_Qi (fun r (_ : Unit) => r = 0) (fun _ t => zEnd (dC, dI) (zT cI cB cR cO) (va_A [(xo, .inr (6, [.ref al, .int 0, .int 0, .int 0, x4, x5, .ref b1, x7])), (al, .inr (4, [.int mc, .ref (zk 0), .int 0]))] sz) [(xo, .inr (6, [.ref al, .int 0, .int 0, .int 0, x4, x5, .ref b1, x7])), (al, .inr (4, [.int mc, .ref (zk 0), .int 0]))] sz 0 t) (va_A [(xo, .inr (6, [.ref al, .int 0, .int 0, .int 0, x4, x5, .ref b1, x7])), (al, .inr (4, [.int mc, .ref (zk 0), .int 0]))] sz)) 0 0 (va_A [(xo, .inr (6, [.ref al, .int 0, .int 0, .int 0, x4, x5, .ref b1, x7])), (al, .inr (4, [.int mc, .ref (zk 0), .int 0]))] sz) := by
  refine Met.ofW (cc := cX1_house) (maxL := 2) (ret := (some .int)) (by decide) rfl ?_
  intro p e s mY args below meth c s₁ B hml hv
  obtain ⟨rfl, hsz, hP, hK, hD0, hZ⟩ := hv
  have hx := B.exec
  have hb := B.bytes
  have hr := B.returns
  have hts := atoms_spec (ws := wsX1_house) B.pre
  have hown : s.vm.findClass RX1 = some mY.cls := findClass_of_methodNamed B.named
  have hlocks := B.notSynchronized
  subst hsz
  have hD := hD0.self (sz := s.heap.size)
  generalize hAe : va_A [(xo, .inr (6, [.ref al, .int 0, .int 0, .int 0, x4, x5, .ref b1, x7])), (al, .inr (4, [.int mc, .ref (zk 0), .int 0]))] s.heap.size = A at hD hZ ⊢
  have hA : ∀ q : Nat, s.heap.size ≤ q → A q := fun q h => by rw [← hAe]; exact Or.inr h
  have hS : va_S A s.heap s.heap [] := va_S.rf
  have hz : s.heap.size + 0 ≤ s.heap.size := Nat.le_refl _
  have hl := lv_entry ([.ref xo, .int 1]) (n := 2) (Nat.le_of_ble_eq_true rfl)
  rw [lg_entry_eq]
  generalize (lg_sl ([.ref xo, .int 1]) ++ List.replicate (2 - (lg_sl ([.ref xo, .int 1])).length) Slot.unset).toArray = ls at hl ⊢
  have hl : lv_has ls 2 [(0, .ref xo), (1, .int 1)] := hl
  have hP : va_P (dC, dI) vwCl [(xo, .inr (6, [.ref al, .int 0, .int 0, .int 0, x4, x5, .ref b1, x7])), (al, .inr (4, [.int mc, .ref (zk 0), .int 0]))] s.heap := hP
  have hD : va_D A [(xo, .inr (6, [.ref al, .int 0, .int 0, .int 0, x4, x5, .ref b1, x7])), (al, .inr (4, [.int mc, .ref (zk 0), .int 0]))] := hD
  refine lv_iload_n hx hb dX1_house_0 rfl (lv_at hl 1 rfl) ?_
  refine lv_tableIn (off := 47) (tgt := 48) hx hb dX1_house_1 (by decide) (by decide) (by decide) (by decide) ?_
  refine lv_aload_n hx hb dX1_house_48 rfl (lv_at hl 0 rfl) ?_
  refine va_get (D := (dC, dI)) (ci := 6) (v := .int 0) (C := RX1) (T := TX1) (N := 8) hx hb hts hi_X1_house_X1 hown hK hP 0 rfl rfl 1 (by decide) (hts (.fieldLink RX1 16 "Deeprows" "makerMade" "I") (List.mem_cons_of_mem _ zw_166)) (fun _ h9 => h9) rfl dX1_house_49 ?_
  have hP9 := hP.sub (ws' := [(xo, .inr (6, [.ref al, .int 0, .int 0, .int 0, x4, x5, .ref b1, x7])), (al, .inr (4, [.int mc, .ref (zk 0), .int 0]))]) [0, 1] rfl
  have hD9 := hD.sub (ws' := [(xo, .inr (6, [.ref al, .int 0, .int 0, .int 0, x4, x5, .ref b1, x7])), (al, .inr (4, [.int mc, .ref (zk 0), .int 0]))]) [0, 1] (by decide) rfl
  exact W.iret (v := 0) hx hb hr (fun t ht hW => ⟨⟨_, (), rfl, rfl, ⟨by rw [ht]; exact hP9, va_K.moved hW.alike hK, hD9, by rw [ht]; exact hz⟩⟩, hS.F ht⟩) hS.2.2 dX1_house_52

set_option maxHeartbeats 4000000 in
set_option maxRecDepth 100000 in
theorem k_house2X (l : Launch) (dC : Nat → ClassId) (dI : Nat → Nat → Nat) (cI cB cR cO : ClassId) (zk : Nat → Nat) (xo al b1 : Nat) (x4 x5 x7 : Value) (mc : Int32) (sz : Nat)  : Met l yX1_house wsX1_house ({ frames := 0, cells := 0, slots := 0, locals := 0 }) (va_Pc [.ref xo, .int 2] (zPre (dC, dI) (zT cI cB cR cO) zk [] [(xo, .inr (6, [.ref al, .int 0, .int 0, .int 0, x4, x5, .ref b1, x7])), (al, .inr (4, [.int mc, .ref (zk 0), .int 0]))] sz)) (va_Qi (fun r (_ : Unit) => r = 0) (fun _ t => zEnd (dC, dI) (zT cI cB cR cO) (va_A [(xo, .inr (6, [.ref al, .int 0, .int 0, .int 0, x4, x5, .ref b1, x7])), (al, .inr (4, [.int mc, .ref (zk 0), .int 0]))] sz) [(xo, .inr (6, [.ref al, .int 0, .int 0, .int 0, x4, x5, .ref b1, x7])), (al, .inr (4, [.int mc, .ref (zk 0), .int 0]))] sz 0 t) (va_A [(xo, .inr (6, [.ref al, .int 0, .int 0, .int 0, x4, x5, .ref b1, x7])), (al, .inr (4, [.int mc, .ref (zk 0), .int 0]))] sz)) 0 0 (va_A [(xo, .inr (6, [.ref al, .int 0, .int 0, .int 0, x4, x5, .ref b1, x7])), (al, .inr (4, [.int mc, .ref (zk 0), .int 0]))] sz) := by
  refine Met.ofW (cc := cX1_house) (maxL := 2) (ret := (some .int)) (by decide) rfl ?_
  intro p e s mY args below meth c s₁ B hml hv
  obtain ⟨rfl, hsz, hP, hK, hD0, hZ⟩ := hv
  have hx := B.exec
  have hb := B.bytes
  have hr := B.returns
  have hts := atoms_spec (ws := wsX1_house) B.pre
  have hown : s.vm.findClass RX1 = some mY.cls := findClass_of_methodNamed B.named
  have hlocks := B.notSynchronized
  subst hsz
  have hD := hD0.self (sz := s.heap.size)
  generalize hAe : va_A [(xo, .inr (6, [.ref al, .int 0, .int 0, .int 0, x4, x5, .ref b1, x7])), (al, .inr (4, [.int mc, .ref (zk 0), .int 0]))] s.heap.size = A at hD hZ ⊢
  have hA : ∀ q : Nat, s.heap.size ≤ q → A q := fun q h => by rw [← hAe]; exact Or.inr h
  have hS : va_S A s.heap s.heap [] := va_S.rf
  have hz : s.heap.size + 0 ≤ s.heap.size := Nat.le_refl _
  have hl := lv_entry ([.ref xo, .int 2]) (n := 2) (Nat.le_of_ble_eq_true rfl)
  rw [lg_entry_eq]
  generalize (lg_sl ([.ref xo, .int 2]) ++ List.replicate (2 - (lg_sl ([.ref xo, .int 2])).length) Slot.unset).toArray = ls at hl ⊢
  have hl : lv_has ls 2 [(0, .ref xo), (1, .int 2)] := hl
  have hP : va_P (dC, dI) vwCl [(xo, .inr (6, [.ref al, .int 0, .int 0, .int 0, x4, x5, .ref b1, x7])), (al, .inr (4, [.int mc, .ref (zk 0), .int 0]))] s.heap := hP
  have hD : va_D A [(xo, .inr (6, [.ref al, .int 0, .int 0, .int 0, x4, x5, .ref b1, x7])), (al, .inr (4, [.int mc, .ref (zk 0), .int 0]))] := hD
  refine lv_iload_n hx hb dX1_house_0 rfl (lv_at hl 1 rfl) ?_
  refine lv_tableIn (off := 52) (tgt := 53) hx hb dX1_house_1 (by decide) (by decide) (by decide) (by decide) ?_
  refine lv_aload_n hx hb dX1_house_53 rfl (lv_at hl 0 rfl) ?_
  refine va_get (D := (dC, dI)) (ci := 6) (v := .int 0) (C := RX1) (T := TX1) (N := 8) hx hb hts hi_X1_house_X1 hown hK hP 0 rfl rfl 2 (by decide) (hts (.fieldLink RX1 20 "Deeprows" "makerRefused" "I") (List.mem_cons_of_mem _ zw_167)) (fun _ h9 => h9) rfl dX1_house_54 ?_
  have hP9 := hP.sub (ws' := [(xo, .inr (6, [.ref al, .int 0, .int 0, .int 0, x4, x5, .ref b1, x7])), (al, .inr (4, [.int mc, .ref (zk 0), .int 0]))]) [0, 1] rfl
  have hD9 := hD.sub (ws' := [(xo, .inr (6, [.ref al, .int 0, .int 0, .int 0, x4, x5, .ref b1, x7])), (al, .inr (4, [.int mc, .ref (zk 0), .int 0]))]) [0, 1] (by decide) rfl
  exact W.iret (v := 0) hx hb hr (fun t ht hW => ⟨⟨_, (), rfl, rfl, ⟨by rw [ht]; exact hP9, va_K.moved hW.alike hK, hD9, by rw [ht]; exact hz⟩⟩, hS.F ht⟩) hS.2.2 dX1_house_57

set_option maxHeartbeats 4000000 in
set_option maxRecDepth 100000 in
theorem k_house3X (l : Launch) (dC : Nat → ClassId) (dI : Nat → Nat → Nat) (cI cB cR cO : ClassId) (zk : Nat → Nat) (xo al b1 : Nat) (x4 x5 x7 : Value) (mc : Int32) (sz : Nat)  : Met l yX1_house wsX1_house ({ frames := 0, cells := 0, slots := 0, locals := 0 }) (va_Pc [.ref xo, .int 3] (zPre (dC, dI) (zT cI cB cR cO) zk [] [(xo, .inr (6, [.ref al, .int 0, .int 0, .int 0, x4, x5, .ref b1, x7])), (al, .inr (4, [.int mc, .ref (zk 0), .int 0]))] sz)) (va_Qi (fun r (_ : Unit) => r = 0) (fun _ t => zEnd (dC, dI) (zT cI cB cR cO) (va_A [(xo, .inr (6, [.ref al, .int 0, .int 0, .int 0, x4, x5, .ref b1, x7])), (al, .inr (4, [.int mc, .ref (zk 0), .int 0]))] sz) [(xo, .inr (6, [.ref al, .int 0, .int 0, .int 0, x4, x5, .ref b1, x7])), (al, .inr (4, [.int mc, .ref (zk 0), .int 0]))] sz 0 t) (va_A [(xo, .inr (6, [.ref al, .int 0, .int 0, .int 0, x4, x5, .ref b1, x7])), (al, .inr (4, [.int mc, .ref (zk 0), .int 0]))] sz)) 0 0 (va_A [(xo, .inr (6, [.ref al, .int 0, .int 0, .int 0, x4, x5, .ref b1, x7])), (al, .inr (4, [.int mc, .ref (zk 0), .int 0]))] sz) := by
  refine Met.ofW (cc := cX1_house) (maxL := 2) (ret := (some .int)) (by decide) rfl ?_
  intro p e s mY args below meth c s₁ B hml hv
  obtain ⟨rfl, hsz, hP, hK, hD0, hZ⟩ := hv
  have hx := B.exec
  have hb := B.bytes
  have hr := B.returns
  have hts := atoms_spec (ws := wsX1_house) B.pre
  have hown : s.vm.findClass RX1 = some mY.cls := findClass_of_methodNamed B.named
  have hlocks := B.notSynchronized
  subst hsz
  have hD := hD0.self (sz := s.heap.size)
  generalize hAe : va_A [(xo, .inr (6, [.ref al, .int 0, .int 0, .int 0, x4, x5, .ref b1, x7])), (al, .inr (4, [.int mc, .ref (zk 0), .int 0]))] s.heap.size = A at hD hZ ⊢
  have hA : ∀ q : Nat, s.heap.size ≤ q → A q := fun q h => by rw [← hAe]; exact Or.inr h
  have hS : va_S A s.heap s.heap [] := va_S.rf
  have hz : s.heap.size + 0 ≤ s.heap.size := Nat.le_refl _
  have hl := lv_entry ([.ref xo, .int 3]) (n := 2) (Nat.le_of_ble_eq_true rfl)
  rw [lg_entry_eq]
  generalize (lg_sl ([.ref xo, .int 3]) ++ List.replicate (2 - (lg_sl ([.ref xo, .int 3])).length) Slot.unset).toArray = ls at hl ⊢
  have hl : lv_has ls 2 [(0, .ref xo), (1, .int 3)] := hl
  have hP : va_P (dC, dI) vwCl [(xo, .inr (6, [.ref al, .int 0, .int 0, .int 0, x4, x5, .ref b1, x7])), (al, .inr (4, [.int mc, .ref (zk 0), .int 0]))] s.heap := hP
  have hD : va_D A [(xo, .inr (6, [.ref al, .int 0, .int 0, .int 0, x4, x5, .ref b1, x7])), (al, .inr (4, [.int mc, .ref (zk 0), .int 0]))] := hD
  refine lv_iload_n hx hb dX1_house_0 rfl (lv_at hl 1 rfl) ?_
  refine lv_tableIn (off := 57) (tgt := 58) hx hb dX1_house_1 (by decide) (by decide) (by decide) (by decide) ?_
  refine lv_aload_n hx hb dX1_house_58 rfl (lv_at hl 0 rfl) ?_
  refine va_get (D := (dC, dI)) (ci := 6) (v := .int 0) (C := RX1) (T := TX1) (N := 8) hx hb hts hi_X1_house_X1 hown hK hP 0 rfl rfl 3 (by decide) (hts (.fieldLink RX1 23 "Deeprows" "knocks" "I") (List.mem_cons_of_mem _ zw_168)) (fun _ h9 => h9) rfl dX1_house_59 ?_
  have hP9 := hP.sub (ws' := [(xo, .inr (6, [.ref al, .int 0, .int 0, .int 0, x4, x5, .ref b1, x7])), (al, .inr (4, [.int mc, .ref (zk 0), .int 0]))]) [0, 1] rfl
  have hD9 := hD.sub (ws' := [(xo, .inr (6, [.ref al, .int 0, .int 0, .int 0, x4, x5, .ref b1, x7])), (al, .inr (4, [.int mc, .ref (zk 0), .int 0]))]) [0, 1] (by decide) rfl
  exact W.iret (v := 0) hx hb hr (fun t ht hW => ⟨⟨_, (), rfl, rfl, ⟨by rw [ht]; exact hP9, va_K.moved hW.alike hK, hD9, by rw [ht]; exact hz⟩⟩, hS.F ht⟩) hS.2.2 dX1_house_62

set_option maxHeartbeats 4000000 in
set_option maxRecDepth 100000 in
theorem k_house4X (l : Launch) (dC : Nat → ClassId) (dI : Nat → Nat → Nat) (cI cB cR cO : ClassId) (zk : Nat → Nat) (xo al b1 : Nat) (x4 x5 x7 : Value) (mc : Int32) (sz : Nat)  : Met l yX1_house wsX1_house ({ frames := 2, cells := 0, slots := 0, locals := 43 }) (va_Pc [.ref xo, .int 4] (zPre (dC, dI) (zT cI cB cR cO) zk [] [(xo, .inr (6, [.ref al, .int 0, .int 0, .int 0, x4, x5, .ref b1, x7])), (al, .inr (4, [.int mc, .ref (zk 0), .int 0]))] sz)) (va_Qi (fun r (_ : Unit) => r = 0) (fun _ t => zEnd (dC, dI) (zT cI cB cR cO) (va_A [(xo, .inr (6, [.ref al, .int 0, .int 0, .int 0, x4, x5, .ref b1, x7])), (al, .inr (4, [.int mc, .ref (zk 0), .int 0]))] sz) [(xo, .inr (6, [.ref al, .int 0, .int 0, .int 0, x4, x5, .ref b1, x7])), (al, .inr (4, [.int mc, .ref (zk 0), .int 0]))] sz 0 t) (va_A [(xo, .inr (6, [.ref al, .int 0, .int 0, .int 0, x4, x5, .ref b1, x7])), (al, .inr (4, [.int mc, .ref (zk 0), .int 0]))] sz)) 0 0 (va_A [(xo, .inr (6, [.ref al, .int 0, .int 0, .int 0, x4, x5, .ref b1, x7])), (al, .inr (4, [.int mc, .ref (zk 0), .int 0]))] sz) := by
  refine Met.ofW (cc := cX1_house) (maxL := 2) (ret := (some .int)) (by decide) rfl ?_
  intro p e s mY args below meth c s₁ B hml hv
  obtain ⟨rfl, hsz, hP, hK, hD0, hZ⟩ := hv
  have hx := B.exec
  have hb := B.bytes
  have hr := B.returns
  have hts := atoms_spec (ws := wsX1_house) B.pre
  have hown : s.vm.findClass RX1 = some mY.cls := findClass_of_methodNamed B.named
  have hlocks := B.notSynchronized
  subst hsz
  have hD := hD0.self (sz := s.heap.size)
  generalize hAe : va_A [(xo, .inr (6, [.ref al, .int 0, .int 0, .int 0, x4, x5, .ref b1, x7])), (al, .inr (4, [.int mc, .ref (zk 0), .int 0]))] s.heap.size = A at hD hZ ⊢
  have hA : ∀ q : Nat, s.heap.size ≤ q → A q := fun q h => by rw [← hAe]; exact Or.inr h
  have hS : va_S A s.heap s.heap [] := va_S.rf
  have hz : s.heap.size + 0 ≤ s.heap.size := Nat.le_refl _
  have hl := lv_entry ([.ref xo, .int 4]) (n := 2) (Nat.le_of_ble_eq_true rfl)
  rw [lg_entry_eq]
  generalize (lg_sl ([.ref xo, .int 4]) ++ List.replicate (2 - (lg_sl ([.ref xo, .int 4])).length) Slot.unset).toArray = ls at hl ⊢
  have hl : lv_has ls 2 [(0, .ref xo), (1, .int 4)] := hl
  have hP : va_P (dC, dI) vwCl [(xo, .inr (6, [.ref al, .int 0, .int 0, .int 0, x4, x5, .ref b1, x7])), (al, .inr (4, [.int mc, .ref (zk 0), .int 0]))] s.heap := hP
  have hD : va_D A [(xo, .inr (6, [.ref al, .int 0, .int 0, .int 0, x4, x5, .ref b1, x7])), (al, .inr (4, [.int mc, .ref (zk 0), .int 0]))] := hD
  refine lv_iload_n hx hb dX1_house_0 rfl (lv_at hl 1 rfl) ?_
  refine lv_tableIn (off := 62) (tgt := 63) hx hb dX1_house_1 (by decide) (by decide) (by decide) (by decide) ?_
  refine lv_aload_n hx hb dX1_house_63 rfl (lv_at hl 0 rfl) ?_
  have hPc := hP.sub (ws' := [(xo, .inr (6, [.ref al, .int 0, .int 0, .int 0, x4, x5, .ref b1, x7])), (al, .inr (4, [.int mc, .ref (zk 0), .int 0]))]) [0, 1] rfl
  have hDc := hD.sub (ws' := [(xo, .inr (6, [.ref al, .int 0, .int 0, .int 0, x4, x5, .ref b1, x7])), (al, .inr (4, [.int mc, .ref (zk 0), .int 0]))]) [0, 1] (by decide) rfl
  have hFc := va_free (wc := [(xo, .inr (6, [.ref al, .int 0, .int 0, .int 0, x4, x5, .ref b1, x7])), (al, .inr (4, [.int mc, .ref (zk 0), .int 0]))]) hD hS hA [0, 1] rfl
  have hDv := hDc.self (sz := s.heap.size)
  have hpre := zpre (xs' := []) (av := [.ref xo]) hPc hK (hDc.weaken (fun _ _ _ h => h)) hZ hS hFc (fun r hr => by cases hr)
  refine va_calli (va_runV (As := []) (rest := []) ⟨hx, hb, hml, hown, hts⟩ (k_pairs l dC dI cI cB cR cO zk xo al b1 x4 x5 x7 mc s.heap.size ) (cwV 0 hts gX1_house_X1_pairsDeep rfl rfl rfl (by decide +kernel) ⟨Nat.le_of_ble_eq_true rfl, Nat.le_of_ble_eq_true rfl⟩) ⟨zblind, (zrecv_6 hK hPc (q0 := 0) rfl), hpre⟩ rfl rfl hl.1 rfl (lv_room (Nat.le_of_ble_eq_true rfl)) dX1_house_64 ⟨Nat.le_of_ble_eq_true rfl, Nat.le_of_ble_eq_true rfl⟩) hS (fun q _ h => hFc q h) hFc (fun r2 u t H1 locs ht hvm hw hB hz1 hk1 hS => ?_)
  obtain rfl : 0 = r2 := (show r2 = 0 from hw).symm
  obtain ⟨hP1, hK1, hD1, hz2⟩ := hB
  rw [ht] at hP1 hz2
  have hPD9 := va_join (wr := []) (w1 := [(xo, .inr (6, [.ref al, .int 0, .int 0, .int 0, x4, x5, .ref b1, x7])), (al, .inr (4, [.int mc, .ref (zk 0), .int 0]))]) hP hD [0, 1] [] rfl rfl (by decide) (by decide) hk1 hFc hP1 hD1
  clear hPc hDc hFc hDv hpre hP hD hP1 hK1 hD1
  obtain ⟨hP, hD⟩ := hPD9
  replace hz : s.heap.size + 0 ≤ H1.size := by omega
  clear hz2
  replace hP : va_P (dC, dI) vwCl [(xo, .inr (6, [.ref al, .int 0, .int 0, .int 0, x4, x5, .ref b1, x7])), (al, .inr (4, [.int mc, .ref (zk 0), .int 0]))] H1 := hP
  replace hD : va_D A [(xo, .inr (6, [.ref al, .int 0, .int 0, .int 0, x4, x5, .ref b1, x7])), (al, .inr (4, [.int mc, .ref (zk 0), .int 0]))] := hD
  refine W.widen (k := 0) (n := 0) (by omega) (by omega) ?_
  have hP9 := hP.sub (ws' := [(xo, .inr (6, [.ref al, .int 0, .int 0, .int 0, x4, x5, .ref b1, x7])), (al, .inr (4, [.int mc, .ref (zk 0), .int 0]))]) [0, 1] rfl
  have hD9 := hD.sub (ws' := [(xo, .inr (6, [.ref al, .int 0, .int 0, .int 0, x4, x5, .ref b1, x7])), (al, .inr (4, [.int mc, .ref (zk 0), .int 0]))]) [0, 1] (by decide) rfl
  exact W.iret (v := 0) hx hb hr (fun t ht hW => ⟨⟨_, (), rfl, rfl, ⟨by rw [ht]; exact hP9, va_K.moved hW.alike hK, hD9, by rw [ht]; exact hz⟩⟩, hS.F ht⟩) hS.2.2 dX1_house_67

set_option maxHeartbeats 4000000 in
set_option maxRecDepth 100000 in
theorem k_house5X (l : Launch) (dC : Nat → ClassId) (dI : Nat → Nat → Nat) (cI cB cR cO : ClassId) (zk : Nat → Nat) (xo al b1 : Nat) (x4 x5 x7 : Value) (mc : Int32) (sz : Nat)  : Met l yX1_house wsX1_house ({ frames := 2, cells := 0, slots := 0, locals := 42 }) (va_Pc [.ref xo, .int 5] (zPre (dC, dI) (zT cI cB cR cO) zk [] [(xo, .inr (6, [.ref al, .int 0, .int 0, .int 0, x4, x5, .ref b1, x7])), (al, .inr (4, [.int mc, .ref (zk 0), .int 0]))] sz)) (va_Qi (fun r (_ : Unit) => r = 0) (fun _ t => zEnd (dC, dI) (zT cI cB cR cO) (va_A [(xo, .inr (6, [.ref al, .int 0, .int 0, .int 0, x4, x5, .ref b1, x7])), (al, .inr (4, [.int mc, .ref (zk 0), .int 0]))] sz) [(xo, .inr (6, [.ref al, .int 0, .int 0, .int 0, x4, x5, .ref b1, x7])), (al, .inr (4, [.int mc, .ref (zk 0), .int 0]))] sz 0 t) (va_A [(xo, .inr (6, [.ref al, .int 0, .int 0, .int 0, x4, x5, .ref b1, x7])), (al, .inr (4, [.int mc, .ref (zk 0), .int 0]))] sz)) 0 0 (va_A [(xo, .inr (6, [.ref al, .int 0, .int 0, .int 0, x4, x5, .ref b1, x7])), (al, .inr (4, [.int mc, .ref (zk 0), .int 0]))] sz) := by
  refine Met.ofW (cc := cX1_house) (maxL := 2) (ret := (some .int)) (by decide) rfl ?_
  intro p e s mY args below meth c s₁ B hml hv
  obtain ⟨rfl, hsz, hP, hK, hD0, hZ⟩ := hv
  have hx := B.exec
  have hb := B.bytes
  have hr := B.returns
  have hts := atoms_spec (ws := wsX1_house) B.pre
  have hown : s.vm.findClass RX1 = some mY.cls := findClass_of_methodNamed B.named
  have hlocks := B.notSynchronized
  subst hsz
  have hD := hD0.self (sz := s.heap.size)
  generalize hAe : va_A [(xo, .inr (6, [.ref al, .int 0, .int 0, .int 0, x4, x5, .ref b1, x7])), (al, .inr (4, [.int mc, .ref (zk 0), .int 0]))] s.heap.size = A at hD hZ ⊢
  have hA : ∀ q : Nat, s.heap.size ≤ q → A q := fun q h => by rw [← hAe]; exact Or.inr h
  have hS : va_S A s.heap s.heap [] := va_S.rf
  have hz : s.heap.size + 0 ≤ s.heap.size := Nat.le_refl _
  have hl := lv_entry ([.ref xo, .int 5]) (n := 2) (Nat.le_of_ble_eq_true rfl)
  rw [lg_entry_eq]
  generalize (lg_sl ([.ref xo, .int 5]) ++ List.replicate (2 - (lg_sl ([.ref xo, .int 5])).length) Slot.unset).toArray = ls at hl ⊢
  have hl : lv_has ls 2 [(0, .ref xo), (1, .int 5)] := hl
  have hP : va_P (dC, dI) vwCl [(xo, .inr (6, [.ref al, .int 0, .int 0, .int 0, x4, x5, .ref b1, x7])), (al, .inr (4, [.int mc, .ref (zk 0), .int 0]))] s.heap := hP
  have hD : va_D A [(xo, .inr (6, [.ref al, .int 0, .int 0, .int 0, x4, x5, .ref b1, x7])), (al, .inr (4, [.int mc, .ref (zk 0), .int 0]))] := hD
  refine lv_iload_n hx hb dX1_house_0 rfl (lv_at hl 1 rfl) ?_
  refine lv_tableIn (off := 67) (tgt := 68) hx hb dX1_house_1 (by decide) (by decide) (by decide) (by decide) ?_
  refine lv_aload_n hx hb dX1_house_68 rfl (lv_at hl 0 rfl) ?_
  have hPc := hP.sub (ws' := [(xo, .inr (6, [.ref al, .int 0, .int 0, .int 0, x4, x5, .ref b1, x7])), (al, .inr (4, [.int mc, .ref (zk 0), .int 0]))]) [0, 1] rfl
  have hDc := hD.sub (ws' := [(xo, .inr (6, [.ref al, .int 0, .int 0, .int 0, x4, x5, .ref b1, x7])), (al, .inr (4, [.int mc, .ref (zk 0), .int 0]))]) [0, 1] (by decide) rfl
  have hFc := va_free (wc := [(xo, .inr (6, [.ref al, .int 0, .int 0, .int 0, x4, x5, .ref b1, x7])), (al, .inr (4, [.int mc, .ref (zk 0), .int 0]))]) hD hS hA [0, 1] rfl
  have hDv := hDc.self (sz := s.heap.size)
  have hpre := zpre (xs' := []) (av := [.ref xo]) hPc hK (hDc.weaken (fun _ _ _ h => h)) hZ hS hFc (fun r hr => by cases hr)
  refine va_calli (va_runV (As := []) (rest := []) ⟨hx, hb, hml, hown, hts⟩ (k_gdep l dC dI cI cB cR cO zk xo al b1 x4 x5 x7 mc s.heap.size ) (cwV 0 hts gX1_house_X1_greatestDepth rfl rfl rfl (by decide +kernel) ⟨Nat.le_of_ble_eq_true rfl, Nat.le_of_ble_eq_true rfl⟩) ⟨zblind, (zrecv_6 hK hPc (q0 := 0) rfl), hpre⟩ rfl rfl hl.1 rfl (lv_room (Nat.le_of_ble_eq_true rfl)) dX1_house_69 ⟨Nat.le_of_ble_eq_true rfl, Nat.le_of_ble_eq_true rfl⟩) hS (fun q _ h => hFc q h) hFc (fun r2 u t H1 locs ht hvm hw hB hz1 hk1 hS => ?_)
  obtain rfl : 0 = r2 := (show r2 = 0 from hw).symm
  obtain ⟨hP1, hK1, hD1, hz2⟩ := hB
  rw [ht] at hP1 hz2
  have hPD9 := va_join (wr := []) (w1 := [(xo, .inr (6, [.ref al, .int 0, .int 0, .int 0, x4, x5, .ref b1, x7])), (al, .inr (4, [.int mc, .ref (zk 0), .int 0]))]) hP hD [0, 1] [] rfl rfl (by decide) (by decide) hk1 hFc hP1 hD1
  clear hPc hDc hFc hDv hpre hP hD hP1 hK1 hD1
  obtain ⟨hP, hD⟩ := hPD9
  replace hz : s.heap.size + 0 ≤ H1.size := by omega
  clear hz2
  replace hP : va_P (dC, dI) vwCl [(xo, .inr (6, [.ref al, .int 0, .int 0, .int 0, x4, x5, .ref b1, x7])), (al, .inr (4, [.int mc, .ref (zk 0), .int 0]))] H1 := hP
  replace hD : va_D A [(xo, .inr (6, [.ref al, .int 0, .int 0, .int 0, x4, x5, .ref b1, x7])), (al, .inr (4, [.int mc, .ref (zk 0), .int 0]))] := hD
  refine W.widen (k := 0) (n := 0) (by omega) (by omega) ?_
  have hP9 := hP.sub (ws' := [(xo, .inr (6, [.ref al, .int 0, .int 0, .int 0, x4, x5, .ref b1, x7])), (al, .inr (4, [.int mc, .ref (zk 0), .int 0]))]) [0, 1] rfl
  have hD9 := hD.sub (ws' := [(xo, .inr (6, [.ref al, .int 0, .int 0, .int 0, x4, x5, .ref b1, x7])), (al, .inr (4, [.int mc, .ref (zk 0), .int 0]))]) [0, 1] (by decide) rfl
  exact W.iret (v := 0) hx hb hr (fun t ht hW => ⟨⟨_, (), rfl, rfl, ⟨by rw [ht]; exact hP9, va_K.moved hW.alike hK, hD9, by rw [ht]; exact hz⟩⟩, hS.F ht⟩) hS.2.2 dX1_house_72

set_option maxHeartbeats 4000000 in
set_option maxRecDepth 100000 in
theorem k_houseX (l : Launch) (dC : Nat → ClassId) (dI : Nat → Nat → Nat) (cI cB cR cO : ClassId) (zk : Nat → Nat) (hfl : l.stackTraces = false) (xo al b1 : Nat) (x4 x5 x7 : Value) (mc : Int32) (p0 : Int32) (sz : Nat) (hp : p0.toInt < 0 ∨ 5 < p0.toInt) : vx_Met l yX1_house wsX1_house ({ frames := 6, cells := 1, slots := 6, locals := 90 }) (va_Pc [.ref xo, .int p0] (zPre (dC, dI) (zT cI cB cR cO) zk [] [(xo, .inr (6, [.ref al, .int 0, .int 0, .int 0, x4, x5, .ref b1, x7])), (al, .inr (4, [.int mc, .ref (zk 0), .int 0]))] sz)) (va_Qi (fun (_ : Int32) (_ : Unit) => False) (fun _ _ => True) (va_A [(xo, .inr (6, [.ref al, .int 0, .int 0, .int 0, x4, x5, .ref b1, x7])), (al, .inr (4, [.int mc, .ref (zk 0), .int 0]))] sz)) (vx_X (fun _ : Unit => True) (fun E9 _ t => E9 = "java/lang/IllegalArgumentException" ∧ zEnd (dC, dI) (zT cI cB cR cO) (va_A [(xo, .inr (6, [.ref al, .int 0, .int 0, .int 0, x4, x5, .ref b1, x7])), (al, .inr (4, [.int mc, .ref (zk 0), .int 0]))] sz) [(xo, .inr (6, [.ref al, .int 0, .int 0, .int 0, x4, x5, .ref b1, x7])), (al, .inr (4, [.int mc, .ref (zk 0), .int 0]))] sz 0 t) (va_A [(xo, .inr (6, [.ref al, .int 0, .int 0, .int 0, x4, x5, .ref b1, x7])), (al, .inr (4, [.int mc, .ref (zk 0), .int 0]))] sz)) 1 6 (va_A [(xo, .inr (6, [.ref al, .int 0, .int 0, .int 0, x4, x5, .ref b1, x7])), (al, .inr (4, [.int mc, .ref (zk 0), .int 0]))] sz) := by
  refine vx_ofW (cc := cX1_house) (maxL := 2) (ret := (some .int)) (by decide) rfl ?_
  intro p e s mY args below meth c s₁ B hml hntab hv
  obtain ⟨rfl, hsz, hP, hK, hD0, hZ⟩ := hv
  have hx := B.exec
  have hb := B.bytes
  have hr := B.returns
  have hts := atoms_spec (ws := wsX1_house) B.pre
  have hown : s.vm.findClass RX1 = some mY.cls := findClass_of_methodNamed B.named
  have hlocks := B.notSynchronized
  subst hsz
  have hD := hD0.self (sz := s.heap.size)
  generalize hAe : va_A [(xo, .inr (6, [.ref al, .int 0, .int 0, .int 0, x4, x5, .ref b1, x7])), (al, .inr (4, [.int mc, .ref (zk 0), .int 0]))] s.heap.size = A at hD hZ ⊢
  have hA : ∀ q : Nat, s.heap.size ≤ q → A q := fun q h => by rw [← hAe]; exact Or.inr h
  have hS : va_S A s.heap s.heap [] := va_S.rf
  have hz : s.heap.size + 0 ≤ s.heap.size := Nat.le_refl _
  have hl := lv_entry ([.ref xo, .int p0]) (n := 2) (Nat.le_of_ble_eq_true rfl)
  rw [lg_entry_eq]
  generalize (lg_sl ([.ref xo, .int p0]) ++ List.replicate (2 - (lg_sl ([.ref xo, .int p0])).length) Slot.unset).toArray = ls at hl ⊢
  have hl : lv_has ls 2 [(0, .ref xo), (1, .int p0)] := hl
  have hP : va_P (dC, dI) vwCl [(xo, .inr (6, [.ref al, .int 0, .int 0, .int 0, x4, x5, .ref b1, x7])), (al, .inr (4, [.int mc, .ref (zk 0), .int 0]))] s.heap := hP
  have hD : va_D A [(xo, .inr (6, [.ref al, .int 0, .int 0, .int 0, x4, x5, .ref b1, x7])), (al, .inr (4, [.int mc, .ref (zk 0), .int 0]))] := hD
  refine lv_iload_n hx hb dX1_house_0 rfl (lv_at hl 1 rfl) ?_
  refine lv_tableOut (tgt := 73) hx hb dX1_house_1 hp (by decide) ?_
  have hP9 := hP.sub (ws' := [(xo, .inr (6, [.ref al, .int 0, .int 0, .int 0, x4, x5, .ref b1, x7])), (al, .inr (4, [.int mc, .ref (zk 0), .int 0]))]) [0, 1] rfl
  have hD9 := hD.sub (ws' := [(xo, .inr (6, [.ref al, .int 0, .int 0, .int 0, x4, x5, .ref b1, x7])), (al, .inr (4, [.int mc, .ref (zk 0), .int 0]))]) [0, 1] (by decide) rfl
  exact vx_throwS (text := "nothing to tell of that") (names := ["java/lang/RuntimeException", "java/lang/Exception"]) hx hb hfl hown rfl (by decide) (hts (.classLink RX1 48 "java/lang/IllegalArgumentException") (List.mem_cons_of_mem _ zw_723)) (hts (.initialized "java/lang/IllegalArgumentException") (List.mem_cons_of_mem _ zw_49)) (zl4 hZ) (zat2 hts (fun w hw => List.mem_cons_of_mem _ hw) hZ) zgd2 hZ.1.2.1 hZ.1.2.2.2.2.1 hS (hl.1.trans hml.symm) dX1_house_73 dX1_house_76 dX1_house_77 dX1_house_79 dX1_house_82 (fun x hx9 => (hntab x hx9).elim) (Nat.le_of_ble_eq_true rfl) (Nat.le_of_ble_eq_true rfl) (Nat.le_of_ble_eq_true rfl) (Nat.le_of_ble_eq_true rfl) hlocks (fun t hal hs9 hq9 => ⟨(), trivial, ⟨rfl, hP9.kept (fun k9 x9 h9 => hq9 x9.1 (hP9 k9 x9 h9).lt), va_K.moved hal hK, hD9, Nat.le_trans hz hs9⟩, zF hS hs9 hq9⟩) hS.2.2 (Nat.le_of_ble_eq_true rfl) (Nat.le_of_ble_eq_true rfl)

set_option maxHeartbeats 4000000 in
set_option maxRecDepth 100000 in
theorem k_houseH (l : Launch) (dC : Nat → ClassId) (dI : Nat → Nat → Nat) (cI cB cR cO : ClassId) (zk : Nat → Nat) (hfl : l.stackTraces = false) (xo al b1 : Nat) (x4 x5 x7 : Value) (mc : Int32) (p0 : Int32) (ou : Nat) (sz : Nat) (hp : p0.toInt < 0 ∨ 5 < p0.toInt) : Met l yL_house wsL_house ({ frames := 7, cells := 1, slots := 6, locals := 111 }) (va_Pc [.ref xo, .int p0, .ref ou] (zPre (dC, dI) (zT cI cB cR cO) zk [] [(xo, .inr (6, [.ref al, .int 0, .int 0, .int 0, x4, x5, .ref b1, x7])), (al, .inr (4, [.int mc, .ref (zk 0), .int 0]))] sz)) (va_Qi (fun r (_ : Unit) => r = 1) (fun _ t => zEnd (dC, dI) (zT cI cB cR cO) (va_A [(xo, .inr (6, [.ref al, .int 0, .int 0, .int 0, x4, x5, .ref b1, x7])), (al, .inr (4, [.int mc, .ref (zk 0), .int 0]))] sz) [(xo, .inr (6, [.ref al, .int 0, .int 0, .int 0, x4, x5, .ref b1, x7])), (al, .inr (4, [.int mc, .ref (zk 0), .int 0]))] sz 0 t) (va_A [(xo, .inr (6, [.ref al, .int 0, .int 0, .int 0, x4, x5, .ref b1, x7])), (al, .inr (4, [.int mc, .ref (zk 0), .int 0]))] sz)) 1 6 (va_A [(xo, .inr (6, [.ref al, .int 0, .int 0, .int 0, x4, x5, .ref b1, x7])), (al, .inr (4, [.int mc, .ref (zk 0), .int 0]))] sz) := by
  refine zofWHt (cc := cL_house) (maxL := 4) (ret := (some .int)) (by decide) rfl ?_
  intro p e s mY args below meth c s₁ B hml htab hv
  obtain ⟨rfl, hsz, hP, hK, hD0, hZ⟩ := hv
  have hx := B.exec
  have hb := B.bytes
  have hr := B.returns
  have hts := atoms_spec (ws := wsL_house) B.pre
  have hown : s.vm.findClass RL = some mY.cls := findClass_of_methodNamed B.named
  have hlocks := B.notSynchronized
  subst hsz
  have hD := hD0.self (sz := s.heap.size)
  generalize hAe : va_A [(xo, .inr (6, [.ref al, .int 0, .int 0, .int 0, x4, x5, .ref b1, x7])), (al, .inr (4, [.int mc, .ref (zk 0), .int 0]))] s.heap.size = A at hD hZ ⊢
  have hA : ∀ q : Nat, s.heap.size ≤ q → A q := fun q h => by rw [← hAe]; exact Or.inr h
  have hS : va_S A s.heap s.heap [] := va_S.rf
  have hz : s.heap.size + 0 ≤ s.heap.size := Nat.le_refl _
  have hl := lv_entry ([.ref xo, .int p0, .ref ou]) (n := 4) (Nat.le_of_ble_eq_true rfl)
  rw [lg_entry_eq]
  generalize (lg_sl ([.ref xo, .int p0, .ref ou]) ++ List.replicate (4 - (lg_sl ([.ref xo, .int p0, .ref ou])).length) Slot.unset).toArray = ls at hl ⊢
  have hl : lv_has ls 4 [(0, .ref xo), (1, .int p0), (2, .ref ou)] := hl
  have hP : va_P (dC, dI) vwCl [(xo, .inr (6, [.ref al, .int 0, .int 0, .int 0, x4, x5, .ref b1, x7])), (al, .inr (4, [.int mc, .ref (zk 0), .int 0]))] s.heap := hP
  have hD : va_D A [(xo, .inr (6, [.ref al, .int 0, .int 0, .int 0, x4, x5, .ref b1, x7])), (al, .inr (4, [.int mc, .ref (zk 0), .int 0]))] := hD
  refine lv_aload_n hx hb dL_house_0 rfl (lv_at hl 2 rfl) ?_
  refine lv_aload_n hx hb dL_house_1 rfl (lv_at hl 0 rfl) ?_
  refine lv_iload_n hx hb dL_house_2 rfl (lv_at hl 1 rfl) ?_
  have hPc := hP.sub (ws' := [(xo, .inr (6, [.ref al, .int 0, .int 0, .int 0, x4, x5, .ref b1, x7])), (al, .inr (4, [.int mc, .ref (zk 0), .int 0]))]) [0, 1] rfl
  have hDc := hD.sub (ws' := [(xo, .inr (6, [.ref al, .int 0, .int 0, .int 0, x4, x5, .ref b1, x7])), (al, .inr (4, [.int mc, .ref (zk 0), .int 0]))]) [0, 1] (by decide) rfl
  have hFc := va_free (wc := [(xo, .inr (6, [.ref al, .int 0, .int 0, .int 0, x4, x5, .ref b1, x7])), (al, .inr (4, [.int mc, .ref (zk 0), .int 0]))]) hD hS hA [0, 1] rfl
  have hDv := hDc.self (sz := s.heap.size)
  have hpre := zpre (xs' := []) (av := [.ref xo, .int p0]) hPc hK (hDc.weaken (fun _ _ _ h => h)) hZ hS hFc (fun r hr => by cases hr)
  refine vx_calli (vx_runV (As := [.int p0]) (rest := [.ref ou]) ⟨hx, hb, hml, hown, hts⟩ (k_houseX l dC dI cI cB cR cO zk hfl xo al b1 x4 x5 x7 mc p0 s.heap.size hp) (cwV 1 hts gL_house_X1_house rfl rfl rfl (by decide +kernel) ⟨(Nat.le_of_ble_eq_true rfl), (Nat.le_of_ble_eq_true rfl)⟩) ⟨zblind, (zrecv_6 hK hPc (q0 := 0) rfl), hpre⟩ rfl rfl hl.1 rfl (lv_room (Nat.le_of_ble_eq_true rfl)) dL_house_3 ⟨(Nat.le_of_ble_eq_true rfl), (Nat.le_of_ble_eq_true rfl)⟩) hS (fun q _ h => hFc q h) hFc (fun q _ h => hFc q h) (fun E9 ce q9 u t H1 locs ht hvm hu hB hz1 hk1 hS hcell hcv hcl => ?_) (fun _ _ _ _ _ _ _ hw9 _ _ _ _ => hw9.elim)
  obtain ⟨hE9, hP1, hK1, hD1, hz2⟩ := hB
  subst hE9
  rw [ht] at hP1 hz2
  have hPD9 := va_join (wr := []) (w1 := [(xo, .inr (6, [.ref al, .int 0, .int 0, .int 0, x4, x5, .ref b1, x7])), (al, .inr (4, [.int mc, .ref (zk 0), .int 0]))]) hP hD [0, 1] [] rfl rfl (by decide) (by decide) hk1 hFc hP1 hD1
  clear hPc hDc hFc hDv hpre hP hD hP1 hK1 hD1
  obtain ⟨hP, hD⟩ := hPD9
  replace hz : s.heap.size + 0 ≤ H1.size := by omega
  clear hz2
  replace hP : va_P (dC, dI) vwCl [(xo, .inr (6, [.ref al, .int 0, .int 0, .int 0, x4, x5, .ref b1, x7])), (al, .inr (4, [.int mc, .ref (zk 0), .int 0]))] H1 := hP
  replace hD : va_D A [(xo, .inr (6, [.ref al, .int 0, .int 0, .int 0, x4, x5, .ref b1, x7])), (al, .inr (4, [.int mc, .ref (zk 0), .int 0]))] := hD
  refine vx_catch hown [] ⟨0, 10, 13, 19⟩ [] htab (fun z hz9 => absurd hz9 List.not_mem_nil) (by decide) (by decide) (hts (.classLink RL 19 "java/lang/IllegalArgumentException") (List.mem_cons_of_mem _ zw_780)) (zce1 hZ) hcell hcv hcl ?_
  refine W.eq (g2 := F0 mY 13 ls [.ref q9]) rfl ?_
  refine lv_astore_n (lv' := [(3, .ref q9), (0, .ref xo), (1, .int p0), (2, .ref ou)]) hx hb dL_house_13 rfl hl (by decide) rfl (fun ls hl => ?_)
  refine lv_iconst (v := 1) hx hb dL_house_14 (by decide) ?_
  have hP9 := hP.sub (ws' := [(xo, .inr (6, [.ref al, .int 0, .int 0, .int 0, x4, x5, .ref b1, x7])), (al, .inr (4, [.int mc, .ref (zk 0), .int 0]))]) [0, 1] rfl
  have hD9 := hD.sub (ws' := [(xo, .inr (6, [.ref al, .int 0, .int 0, .int 0, x4, x5, .ref b1, x7])), (al, .inr (4, [.int mc, .ref (zk 0), .int 0]))]) [0, 1] (by decide) rfl
  exact W.iret (v := 1) hx hb hr (fun t ht hW => ⟨⟨_, (), rfl, rfl, ⟨by rw [ht]; exact hP9, va_K.moved hW.alike hK, hD9, by rw [ht]; exact hz⟩⟩, hS.F ht⟩) hS.2.2 dL_house_15

theorem hi_L_house_X2 : ∀ w ∈ u_ws RX2 TX2 2, w ∈ wsL_house := fun w h => List.mem_cons_of_mem _ (zhi_X2 w h)
set_option maxHeartbeats 4000000 in
set_option maxRecDepth 100000 in
theorem k_house0H (l : Launch) (dC : Nat → ClassId) (dI : Nat → Nat → Nat) (cI cB cR cO : ClassId) (zk : Nat → Nat) (ou : Nat) (on so : Value) (xo al b1 : Nat) (x4 x5 x7 : Value) (mc : Int32) (sz : Nat)  : Met l yL_house wsL_house ({ frames := 2, cells := 0, slots := 0, locals := 41 }) (va_Pc [.ref xo, .int 0, .ref ou] (zPre (dC, dI) (zT cI cB cR cO) zk [] [(ou, .inr (7, [on, so])), (xo, .inr (6, [.ref al, .int 0, .int 0, .int 0, x4, x5, .ref b1, x7])), (al, .inr (4, [.int mc, .ref (zk 0), .int 0]))] sz)) (va_Qi (fun r (_ : Unit) => r = 0) (fun _ t => zEnd (dC, dI) (zT cI cB cR cO) (va_A [(ou, .inr (7, [on, so])), (xo, .inr (6, [.ref al, .int 0, .int 0, .int 0, x4, x5, .ref b1, x7])), (al, .inr (4, [.int mc, .ref (zk 0), .int 0]))] sz) [(ou, .inr (7, [.long 0, so])), (xo, .inr (6, [.ref al, .int 0, .int 0, .int 0, x4, x5, .ref b1, x7])), (al, .inr (4, [.int mc, .ref (zk 0), .int 0]))] sz 0 t) (va_A [(ou, .inr (7, [on, so])), (xo, .inr (6, [.ref al, .int 0, .int 0, .int 0, x4, x5, .ref b1, x7])), (al, .inr (4, [.int mc, .ref (zk 0), .int 0]))] sz)) 0 0 (va_A [(ou, .inr (7, [on, so])), (xo, .inr (6, [.ref al, .int 0, .int 0, .int 0, x4, x5, .ref b1, x7])), (al, .inr (4, [.int mc, .ref (zk 0), .int 0]))] sz) := by
  refine zofWH (cc := cL_house) (maxL := 4) (ret := (some .int)) (by decide) rfl ?_
  intro p e s mY args below meth c s₁ B hml hv
  obtain ⟨rfl, hsz, hP, hK, hD0, hZ⟩ := hv
  have hx := B.exec
  have hb := B.bytes
  have hr := B.returns
  have hts := atoms_spec (ws := wsL_house) B.pre
  have hown : s.vm.findClass RL = some mY.cls := findClass_of_methodNamed B.named
  have hlocks := B.notSynchronized
  subst hsz
  have hD := hD0.self (sz := s.heap.size)
  generalize hAe : va_A [(ou, .inr (7, [on, so])), (xo, .inr (6, [.ref al, .int 0, .int 0, .int 0, x4, x5, .ref b1, x7])), (al, .inr (4, [.int mc, .ref (zk 0), .int 0]))] s.heap.size = A at hD hZ ⊢
  have hA : ∀ q : Nat, s.heap.size ≤ q → A q := fun q h => by rw [← hAe]; exact Or.inr h
  have hS : va_S A s.heap s.heap [] := va_S.rf
  have hz : s.heap.size + 0 ≤ s.heap.size := Nat.le_refl _
  have hl := lv_entry ([.ref xo, .int 0, .ref ou]) (n := 4) (Nat.le_of_ble_eq_true rfl)
  rw [lg_entry_eq]
  generalize (lg_sl ([.ref xo, .int 0, .ref ou]) ++ List.replicate (4 - (lg_sl ([.ref xo, .int 0, .ref ou])).length) Slot.unset).toArray = ls at hl ⊢
  have hl : lv_has ls 4 [(0, .ref xo), (1, .int 0), (2, .ref ou)] := hl
  have hP : va_P (dC, dI) vwCl [(ou, .inr (7, [on, so])), (xo, .inr (6, [.ref al, .int 0, .int 0, .int 0, x4, x5, .ref b1, x7])), (al, .inr (4, [.int mc, .ref (zk 0), .int 0]))] s.heap := hP
  have hD : va_D A [(ou, .inr (7, [on, so])), (xo, .inr (6, [.ref al, .int 0, .int 0, .int 0, x4, x5, .ref b1, x7])), (al, .inr (4, [.int mc, .ref (zk 0), .int 0]))] := hD
  refine lv_aload_n hx hb dL_house_0 rfl (lv_at hl 2 rfl) ?_
  refine lv_aload_n hx hb dL_house_1 rfl (lv_at hl 0 rfl) ?_
  refine lv_iload_n hx hb dL_house_2 rfl (lv_at hl 1 rfl) ?_
  have hPc := hP.sub (ws' := [(xo, .inr (6, [.ref al, .int 0, .int 0, .int 0, x4, x5, .ref b1, x7])), (al, .inr (4, [.int mc, .ref (zk 0), .int 0]))]) [1, 2] rfl
  have hDc := hD.sub (ws' := [(xo, .inr (6, [.ref al, .int 0, .int 0, .int 0, x4, x5, .ref b1, x7])), (al, .inr (4, [.int mc, .ref (zk 0), .int 0]))]) [1, 2] (by decide) rfl
  have hFc := va_free (wc := [(xo, .inr (6, [.ref al, .int 0, .int 0, .int 0, x4, x5, .ref b1, x7])), (al, .inr (4, [.int mc, .ref (zk 0), .int 0]))]) hD hS hA [1, 2] rfl
  have hDv := hDc.self (sz := s.heap.size)
  have hpre := zpre (xs' := []) (av := [.ref xo, .int 0]) hPc hK (hDc.weaken (fun _ _ _ h => h)) hZ hS hFc (fun r hr => by cases hr)
  refine va_calli (va_runV (As := [.int 0]) (rest := [.ref ou]) ⟨hx, hb, hml, hown, hts⟩ (k_house0X l dC dI cI cB cR cO zk xo al b1 x4 x5 x7 mc s.heap.size ) (cwV 1 hts gL_house_X1_house rfl rfl rfl (by decide +kernel) ⟨Nat.le_of_ble_eq_true rfl, Nat.le_of_ble_eq_true rfl⟩) ⟨zblind, (zrecv_6 hK hPc (q0 := 0) rfl), hpre⟩ rfl rfl hl.1 rfl (lv_room (Nat.le_of_ble_eq_true rfl)) dL_house_3 ⟨Nat.le_of_ble_eq_true rfl, Nat.le_of_ble_eq_true rfl⟩) hS (fun q _ h => hFc q h) hFc (fun r2 u t H1 locs ht hvm hw hB hz1 hk1 hS => ?_)
  obtain rfl : 0 = r2 := (show r2 = 0 from hw).symm
  obtain ⟨hP1, hK1, hD1, hz2⟩ := hB
  rw [ht] at hP1 hz2
  have hPD9 := va_join (wr := [(ou, .inr (7, [on, so]))]) (w1 := [(xo, .inr (6, [.ref al, .int 0, .int 0, .int 0, x4, x5, .ref b1, x7])), (al, .inr (4, [.int mc, .ref (zk 0), .int 0]))]) hP hD [1, 2] [0] rfl rfl (by decide) (by decide) hk1 hFc hP1 hD1
  clear hPc hDc hFc hDv hpre hP hD hP1 hK1 hD1
  obtain ⟨hP, hD⟩ := hPD9
  replace hz : s.heap.size + 0 ≤ H1.size := by omega
  clear hz2
  replace hP : va_P (dC, dI) vwCl [(ou, .inr (7, [on, so])), (xo, .inr (6, [.ref al, .int 0, .int 0, .int 0, x4, x5, .ref b1, x7])), (al, .inr (4, [.int mc, .ref (zk 0), .int 0]))] H1 := hP
  replace hD : va_D A [(ou, .inr (7, [on, so])), (xo, .inr (6, [.ref al, .int 0, .int 0, .int 0, x4, x5, .ref b1, x7])), (al, .inr (4, [.int mc, .ref (zk 0), .int 0]))] := hD
  refine W.widen (k := 0) (n := 0) (by omega) (by omega) ?_
  refine lv_i2l (v := 0) hx hb dL_house_6 (by decide) ?_
  refine va_putN (D := (dC, dI)) (ci := 7) (v := .long 0) (ty := .long) (C := RX2) (T := TX2) (N := 2) hx hb hts hi_L_house_X2 tyX2 tyX2_ok nmX2 hown hK hP hD (zS0 hS) 0 rfl rfl 0 (by decide) (zn6 hZ) (fun _ h9 => h9) rfl (by decide +kernel) rfl rfl (Nat.le_of_ble_eq_true rfl) dL_house_7 (fun H3 locs hP hD hS1 => ?_)
  have hz : s.heap.size + 0 ≤ H3.size := Nat.le_trans hz hS1.1
  have hS := zSS hS hS1
  replace hP : va_P (dC, dI) vwCl [(ou, .inr (7, [.long 0, so])), (xo, .inr (6, [.ref al, .int 0, .int 0, .int 0, x4, x5, .ref b1, x7])), (al, .inr (4, [.int mc, .ref (zk 0), .int 0]))] H3 := hP
  replace hD : va_D A [(ou, .inr (7, [.long 0, so])), (xo, .inr (6, [.ref al, .int 0, .int 0, .int 0, x4, x5, .ref b1, x7])), (al, .inr (4, [.int mc, .ref (zk 0), .int 0]))] := hD
  refine lv_goto (tgt := 16) hx hb dL_house_10 (by decide) ?_
  refine lv_iconst (v := 0) hx hb dL_house_16 (by decide) ?_
  have hP9 := hP.sub (ws' := [(ou, .inr (7, [.long 0, so])), (xo, .inr (6, [.ref al, .int 0, .int 0, .int 0, x4, x5, .ref b1, x7])), (al, .inr (4, [.int mc, .ref (zk 0), .int 0]))]) [0, 1, 2] rfl
  have hD9 := hD.sub (ws' := [(ou, .inr (7, [.long 0, so])), (xo, .inr (6, [.ref al, .int 0, .int 0, .int 0, x4, x5, .ref b1, x7])), (al, .inr (4, [.int mc, .ref (zk 0), .int 0]))]) [0, 1, 2] (by decide) rfl
  exact W.iret (v := 0) hx hb hr (fun t ht hW => ⟨⟨_, (), rfl, rfl, ⟨by rw [ht]; exact hP9, va_K.moved hW.alike hK, hD9, by rw [ht]; exact hz⟩⟩, hS.F ht⟩) hS.2.2 dL_house_17

set_option maxHeartbeats 4000000 in
set_option maxRecDepth 100000 in
theorem k_house1H (l : Launch) (dC : Nat → ClassId) (dI : Nat → Nat → Nat) (cI cB cR cO : ClassId) (zk : Nat → Nat) (ou : Nat) (on so : Value) (xo al b1 : Nat) (x4 x5 x7 : Value) (mc : Int32) (sz : Nat)  : Met l yL_house wsL_house ({ frames := 1, cells := 0, slots := 0, locals := 21 }) (va_Pc [.ref xo, .int 1, .ref ou] (zPre (dC, dI) (zT cI cB cR cO) zk [] [(ou, .inr (7, [on, so])), (xo, .inr (6, [.ref al, .int 0, .int 0, .int 0, x4, x5, .ref b1, x7])), (al, .inr (4, [.int mc, .ref (zk 0), .int 0]))] sz)) (va_Qi (fun r (_ : Unit) => r = 0) (fun _ t => zEnd (dC, dI) (zT cI cB cR cO) (va_A [(ou, .inr (7, [on, so])), (xo, .inr (6, [.ref al, .int 0, .int 0, .int 0, x4, x5, .ref b1, x7])), (al, .inr (4, [.int mc, .ref (zk 0), .int 0]))] sz) [(ou, .inr (7, [.long 0, so])), (xo, .inr (6, [.ref al, .int 0, .int 0, .int 0, x4, x5, .ref b1, x7])), (al, .inr (4, [.int mc, .ref (zk 0), .int 0]))] sz 0 t) (va_A [(ou, .inr (7, [on, so])), (xo, .inr (6, [.ref al, .int 0, .int 0, .int 0, x4, x5, .ref b1, x7])), (al, .inr (4, [.int mc, .ref (zk 0), .int 0]))] sz)) 0 0 (va_A [(ou, .inr (7, [on, so])), (xo, .inr (6, [.ref al, .int 0, .int 0, .int 0, x4, x5, .ref b1, x7])), (al, .inr (4, [.int mc, .ref (zk 0), .int 0]))] sz) := by
  refine zofWH (cc := cL_house) (maxL := 4) (ret := (some .int)) (by decide) rfl ?_
  intro p e s mY args below meth c s₁ B hml hv
  obtain ⟨rfl, hsz, hP, hK, hD0, hZ⟩ := hv
  have hx := B.exec
  have hb := B.bytes
  have hr := B.returns
  have hts := atoms_spec (ws := wsL_house) B.pre
  have hown : s.vm.findClass RL = some mY.cls := findClass_of_methodNamed B.named
  have hlocks := B.notSynchronized
  subst hsz
  have hD := hD0.self (sz := s.heap.size)
  generalize hAe : va_A [(ou, .inr (7, [on, so])), (xo, .inr (6, [.ref al, .int 0, .int 0, .int 0, x4, x5, .ref b1, x7])), (al, .inr (4, [.int mc, .ref (zk 0), .int 0]))] s.heap.size = A at hD hZ ⊢
  have hA : ∀ q : Nat, s.heap.size ≤ q → A q := fun q h => by rw [← hAe]; exact Or.inr h
  have hS : va_S A s.heap s.heap [] := va_S.rf
  have hz : s.heap.size + 0 ≤ s.heap.size := Nat.le_refl _
  have hl := lv_entry ([.ref xo, .int 1, .ref ou]) (n := 4) (Nat.le_of_ble_eq_true rfl)
  rw [lg_entry_eq]
  generalize (lg_sl ([.ref xo, .int 1, .ref ou]) ++ List.replicate (4 - (lg_sl ([.ref xo, .int 1, .ref ou])).length) Slot.unset).toArray = ls at hl ⊢
  have hl : lv_has ls 4 [(0, .ref xo), (1, .int 1), (2, .ref ou)] := hl
  have hP : va_P (dC, dI) vwCl [(ou, .inr (7, [on, so])), (xo, .inr (6, [.ref al, .int 0, .int 0, .int 0, x4, x5, .ref b1, x7])), (al, .inr (4, [.int mc, .ref (zk 0), .int 0]))] s.heap := hP
  have hD : va_D A [(ou, .inr (7, [on, so])), (xo, .inr (6, [.ref al, .int 0, .int 0, .int 0, x4, x5, .ref b1, x7])), (al, .inr (4, [.int mc, .ref (zk 0), .int 0]))] := hD
  refine lv_aload_n hx hb dL_house_0 rfl (lv_at hl 2 rfl) ?_
  refine lv_aload_n hx hb dL_house_1 rfl (lv_at hl 0 rfl) ?_
  refine lv_iload_n hx hb dL_house_2 rfl (lv_at hl 1 rfl) ?_
  have hPc := hP.sub (ws' := [(xo, .inr (6, [.ref al, .int 0, .int 0, .int 0, x4, x5, .ref b1, x7])), (al, .inr (4, [.int mc, .ref (zk 0), .int 0]))]) [1, 2] rfl
  have hDc := hD.sub (ws' := [(xo, .inr (6, [.ref al, .int 0, .int 0, .int 0, x4, x5, .ref b1, x7])), (al, .inr (4, [.int mc, .ref (zk 0), .int 0]))]) [1, 2] (by decide) rfl
  have hFc := va_free (wc := [(xo, .inr (6, [.ref al, .int 0, .int 0, .int 0, x4, x5, .ref b1, x7])), (al, .inr (4, [.int mc, .ref (zk 0), .int 0]))]) hD hS hA [1, 2] rfl
  have hDv := hDc.self (sz := s.heap.size)
  have hpre := zpre (xs' := []) (av := [.ref xo, .int 1]) hPc hK (hDc.weaken (fun _ _ _ h => h)) hZ hS hFc (fun r hr => by cases hr)
  refine va_calli (va_runV (As := [.int 1]) (rest := [.ref ou]) ⟨hx, hb, hml, hown, hts⟩ (k_house1X l dC dI cI cB cR cO zk xo al b1 x4 x5 x7 mc s.heap.size ) (cwV 1 hts gL_house_X1_house rfl rfl rfl (by decide +kernel) ⟨Nat.le_of_ble_eq_true rfl, Nat.le_of_ble_eq_true rfl⟩) ⟨zblind, (zrecv_6 hK hPc (q0 := 0) rfl), hpre⟩ rfl rfl hl.1 rfl (lv_room (Nat.le_of_ble_eq_true rfl)) dL_house_3 ⟨Nat.le_of_ble_eq_true rfl, Nat.le_of_ble_eq_true rfl⟩) hS (fun q _ h => hFc q h) hFc (fun r2 u t H1 locs ht hvm hw hB hz1 hk1 hS => ?_)
  obtain rfl : 0 = r2 := (show r2 = 0 from hw).symm
  obtain ⟨hP1, hK1, hD1, hz2⟩ := hB
  rw [ht] at hP1 hz2
  have hPD9 := va_join (wr := [(ou, .inr (7, [on, so]))]) (w1 := [(xo, .inr (6, [.ref al, .int 0, .int 0, .int 0, x4, x5, .ref b1, x7])), (al, .inr (4, [.int mc, .ref (zk 0), .int 0]))]) hP hD [1, 2] [0] rfl rfl (by decide) (by decide) hk1 hFc hP1 hD1
  clear hPc hDc hFc hDv hpre hP hD hP1 hK1 hD1
  obtain ⟨hP, hD⟩ := hPD9
  replace hz : s.heap.size + 0 ≤ H1.size := by omega
  clear hz2
  replace hP : va_P (dC, dI) vwCl [(ou, .inr (7, [on, so])), (xo, .inr (6, [.ref al, .int 0, .int 0, .int 0, x4, x5, .ref b1, x7])), (al, .inr (4, [.int mc, .ref (zk 0), .int 0]))] H1 := hP
  replace hD : va_D A [(ou, .inr (7, [on, so])), (xo, .inr (6, [.ref al, .int 0, .int 0, .int 0, x4, x5, .ref b1, x7])), (al, .inr (4, [.int mc, .ref (zk 0), .int 0]))] := hD
  refine W.widen (k := 0) (n := 0) (by omega) (by omega) ?_
  refine lv_i2l (v := 0) hx hb dL_house_6 (by decide) ?_
  refine va_putN (D := (dC, dI)) (ci := 7) (v := .long 0) (ty := .long) (C := RX2) (T := TX2) (N := 2) hx hb hts hi_L_house_X2 tyX2 tyX2_ok nmX2 hown hK hP hD (zS0 hS) 0 rfl rfl 0 (by decide) (zn6 hZ) (fun _ h9 => h9) rfl (by decide +kernel) rfl rfl (Nat.le_of_ble_eq_true rfl) dL_house_7 (fun H3 locs hP hD hS1 => ?_)
  have hz : s.heap.size + 0 ≤ H3.size := Nat.le_trans hz hS1.1
  have hS := zSS hS hS1
  replace hP : va_P (dC, dI) vwCl [(ou, .inr (7, [.long 0, so])), (xo, .inr (6, [.ref al, .int 0, .int 0, .int 0, x4, x5, .ref b1, x7])), (al, .inr (4, [.int mc, .ref (zk 0), .int 0]))] H3 := hP
  replace hD : va_D A [(ou, .inr (7, [.long 0, so])), (xo, .inr (6, [.ref al, .int 0, .int 0, .int 0, x4, x5, .ref b1, x7])), (al, .inr (4, [.int mc, .ref (zk 0), .int 0]))] := hD
  refine lv_goto (tgt := 16) hx hb dL_house_10 (by decide) ?_
  refine lv_iconst (v := 0) hx hb dL_house_16 (by decide) ?_
  have hP9 := hP.sub (ws' := [(ou, .inr (7, [.long 0, so])), (xo, .inr (6, [.ref al, .int 0, .int 0, .int 0, x4, x5, .ref b1, x7])), (al, .inr (4, [.int mc, .ref (zk 0), .int 0]))]) [0, 1, 2] rfl
  have hD9 := hD.sub (ws' := [(ou, .inr (7, [.long 0, so])), (xo, .inr (6, [.ref al, .int 0, .int 0, .int 0, x4, x5, .ref b1, x7])), (al, .inr (4, [.int mc, .ref (zk 0), .int 0]))]) [0, 1, 2] (by decide) rfl
  exact W.iret (v := 0) hx hb hr (fun t ht hW => ⟨⟨_, (), rfl, rfl, ⟨by rw [ht]; exact hP9, va_K.moved hW.alike hK, hD9, by rw [ht]; exact hz⟩⟩, hS.F ht⟩) hS.2.2 dL_house_17

set_option maxHeartbeats 4000000 in
set_option maxRecDepth 100000 in
theorem k_house2H (l : Launch) (dC : Nat → ClassId) (dI : Nat → Nat → Nat) (cI cB cR cO : ClassId) (zk : Nat → Nat) (ou : Nat) (on so : Value) (xo al b1 : Nat) (x4 x5 x7 : Value) (mc : Int32) (sz : Nat)  : Met l yL_house wsL_house ({ frames := 1, cells := 0, slots := 0, locals := 21 }) (va_Pc [.ref xo, .int 2, .ref ou] (zPre (dC, dI) (zT cI cB cR cO) zk [] [(ou, .inr (7, [on, so])), (xo, .inr (6, [.ref al, .int 0, .int 0, .int 0, x4, x5, .ref b1, x7])), (al, .inr (4, [.int mc, .ref (zk 0), .int 0]))] sz)) (va_Qi (fun r (_ : Unit) => r = 0) (fun _ t => zEnd (dC, dI) (zT cI cB cR cO) (va_A [(ou, .inr (7, [on, so])), (xo, .inr (6, [.ref al, .int 0, .int 0, .int 0, x4, x5, .ref b1, x7])), (al, .inr (4, [.int mc, .ref (zk 0), .int 0]))] sz) [(ou, .inr (7, [.long 0, so])), (xo, .inr (6, [.ref al, .int 0, .int 0, .int 0, x4, x5, .ref b1, x7])), (al, .inr (4, [.int mc, .ref (zk 0), .int 0]))] sz 0 t) (va_A [(ou, .inr (7, [on, so])), (xo, .inr (6, [.ref al, .int 0, .int 0, .int 0, x4, x5, .ref b1, x7])), (al, .inr (4, [.int mc, .ref (zk 0), .int 0]))] sz)) 0 0 (va_A [(ou, .inr (7, [on, so])), (xo, .inr (6, [.ref al, .int 0, .int 0, .int 0, x4, x5, .ref b1, x7])), (al, .inr (4, [.int mc, .ref (zk 0), .int 0]))] sz) := by
  refine zofWH (cc := cL_house) (maxL := 4) (ret := (some .int)) (by decide) rfl ?_
  intro p e s mY args below meth c s₁ B hml hv
  obtain ⟨rfl, hsz, hP, hK, hD0, hZ⟩ := hv
  have hx := B.exec
  have hb := B.bytes
  have hr := B.returns
  have hts := atoms_spec (ws := wsL_house) B.pre
  have hown : s.vm.findClass RL = some mY.cls := findClass_of_methodNamed B.named
  have hlocks := B.notSynchronized
  subst hsz
  have hD := hD0.self (sz := s.heap.size)
  generalize hAe : va_A [(ou, .inr (7, [on, so])), (xo, .inr (6, [.ref al, .int 0, .int 0, .int 0, x4, x5, .ref b1, x7])), (al, .inr (4, [.int mc, .ref (zk 0), .int 0]))] s.heap.size = A at hD hZ ⊢
  have hA : ∀ q : Nat, s.heap.size ≤ q → A q := fun q h => by rw [← hAe]; exact Or.inr h
  have hS : va_S A s.heap s.heap [] := va_S.rf
  have hz : s.heap.size + 0 ≤ s.heap.size := Nat.le_refl _
  have hl := lv_entry ([.ref xo, .int 2, .ref ou]) (n := 4) (Nat.le_of_ble_eq_true rfl)
  rw [lg_entry_eq]
  generalize (lg_sl ([.ref xo, .int 2, .ref ou]) ++ List.replicate (4 - (lg_sl ([.ref xo, .int 2, .ref ou])).length) Slot.unset).toArray = ls at hl ⊢
  have hl : lv_has ls 4 [(0, .ref xo), (1, .int 2), (2, .ref ou)] := hl
  have hP : va_P (dC, dI) vwCl [(ou, .inr (7, [on, so])), (xo, .inr (6, [.ref al, .int 0, .int 0, .int 0, x4, x5, .ref b1, x7])), (al, .inr (4, [.int mc, .ref (zk 0), .int 0]))] s.heap := hP
  have hD : va_D A [(ou, .inr (7, [on, so])), (xo, .inr (6, [.ref al, .int 0, .int 0, .int 0, x4, x5, .ref b1, x7])), (al, .inr (4, [.int mc, .ref (zk 0), .int 0]))] := hD
  refine lv_aload_n hx hb dL_house_0 rfl (lv_at hl 2 rfl) ?_
  refine lv_aload_n hx hb dL_house_1 rfl (lv_at hl 0 rfl) ?_
  refine lv_iload_n hx hb dL_house_2 rfl (lv_at hl 1 rfl) ?_
  have hPc := hP.sub (ws' := [(xo, .inr (6, [.ref al, .int 0, .int 0, .int 0, x4, x5, .ref b1, x7])), (al, .inr (4, [.int mc, .ref (zk 0), .int 0]))]) [1, 2] rfl
  have hDc := hD.sub (ws' := [(xo, .inr (6, [.ref al, .int 0, .int 0, .int 0, x4, x5, .ref b1, x7])), (al, .inr (4, [.int mc, .ref (zk 0), .int 0]))]) [1, 2] (by decide) rfl
  have hFc := va_free (wc := [(xo, .inr (6, [.ref al, .int 0, .int 0, .int 0, x4, x5, .ref b1, x7])), (al, .inr (4, [.int mc, .ref (zk 0), .int 0]))]) hD hS hA [1, 2] rfl
  have hDv := hDc.self (sz := s.heap.size)
  have hpre := zpre (xs' := []) (av := [.ref xo, .int 2]) hPc hK (hDc.weaken (fun _ _ _ h => h)) hZ hS hFc (fun r hr => by cases hr)
  refine va_calli (va_runV (As := [.int 2]) (rest := [.ref ou]) ⟨hx, hb, hml, hown, hts⟩ (k_house2X l dC dI cI cB cR cO zk xo al b1 x4 x5 x7 mc s.heap.size ) (cwV 1 hts gL_house_X1_house rfl rfl rfl (by decide +kernel) ⟨Nat.le_of_ble_eq_true rfl, Nat.le_of_ble_eq_true rfl⟩) ⟨zblind, (zrecv_6 hK hPc (q0 := 0) rfl), hpre⟩ rfl rfl hl.1 rfl (lv_room (Nat.le_of_ble_eq_true rfl)) dL_house_3 ⟨Nat.le_of_ble_eq_true rfl, Nat.le_of_ble_eq_true rfl⟩) hS (fun q _ h => hFc q h) hFc (fun r2 u t H1 locs ht hvm hw hB hz1 hk1 hS => ?_)
  obtain rfl : 0 = r2 := (show r2 = 0 from hw).symm
  obtain ⟨hP1, hK1, hD1, hz2⟩ := hB
  rw [ht] at hP1 hz2
  have hPD9 := va_join (wr := [(ou, .inr (7, [on, so]))]) (w1 := [(xo, .inr (6, [.ref al, .int 0, .int 0, .int 0, x4, x5, .ref b1, x7])), (al, .inr (4, [.int mc, .ref (zk 0), .int 0]))]) hP hD [1, 2] [0] rfl rfl (by decide) (by decide) hk1 hFc hP1 hD1
  clear hPc hDc hFc hDv hpre hP hD hP1 hK1 hD1
  obtain ⟨hP, hD⟩ := hPD9
  replace hz : s.heap.size + 0 ≤ H1.size := by omega
  clear hz2
  replace hP : va_P (dC, dI) vwCl [(ou, .inr (7, [on, so])), (xo, .inr (6, [.ref al, .int 0, .int 0, .int 0, x4, x5, .ref b1, x7])), (al, .inr (4, [.int mc, .ref (zk 0), .int 0]))] H1 := hP
  replace hD : va_D A [(ou, .inr (7, [on, so])), (xo, .inr (6, [.ref al, .int 0, .int 0, .int 0, x4, x5, .ref b1, x7])), (al, .inr (4, [.int mc, .ref (zk 0), .int 0]))] := hD
  refine W.widen (k := 0) (n := 0) (by omega) (by omega) ?_
  refine lv_i2l (v := 0) hx hb dL_house_6 (by decide) ?_
  refine va_putN (D := (dC, dI)) (ci := 7) (v := .long 0) (ty := .long) (C := RX2) (T := TX2) (N := 2) hx hb hts hi_L_house_X2 tyX2 tyX2_ok nmX2 hown hK hP hD (zS0 hS) 0 rfl rfl 0 (by decide) (zn6 hZ) (fun _ h9 => h9) rfl (by decide +kernel) rfl rfl (Nat.le_of_ble_eq_true rfl) dL_house_7 (fun H3 locs hP hD hS1 => ?_)
  have hz : s.heap.size + 0 ≤ H3.size := Nat.le_trans hz hS1.1
  have hS := zSS hS hS1
  replace hP : va_P (dC, dI) vwCl [(ou, .inr (7, [.long 0, so])), (xo, .inr (6, [.ref al, .int 0, .int 0, .int 0, x4, x5, .ref b1, x7])), (al, .inr (4, [.int mc, .ref (zk 0), .int 0]))] H3 := hP
  replace hD : va_D A [(ou, .inr (7, [.long 0, so])), (xo, .inr (6, [.ref al, .int 0, .int 0, .int 0, x4, x5, .ref b1, x7])), (al, .inr (4, [.int mc, .ref (zk 0), .int 0]))] := hD
  refine lv_goto (tgt := 16) hx hb dL_house_10 (by decide) ?_
  refine lv_iconst (v := 0) hx hb dL_house_16 (by decide) ?_
  have hP9 := hP.sub (ws' := [(ou, .inr (7, [.long 0, so])), (xo, .inr (6, [.ref al, .int 0, .int 0, .int 0, x4, x5, .ref b1, x7])), (al, .inr (4, [.int mc, .ref (zk 0), .int 0]))]) [0, 1, 2] rfl
  have hD9 := hD.sub (ws' := [(ou, .inr (7, [.long 0, so])), (xo, .inr (6, [.ref al, .int 0, .int 0, .int 0, x4, x5, .ref b1, x7])), (al, .inr (4, [.int mc, .ref (zk 0), .int 0]))]) [0, 1, 2] (by decide) rfl
  exact W.iret (v := 0) hx hb hr (fun t ht hW => ⟨⟨_, (), rfl, rfl, ⟨by rw [ht]; exact hP9, va_K.moved hW.alike hK, hD9, by rw [ht]; exact hz⟩⟩, hS.F ht⟩) hS.2.2 dL_house_17

set_option maxHeartbeats 4000000 in
set_option maxRecDepth 100000 in
theorem k_house3H (l : Launch) (dC : Nat → ClassId) (dI : Nat → Nat → Nat) (cI cB cR cO : ClassId) (zk : Nat → Nat) (ou : Nat) (on so : Value) (xo al b1 : Nat) (x4 x5 x7 : Value) (mc : Int32) (sz : Nat)  : Met l yL_house wsL_house ({ frames := 1, cells := 0, slots := 0, locals := 21 }) (va_Pc [.ref xo, .int 3, .ref ou] (zPre (dC, dI) (zT cI cB cR cO) zk [] [(ou, .inr (7, [on, so])), (xo, .inr (6, [.ref al, .int 0, .int 0, .int 0, x4, x5, .ref b1, x7])), (al, .inr (4, [.int mc, .ref (zk 0), .int 0]))] sz)) (va_Qi (fun r (_ : Unit) => r = 0) (fun _ t => zEnd (dC, dI) (zT cI cB cR cO) (va_A [(ou, .inr (7, [on, so])), (xo, .inr (6, [.ref al, .int 0, .int 0, .int 0, x4, x5, .ref b1, x7])), (al, .inr (4, [.int mc, .ref (zk 0), .int 0]))] sz) [(ou, .inr (7, [.long 0, so])), (xo, .inr (6, [.ref al, .int 0, .int 0, .int 0, x4, x5, .ref b1, x7])), (al, .inr (4, [.int mc, .ref (zk 0), .int 0]))] sz 0 t) (va_A [(ou, .inr (7, [on, so])), (xo, .inr (6, [.ref al, .int 0, .int 0, .int 0, x4, x5, .ref b1, x7])), (al, .inr (4, [.int mc, .ref (zk 0), .int 0]))] sz)) 0 0 (va_A [(ou, .inr (7, [on, so])), (xo, .inr (6, [.ref al, .int 0, .int 0, .int 0, x4, x5, .ref b1, x7])), (al, .inr (4, [.int mc, .ref (zk 0), .int 0]))] sz) := by
  refine zofWH (cc := cL_house) (maxL := 4) (ret := (some .int)) (by decide) rfl ?_
  intro p e s mY args below meth c s₁ B hml hv
  obtain ⟨rfl, hsz, hP, hK, hD0, hZ⟩ := hv
  have hx := B.exec
  have hb := B.bytes
  have hr := B.returns
  have hts := atoms_spec (ws := wsL_house) B.pre
  have hown : s.vm.findClass RL = some mY.cls := findClass_of_methodNamed B.named
  have hlocks := B.notSynchronized
  subst hsz
  have hD := hD0.self (sz := s.heap.size)
  generalize hAe : va_A [(ou, .inr (7, [on, so])), (xo, .inr (6, [.ref al, .int 0, .int 0, .int 0, x4, x5, .ref b1, x7])), (al, .inr (4, [.int mc, .ref (zk 0), .int 0]))] s.heap.size = A at hD hZ ⊢
  have hA : ∀ q : Nat, s.heap.size ≤ q → A q := fun q h => by rw [← hAe]; exact Or.inr h
  have hS : va_S A s.heap s.heap [] := va_S.rf
  have hz : s.heap.size + 0 ≤ s.heap.size := Nat.le_refl _
  have hl := lv_entry ([.ref xo, .int 3, .ref ou]) (n := 4) (Nat.le_of_ble_eq_true rfl)
  rw [lg_entry_eq]
  generalize (lg_sl ([.ref xo, .int 3, .ref ou]) ++ List.replicate (4 - (lg_sl ([.ref xo, .int 3, .ref ou])).length) Slot.unset).toArray = ls at hl ⊢
  have hl : lv_has ls 4 [(0, .ref xo), (1, .int 3), (2, .ref ou)] := hl
  have hP : va_P (dC, dI) vwCl [(ou, .inr (7, [on, so])), (xo, .inr (6, [.ref al, .int 0, .int 0, .int 0, x4, x5, .ref b1, x7])), (al, .inr (4, [.int mc, .ref (zk 0), .int 0]))] s.heap := hP
  have hD : va_D A [(ou, .inr (7, [on, so])), (xo, .inr (6, [.ref al, .int 0, .int 0, .int 0, x4, x5, .ref b1, x7])), (al, .inr (4, [.int mc, .ref (zk 0), .int 0]))] := hD
  refine lv_aload_n hx hb dL_house_0 rfl (lv_at hl 2 rfl) ?_
  refine lv_aload_n hx hb dL_house_1 rfl (lv_at hl 0 rfl) ?_
  refine lv_iload_n hx hb dL_house_2 rfl (lv_at hl 1 rfl) ?_
  have hPc := hP.sub (ws' := [(xo, .inr (6, [.ref al, .int 0, .int 0, .int 0, x4, x5, .ref b1, x7])), (al, .inr (4, [.int mc, .ref (zk 0), .int 0]))]) [1, 2] rfl
  have hDc := hD.sub (ws' := [(xo, .inr (6, [.ref al, .int 0, .int 0, .int 0, x4, x5, .ref b1, x7])), (al, .inr (4, [.int mc, .ref (zk 0), .int 0]))]) [1, 2] (by decide) rfl
  have hFc := va_free (wc := [(xo, .inr (6, [.ref al, .int 0, .int 0, .int 0, x4, x5, .ref b1, x7])), (al, .inr (4, [.int mc, .ref (zk 0), .int 0]))]) hD hS hA [1, 2] rfl
  have hDv := hDc.self (sz := s.heap.size)
  have hpre := zpre (xs' := []) (av := [.ref xo, .int 3]) hPc hK (hDc.weaken (fun _ _ _ h => h)) hZ hS hFc (fun r hr => by cases hr)
  refine va_calli (va_runV (As := [.int 3]) (rest := [.ref ou]) ⟨hx, hb, hml, hown, hts⟩ (k_house3X l dC dI cI cB cR cO zk xo al b1 x4 x5 x7 mc s.heap.size ) (cwV 1 hts gL_house_X1_house rfl rfl rfl (by decide +kernel) ⟨Nat.le_of_ble_eq_true rfl, Nat.le_of_ble_eq_true rfl⟩) ⟨zblind, (zrecv_6 hK hPc (q0 := 0) rfl), hpre⟩ rfl rfl hl.1 rfl (lv_room (Nat.le_of_ble_eq_true rfl)) dL_house_3 ⟨Nat.le_of_ble_eq_true rfl, Nat.le_of_ble_eq_true rfl⟩) hS (fun q _ h => hFc q h) hFc (fun r2 u t H1 locs ht hvm hw hB hz1 hk1 hS => ?_)
  obtain rfl : 0 = r2 := (show r2 = 0 from hw).symm
  obtain ⟨hP1, hK1, hD1, hz2⟩ := hB
  rw [ht] at hP1 hz2
  have hPD9 := va_join (wr := [(ou, .inr (7, [on, so]))]) (w1 := [(xo, .inr (6, [.ref al, .int 0, .int 0, .int 0, x4, x5, .ref b1, x7])), (al, .inr (4, [.int mc, .ref (zk 0), .int 0]))]) hP hD [1, 2] [0] rfl rfl (by decide) (by decide) hk1 hFc hP1 hD1
  clear hPc hDc hFc hDv hpre hP hD hP1 hK1 hD1
  obtain ⟨hP, hD⟩ := hPD9
  replace hz : s.heap.size + 0 ≤ H1.size := by omega
  clear hz2
  replace hP : va_P (dC, dI) vwCl [(ou, .inr (7, [on, so])), (xo, .inr (6, [.ref al, .int 0, .int 0, .int 0, x4, x5, .ref b1, x7])), (al, .inr (4, [.int mc, .ref (zk 0), .int 0]))] H1 := hP
  replace hD : va_D A [(ou, .inr (7, [on, so])), (xo, .inr (6, [.ref al, .int 0, .int 0, .int 0, x4, x5, .ref b1, x7])), (al, .inr (4, [.int mc, .ref (zk 0), .int 0]))] := hD
  refine W.widen (k := 0) (n := 0) (by omega) (by omega) ?_
  refine lv_i2l (v := 0) hx hb dL_house_6 (by decide) ?_
  refine va_putN (D := (dC, dI)) (ci := 7) (v := .long 0) (ty := .long) (C := RX2) (T := TX2) (N := 2) hx hb hts hi_L_house_X2 tyX2 tyX2_ok nmX2 hown hK hP hD (zS0 hS) 0 rfl rfl 0 (by decide) (zn6 hZ) (fun _ h9 => h9) rfl (by decide +kernel) rfl rfl (Nat.le_of_ble_eq_true rfl) dL_house_7 (fun H3 locs hP hD hS1 => ?_)
  have hz : s.heap.size + 0 ≤ H3.size := Nat.le_trans hz hS1.1
  have hS := zSS hS hS1
  replace hP : va_P (dC, dI) vwCl [(ou, .inr (7, [.long 0, so])), (xo, .inr (6, [.ref al, .int 0, .int 0, .int 0, x4, x5, .ref b1, x7])), (al, .inr (4, [.int mc, .ref (zk 0), .int 0]))] H3 := hP
  replace hD : va_D A [(ou, .inr (7, [.long 0, so])), (xo, .inr (6, [.ref al, .int 0, .int 0, .int 0, x4, x5, .ref b1, x7])), (al, .inr (4, [.int mc, .ref (zk 0), .int 0]))] := hD
  refine lv_goto (tgt := 16) hx hb dL_house_10 (by decide) ?_
  refine lv_iconst (v := 0) hx hb dL_house_16 (by decide) ?_
  have hP9 := hP.sub (ws' := [(ou, .inr (7, [.long 0, so])), (xo, .inr (6, [.ref al, .int 0, .int 0, .int 0, x4, x5, .ref b1, x7])), (al, .inr (4, [.int mc, .ref (zk 0), .int 0]))]) [0, 1, 2] rfl
  have hD9 := hD.sub (ws' := [(ou, .inr (7, [.long 0, so])), (xo, .inr (6, [.ref al, .int 0, .int 0, .int 0, x4, x5, .ref b1, x7])), (al, .inr (4, [.int mc, .ref (zk 0), .int 0]))]) [0, 1, 2] (by decide) rfl
  exact W.iret (v := 0) hx hb hr (fun t ht hW => ⟨⟨_, (), rfl, rfl, ⟨by rw [ht]; exact hP9, va_K.moved hW.alike hK, hD9, by rw [ht]; exact hz⟩⟩, hS.F ht⟩) hS.2.2 dL_house_17

set_option maxHeartbeats 4000000 in
set_option maxRecDepth 100000 in
theorem k_house4H (l : Launch) (dC : Nat → ClassId) (dI : Nat → Nat → Nat) (cI cB cR cO : ClassId) (zk : Nat → Nat) (ou : Nat) (on so : Value) (xo al b1 : Nat) (x4 x5 x7 : Value) (mc : Int32) (sz : Nat)  : Met l yL_house wsL_house ({ frames := 3, cells := 0, slots := 0, locals := 64 }) (va_Pc [.ref xo, .int 4, .ref ou] (zPre (dC, dI) (zT cI cB cR cO) zk [] [(ou, .inr (7, [on, so])), (xo, .inr (6, [.ref al, .int 0, .int 0, .int 0, x4, x5, .ref b1, x7])), (al, .inr (4, [.int mc, .ref (zk 0), .int 0]))] sz)) (va_Qi (fun r (_ : Unit) => r = 0) (fun _ t => zEnd (dC, dI) (zT cI cB cR cO) (va_A [(ou, .inr (7, [on, so])), (xo, .inr (6, [.ref al, .int 0, .int 0, .int 0, x4, x5, .ref b1, x7])), (al, .inr (4, [.int mc, .ref (zk 0), .int 0]))] sz) [(ou, .inr (7, [.long 0, so])), (xo, .inr (6, [.ref al, .int 0, .int 0, .int 0, x4, x5, .ref b1, x7])), (al, .inr (4, [.int mc, .ref (zk 0), .int 0]))] sz 0 t) (va_A [(ou, .inr (7, [on, so])), (xo, .inr (6, [.ref al, .int 0, .int 0, .int 0, x4, x5, .ref b1, x7])), (al, .inr (4, [.int mc, .ref (zk 0), .int 0]))] sz)) 0 0 (va_A [(ou, .inr (7, [on, so])), (xo, .inr (6, [.ref al, .int 0, .int 0, .int 0, x4, x5, .ref b1, x7])), (al, .inr (4, [.int mc, .ref (zk 0), .int 0]))] sz) := by
  refine zofWH (cc := cL_house) (maxL := 4) (ret := (some .int)) (by decide) rfl ?_
  intro p e s mY args below meth c s₁ B hml hv
  obtain ⟨rfl, hsz, hP, hK, hD0, hZ⟩ := hv
  have hx := B.exec
  have hb := B.bytes
  have hr := B.returns
  have hts := atoms_spec (ws := wsL_house) B.pre
  have hown : s.vm.findClass RL = some mY.cls := findClass_of_methodNamed B.named
  have hlocks := B.notSynchronized
  subst hsz
  have hD := hD0.self (sz := s.heap.size)
  generalize hAe : va_A [(ou, .inr (7, [on, so])), (xo, .inr (6, [.ref al, .int 0, .int 0, .int 0, x4, x5, .ref b1, x7])), (al, .inr (4, [.int mc, .ref (zk 0), .int 0]))] s.heap.size = A at hD hZ ⊢
  have hA : ∀ q : Nat, s.heap.size ≤ q → A q := fun q h => by rw [← hAe]; exact Or.inr h
  have hS : va_S A s.heap s.heap [] := va_S.rf
  have hz : s.heap.size + 0 ≤ s.heap.size := Nat.le_refl _
  have hl := lv_entry ([.ref xo, .int 4, .ref ou]) (n := 4) (Nat.le_of_ble_eq_true rfl)
  rw [lg_entry_eq]
  generalize (lg_sl ([.ref xo, .int 4, .ref ou]) ++ List.replicate (4 - (lg_sl ([.ref xo, .int 4, .ref ou])).length) Slot.unset).toArray = ls at hl ⊢
  have hl : lv_has ls 4 [(0, .ref xo), (1, .int 4), (2, .ref ou)] := hl
  have hP : va_P (dC, dI) vwCl [(ou, .inr (7, [on, so])), (xo, .inr (6, [.ref al, .int 0, .int 0, .int 0, x4, x5, .ref b1, x7])), (al, .inr (4, [.int mc, .ref (zk 0), .int 0]))] s.heap := hP
  have hD : va_D A [(ou, .inr (7, [on, so])), (xo, .inr (6, [.ref al, .int 0, .int 0, .int 0, x4, x5, .ref b1, x7])), (al, .inr (4, [.int mc, .ref (zk 0), .int 0]))] := hD
  refine lv_aload_n hx hb dL_house_0 rfl (lv_at hl 2 rfl) ?_
  refine lv_aload_n hx hb dL_house_1 rfl (lv_at hl 0 rfl) ?_
  refine lv_iload_n hx hb dL_house_2 rfl (lv_at hl 1 rfl) ?_
  have hPc := hP.sub (ws' := [(xo, .inr (6, [.ref al, .int 0, .int 0, .int 0, x4, x5, .ref b1, x7])), (al, .inr (4, [.int mc, .ref (zk 0), .int 0]))]) [1, 2] rfl
  have hDc := hD.sub (ws' := [(xo, .inr (6, [.ref al, .int 0, .int 0, .int 0, x4, x5, .ref b1, x7])), (al, .inr (4, [.int mc, .ref (zk 0), .int 0]))]) [1, 2] (by decide) rfl
  have hFc := va_free (wc := [(xo, .inr (6, [.ref al, .int 0, .int 0, .int 0, x4, x5, .ref b1, x7])), (al, .inr (4, [.int mc, .ref (zk 0), .int 0]))]) hD hS hA [1, 2] rfl
  have hDv := hDc.self (sz := s.heap.size)
  have hpre := zpre (xs' := []) (av := [.ref xo, .int 4]) hPc hK (hDc.weaken (fun _ _ _ h => h)) hZ hS hFc (fun r hr => by cases hr)
  refine va_calli (va_runV (As := [.int 4]) (rest := [.ref ou]) ⟨hx, hb, hml, hown, hts⟩ (k_house4X l dC dI cI cB cR cO zk xo al b1 x4 x5 x7 mc s.heap.size ) (cwV 1 hts gL_house_X1_house rfl rfl rfl (by decide +kernel) ⟨Nat.le_of_ble_eq_true rfl, Nat.le_of_ble_eq_true rfl⟩) ⟨zblind, (zrecv_6 hK hPc (q0 := 0) rfl), hpre⟩ rfl rfl hl.1 rfl (lv_room (Nat.le_of_ble_eq_true rfl)) dL_house_3 ⟨Nat.le_of_ble_eq_true rfl, Nat.le_of_ble_eq_true rfl⟩) hS (fun q _ h => hFc q h) hFc (fun r2 u t H1 locs ht hvm hw hB hz1 hk1 hS => ?_)
  obtain rfl : 0 = r2 := (show r2 = 0 from hw).symm
  obtain ⟨hP1, hK1, hD1, hz2⟩ := hB
  rw [ht] at hP1 hz2
  have hPD9 := va_join (wr := [(ou, .inr (7, [on, so]))]) (w1 := [(xo, .inr (6, [.ref al, .int 0, .int 0, .int 0, x4, x5, .ref b1, x7])), (al, .inr (4, [.int mc, .ref (zk 0), .int 0]))]) hP hD [1, 2] [0] rfl rfl (by decide) (by decide) hk1 hFc hP1 hD1
  clear hPc hDc hFc hDv hpre hP hD hP1 hK1 hD1
  obtain ⟨hP, hD⟩ := hPD9
  replace hz : s.heap.size + 0 ≤ H1.size := by omega
  clear hz2
  replace hP : va_P (dC, dI) vwCl [(ou, .inr (7, [on, so])), (xo, .inr (6, [.ref al, .int 0, .int 0, .int 0, x4, x5, .ref b1, x7])), (al, .inr (4, [.int mc, .ref (zk 0), .int 0]))] H1 := hP
  replace hD : va_D A [(ou, .inr (7, [on, so])), (xo, .inr (6, [.ref al, .int 0, .int 0, .int 0, x4, x5, .ref b1, x7])), (al, .inr (4, [.int mc, .ref (zk 0), .int 0]))] := hD
  refine W.widen (k := 0) (n := 0) (by omega) (by omega) ?_
  refine lv_i2l (v := 0) hx hb dL_house_6 (by decide) ?_
  refine va_putN (D := (dC, dI)) (ci := 7) (v := .long 0) (ty := .long) (C := RX2) (T := TX2) (N := 2) hx hb hts hi_L_house_X2 tyX2 tyX2_ok nmX2 hown hK hP hD (zS0 hS) 0 rfl rfl 0 (by decide) (zn6 hZ) (fun _ h9 => h9) rfl (by decide +kernel) rfl rfl (Nat.le_of_ble_eq_true rfl) dL_house_7 (fun H3 locs hP hD hS1 => ?_)
  have hz : s.heap.size + 0 ≤ H3.size := Nat.le_trans hz hS1.1
  have hS := zSS hS hS1
  replace hP : va_P (dC, dI) vwCl [(ou, .inr (7, [.long 0, so])), (xo, .inr (6, [.ref al, .int 0, .int 0, .int 0, x4, x5, .ref b1, x7])), (al, .inr (4, [.int mc, .ref (zk 0), .int 0]))] H3 := hP
  replace hD : va_D A [(ou, .inr (7, [.long 0, so])), (xo, .inr (6, [.ref al, .int 0, .int 0, .int 0, x4, x5, .ref b1, x7])), (al, .inr (4, [.int mc, .ref (zk 0), .int 0]))] := hD
  refine lv_goto (tgt := 16) hx hb dL_house_10 (by decide) ?_
  refine lv_iconst (v := 0) hx hb dL_house_16 (by decide) ?_
  have hP9 := hP.sub (ws' := [(ou, .inr (7, [.long 0, so])), (xo, .inr (6, [.ref al, .int 0, .int 0, .int 0, x4, x5, .ref b1, x7])), (al, .inr (4, [.int mc, .ref (zk 0), .int 0]))]) [0, 1, 2] rfl
  have hD9 := hD.sub (ws' := [(ou, .inr (7, [.long 0, so])), (xo, .inr (6, [.ref al, .int 0, .int 0, .int 0, x4, x5, .ref b1, x7])), (al, .inr (4, [.int mc, .ref (zk 0), .int 0]))]) [0, 1, 2] (by decide) rfl
  exact W.iret (v := 0) hx hb hr (fun t ht hW => ⟨⟨_, (), rfl, rfl, ⟨by rw [ht]; exact hP9, va_K.moved hW.alike hK, hD9, by rw [ht]; exact hz⟩⟩, hS.F ht⟩) hS.2.2 dL_house_17

set_option maxHeartbeats 4000000 in
set_option maxRecDepth 100000 in
theorem k_house5H (l : Launch) (dC : Nat → ClassId) (dI : Nat → Nat → Nat) (cI cB cR cO : ClassId) (zk : Nat → Nat) (ou : Nat) (on so : Value) (xo al b1 : Nat) (x4 x5 x7 : Value) (mc : Int32) (sz : Nat)  : Met l yL_house wsL_house ({ frames := 3, cells := 0, slots := 0, locals := 63 }) (va_Pc [.ref xo, .int 5, .ref ou] (zPre (dC, dI) (zT cI cB cR cO) zk [] [(ou, .inr (7, [on, so])), (xo, .inr (6, [.ref al, .int 0, .int 0, .int 0, x4, x5, .ref b1, x7])), (al, .inr (4, [.int mc, .ref (zk 0), .int 0]))] sz)) (va_Qi (fun r (_ : Unit) => r = 0) (fun _ t => zEnd (dC, dI) (zT cI cB cR cO) (va_A [(ou, .inr (7, [on, so])), (xo, .inr (6, [.ref al, .int 0, .int 0, .int 0, x4, x5, .ref b1, x7])), (al, .inr (4, [.int mc, .ref (zk 0), .int 0]))] sz) [(ou, .inr (7, [.long 0, so])), (xo, .inr (6, [.ref al, .int 0, .int 0, .int 0, x4, x5, .ref b1, x7])), (al, .inr (4, [.int mc, .ref (zk 0), .int 0]))] sz 0 t) (va_A [(ou, .inr (7, [on, so])), (xo, .inr (6, [.ref al, .int 0, .int 0, .int 0, x4, x5, .ref b1, x7])), (al, .inr (4, [.int mc, .ref (zk 0), .int 0]))] sz)) 0 0 (va_A [(ou, .inr (7, [on, so])), (xo, .inr (6, [.ref al, .int 0, .int 0, .int 0, x4, x5, .ref b1, x7])), (al, .inr (4, [.int mc, .ref (zk 0), .int 0]))] sz) := by
  refine zofWH (cc := cL_house) (maxL := 4) (ret := (some .int)) (by decide) rfl ?_
  intro p e s mY args below meth c s₁ B hml hv
  obtain ⟨rfl, hsz, hP, hK, hD0, hZ⟩ := hv
  have hx := B.exec
  have hb := B.bytes
  have hr := B.returns
  have hts := atoms_spec (ws := wsL_house) B.pre
  have hown : s.vm.findClass RL = some mY.cls := findClass_of_methodNamed B.named
  have hlocks := B.notSynchronized
  subst hsz
  have hD := hD0.self (sz := s.heap.size)
  generalize hAe : va_A [(ou, .inr (7, [on, so])), (xo, .inr (6, [.ref al, .int 0, .int 0, .int 0, x4, x5, .ref b1, x7])), (al, .inr (4, [.int mc, .ref (zk 0), .int 0]))] s.heap.size = A at hD hZ ⊢
  have hA : ∀ q : Nat, s.heap.size ≤ q → A q := fun q h => by rw [← hAe]; exact Or.inr h
  have hS : va_S A s.heap s.heap [] := va_S.rf
  have hz : s.heap.size + 0 ≤ s.heap.size := Nat.le_refl _
  have hl := lv_entry ([.ref xo, .int 5, .ref ou]) (n := 4) (Nat.le_of_ble_eq_true rfl)
  rw [lg_entry_eq]
  generalize (lg_sl ([.ref xo, .int 5, .ref ou]) ++ List.replicate (4 - (lg_sl ([.ref xo, .int 5, .ref ou])).length) Slot.unset).toArray = ls at hl ⊢
  have hl : lv_has ls 4 [(0, .ref xo), (1, .int 5), (2, .ref ou)] := hl
  have hP : va_P (dC, dI) vwCl [(ou, .inr (7, [on, so])), (xo, .inr (6, [.ref al, .int 0, .int 0, .int 0, x4, x5, .ref b1, x7])), (al, .inr (4, [.int mc, .ref (zk 0), .int 0]))] s.heap := hP
  have hD : va_D A [(ou, .inr (7, [on, so])), (xo, .inr (6, [.ref al, .int 0, .int 0, .int 0, x4, x5, .ref b1, x7])), (al, .inr (4, [.int mc, .ref (zk 0), .int 0]))] := hD
  refine lv_aload_n hx hb dL_house_0 rfl (lv_at hl 2 rfl) ?_
  refine lv_aload_n hx hb dL_house_1 rfl (lv_at hl 0 rfl) ?_
  refine lv_iload_n hx hb dL_house_2 rfl (lv_at hl 1 rfl) ?_
  have hPc := hP.sub (ws' := [(xo, .inr (6, [.ref al, .int 0, .int 0, .int 0, x4, x5, .ref b1, x7])), (al, .inr (4, [.int mc, .ref (zk 0), .int 0]))]) [1, 2] rfl
  have hDc := hD.sub (ws' := [(xo, .inr (6, [.ref al, .int 0, .int 0, .int 0, x4, x5, .ref b1, x7])), (al, .inr (4, [.int mc, .ref (zk 0), .int 0]))]) [1, 2] (by decide) rfl
  have hFc := va_free (wc := [(xo, .inr (6, [.ref al, .int 0, .int 0, .int 0, x4, x5, .ref b1, x7])), (al, .inr (4, [.int mc, .ref (zk 0), .int 0]))]) hD hS hA [1, 2] rfl
  have hDv := hDc.self (sz := s.heap.size)
  have hpre := zpre (xs' := []) (av := [.ref xo, .int 5]) hPc hK (hDc.weaken (fun _ _ _ h => h)) hZ hS hFc (fun r hr => by cases hr)
  refine va_calli (va_runV (As := [.int 5]) (rest := [.ref ou]) ⟨hx, hb, hml, hown, hts⟩ (k_house5X l dC dI cI cB cR cO zk xo al b1 x4 x5 x7 mc s.heap.size ) (cwV 1 hts gL_house_X1_house rfl rfl rfl (by decide +kernel) ⟨Nat.le_of_ble_eq_true rfl, Nat.le_of_ble_eq_true rfl⟩) ⟨zblind, (zrecv_6 hK hPc (q0 := 0) rfl), hpre⟩ rfl rfl hl.1 rfl (lv_room (Nat.le_of_ble_eq_true rfl)) dL_house_3 ⟨Nat.le_of_ble_eq_true rfl, Nat.le_of_ble_eq_true rfl⟩) hS (fun q _ h => hFc q h) hFc (fun r2 u t H1 locs ht hvm hw hB hz1 hk1 hS => ?_)
  obtain rfl : 0 = r2 := (show r2 = 0 from hw).symm
  obtain ⟨hP1, hK1, hD1, hz2⟩ := hB
  rw [ht] at hP1 hz2
  have hPD9 := va_join (wr := [(ou, .inr (7, [on, so]))]) (w1 := [(xo, .inr (6, [.ref al, .int 0, .int 0, .int 0, x4, x5, .ref b1, x7])), (al, .inr (4, [.int mc, .ref (zk 0), .int 0]))]) hP hD [1, 2] [0] rfl rfl (by decide) (by decide) hk1 hFc hP1 hD1
  clear hPc hDc hFc hDv hpre hP hD hP1 hK1 hD1
  obtain ⟨hP, hD⟩ := hPD9
  replace hz : s.heap.size + 0 ≤ H1.size := by omega
  clear hz2
  replace hP : va_P (dC, dI) vwCl [(ou, .inr (7, [on, so])), (xo, .inr (6, [.ref al, .int 0, .int 0, .int 0, x4, x5, .ref b1, x7])), (al, .inr (4, [.int mc, .ref (zk 0), .int 0]))] H1 := hP
  replace hD : va_D A [(ou, .inr (7, [on, so])), (xo, .inr (6, [.ref al, .int 0, .int 0, .int 0, x4, x5, .ref b1, x7])), (al, .inr (4, [.int mc, .ref (zk 0), .int 0]))] := hD
  refine W.widen (k := 0) (n := 0) (by omega) (by omega) ?_
  refine lv_i2l (v := 0) hx hb dL_house_6 (by decide) ?_
  refine va_putN (D := (dC, dI)) (ci := 7) (v := .long 0) (ty := .long) (C := RX2) (T := TX2) (N := 2) hx hb hts hi_L_house_X2 tyX2 tyX2_ok nmX2 hown hK hP hD (zS0 hS) 0 rfl rfl 0 (by decide) (zn6 hZ) (fun _ h9 => h9) rfl (by decide +kernel) rfl rfl (Nat.le_of_ble_eq_true rfl) dL_house_7 (fun H3 locs hP hD hS1 => ?_)
  have hz : s.heap.size + 0 ≤ H3.size := Nat.le_trans hz hS1.1
  have hS := zSS hS hS1
  replace hP : va_P (dC, dI) vwCl [(ou, .inr (7, [.long 0, so])), (xo, .inr (6, [.ref al, .int 0, .int 0, .int 0, x4, x5, .ref b1, x7])), (al, .inr (4, [.int mc, .ref (zk 0), .int 0]))] H3 := hP
  replace hD : va_D A [(ou, .inr (7, [.long 0, so])), (xo, .inr (6, [.ref al, .int 0, .int 0, .int 0, x4, x5, .ref b1, x7])), (al, .inr (4, [.int mc, .ref (zk 0), .int 0]))] := hD
  refine lv_goto (tgt := 16) hx hb dL_house_10 (by decide) ?_
  refine lv_iconst (v := 0) hx hb dL_house_16 (by decide) ?_
  have hP9 := hP.sub (ws' := [(ou, .inr (7, [.long 0, so])), (xo, .inr (6, [.ref al, .int 0, .int 0, .int 0, x4, x5, .ref b1, x7])), (al, .inr (4, [.int mc, .ref (zk 0), .int 0]))]) [0, 1, 2] rfl
  have hD9 := hD.sub (ws' := [(ou, .inr (7, [.long 0, so])), (xo, .inr (6, [.ref al, .int 0, .int 0, .int 0, x4, x5, .ref b1, x7])), (al, .inr (4, [.int mc, .ref (zk 0), .int 0]))]) [0, 1, 2] (by decide) rfl
  exact W.iret (v := 0) hx hb hr (fun t ht hW => ⟨⟨_, (), rfl, rfl, ⟨by rw [ht]; exact hP9, va_K.moved hW.alike hK, hD9, by rw [ht]; exact hz⟩⟩, hS.F ht⟩) hS.2.2 dL_house_17

theorem hi_X4_houseTold_X4 : ∀ w ∈ u_ws RX4 TX4 5, w ∈ wsX4_houseTold := fun w h => List.mem_cons_of_mem _ (zhi_X4 w h)
set_option maxHeartbeats 4000000 in
set_option maxRecDepth 100000 in
theorem k_hTold0 (l : Launch) (dC : Nat → ClassId) (dI : Nat → Nat → Nat) (cI cB cR cO : ClassId) (zk : Nat → Nat) (mo am : Nat) (th : Value) (mm : Int32) (sz : Nat)  : Met l yX4_houseTold wsX4_houseTold ({ frames := 1, cells := 1, slots := 6, locals := 20 }) (va_Pc [.ref mo, .int 0] (zPre (dC, dI) (zT cI cB cR cO) zk [] [(mo, .inr (9, [th, .ref am, .int 0, .int 0, .int 0])), (am, .inr (4, [.int mm, .ref (zk 0), .int 0]))] sz)) (va_Qi (fun r (_ : Unit) => r = 0) (fun _ t => zEnd (dC, dI) (zT cI cB cR cO) (va_A [(mo, .inr (9, [th, .ref am, .int 0, .int 0, .int 0])), (am, .inr (4, [.int mm, .ref (zk 0), .int 0]))] sz) [(mo, .inr (9, [th, .ref am, .int 0, .int 0, .int 0])), (am, .inr (4, [.int mm, .ref (zk 0), .int 0]))] sz 1 t) (va_A [(mo, .inr (9, [th, .ref am, .int 0, .int 0, .int 0])), (am, .inr (4, [.int mm, .ref (zk 0), .int 0]))] sz)) 1 6 (va_A [(mo, .inr (9, [th, .ref am, .int 0, .int 0, .int 0])), (am, .inr (4, [.int mm, .ref (zk 0), .int 0]))] sz) := by
  refine Met.ofW (cc := cX4_houseTold) (maxL := 6) (ret := (some .int)) (by decide) rfl ?_
  intro p e s mY args below meth c s₁ B hml hv
  obtain ⟨rfl, hsz, hP, hK, hD0, hZ⟩ := hv
  have hx := B.exec
  have hb := B.bytes
  have hr := B.returns
  have hts := atoms_spec (ws := wsX4_houseTold) B.pre
  have hown : s.vm.findClass RX4 = some mY.cls := findClass_of_methodNamed B.named
  have hlocks := B.notSynchronized
  subst hsz
  have hD := hD0.self (sz := s.heap.size)
  generalize hAe : va_A [(mo, .inr (9, [th, .ref am, .int 0, .int 0, .int 0])), (am, .inr (4, [.int mm, .ref (zk 0), .int 0]))] s.heap.size = A at hD hZ ⊢
  have hA : ∀ q : Nat, s.heap.size ≤ q → A q := fun q h => by rw [← hAe]; exact Or.inr h
  have hS : va_S A s.heap s.heap [] := va_S.rf
  have hz : s.heap.size + 0 ≤ s.heap.size := Nat.le_refl _
  have hl := lv_entry ([.ref mo, .int 0]) (n := 6) (Nat.le_of_ble_eq_true rfl)
  rw [lg_entry_eq]
  generalize (lg_sl ([.ref mo, .int 0]) ++ List.replicate (6 - (lg_sl ([.ref mo, .int 0])).length) Slot.unset).toArray = ls at hl ⊢
  have hl : lv_has ls 6 [(0, .ref mo), (1, .int 0)] := hl
  have hP : va_P (dC, dI) vwCl [(mo, .inr (9, [th, .ref am, .int 0, .int 0, .int 0])), (am, .inr (4, [.int mm, .ref (zk 0), .int 0]))] s.heap := hP
  have hD : va_D A [(mo, .inr (9, [th, .ref am, .int 0, .int 0, .int 0])), (am, .inr (4, [.int mm, .ref (zk 0), .int 0]))] := hD
  refine lv_iconst (v := 0) hx hb dX4_houseTold_0 (by decide) ?_
  refine lv_istore_n (lv' := [(2, .int 0), (0, .ref mo), (1, .int 0)]) hx hb dX4_houseTold_1 rfl hl (by decide) rfl (fun ls hl => ?_)
  refine lv_iconst (v := 0) hx hb dX4_houseTold_2 (by decide) ?_
  refine lv_istore_n (lv' := [(3, .int 0), (2, .int 0), (0, .ref mo), (1, .int 0)]) hx hb dX4_houseTold_3 rfl hl (by decide) rfl (fun ls hl => ?_)
  refine lv_iconst (v := 0) hx hb dX4_houseTold_4 (by decide) ?_
  refine lv_istore (lv' := [(4, .int 0), (3, .int 0), (2, .int 0), (0, .ref mo), (1, .int 0)]) hx hb dX4_houseTold_5 hl (by decide) rfl (fun ls hl => ?_)
  refine lv_iload hx hb dX4_houseTold_7 (lv_at hl 0 rfl) ?_
  refine lv_aload_n hx hb dX4_houseTold_9 rfl (lv_at hl 3 rfl) ?_
  refine va_get (D := (dC, dI)) (ci := 9) (v := .ref am) (C := RX4) (T := TX4) (N := 5) hx hb hts hi_X4_houseTold_X4 hown hK hP 0 rfl rfl 1 (by decide) (hts (.fieldLink RX4 10 "DeeprowsModel" "rows" "Ljava/util/ArrayList;") (List.mem_cons_of_mem _ zw_1128)) (fun _ h9 => h9) rfl dX4_houseTold_10 ?_
  have hPc := hP.sub (ws' := [(am, .inr (4, [.int mm, .ref (zk 0), .int 0]))]) [1] rfl
  have hDc := hD.sub (ws' := [(am, .inr (4, [.int mm, .ref (zk 0), .int 0]))]) [1] (by decide) rfl
  have hFc := va_free (wc := [(am, .inr (4, [.int mm, .ref (zk 0), .int 0]))]) hD hS hA [1] rfl
  have hDv := hDc.self (sz := s.heap.size)
  have hpre := zpre (xs' := []) (av := [.ref am]) hPc hK (hDc.weaken (fun _ _ _ h => h)) hZ hS hFc (fun r hr => by cases hr)
  refine va_calli (va_runV (As := []) (rest := [.int 0]) ⟨hx, hb, hml, hown, hts⟩ (k_size l dC dI cI cB cR cO zk am (zk 0) 0 (.int mm) s.heap.size ) (cwV 0 hts gX4_houseTold_Jx4a65c_size_8abf5 rfl rfl rfl (by decide +kernel) ⟨Nat.le_of_ble_eq_true rfl, Nat.le_of_ble_eq_true rfl⟩) ⟨zblind, (zrecv_4 hK hPc (q0 := 0) rfl), hpre⟩ rfl rfl hl.1 rfl (lv_room (Nat.le_of_ble_eq_true rfl)) dX4_houseTold_13 ⟨Nat.le_of_ble_eq_true rfl, Nat.le_of_ble_eq_true rfl⟩) hS (fun q _ h => hFc q h) hFc (fun r2 u t H1 locs ht hvm hw hB hz1 hk1 hS => ?_)
  obtain rfl : 0 = r2 := (show r2 = 0 from hw).symm
  obtain ⟨hP1, hK1, hD1, hz2⟩ := hB
  rw [ht] at hP1 hz2
  have hPD9 := va_join (wr := [(mo, .inr (9, [th, .ref am, .int 0, .int 0, .int 0]))]) (w1 := [(am, .inr (4, [.int mm, .ref (zk 0), .int 0]))]) hP hD [1] [0] rfl rfl (by decide) (by decide) hk1 hFc hP1 hD1
  clear hPc hDc hFc hDv hpre hP hD hP1 hK1 hD1
  obtain ⟨hP, hD⟩ := hPD9
  replace hz : s.heap.size + 0 ≤ H1.size := by omega
  clear hz2
  replace hP : va_P (dC, dI) vwCl [(mo, .inr (9, [th, .ref am, .int 0, .int 0, .int 0])), (am, .inr (4, [.int mm, .ref (zk 0), .int 0]))] H1 := hP
  replace hD : va_D A [(mo, .inr (9, [th, .ref am, .int 0, .int 0, .int 0])), (am, .inr (4, [.int mm, .ref (zk 0), .int 0]))] := hD
  refine W.widen (k := 0) (n := 0) (by omega) (by omega) ?_
  refine lv_icmp_ge (tgt := 66) hx hb dX4_houseTold_16 (by decide) (fun c9 => ?_) (fun c9 => ?_)
  rotate_left
  · exact absurd (by decide) c9
  refine lv_bipush (v := 6) hx hb dX4_houseTold_66 (by decide) ?_
  refine zw_newa (atype := .int) (ty := .int) (N' := 6) hx hb (hts (.arrayClass .int) (List.mem_cons_of_mem _ zw_131)) rfl (by first | exact Or.inl rfl | exact Or.inr rfl) hK hP hD hS hA 0 rfl (by decide) (by decide) (Nat.le_of_ble_eq_true rfl) (Nat.le_of_ble_eq_true rfl) (Nat.le_of_ble_eq_true rfl) dX4_houseTold_68 hz (fun q3 H4 hP hD hS hz => ?_)
  replace hP : va_P (dC, dI) vwCl [(mo, .inr (9, [th, .ref am, .int 0, .int 0, .int 0])), (am, .inr (4, [.int mm, .ref (zk 0), .int 0])), (q3, .inl (cI, 6, .inl (fun _ => 0)))] H4 := hP
  replace hD : va_D A [(mo, .inr (9, [th, .ref am, .int 0, .int 0, .int 0])), (am, .inr (4, [.int mm, .ref (zk 0), .int 0])), (q3, .inl (cI, 6, .inl (fun _ => 0)))] := hD
  refine W.widen (k := 1) (n := 6) (by omega) (by omega) ?_
  refine lv_dup hx hb dX4_houseTold_70 rfl ?_
  refine lv_iconst (v := 0) hx hb dX4_houseTold_71 (by decide) ?_
  refine lv_aload_n hx hb dX4_houseTold_72 rfl (lv_at hl 3 rfl) ?_
  refine va_get (D := (dC, dI)) (ci := 9) (v := .ref am) (C := RX4) (T := TX4) (N := 5) hx hb hts hi_X4_houseTold_X4 hown hK hP 0 rfl rfl 1 (by decide) (hts (.fieldLink RX4 10 "DeeprowsModel" "rows" "Ljava/util/ArrayList;") (List.mem_cons_of_mem _ zw_1128)) (fun _ h9 => h9) rfl dX4_houseTold_73 ?_
  have hPc := hP.sub (ws' := [(am, .inr (4, [.int mm, .ref (zk 0), .int 0]))]) [1] rfl
  have hDc := hD.sub (ws' := [(am, .inr (4, [.int mm, .ref (zk 0), .int 0]))]) [1] (by decide) rfl
  have hFc := va_free (wc := [(am, .inr (4, [.int mm, .ref (zk 0), .int 0]))]) hD hS hA [1] rfl
  have hDv := hDc.self (sz := H4.size)
  have hpre := zpre (xs' := []) (av := [.ref am]) hPc hK (hDc.weaken (fun _ _ _ h => h)) hZ hS hFc (fun r hr => by cases hr)
  refine va_calli (va_runV (As := []) (rest := [.int 0, .ref q3, .ref q3]) ⟨hx, hb, hml, hown, hts⟩ (k_size l dC dI cI cB cR cO zk am (zk 0) 0 (.int mm) H4.size ) (cwV 0 hts gX4_houseTold_Jx4a65c_size_8abf5 rfl rfl rfl (by decide +kernel) ⟨Nat.le_of_ble_eq_true rfl, Nat.le_of_ble_eq_true rfl⟩) ⟨zblind, (zrecv_4 hK hPc (q0 := 0) rfl), hpre⟩ rfl rfl hl.1 rfl (lv_room (Nat.le_of_ble_eq_true rfl)) dX4_houseTold_76 ⟨Nat.le_of_ble_eq_true rfl, Nat.le_of_ble_eq_true rfl⟩) hS (fun q _ h => hFc q h) hFc (fun r6 u t H5 locs ht hvm hw hB hz1 hk1 hS => ?_)
  obtain rfl : 0 = r6 := (show r6 = 0 from hw).symm
  obtain ⟨hP1, hK1, hD1, hz2⟩ := hB
  rw [ht] at hP1 hz2
  have hPD9 := va_join (wr := [(mo, .inr (9, [th, .ref am, .int 0, .int 0, .int 0])), (q3, .inl (cI, 6, .inl (fun _ => 0)))]) (w1 := [(am, .inr (4, [.int mm, .ref (zk 0), .int 0]))]) hP hD [1] [0, 2] rfl rfl (by decide) (by decide) hk1 hFc hP1 hD1
  clear hPc hDc hFc hDv hpre hP hD hP1 hK1 hD1
  obtain ⟨hP, hD⟩ := hPD9
  replace hz : s.heap.size + 1 ≤ H5.size := by omega
  clear hz2
  replace hP : va_P (dC, dI) vwCl [(mo, .inr (9, [th, .ref am, .int 0, .int 0, .int 0])), (q3, .inl (cI, 6, .inl (fun _ => 0))), (am, .inr (4, [.int mm, .ref (zk 0), .int 0]))] H5 := hP
  replace hD : va_D A [(mo, .inr (9, [th, .ref am, .int 0, .int 0, .int 0])), (q3, .inl (cI, 6, .inl (fun _ => 0))), (am, .inr (4, [.int mm, .ref (zk 0), .int 0]))] := hD
  refine W.widen (k := 1) (n := 6) (by omega) (by omega) ?_
  refine va_iast (D := (dC, dI)) (cl := vwCl) hx hb hK hP hD (zS0 hS) 1 0 rfl rfl (by unfold vp_in; decide) dX4_houseTold_79 (fun H7 locs hP hD hS1 => ?_)
  have hz : s.heap.size + 1 ≤ H7.size := Nat.le_trans hz hS1.1
  have hS := zSS hS hS1
  replace hP : va_P (dC, dI) vwCl [(mo, .inr (9, [th, .ref am, .int 0, .int 0, .int 0])), (q3, .inl (cI, 6, .inl (upd (fun _ => 0) 0 0))), (am, .inr (4, [.int mm, .ref (zk 0), .int 0]))] H7 := hP
  replace hD : va_D A [(mo, .inr (9, [th, .ref am, .int 0, .int 0, .int 0])), (q3, .inl (cI, 6, .inl (upd (fun _ => 0) 0 0))), (am, .inr (4, [.int mm, .ref (zk 0), .int 0]))] := hD
  refine lv_dup hx hb dX4_houseTold_80 rfl ?_
  refine lv_iconst (v := 1) hx hb dX4_houseTold_81 (by decide) ?_
  refine lv_aload_n hx hb dX4_houseTold_82 rfl (lv_at hl 3 rfl) ?_
  refine va_get (D := (dC, dI)) (ci := 9) (v := .int 0) (C := RX4) (T := TX4) (N := 5) hx hb hts hi_X4_houseTold_X4 hown hK hP 0 rfl rfl 2 (by decide) (hts (.fieldLink RX4 120 "DeeprowsModel" "made" "I") (List.mem_cons_of_mem _ zw_1129)) (fun _ h9 => h9) rfl dX4_houseTold_83 ?_
  refine va_iast (D := (dC, dI)) (cl := vwCl) hx hb hK hP hD (zS0 hS) 1 0 rfl rfl (by unfold vp_in; decide) dX4_houseTold_86 (fun H8 locs hP hD hS1 => ?_)
  have hz : s.heap.size + 1 ≤ H8.size := Nat.le_trans hz hS1.1
  have hS := zSS hS hS1
  replace hP : va_P (dC, dI) vwCl [(mo, .inr (9, [th, .ref am, .int 0, .int 0, .int 0])), (q3, .inl (cI, 6, .inl (upd (upd (fun _ => 0) 0 0) 1 0))), (am, .inr (4, [.int mm, .ref (zk 0), .int 0]))] H8 := hP
  replace hD : va_D A [(mo, .inr (9, [th, .ref am, .int 0, .int 0, .int 0])), (q3, .inl (cI, 6, .inl (upd (upd (fun _ => 0) 0 0) 1 0))), (am, .inr (4, [.int mm, .ref (zk 0), .int 0]))] := hD
  refine lv_dup hx hb dX4_houseTold_87 rfl ?_
  refine lv_iconst (v := 2) hx hb dX4_houseTold_88 (by decide) ?_
  refine lv_aload_n hx hb dX4_houseTold_89 rfl (lv_at hl 3 rfl) ?_
  refine va_get (D := (dC, dI)) (ci := 9) (v := .int 0) (C := RX4) (T := TX4) (N := 5) hx hb hts hi_X4_houseTold_X4 hown hK hP 0 rfl rfl 3 (by decide) (hts (.fieldLink RX4 114 "DeeprowsModel" "refused" "I") (List.mem_cons_of_mem _ zw_1130)) (fun _ h9 => h9) rfl dX4_houseTold_90 ?_
  refine va_iast (D := (dC, dI)) (cl := vwCl) hx hb hK hP hD (zS0 hS) 1 0 rfl rfl (by unfold vp_in; decide) dX4_houseTold_93 (fun H9 locs hP hD hS1 => ?_)
  have hz : s.heap.size + 1 ≤ H9.size := Nat.le_trans hz hS1.1
  have hS := zSS hS hS1
  replace hP : va_P (dC, dI) vwCl [(mo, .inr (9, [th, .ref am, .int 0, .int 0, .int 0])), (q3, .inl (cI, 6, .inl (upd (upd (upd (fun _ => 0) 0 0) 1 0) 2 0))), (am, .inr (4, [.int mm, .ref (zk 0), .int 0]))] H9 := hP
  replace hD : va_D A [(mo, .inr (9, [th, .ref am, .int 0, .int 0, .int 0])), (q3, .inl (cI, 6, .inl (upd (upd (upd (fun _ => 0) 0 0) 1 0) 2 0))), (am, .inr (4, [.int mm, .ref (zk 0), .int 0]))] := hD
  refine lv_dup hx hb dX4_houseTold_94 rfl ?_
  refine lv_iconst (v := 3) hx hb dX4_houseTold_95 (by decide) ?_
  refine lv_aload_n hx hb dX4_houseTold_96 rfl (lv_at hl 3 rfl) ?_
  refine va_get (D := (dC, dI)) (ci := 9) (v := .int 0) (C := RX4) (T := TX4) (N := 5) hx hb hts hi_X4_houseTold_X4 hown hK hP 0 rfl rfl 4 (by decide) (hts (.fieldLink RX4 207 "DeeprowsModel" "knocked" "I") (List.mem_cons_of_mem _ zw_1131)) (fun _ h9 => h9) rfl dX4_houseTold_97 ?_
  refine va_iast (D := (dC, dI)) (cl := vwCl) hx hb hK hP hD (zS0 hS) 1 0 rfl rfl (by unfold vp_in; decide) dX4_houseTold_100 (fun H10 locs hP hD hS1 => ?_)
  have hz : s.heap.size + 1 ≤ H10.size := Nat.le_trans hz hS1.1
  have hS := zSS hS hS1
  replace hP : va_P (dC, dI) vwCl [(mo, .inr (9, [th, .ref am, .int 0, .int 0, .int 0])), (q3, .inl (cI, 6, .inl (upd (upd (upd (upd (fun _ => 0) 0 0) 1 0) 2 0) 3 0))), (am, .inr (4, [.int mm, .ref (zk 0), .int 0]))] H10 := hP
  replace hD : va_D A [(mo, .inr (9, [th, .ref am, .int 0, .int 0, .int 0])), (q3, .inl (cI, 6, .inl (upd (upd (upd (upd (fun _ => 0) 0 0) 1 0) 2 0) 3 0))), (am, .inr (4, [.int mm, .ref (zk 0), .int 0]))] := hD
  refine lv_dup hx hb dX4_houseTold_101 rfl ?_
  refine lv_iconst (v := 4) hx hb dX4_houseTold_102 (by decide) ?_
  refine lv_iload_n hx hb dX4_houseTold_103 rfl (lv_at hl 2 rfl) ?_
  refine va_iast (D := (dC, dI)) (cl := vwCl) hx hb hK hP hD (zS0 hS) 1 0 rfl rfl (by unfold vp_in; decide) dX4_houseTold_104 (fun H11 locs hP hD hS1 => ?_)
  have hz : s.heap.size + 1 ≤ H11.size := Nat.le_trans hz hS1.1
  have hS := zSS hS hS1
  replace hP : va_P (dC, dI) vwCl [(mo, .inr (9, [th, .ref am, .int 0, .int 0, .int 0])), (q3, .inl (cI, 6, .inl (upd (upd (upd (upd (upd (fun _ => 0) 0 0) 1 0) 2 0) 3 0) 4 0))), (am, .inr (4, [.int mm, .ref (zk 0), .int 0]))] H11 := hP
  replace hD : va_D A [(mo, .inr (9, [th, .ref am, .int 0, .int 0, .int 0])), (q3, .inl (cI, 6, .inl (upd (upd (upd (upd (upd (fun _ => 0) 0 0) 1 0) 2 0) 3 0) 4 0))), (am, .inr (4, [.int mm, .ref (zk 0), .int 0]))] := hD
  refine lv_dup hx hb dX4_houseTold_105 rfl ?_
  refine lv_iconst (v := 5) hx hb dX4_houseTold_106 (by decide) ?_
  refine lv_iload_n hx hb dX4_houseTold_107 rfl (lv_at hl 1 rfl) ?_
  refine va_iast (D := (dC, dI)) (cl := vwCl) hx hb hK hP hD (zS0 hS) 1 0 rfl rfl (by unfold vp_in; decide) dX4_houseTold_108 (fun H12 locs hP hD hS1 => ?_)
  have hz : s.heap.size + 1 ≤ H12.size := Nat.le_trans hz hS1.1
  have hS := zSS hS hS1
  replace hP : va_P (dC, dI) vwCl [(mo, .inr (9, [th, .ref am, .int 0, .int 0, .int 0])), (q3, .inl (cI, 6, .inl (upd (upd (upd (upd (upd (upd (fun _ => 0) 0 0) 1 0) 2 0) 3 0) 4 0) 5 0))), (am, .inr (4, [.int mm, .ref (zk 0), .int 0]))] H12 := hP
  replace hD : va_D A [(mo, .inr (9, [th, .ref am, .int 0, .int 0, .int 0])), (q3, .inl (cI, 6, .inl (upd (upd (upd (upd (upd (upd (fun _ => 0) 0 0) 1 0) 2 0) 3 0) 4 0) 5 0))), (am, .inr (4, [.int mm, .ref (zk 0), .int 0]))] := hD
  refine lv_astore (lv' := [(4, .ref q3), (3, .int 0), (2, .int 0), (0, .ref mo), (1, .int 0)]) hx hb dX4_houseTold_109 hl (by decide) rfl (fun ls hl => ?_)
  refine lv_aload hx hb dX4_houseTold_111 (lv_at hl 0 rfl) ?_
  refine lv_iload_n hx hb dX4_houseTold_113 rfl (lv_at hl 4 rfl) ?_
  refine va_iald (D := (dC, dI)) (cl := vwCl) hx hb hK hP 1 0 rfl rfl (by unfold vp_in; decide) dX4_houseTold_114 ?_
  refine lv_topi (fun v13 ev13 => ?_)
  obtain rfl : v13 = 0 := ev13.trans (by decide +kernel)
  have hP9 := hP.sub (ws' := [(mo, .inr (9, [th, .ref am, .int 0, .int 0, .int 0])), (am, .inr (4, [.int mm, .ref (zk 0), .int 0]))]) [0, 2] rfl
  have hD9 := hD.sub (ws' := [(mo, .inr (9, [th, .ref am, .int 0, .int 0, .int 0])), (am, .inr (4, [.int mm, .ref (zk 0), .int 0]))]) [0, 2] (by decide) rfl
  exact W.iret (v := 0) hx hb hr (fun t ht hW => ⟨⟨_, (), rfl, rfl, ⟨by rw [ht]; exact hP9, va_K.moved hW.alike hK, hD9, by rw [ht]; exact hz⟩⟩, hS.F ht⟩) hS.2.2 dX4_houseTold_115

set_option maxHeartbeats 4000000 in
set_option maxRecDepth 100000 in
theorem k_hTold1 (l : Launch) (dC : Nat → ClassId) (dI : Nat → Nat → Nat) (cI cB cR cO : ClassId) (zk : Nat → Nat) (mo am : Nat) (th : Value) (mm : Int32) (sz : Nat)  : Met l yX4_houseTold wsX4_houseTold ({ frames := 1, cells := 1, slots := 6, locals := 20 }) (va_Pc [.ref mo, .int 1] (zPre (dC, dI) (zT cI cB cR cO) zk [] [(mo, .inr (9, [th, .ref am, .int 0, .int 0, .int 0])), (am, .inr (4, [.int mm, .ref (zk 0), .int 0]))] sz)) (va_Qi (fun r (_ : Unit) => r = 0) (fun _ t => zEnd (dC, dI) (zT cI cB cR cO) (va_A [(mo, .inr (9, [th, .ref am, .int 0, .int 0, .int 0])), (am, .inr (4, [.int mm, .ref (zk 0), .int 0]))] sz) [(mo, .inr (9, [th, .ref am, .int 0, .int 0, .int 0])), (am, .inr (4, [.int mm, .ref (zk 0), .int 0]))] sz 1 t) (va_A [(mo, .inr (9, [th, .ref am, .int 0, .int 0, .int 0])), (am, .inr (4, [.int mm, .ref (zk 0), .int 0]))] sz)) 1 6 (va_A [(mo, .inr (9, [th, .ref am, .int 0, .int 0, .int 0])), (am, .inr (4, [.int mm, .ref (zk 0), .int 0]))] sz) := by
  refine Met.ofW (cc := cX4_houseTold) (maxL := 6) (ret := (some .int)) (by decide) rfl ?_
  intro p e s mY args below meth c s₁ B hml hv
  obtain ⟨rfl, hsz, hP, hK, hD0, hZ⟩ := hv
  have hx := B.exec
  have hb := B.bytes
  have hr := B.returns
  have hts := atoms_spec (ws := wsX4_houseTold) B.pre
  have hown : s.vm.findClass RX4 = some mY.cls := findClass_of_methodNamed B.named
  have hlocks := B.notSynchronized
  subst hsz
  have hD := hD0.self (sz := s.heap.size)
  generalize hAe : va_A [(mo, .inr (9, [th, .ref am, .int 0, .int 0, .int 0])), (am, .inr (4, [.int mm, .ref (zk 0), .int 0]))] s.heap.size = A at hD hZ ⊢
  have hA : ∀ q : Nat, s.heap.size ≤ q → A q := fun q h => by rw [← hAe]; exact Or.inr h
  have hS : va_S A s.heap s.heap [] := va_S.rf
  have hz : s.heap.size + 0 ≤ s.heap.size := Nat.le_refl _
  have hl := lv_entry ([.ref mo, .int 1]) (n := 6) (Nat.le_of_ble_eq_true rfl)
  rw [lg_entry_eq]
  generalize (lg_sl ([.ref mo, .int 1]) ++ List.replicate (6 - (lg_sl ([.ref mo, .int 1])).length) Slot.unset).toArray = ls at hl ⊢
  have hl : lv_has ls 6 [(0, .ref mo), (1, .int 1)] := hl
  have hP : va_P (dC, dI) vwCl [(mo, .inr (9, [th, .ref am, .int 0, .int 0, .int 0])), (am, .inr (4, [.int mm, .ref (zk 0), .int 0]))] s.heap := hP
  have hD : va_D A [(mo, .inr (9, [th, .ref am, .int 0, .int 0, .int 0])), (am, .inr (4, [.int mm, .ref (zk 0), .int 0]))] := hD
  refine lv_iconst (v := 0) hx hb dX4_houseTold_0 (by decide) ?_
  refine lv_istore_n (lv' := [(2, .int 0), (0, .ref mo), (1, .int 1)]) hx hb dX4_houseTold_1 rfl hl (by decide) rfl (fun ls hl => ?_)
  refine lv_iconst (v := 0) hx hb dX4_houseTold_2 (by decide) ?_
  refine lv_istore_n (lv' := [(3, .int 0), (2, .int 0), (0, .ref mo), (1, .int 1)]) hx hb dX4_houseTold_3 rfl hl (by decide) rfl (fun ls hl => ?_)
  refine lv_iconst (v := 0) hx hb dX4_houseTold_4 (by decide) ?_
  refine lv_istore (lv' := [(4, .int 0), (3, .int 0), (2, .int 0), (0, .ref mo), (1, .int 1)]) hx hb dX4_houseTold_5 hl (by decide) rfl (fun ls hl => ?_)
  refine lv_iload hx hb dX4_houseTold_7 (lv_at hl 0 rfl) ?_
  refine lv_aload_n hx hb dX4_houseTold_9 rfl (lv_at hl 3 rfl) ?_
  refine va_get (D := (dC, dI)) (ci := 9) (v := .ref am) (C := RX4) (T := TX4) (N := 5) hx hb hts hi_X4_houseTold_X4 hown hK hP 0 rfl rfl 1 (by decide) (hts (.fieldLink RX4 10 "DeeprowsModel" "rows" "Ljava/util/ArrayList;") (List.mem_cons_of_mem _ zw_1128)) (fun _ h9 => h9) rfl dX4_houseTold_10 ?_
  have hPc := hP.sub (ws' := [(am, .inr (4, [.int mm, .ref (zk 0), .int 0]))]) [1] rfl
  have hDc := hD.sub (ws' := [(am, .inr (4, [.int mm, .ref (zk 0), .int 0]))]) [1] (by decide) rfl
  have hFc := va_free (wc := [(am, .inr (4, [.int mm, .ref (zk 0), .int 0]))]) hD hS hA [1] rfl
  have hDv := hDc.self (sz := s.heap.size)
  have hpre := zpre (xs' := []) (av := [.ref am]) hPc hK (hDc.weaken (fun _ _ _ h => h)) hZ hS hFc (fun r hr => by cases hr)
  refine va_calli (va_runV (As := []) (rest := [.int 0]) ⟨hx, hb, hml, hown, hts⟩ (k_size l dC dI cI cB cR cO zk am (zk 0) 0 (.int mm) s.heap.size ) (cwV 0 hts gX4_houseTold_Jx4a65c_size_8abf5 rfl rfl rfl (by decide +kernel) ⟨Nat.le_of_ble_eq_true rfl, Nat.le_of_ble_eq_true rfl⟩) ⟨zblind, (zrecv_4 hK hPc (q0 := 0) rfl), hpre⟩ rfl rfl hl.1 rfl (lv_room (Nat.le_of_ble_eq_true rfl)) dX4_houseTold_13 ⟨Nat.le_of_ble_eq_true rfl, Nat.le_of_ble_eq_true rfl⟩) hS (fun q _ h => hFc q h) hFc (fun r2 u t H1 locs ht hvm hw hB hz1 hk1 hS => ?_)
  obtain rfl : 0 = r2 := (show r2 = 0 from hw).symm
  obtain ⟨hP1, hK1, hD1, hz2⟩ := hB
  rw [ht] at hP1 hz2
  have hPD9 := va_join (wr := [(mo, .inr (9, [th, .ref am, .int 0, .int 0, .int 0]))]) (w1 := [(am, .inr (4, [.int mm, .ref (zk 0), .int 0]))]) hP hD [1] [0] rfl rfl (by decide) (by decide) hk1 hFc hP1 hD1
  clear hPc hDc hFc hDv hpre hP hD hP1 hK1 hD1
  obtain ⟨hP, hD⟩ := hPD9
  replace hz : s.heap.size + 0 ≤ H1.size := by omega
  clear hz2
  replace hP : va_P (dC, dI) vwCl [(mo, .inr (9, [th, .ref am, .int 0, .int 0, .int 0])), (am, .inr (4, [.int mm, .ref (zk 0), .int 0]))] H1 := hP
  replace hD : va_D A [(mo, .inr (9, [th, .ref am, .int 0, .int 0, .int 0])), (am, .inr (4, [.int mm, .ref (zk 0), .int 0]))] := hD
  refine W.widen (k := 0) (n := 0) (by omega) (by omega) ?_
  refine lv_icmp_ge (tgt := 66) hx hb dX4_houseTold_16 (by decide) (fun c9 => ?_) (fun c9 => ?_)
  rotate_left
  · exact absurd (by decide) c9
  refine lv_bipush (v := 6) hx hb dX4_houseTold_66 (by decide) ?_
  refine zw_newa (atype := .int) (ty := .int) (N' := 6) hx hb (hts (.arrayClass .int) (List.mem_cons_of_mem _ zw_131)) rfl (by first | exact Or.inl rfl | exact Or.inr rfl) hK hP hD hS hA 0 rfl (by decide) (by decide) (Nat.le_of_ble_eq_true rfl) (Nat.le_of_ble_eq_true rfl) (Nat.le_of_ble_eq_true rfl) dX4_houseTold_68 hz (fun q3 H4 hP hD hS hz => ?_)
  replace hP : va_P (dC, dI) vwCl [(mo, .inr (9, [th, .ref am, .int 0, .int 0, .int 0])), (am, .inr (4, [.int mm, .ref (zk 0), .int 0])), (q3, .inl (cI, 6, .inl (fun _ => 0)))] H4 := hP
  replace hD : va_D A [(mo, .inr (9, [th, .ref am, .int 0, .int 0, .int 0])), (am, .inr (4, [.int mm, .ref (zk 0), .int 0])), (q3, .inl (cI, 6, .inl (fun _ => 0)))] := hD
  refine W.widen (k := 1) (n := 6) (by omega) (by omega) ?_
  refine lv_dup hx hb dX4_houseTold_70 rfl ?_
  refine lv_iconst (v := 0) hx hb dX4_houseTold_71 (by decide) ?_
  refine lv_aload_n hx hb dX4_houseTold_72 rfl (lv_at hl 3 rfl) ?_
  refine va_get (D := (dC, dI)) (ci := 9) (v := .ref am) (C := RX4) (T := TX4) (N := 5) hx hb hts hi_X4_houseTold_X4 hown hK hP 0 rfl rfl 1 (by decide) (hts (.fieldLink RX4 10 "DeeprowsModel" "rows" "Ljava/util/ArrayList;") (List.mem_cons_of_mem _ zw_1128)) (fun _ h9 => h9) rfl dX4_houseTold_73 ?_
  have hPc := hP.sub (ws' := [(am, .inr (4, [.int mm, .ref (zk 0), .int 0]))]) [1] rfl
  have hDc := hD.sub (ws' := [(am, .inr (4, [.int mm, .ref (zk 0), .int 0]))]) [1] (by decide) rfl
  have hFc := va_free (wc := [(am, .inr (4, [.int mm, .ref (zk 0), .int 0]))]) hD hS hA [1] rfl
  have hDv := hDc.self (sz := H4.size)
  have hpre := zpre (xs' := []) (av := [.ref am]) hPc hK (hDc.weaken (fun _ _ _ h => h)) hZ hS hFc (fun r hr => by cases hr)
  refine va_calli (va_runV (As := []) (rest := [.int 0, .ref q3, .ref q3]) ⟨hx, hb, hml, hown, hts⟩ (k_size l dC dI cI cB cR cO zk am (zk 0) 0 (.int mm) H4.size ) (cwV 0 hts gX4_houseTold_Jx4a65c_size_8abf5 rfl rfl rfl (by decide +kernel) ⟨Nat.le_of_ble_eq_true rfl, Nat.le_of_ble_eq_true rfl⟩) ⟨zblind, (zrecv_4 hK hPc (q0 := 0) rfl), hpre⟩ rfl rfl hl.1 rfl (lv_room (Nat.le_of_ble_eq_true rfl)) dX4_houseTold_76 ⟨Nat.le_of_ble_eq_true rfl, Nat.le_of_ble_eq_true rfl⟩) hS (fun q _ h => hFc q h) hFc (fun r6 u t H5 locs ht hvm hw hB hz1 hk1 hS => ?_)
  obtain rfl : 0 = r6 := (show r6 = 0 from hw).symm
  obtain ⟨hP1, hK1, hD1, hz2⟩ := hB
  rw [ht] at hP1 hz2
  have hPD9 := va_join (wr := [(mo, .inr (9, [th, .ref am, .int 0, .int 0, .int 0])), (q3, .inl (cI, 6, .inl (fun _ => 0)))]) (w1 := [(am, .inr (4, [.int mm, .ref (zk 0), .int 0]))]) hP hD [1] [0, 2] rfl rfl (by decide) (by decide) hk1 hFc hP1 hD1
  clear hPc hDc hFc hDv hpre hP hD hP1 hK1 hD1
  obtain ⟨hP, hD⟩ := hPD9
  replace hz : s.heap.size + 1 ≤ H5.size := by omega
  clear hz2
  replace hP : va_P (dC, dI) vwCl [(mo, .inr (9, [th, .ref am, .int 0, .int 0, .int 0])), (q3, .inl (cI, 6, .inl (fun _ => 0))), (am, .inr (4, [.int mm, .ref (zk 0), .int 0]))] H5 := hP
  replace hD : va_D A [(mo, .inr (9, [th, .ref am, .int 0, .int 0, .int 0])), (q3, .inl (cI, 6, .inl (fun _ => 0))), (am, .inr (4, [.int mm, .ref (zk 0), .int 0]))] := hD
  refine W.widen (k := 1) (n := 6) (by omega) (by omega) ?_
  refine va_iast (D := (dC, dI)) (cl := vwCl) hx hb hK hP hD (zS0 hS) 1 0 rfl rfl (by unfold vp_in; decide) dX4_houseTold_79 (fun H7 locs hP hD hS1 => ?_)
  have hz : s.heap.size + 1 ≤ H7.size := Nat.le_trans hz hS1.1
  have hS := zSS hS hS1
  replace hP : va_P (dC, dI) vwCl [(mo, .inr (9, [th, .ref am, .int 0, .int 0, .int 0])), (q3, .inl (cI, 6, .inl (upd (fun _ => 0) 0 0))), (am, .inr (4, [.int mm, .ref (zk 0), .int 0]))] H7 := hP
  replace hD : va_D A [(mo, .inr (9, [th, .ref am, .int 0, .int 0, .int 0])), (q3, .inl (cI, 6, .inl (upd (fun _ => 0) 0 0))), (am, .inr (4, [.int mm, .ref (zk 0), .int 0]))] := hD
  refine lv_dup hx hb dX4_houseTold_80 rfl ?_
  refine lv_iconst (v := 1) hx hb dX4_houseTold_81 (by decide) ?_
  refine lv_aload_n hx hb dX4_houseTold_82 rfl (lv_at hl 3 rfl) ?_
  refine va_get (D := (dC, dI)) (ci := 9) (v := .int 0) (C := RX4) (T := TX4) (N := 5) hx hb hts hi_X4_houseTold_X4 hown hK hP 0 rfl rfl 2 (by decide) (hts (.fieldLink RX4 120 "DeeprowsModel" "made" "I") (List.mem_cons_of_mem _ zw_1129)) (fun _ h9 => h9) rfl dX4_houseTold_83 ?_
  refine va_iast (D := (dC, dI)) (cl := vwCl) hx hb hK hP hD (zS0 hS) 1 0 rfl rfl (by unfold vp_in; decide) dX4_houseTold_86 (fun H8 locs hP hD hS1 => ?_)
  have hz : s.heap.size + 1 ≤ H8.size := Nat.le_trans hz hS1.1
  have hS := zSS hS hS1
  replace hP : va_P (dC, dI) vwCl [(mo, .inr (9, [th, .ref am, .int 0, .int 0, .int 0])), (q3, .inl (cI, 6, .inl (upd (upd (fun _ => 0) 0 0) 1 0))), (am, .inr (4, [.int mm, .ref (zk 0), .int 0]))] H8 := hP
  replace hD : va_D A [(mo, .inr (9, [th, .ref am, .int 0, .int 0, .int 0])), (q3, .inl (cI, 6, .inl (upd (upd (fun _ => 0) 0 0) 1 0))), (am, .inr (4, [.int mm, .ref (zk 0), .int 0]))] := hD
  refine lv_dup hx hb dX4_houseTold_87 rfl ?_
  refine lv_iconst (v := 2) hx hb dX4_houseTold_88 (by decide) ?_
  refine lv_aload_n hx hb dX4_houseTold_89 rfl (lv_at hl 3 rfl) ?_
  refine va_get (D := (dC, dI)) (ci := 9) (v := .int 0) (C := RX4) (T := TX4) (N := 5) hx hb hts hi_X4_houseTold_X4 hown hK hP 0 rfl rfl 3 (by decide) (hts (.fieldLink RX4 114 "DeeprowsModel" "refused" "I") (List.mem_cons_of_mem _ zw_1130)) (fun _ h9 => h9) rfl dX4_houseTold_90 ?_
  refine va_iast (D := (dC, dI)) (cl := vwCl) hx hb hK hP hD (zS0 hS) 1 0 rfl rfl (by unfold vp_in; decide) dX4_houseTold_93 (fun H9 locs hP hD hS1 => ?_)
  have hz : s.heap.size + 1 ≤ H9.size := Nat.le_trans hz hS1.1
  have hS := zSS hS hS1
  replace hP : va_P (dC, dI) vwCl [(mo, .inr (9, [th, .ref am, .int 0, .int 0, .int 0])), (q3, .inl (cI, 6, .inl (upd (upd (upd (fun _ => 0) 0 0) 1 0) 2 0))), (am, .inr (4, [.int mm, .ref (zk 0), .int 0]))] H9 := hP
  replace hD : va_D A [(mo, .inr (9, [th, .ref am, .int 0, .int 0, .int 0])), (q3, .inl (cI, 6, .inl (upd (upd (upd (fun _ => 0) 0 0) 1 0) 2 0))), (am, .inr (4, [.int mm, .ref (zk 0), .int 0]))] := hD
  refine lv_dup hx hb dX4_houseTold_94 rfl ?_
  refine lv_iconst (v := 3) hx hb dX4_houseTold_95 (by decide) ?_
  refine lv_aload_n hx hb dX4_houseTold_96 rfl (lv_at hl 3 rfl) ?_
  refine va_get (D := (dC, dI)) (ci := 9) (v := .int 0) (C := RX4) (T := TX4) (N := 5) hx hb hts hi_X4_houseTold_X4 hown hK hP 0 rfl rfl 4 (by decide) (hts (.fieldLink RX4 207 "DeeprowsModel" "knocked" "I") (List.mem_cons_of_mem _ zw_1131)) (fun _ h9 => h9) rfl dX4_houseTold_97 ?_
  refine va_iast (D := (dC, dI)) (cl := vwCl) hx hb hK hP hD (zS0 hS) 1 0 rfl rfl (by unfold vp_in; decide) dX4_houseTold_100 (fun H10 locs hP hD hS1 => ?_)
  have hz : s.heap.size + 1 ≤ H10.size := Nat.le_trans hz hS1.1
  have hS := zSS hS hS1
  replace hP : va_P (dC, dI) vwCl [(mo, .inr (9, [th, .ref am, .int 0, .int 0, .int 0])), (q3, .inl (cI, 6, .inl (upd (upd (upd (upd (fun _ => 0) 0 0) 1 0) 2 0) 3 0))), (am, .inr (4, [.int mm, .ref (zk 0), .int 0]))] H10 := hP
  replace hD : va_D A [(mo, .inr (9, [th, .ref am, .int 0, .int 0, .int 0])), (q3, .inl (cI, 6, .inl (upd (upd (upd (upd (fun _ => 0) 0 0) 1 0) 2 0) 3 0))), (am, .inr (4, [.int mm, .ref (zk 0), .int 0]))] := hD
  refine lv_dup hx hb dX4_houseTold_101 rfl ?_
  refine lv_iconst (v := 4) hx hb dX4_houseTold_102 (by decide) ?_
  refine lv_iload_n hx hb dX4_houseTold_103 rfl (lv_at hl 2 rfl) ?_
  refine va_iast (D := (dC, dI)) (cl := vwCl) hx hb hK hP hD (zS0 hS) 1 0 rfl rfl (by unfold vp_in; decide) dX4_houseTold_104 (fun H11 locs hP hD hS1 => ?_)
  have hz : s.heap.size + 1 ≤ H11.size := Nat.le_trans hz hS1.1
  have hS := zSS hS hS1
  replace hP : va_P (dC, dI) vwCl [(mo, .inr (9, [th, .ref am, .int 0, .int 0, .int 0])), (q3, .inl (cI, 6, .inl (upd (upd (upd (upd (upd (fun _ => 0) 0 0) 1 0) 2 0) 3 0) 4 0))), (am, .inr (4, [.int mm, .ref (zk 0), .int 0]))] H11 := hP
  replace hD : va_D A [(mo, .inr (9, [th, .ref am, .int 0, .int 0, .int 0])), (q3, .inl (cI, 6, .inl (upd (upd (upd (upd (upd (fun _ => 0) 0 0) 1 0) 2 0) 3 0) 4 0))), (am, .inr (4, [.int mm, .ref (zk 0), .int 0]))] := hD
  refine lv_dup hx hb dX4_houseTold_105 rfl ?_
  refine lv_iconst (v := 5) hx hb dX4_houseTold_106 (by decide) ?_
  refine lv_iload_n hx hb dX4_houseTold_107 rfl (lv_at hl 1 rfl) ?_
  refine va_iast (D := (dC, dI)) (cl := vwCl) hx hb hK hP hD (zS0 hS) 1 0 rfl rfl (by unfold vp_in; decide) dX4_houseTold_108 (fun H12 locs hP hD hS1 => ?_)
  have hz : s.heap.size + 1 ≤ H12.size := Nat.le_trans hz hS1.1
  have hS := zSS hS hS1
  replace hP : va_P (dC, dI) vwCl [(mo, .inr (9, [th, .ref am, .int 0, .int 0, .int 0])), (q3, .inl (cI, 6, .inl (upd (upd (upd (upd (upd (upd (fun _ => 0) 0 0) 1 0) 2 0) 3 0) 4 0) 5 0))), (am, .inr (4, [.int mm, .ref (zk 0), .int 0]))] H12 := hP
  replace hD : va_D A [(mo, .inr (9, [th, .ref am, .int 0, .int 0, .int 0])), (q3, .inl (cI, 6, .inl (upd (upd (upd (upd (upd (upd (fun _ => 0) 0 0) 1 0) 2 0) 3 0) 4 0) 5 0))), (am, .inr (4, [.int mm, .ref (zk 0), .int 0]))] := hD
  refine lv_astore (lv' := [(4, .ref q3), (3, .int 0), (2, .int 0), (0, .ref mo), (1, .int 1)]) hx hb dX4_houseTold_109 hl (by decide) rfl (fun ls hl => ?_)
  refine lv_aload hx hb dX4_houseTold_111 (lv_at hl 0 rfl) ?_
  refine lv_iload_n hx hb dX4_houseTold_113 rfl (lv_at hl 4 rfl) ?_
  refine va_iald (D := (dC, dI)) (cl := vwCl) hx hb hK hP 1 0 rfl rfl (by unfold vp_in; decide) dX4_houseTold_114 ?_
  refine lv_topi (fun v13 ev13 => ?_)
  obtain rfl : v13 = 0 := ev13.trans (by decide +kernel)
  have hP9 := hP.sub (ws' := [(mo, .inr (9, [th, .ref am, .int 0, .int 0, .int 0])), (am, .inr (4, [.int mm, .ref (zk 0), .int 0]))]) [0, 2] rfl
  have hD9 := hD.sub (ws' := [(mo, .inr (9, [th, .ref am, .int 0, .int 0, .int 0])), (am, .inr (4, [.int mm, .ref (zk 0), .int 0]))]) [0, 2] (by decide) rfl
  exact W.iret (v := 0) hx hb hr (fun t ht hW => ⟨⟨_, (), rfl, rfl, ⟨by rw [ht]; exact hP9, va_K.moved hW.alike hK, hD9, by rw [ht]; exact hz⟩⟩, hS.F ht⟩) hS.2.2 dX4_houseTold_115

set_option maxHeartbeats 4000000 in
set_option maxRecDepth 100000 in
theorem k_hTold2 (l : Launch) (dC : Nat → ClassId) (dI : Nat → Nat → Nat) (cI cB cR cO : ClassId) (zk : Nat → Nat) (mo am : Nat) (th : Value) (mm : Int32) (sz : Nat)  : Met l yX4_houseTold wsX4_houseTold ({ frames := 1, cells := 1, slots := 6, locals := 20 }) (va_Pc [.ref mo, .int 2] (zPre (dC, dI) (zT cI cB cR cO) zk [] [(mo, .inr (9, [th, .ref am, .int 0, .int 0, .int 0])), (am, .inr (4, [.int mm, .ref (zk 0), .int 0]))] sz)) (va_Qi (fun r (_ : Unit) => r = 0) (fun _ t => zEnd (dC, dI) (zT cI cB cR cO) (va_A [(mo, .inr (9, [th, .ref am, .int 0, .int 0, .int 0])), (am, .inr (4, [.int mm, .ref (zk 0), .int 0]))] sz) [(mo, .inr (9, [th, .ref am, .int 0, .int 0, .int 0])), (am, .inr (4, [.int mm, .ref (zk 0), .int 0]))] sz 1 t) (va_A [(mo, .inr (9, [th, .ref am, .int 0, .int 0, .int 0])), (am, .inr (4, [.int mm, .ref (zk 0), .int 0]))] sz)) 1 6 (va_A [(mo, .inr (9, [th, .ref am, .int 0, .int 0, .int 0])), (am, .inr (4, [.int mm, .ref (zk 0), .int 0]))] sz) := by
  refine Met.ofW (cc := cX4_houseTold) (maxL := 6) (ret := (some .int)) (by decide) rfl ?_
  intro p e s mY args below meth c s₁ B hml hv
  obtain ⟨rfl, hsz, hP, hK, hD0, hZ⟩ := hv
  have hx := B.exec
  have hb := B.bytes
  have hr := B.returns
  have hts := atoms_spec (ws := wsX4_houseTold) B.pre
  have hown : s.vm.findClass RX4 = some mY.cls := findClass_of_methodNamed B.named
  have hlocks := B.notSynchronized
  subst hsz
  have hD := hD0.self (sz := s.heap.size)
  generalize hAe : va_A [(mo, .inr (9, [th, .ref am, .int 0, .int 0, .int 0])), (am, .inr (4, [.int mm, .ref (zk 0), .int 0]))] s.heap.size = A at hD hZ ⊢
  have hA : ∀ q : Nat, s.heap.size ≤ q → A q := fun q h => by rw [← hAe]; exact Or.inr h
  have hS : va_S A s.heap s.heap [] := va_S.rf
  have hz : s.heap.size + 0 ≤ s.heap.size := Nat.le_refl _
  have hl := lv_entry ([.ref mo, .int 2]) (n := 6) (Nat.le_of_ble_eq_true rfl)
  rw [lg_entry_eq]
  generalize (lg_sl ([.ref mo, .int 2]) ++ List.replicate (6 - (lg_sl ([.ref mo, .int 2])).length) Slot.unset).toArray = ls at hl ⊢
  have hl : lv_has ls 6 [(0, .ref mo), (1, .int 2)] := hl
  have hP : va_P (dC, dI) vwCl [(mo, .inr (9, [th, .ref am, .int 0, .int 0, .int 0])), (am, .inr (4, [.int mm, .ref (zk 0), .int 0]))] s.heap := hP
  have hD : va_D A [(mo, .inr (9, [th, .ref am, .int 0, .int 0, .int 0])), (am, .inr (4, [.int mm, .ref (zk 0), .int 0]))] := hD
  refine lv_iconst (v := 0) hx hb dX4_houseTold_0 (by decide) ?_
  refine lv_istore_n (lv' := [(2, .int 0), (0, .ref mo), (1, .int 2)]) hx hb dX4_houseTold_1 rfl hl (by decide) rfl (fun ls hl => ?_)
  refine lv_iconst (v := 0) hx hb dX4_houseTold_2 (by decide) ?_
  refine lv_istore_n (lv' := [(3, .int 0), (2, .int 0), (0, .ref mo), (1, .int 2)]) hx hb dX4_houseTold_3 rfl hl (by decide) rfl (fun ls hl => ?_)
  refine lv_iconst (v := 0) hx hb dX4_houseTold_4 (by decide) ?_
  refine lv_istore (lv' := [(4, .int 0), (3, .int 0), (2, .int 0), (0, .ref mo), (1, .int 2)]) hx hb dX4_houseTold_5 hl (by decide) rfl (fun ls hl => ?_)
  refine lv_iload hx hb dX4_houseTold_7 (lv_at hl 0 rfl) ?_
  refine lv_aload_n hx hb dX4_houseTold_9 rfl (lv_at hl 3 rfl) ?_
  refine va_get (D := (dC, dI)) (ci := 9) (v := .ref am) (C := RX4) (T := TX4) (N := 5) hx hb hts hi_X4_houseTold_X4 hown hK hP 0 rfl rfl 1 (by decide) (hts (.fieldLink RX4 10 "DeeprowsModel" "rows" "Ljava/util/ArrayList;") (List.mem_cons_of_mem _ zw_1128)) (fun _ h9 => h9) rfl dX4_houseTold_10 ?_
  have hPc := hP.sub (ws' := [(am, .inr (4, [.int mm, .ref (zk 0), .int 0]))]) [1] rfl
  have hDc := hD.sub (ws' := [(am, .inr (4, [.int mm, .ref (zk 0), .int 0]))]) [1] (by decide) rfl
  have hFc := va_free (wc := [(am, .inr (4, [.int mm, .ref (zk 0), .int 0]))]) hD hS hA [1] rfl
  have hDv := hDc.self (sz := s.heap.size)
  have hpre := zpre (xs' := []) (av := [.ref am]) hPc hK (hDc.weaken (fun _ _ _ h => h)) hZ hS hFc (fun r hr => by cases hr)
  refine va_calli (va_runV (As := []) (rest := [.int 0]) ⟨hx, hb, hml, hown, hts⟩ (k_size l dC dI cI cB cR cO zk am (zk 0) 0 (.int mm) s.heap.size ) (cwV 0 hts gX4_houseTold_Jx4a65c_size_8abf5 rfl rfl rfl (by decide +kernel) ⟨Nat.le_of_ble_eq_true rfl, Nat.le_of_ble_eq_true rfl⟩) ⟨zblind, (zrecv_4 hK hPc (q0 := 0) rfl), hpre⟩ rfl rfl hl.1 rfl (lv_room (Nat.le_of_ble_eq_true rfl)) dX4_houseTold_13 ⟨Nat.le_of_ble_eq_true rfl, Nat.le_of_ble_eq_true rfl⟩) hS (fun q _ h => hFc q h) hFc (fun r2 u t H1 locs ht hvm hw hB hz1 hk1 hS => ?_)
  obtain rfl : 0 = r2 := (show r2 = 0 from hw).symm
  obtain ⟨hP1, hK1, hD1, hz2⟩ := hB
  rw [ht] at hP1 hz2
  have hPD9 := va_join (wr := [(mo, .inr (9, [th, .ref am, .int 0, .int 0, .int 0]))]) (w1 := [(am, .inr (4, [.int mm, .ref (zk 0), .int 0]))]) hP hD [1] [0] rfl rfl (by decide) (by decide) hk1 hFc hP1 hD1
  clear hPc hDc hFc hDv hpre hP hD hP1 hK1 hD1
  obtain ⟨hP, hD⟩ := hPD9
  replace hz : s.heap.size + 0 ≤ H1.size := by omega
  clear hz2
  replace hP : va_P (dC, dI) vwCl [(mo, .inr (9, [th, .ref am, .int 0, .int 0, .int 0])), (am, .inr (4, [.int mm, .ref (zk 0), .int 0]))] H1 := hP
  replace hD : va_D A [(mo, .inr (9, [th, .ref am, .int 0, .int 0, .int 0])), (am, .inr (4, [.int mm, .ref (zk 0), .int 0]))] := hD
  refine W.widen (k := 0) (n := 0) (by omega) (by omega) ?_
  refine lv_icmp_ge (tgt := 66) hx hb dX4_houseTold_16 (by decide) (fun c9 => ?_) (fun c9 => ?_)
  rotate_left
  · exact absurd (by decide) c9
  refine lv_bipush (v := 6) hx hb dX4_houseTold_66 (by decide) ?_
  refine zw_newa (atype := .int) (ty := .int) (N' := 6) hx hb (hts (.arrayClass .int) (List.mem_cons_of_mem _ zw_131)) rfl (by first | exact Or.inl rfl | exact Or.inr rfl) hK hP hD hS hA 0 rfl (by decide) (by decide) (Nat.le_of_ble_eq_true rfl) (Nat.le_of_ble_eq_true rfl) (Nat.le_of_ble_eq_true rfl) dX4_houseTold_68 hz (fun q3 H4 hP hD hS hz => ?_)
  replace hP : va_P (dC, dI) vwCl [(mo, .inr (9, [th, .ref am, .int 0, .int 0, .int 0])), (am, .inr (4, [.int mm, .ref (zk 0), .int 0])), (q3, .inl (cI, 6, .inl (fun _ => 0)))] H4 := hP
  replace hD : va_D A [(mo, .inr (9, [th, .ref am, .int 0, .int 0, .int 0])), (am, .inr (4, [.int mm, .ref (zk 0), .int 0])), (q3, .inl (cI, 6, .inl (fun _ => 0)))] := hD
  refine W.widen (k := 1) (n := 6) (by omega) (by omega) ?_
  refine lv_dup hx hb dX4_houseTold_70 rfl ?_
  refine lv_iconst (v := 0) hx hb dX4_houseTold_71 (by decide) ?_
  refine lv_aload_n hx hb dX4_houseTold_72 rfl (lv_at hl 3 rfl) ?_
  refine va_get (D := (dC, dI)) (ci := 9) (v := .ref am) (C := RX4) (T := TX4) (N := 5) hx hb hts hi_X4_houseTold_X4 hown hK hP 0 rfl rfl 1 (by decide) (hts (.fieldLink RX4 10 "DeeprowsModel" "rows" "Ljava/util/ArrayList;") (List.mem_cons_of_mem _ zw_1128)) (fun _ h9 => h9) rfl dX4_houseTold_73 ?_
  have hPc := hP.sub (ws' := [(am, .inr (4, [.int mm, .ref (zk 0), .int 0]))]) [1] rfl
  have hDc := hD.sub (ws' := [(am, .inr (4, [.int mm, .ref (zk 0), .int 0]))]) [1] (by decide) rfl
  have hFc := va_free (wc := [(am, .inr (4, [.int mm, .ref (zk 0), .int 0]))]) hD hS hA [1] rfl
  have hDv := hDc.self (sz := H4.size)
  have hpre := zpre (xs' := []) (av := [.ref am]) hPc hK (hDc.weaken (fun _ _ _ h => h)) hZ hS hFc (fun r hr => by cases hr)
  refine va_calli (va_runV (As := []) (rest := [.int 0, .ref q3, .ref q3]) ⟨hx, hb, hml, hown, hts⟩ (k_size l dC dI cI cB cR cO zk am (zk 0) 0 (.int mm) H4.size ) (cwV 0 hts gX4_houseTold_Jx4a65c_size_8abf5 rfl rfl rfl (by decide +kernel) ⟨Nat.le_of_ble_eq_true rfl, Nat.le_of_ble_eq_true rfl⟩) ⟨zblind, (zrecv_4 hK hPc (q0 := 0) rfl), hpre⟩ rfl rfl hl.1 rfl (lv_room (Nat.le_of_ble_eq_true rfl)) dX4_houseTold_76 ⟨Nat.le_of_ble_eq_true rfl, Nat.le_of_ble_eq_true rfl⟩) hS (fun q _ h => hFc q h) hFc (fun r6 u t H5 locs ht hvm hw hB hz1 hk1 hS => ?_)
  obtain rfl : 0 = r6 := (show r6 = 0 from hw).symm
  obtain ⟨hP1, hK1, hD1, hz2⟩ := hB
  rw [ht] at hP1 hz2
  have hPD9 := va_join (wr := [(mo, .inr (9, [th, .ref am, .int 0, .int 0, .int 0])), (q3, .inl (cI, 6, .inl (fun _ => 0)))]) (w1 := [(am, .inr (4, [.int mm, .ref (zk 0), .int 0]))]) hP hD [1] [0, 2] rfl rfl (by decide) (by decide) hk1 hFc hP1 hD1
  clear hPc hDc hFc hDv hpre hP hD hP1 hK1 hD1
  obtain ⟨hP, hD⟩ := hPD9
  replace hz : s.heap.size + 1 ≤ H5.size := by omega
  clear hz2
  replace hP : va_P (dC, dI) vwCl [(mo, .inr (9, [th, .ref am, .int 0, .int 0, .int 0])), (q3, .inl (cI, 6, .inl (fun _ => 0))), (am, .inr (4, [.int mm, .ref (zk 0), .int 0]))] H5 := hP
  replace hD : va_D A [(mo, .inr (9, [th, .ref am, .int 0, .int 0, .int 0])), (q3, .inl (cI, 6, .inl (fun _ => 0))), (am, .inr (4, [.int mm, .ref (zk 0), .int 0]))] := hD
  refine W.widen (k := 1) (n := 6) (by omega) (by omega) ?_
  refine va_iast (D := (dC, dI)) (cl := vwCl) hx hb hK hP hD (zS0 hS) 1 0 rfl rfl (by unfold vp_in; decide) dX4_houseTold_79 (fun H7 locs hP hD hS1 => ?_)
  have hz : s.heap.size + 1 ≤ H7.size := Nat.le_trans hz hS1.1
  have hS := zSS hS hS1
  replace hP : va_P (dC, dI) vwCl [(mo, .inr (9, [th, .ref am, .int 0, .int 0, .int 0])), (q3, .inl (cI, 6, .inl (upd (fun _ => 0) 0 0))), (am, .inr (4, [.int mm, .ref (zk 0), .int 0]))] H7 := hP
  replace hD : va_D A [(mo, .inr (9, [th, .ref am, .int 0, .int 0, .int 0])), (q3, .inl (cI, 6, .inl (upd (fun _ => 0) 0 0))), (am, .inr (4, [.int mm, .ref (zk 0), .int 0]))] := hD
  refine lv_dup hx hb dX4_houseTold_80 rfl ?_
  refine lv_iconst (v := 1) hx hb dX4_houseTold_81 (by decide) ?_
  refine lv_aload_n hx hb dX4_houseTold_82 rfl (lv_at hl 3 rfl) ?_
  refine va_get (D := (dC, dI)) (ci := 9) (v := .int 0) (C := RX4) (T := TX4) (N := 5) hx hb hts hi_X4_houseTold_X4 hown hK hP 0 rfl rfl 2 (by decide) (hts (.fieldLink RX4 120 "DeeprowsModel" "made" "I") (List.mem_cons_of_mem _ zw_1129)) (fun _ h9 => h9) rfl dX4_houseTold_83 ?_
  refine va_iast (D := (dC, dI)) (cl := vwCl) hx hb hK hP hD (zS0 hS) 1 0 rfl rfl (by unfold vp_in; decide) dX4_houseTold_86 (fun H8 locs hP hD hS1 => ?_)
  have hz : s.heap.size + 1 ≤ H8.size := Nat.le_trans hz hS1.1
  have hS := zSS hS hS1
  replace hP : va_P (dC, dI) vwCl [(mo, .inr (9, [th, .ref am, .int 0, .int 0, .int 0])), (q3, .inl (cI, 6, .inl (upd (upd (fun _ => 0) 0 0) 1 0))), (am, .inr (4, [.int mm, .ref (zk 0), .int 0]))] H8 := hP
  replace hD : va_D A [(mo, .inr (9, [th, .ref am, .int 0, .int 0, .int 0])), (q3, .inl (cI, 6, .inl (upd (upd (fun _ => 0) 0 0) 1 0))), (am, .inr (4, [.int mm, .ref (zk 0), .int 0]))] := hD
  refine lv_dup hx hb dX4_houseTold_87 rfl ?_
  refine lv_iconst (v := 2) hx hb dX4_houseTold_88 (by decide) ?_
  refine lv_aload_n hx hb dX4_houseTold_89 rfl (lv_at hl 3 rfl) ?_
  refine va_get (D := (dC, dI)) (ci := 9) (v := .int 0) (C := RX4) (T := TX4) (N := 5) hx hb hts hi_X4_houseTold_X4 hown hK hP 0 rfl rfl 3 (by decide) (hts (.fieldLink RX4 114 "DeeprowsModel" "refused" "I") (List.mem_cons_of_mem _ zw_1130)) (fun _ h9 => h9) rfl dX4_houseTold_90 ?_
  refine va_iast (D := (dC, dI)) (cl := vwCl) hx hb hK hP hD (zS0 hS) 1 0 rfl rfl (by unfold vp_in; decide) dX4_houseTold_93 (fun H9 locs hP hD hS1 => ?_)
  have hz : s.heap.size + 1 ≤ H9.size := Nat.le_trans hz hS1.1
  have hS := zSS hS hS1
  replace hP : va_P (dC, dI) vwCl [(mo, .inr (9, [th, .ref am, .int 0, .int 0, .int 0])), (q3, .inl (cI, 6, .inl (upd (upd (upd (fun _ => 0) 0 0) 1 0) 2 0))), (am, .inr (4, [.int mm, .ref (zk 0), .int 0]))] H9 := hP
  replace hD : va_D A [(mo, .inr (9, [th, .ref am, .int 0, .int 0, .int 0])), (q3, .inl (cI, 6, .inl (upd (upd (upd (fun _ => 0) 0 0) 1 0) 2 0))), (am, .inr (4, [.int mm, .ref (zk 0), .int 0]))] := hD
  refine lv_dup hx hb dX4_houseTold_94 rfl ?_
  refine lv_iconst (v := 3) hx hb dX4_houseTold_95 (by decide) ?_
  refine lv_aload_n hx hb dX4_houseTold_96 rfl (lv_at hl 3 rfl) ?_
  refine va_get (D := (dC, dI)) (ci := 9) (v := .int 0) (C := RX4) (T := TX4) (N := 5) hx hb hts hi_X4_houseTold_X4 hown hK hP 0 rfl rfl 4 (by decide) (hts (.fieldLink RX4 207 "DeeprowsModel" "knocked" "I") (List.mem_cons_of_mem _ zw_1131)) (fun _ h9 => h9) rfl dX4_houseTold_97 ?_
  refine va_iast (D := (dC, dI)) (cl := vwCl) hx hb hK hP hD (zS0 hS) 1 0 rfl rfl (by unfold vp_in; decide) dX4_houseTold_100 (fun H10 locs hP hD hS1 => ?_)
  have hz : s.heap.size + 1 ≤ H10.size := Nat.le_trans hz hS1.1
  have hS := zSS hS hS1
  replace hP : va_P (dC, dI) vwCl [(mo, .inr (9, [th, .ref am, .int 0, .int 0, .int 0])), (q3, .inl (cI, 6, .inl (upd (upd (upd (upd (fun _ => 0) 0 0) 1 0) 2 0) 3 0))), (am, .inr (4, [.int mm, .ref (zk 0), .int 0]))] H10 := hP
  replace hD : va_D A [(mo, .inr (9, [th, .ref am, .int 0, .int 0, .int 0])), (q3, .inl (cI, 6, .inl (upd (upd (upd (upd (fun _ => 0) 0 0) 1 0) 2 0) 3 0))), (am, .inr (4, [.int mm, .ref (zk 0), .int 0]))] := hD
  refine lv_dup hx hb dX4_houseTold_101 rfl ?_
  refine lv_iconst (v := 4) hx hb dX4_houseTold_102 (by decide) ?_
  refine lv_iload_n hx hb dX4_houseTold_103 rfl (lv_at hl 2 rfl) ?_
  refine va_iast (D := (dC, dI)) (cl := vwCl) hx hb hK hP hD (zS0 hS) 1 0 rfl rfl (by unfold vp_in; decide) dX4_houseTold_104 (fun H11 locs hP hD hS1 => ?_)
  have hz : s.heap.size + 1 ≤ H11.size := Nat.le_trans hz hS1.1
  have hS := zSS hS hS1
  replace hP : va_P (dC, dI) vwCl [(mo, .inr (9, [th, .ref am, .int 0, .int 0, .int 0])), (q3, .inl (cI, 6, .inl (upd (upd (upd (upd (upd (fun _ => 0) 0 0) 1 0) 2 0) 3 0) 4 0))), (am, .inr (4, [.int mm, .ref (zk 0), .int 0]))] H11 := hP
  replace hD : va_D A [(mo, .inr (9, [th, .ref am, .int 0, .int 0, .int 0])), (q3, .inl (cI, 6, .inl (upd (upd (upd (upd (upd (fun _ => 0) 0 0) 1 0) 2 0) 3 0) 4 0))), (am, .inr (4, [.int mm, .ref (zk 0), .int 0]))] := hD
  refine lv_dup hx hb dX4_houseTold_105 rfl ?_
  refine lv_iconst (v := 5) hx hb dX4_houseTold_106 (by decide) ?_
  refine lv_iload_n hx hb dX4_houseTold_107 rfl (lv_at hl 1 rfl) ?_
  refine va_iast (D := (dC, dI)) (cl := vwCl) hx hb hK hP hD (zS0 hS) 1 0 rfl rfl (by unfold vp_in; decide) dX4_houseTold_108 (fun H12 locs hP hD hS1 => ?_)
  have hz : s.heap.size + 1 ≤ H12.size := Nat.le_trans hz hS1.1
  have hS := zSS hS hS1
  replace hP : va_P (dC, dI) vwCl [(mo, .inr (9, [th, .ref am, .int 0, .int 0, .int 0])), (q3, .inl (cI, 6, .inl (upd (upd (upd (upd (upd (upd (fun _ => 0) 0 0) 1 0) 2 0) 3 0) 4 0) 5 0))), (am, .inr (4, [.int mm, .ref (zk 0), .int 0]))] H12 := hP
  replace hD : va_D A [(mo, .inr (9, [th, .ref am, .int 0, .int 0, .int 0])), (q3, .inl (cI, 6, .inl (upd (upd (upd (upd (upd (upd (fun _ => 0) 0 0) 1 0) 2 0) 3 0) 4 0) 5 0))), (am, .inr (4, [.int mm, .ref (zk 0), .int 0]))] := hD
  refine lv_astore (lv' := [(4, .ref q3), (3, .int 0), (2, .int 0), (0, .ref mo), (1, .int 2)]) hx hb dX4_houseTold_109 hl (by decide) rfl (fun ls hl => ?_)
  refine lv_aload hx hb dX4_houseTold_111 (lv_at hl 0 rfl) ?_
  refine lv_iload_n hx hb dX4_houseTold_113 rfl (lv_at hl 4 rfl) ?_
  refine va_iald (D := (dC, dI)) (cl := vwCl) hx hb hK hP 1 0 rfl rfl (by unfold vp_in; decide) dX4_houseTold_114 ?_
  refine lv_topi (fun v13 ev13 => ?_)
  obtain rfl : v13 = 0 := ev13.trans (by decide +kernel)
  have hP9 := hP.sub (ws' := [(mo, .inr (9, [th, .ref am, .int 0, .int 0, .int 0])), (am, .inr (4, [.int mm, .ref (zk 0), .int 0]))]) [0, 2] rfl
  have hD9 := hD.sub (ws' := [(mo, .inr (9, [th, .ref am, .int 0, .int 0, .int 0])), (am, .inr (4, [.int mm, .ref (zk 0), .int 0]))]) [0, 2] (by decide) rfl
  exact W.iret (v := 0) hx hb hr (fun t ht hW => ⟨⟨_, (), rfl, rfl, ⟨by rw [ht]; exact hP9, va_K.moved hW.alike hK, hD9, by rw [ht]; exact hz⟩⟩, hS.F ht⟩) hS.2.2 dX4_houseTold_115

set_option maxHeartbeats 4000000 in
set_option maxRecDepth 100000 in
theorem k_hTold3 (l : Launch) (dC : Nat → ClassId) (dI : Nat → Nat → Nat) (cI cB cR cO : ClassId) (zk : Nat → Nat) (mo am : Nat) (th : Value) (mm : Int32) (sz : Nat)  : Met l yX4_houseTold wsX4_houseTold ({ frames := 1, cells := 1, slots := 6, locals := 20 }) (va_Pc [.ref mo, .int 3] (zPre (dC, dI) (zT cI cB cR cO) zk [] [(mo, .inr (9, [th, .ref am, .int 0, .int 0, .int 0])), (am, .inr (4, [.int mm, .ref (zk 0), .int 0]))] sz)) (va_Qi (fun r (_ : Unit) => r = 0) (fun _ t => zEnd (dC, dI) (zT cI cB cR cO) (va_A [(mo, .inr (9, [th, .ref am, .int 0, .int 0, .int 0])), (am, .inr (4, [.int mm, .ref (zk 0), .int 0]))] sz) [(mo, .inr (9, [th, .ref am, .int 0, .int 0, .int 0])), (am, .inr (4, [.int mm, .ref (zk 0), .int 0]))] sz 1 t) (va_A [(mo, .inr (9, [th, .ref am, .int 0, .int 0, .int 0])), (am, .inr (4, [.int mm, .ref (zk 0), .int 0]))] sz)) 1 6 (va_A [(mo, .inr (9, [th, .ref am, .int 0, .int 0, .int 0])), (am, .inr (4, [.int mm, .ref (zk 0), .int 0]))] sz) := by
  refine Met.ofW (cc := cX4_houseTold) (maxL := 6) (ret := (some .int)) (by decide) rfl ?_
  intro p e s mY args below meth c s₁ B hml hv
  obtain ⟨rfl, hsz, hP, hK, hD0, hZ⟩ := hv
  have hx := B.exec
  have hb := B.bytes
  have hr := B.returns
  have hts := atoms_spec (ws := wsX4_houseTold) B.pre
  have hown : s.vm.findClass RX4 = some mY.cls := findClass_of_methodNamed B.named
  have hlocks := B.notSynchronized
  subst hsz
  have hD := hD0.self (sz := s.heap.size)
  generalize hAe : va_A [(mo, .inr (9, [th, .ref am, .int 0, .int 0, .int 0])), (am, .inr (4, [.int mm, .ref (zk 0), .int 0]))] s.heap.size = A at hD hZ ⊢
  have hA : ∀ q : Nat, s.heap.size ≤ q → A q := fun q h => by rw [← hAe]; exact Or.inr h
  have hS : va_S A s.heap s.heap [] := va_S.rf
  have hz : s.heap.size + 0 ≤ s.heap.size := Nat.le_refl _
  have hl := lv_entry ([.ref mo, .int 3]) (n := 6) (Nat.le_of_ble_eq_true rfl)
  rw [lg_entry_eq]
  generalize (lg_sl ([.ref mo, .int 3]) ++ List.replicate (6 - (lg_sl ([.ref mo, .int 3])).length) Slot.unset).toArray = ls at hl ⊢
  have hl : lv_has ls 6 [(0, .ref mo), (1, .int 3)] := hl
  have hP : va_P (dC, dI) vwCl [(mo, .inr (9, [th, .ref am, .int 0, .int 0, .int 0])), (am, .inr (4, [.int mm, .ref (zk 0), .int 0]))] s.heap := hP
  have hD : va_D A [(mo, .inr (9, [th, .ref am, .int 0, .int 0, .int 0])), (am, .inr (4, [.int mm, .ref (zk 0), .int 0]))] := hD
  refine lv_iconst (v := 0) hx hb dX4_houseTold_0 (by decide) ?_
  refine lv_istore_n (lv' := [(2, .int 0), (0, .ref mo), (1, .int 3)]) hx hb dX4_houseTold_1 rfl hl (by decide) rfl (fun ls hl => ?_)
  refine lv_iconst (v := 0) hx hb dX4_houseTold_2 (by decide) ?_
  refine lv_istore_n (lv' := [(3, .int 0), (2, .int 0), (0, .ref mo), (1, .int 3)]) hx hb dX4_houseTold_3 rfl hl (by decide) rfl (fun ls hl => ?_)
  refine lv_iconst (v := 0) hx hb dX4_houseTold_4 (by decide) ?_
  refine lv_istore (lv' := [(4, .int 0), (3, .int 0), (2, .int 0), (0, .ref mo), (1, .int 3)]) hx hb dX4_houseTold_5 hl (by decide) rfl (fun ls hl => ?_)
  refine lv_iload hx hb dX4_houseTold_7 (lv_at hl 0 rfl) ?_
  refine lv_aload_n hx hb dX4_houseTold_9 rfl (lv_at hl 3 rfl) ?_
  refine va_get (D := (dC, dI)) (ci := 9) (v := .ref am) (C := RX4) (T := TX4) (N := 5) hx hb hts hi_X4_houseTold_X4 hown hK hP 0 rfl rfl 1 (by decide) (hts (.fieldLink RX4 10 "DeeprowsModel" "rows" "Ljava/util/ArrayList;") (List.mem_cons_of_mem _ zw_1128)) (fun _ h9 => h9) rfl dX4_houseTold_10 ?_
  have hPc := hP.sub (ws' := [(am, .inr (4, [.int mm, .ref (zk 0), .int 0]))]) [1] rfl
  have hDc := hD.sub (ws' := [(am, .inr (4, [.int mm, .ref (zk 0), .int 0]))]) [1] (by decide) rfl
  have hFc := va_free (wc := [(am, .inr (4, [.int mm, .ref (zk 0), .int 0]))]) hD hS hA [1] rfl
  have hDv := hDc.self (sz := s.heap.size)
  have hpre := zpre (xs' := []) (av := [.ref am]) hPc hK (hDc.weaken (fun _ _ _ h => h)) hZ hS hFc (fun r hr => by cases hr)
  refine va_calli (va_runV (As := []) (rest := [.int 0]) ⟨hx, hb, hml, hown, hts⟩ (k_size l dC dI cI cB cR cO zk am (zk 0) 0 (.int mm) s.heap.size ) (cwV 0 hts gX4_houseTold_Jx4a65c_size_8abf5 rfl rfl rfl (by decide +kernel) ⟨Nat.le_of_ble_eq_true rfl, Nat.le_of_ble_eq_true rfl⟩) ⟨zblind, (zrecv_4 hK hPc (q0 := 0) rfl), hpre⟩ rfl rfl hl.1 rfl (lv_room (Nat.le_of_ble_eq_true rfl)) dX4_houseTold_13 ⟨Nat.le_of_ble_eq_true rfl, Nat.le_of_ble_eq_true rfl⟩) hS (fun q _ h => hFc q h) hFc (fun r2 u t H1 locs ht hvm hw hB hz1 hk1 hS => ?_)
  obtain rfl : 0 = r2 := (show r2 = 0 from hw).symm
  obtain ⟨hP1, hK1, hD1, hz2⟩ := hB
  rw [ht] at hP1 hz2
  have hPD9 := va_join (wr := [(mo, .inr (9, [th, .ref am, .int 0, .int 0, .int 0]))]) (w1 := [(am, .inr (4, [.int mm, .ref (zk 0), .int 0]))]) hP hD [1] [0] rfl rfl (by decide) (by decide) hk1 hFc hP1 hD1
  clear hPc hDc hFc hDv hpre hP hD hP1 hK1 hD1
  obtain ⟨hP, hD⟩ := hPD9
  replace hz : s.heap.size + 0 ≤ H1.size := by omega
  clear hz2
  replace hP : va_P (dC, dI) vwCl [(mo, .inr (9, [th, .ref am, .int 0, .int 0, .int 0])), (am, .inr (4, [.int mm, .ref (zk 0), .int 0]))] H1 := hP
  replace hD : va_D A [(mo, .inr (9, [th, .ref am, .int 0, .int 0, .int 0])), (am, .inr (4, [.int mm, .ref (zk 0), .int 0]))] := hD
  refine W.widen (k := 0) (n := 0) (by omega) (by omega) ?_
  refine lv_icmp_ge (tgt := 66) hx hb dX4_houseTold_16 (by decide) (fun c9 => ?_) (fun c9 => ?_)
  rotate_left
  · exact absurd (by decide) c9
  refine lv_bipush (v := 6) hx hb dX4_houseTold_66 (by decide) ?_
  refine zw_newa (atype := .int) (ty := .int) (N' := 6) hx hb (hts (.arrayClass .int) (List.mem_cons_of_mem _ zw_131)) rfl (by first | exact Or.inl rfl | exact Or.inr rfl) hK hP hD hS hA 0 rfl (by decide) (by decide) (Nat.le_of_ble_eq_true rfl) (Nat.le_of_ble_eq_true rfl) (Nat.le_of_ble_eq_true rfl) dX4_houseTold_68 hz (fun q3 H4 hP hD hS hz => ?_)
  replace hP : va_P (dC, dI) vwCl [(mo, .inr (9, [th, .ref am, .int 0, .int 0, .int 0])), (am, .inr (4, [.int mm, .ref (zk 0), .int 0])), (q3, .inl (cI, 6, .inl (fun _ => 0)))] H4 := hP
  replace hD : va_D A [(mo, .inr (9, [th, .ref am, .int 0, .int 0, .int 0])), (am, .inr (4, [.int mm, .ref (zk 0), .int 0])), (q3, .inl (cI, 6, .inl (fun _ => 0)))] := hD
  refine W.widen (k := 1) (n := 6) (by omega) (by omega) ?_
  refine lv_dup hx hb dX4_houseTold_70 rfl ?_
  refine lv_iconst (v := 0) hx hb dX4_houseTold_71 (by decide) ?_
  refine lv_aload_n hx hb dX4_houseTold_72 rfl (lv_at hl 3 rfl) ?_
  refine va_get (D := (dC, dI)) (ci := 9) (v := .ref am) (C := RX4) (T := TX4) (N := 5) hx hb hts hi_X4_houseTold_X4 hown hK hP 0 rfl rfl 1 (by decide) (hts (.fieldLink RX4 10 "DeeprowsModel" "rows" "Ljava/util/ArrayList;") (List.mem_cons_of_mem _ zw_1128)) (fun _ h9 => h9) rfl dX4_houseTold_73 ?_
  have hPc := hP.sub (ws' := [(am, .inr (4, [.int mm, .ref (zk 0), .int 0]))]) [1] rfl
  have hDc := hD.sub (ws' := [(am, .inr (4, [.int mm, .ref (zk 0), .int 0]))]) [1] (by decide) rfl
  have hFc := va_free (wc := [(am, .inr (4, [.int mm, .ref (zk 0), .int 0]))]) hD hS hA [1] rfl
  have hDv := hDc.self (sz := H4.size)
  have hpre := zpre (xs' := []) (av := [.ref am]) hPc hK (hDc.weaken (fun _ _ _ h => h)) hZ hS hFc (fun r hr => by cases hr)
  refine va_calli (va_runV (As := []) (rest := [.int 0, .ref q3, .ref q3]) ⟨hx, hb, hml, hown, hts⟩ (k_size l dC dI cI cB cR cO zk am (zk 0) 0 (.int mm) H4.size ) (cwV 0 hts gX4_houseTold_Jx4a65c_size_8abf5 rfl rfl rfl (by decide +kernel) ⟨Nat.le_of_ble_eq_true rfl, Nat.le_of_ble_eq_true rfl⟩) ⟨zblind, (zrecv_4 hK hPc (q0 := 0) rfl), hpre⟩ rfl rfl hl.1 rfl (lv_room (Nat.le_of_ble_eq_true rfl)) dX4_houseTold_76 ⟨Nat.le_of_ble_eq_true rfl, Nat.le_of_ble_eq_true rfl⟩) hS (fun q _ h => hFc q h) hFc (fun r6 u t H5 locs ht hvm hw hB hz1 hk1 hS => ?_)
  obtain rfl : 0 = r6 := (show r6 = 0 from hw).symm
  obtain ⟨hP1, hK1, hD1, hz2⟩ := hB
  rw [ht] at hP1 hz2
  have hPD9 := va_join (wr := [(mo, .inr (9, [th, .ref am, .int 0, .int 0, .int 0])), (q3, .inl (cI, 6, .inl (fun _ => 0)))]) (w1 := [(am, .inr (4, [.int mm, .ref (zk 0), .int 0]))]) hP hD [1] [0, 2] rfl rfl (by decide) (by decide) hk1 hFc hP1 hD1
  clear hPc hDc hFc hDv hpre hP hD hP1 hK1 hD1
  obtain ⟨hP, hD⟩ := hPD9
  replace hz : s.heap.size + 1 ≤ H5.size := by omega
  clear hz2
  replace hP : va_P (dC, dI) vwCl [(mo, .inr (9, [th, .ref am, .int 0, .int 0, .int 0])), (q3, .inl (cI, 6, .inl (fun _ => 0))), (am, .inr (4, [.int mm, .ref (zk 0), .int 0]))] H5 := hP
  replace hD : va_D A [(mo, .inr (9, [th, .ref am, .int 0, .int 0, .int 0])), (q3, .inl (cI, 6, .inl (fun _ => 0))), (am, .inr (4, [.int mm, .ref (zk 0), .int 0]))] := hD
  refine W.widen (k := 1) (n := 6) (by omega) (by omega) ?_
  refine va_iast (D := (dC, dI)) (cl := vwCl) hx hb hK hP hD (zS0 hS) 1 0 rfl rfl (by unfold vp_in; decide) dX4_houseTold_79 (fun H7 locs hP hD hS1 => ?_)
  have hz : s.heap.size + 1 ≤ H7.size := Nat.le_trans hz hS1.1
  have hS := zSS hS hS1
  replace hP : va_P (dC, dI) vwCl [(mo, .inr (9, [th, .ref am, .int 0, .int 0, .int 0])), (q3, .inl (cI, 6, .inl (upd (fun _ => 0) 0 0))), (am, .inr (4, [.int mm, .ref (zk 0), .int 0]))] H7 := hP
  replace hD : va_D A [(mo, .inr (9, [th, .ref am, .int 0, .int 0, .int 0])), (q3, .inl (cI, 6, .inl (upd (fun _ => 0) 0 0))), (am, .inr (4, [.int mm, .ref (zk 0), .int 0]))] := hD
  refine lv_dup hx hb dX4_houseTold_80 rfl ?_
  refine lv_iconst (v := 1) hx hb dX4_houseTold_81 (by decide) ?_
  refine lv_aload_n hx hb dX4_houseTold_82 rfl (lv_at hl 3 rfl) ?_
  refine va_get (D := (dC, dI)) (ci := 9) (v := .int 0) (C := RX4) (T := TX4) (N := 5) hx hb hts hi_X4_houseTold_X4 hown hK hP 0 rfl rfl 2 (by decide) (hts (.fieldLink RX4 120 "DeeprowsModel" "made" "I") (List.mem_cons_of_mem _ zw_1129)) (fun _ h9 => h9) rfl dX4_houseTold_83 ?_
  refine va_iast (D := (dC, dI)) (cl := vwCl) hx hb hK hP hD (zS0 hS) 1 0 rfl rfl (by unfold vp_in; decide) dX4_houseTold_86 (fun H8 locs hP hD hS1 => ?_)
  have hz : s.heap.size + 1 ≤ H8.size := Nat.le_trans hz hS1.1
  have hS := zSS hS hS1
  replace hP : va_P (dC, dI) vwCl [(mo, .inr (9, [th, .ref am, .int 0, .int 0, .int 0])), (q3, .inl (cI, 6, .inl (upd (upd (fun _ => 0) 0 0) 1 0))), (am, .inr (4, [.int mm, .ref (zk 0), .int 0]))] H8 := hP
  replace hD : va_D A [(mo, .inr (9, [th, .ref am, .int 0, .int 0, .int 0])), (q3, .inl (cI, 6, .inl (upd (upd (fun _ => 0) 0 0) 1 0))), (am, .inr (4, [.int mm, .ref (zk 0), .int 0]))] := hD
  refine lv_dup hx hb dX4_houseTold_87 rfl ?_
  refine lv_iconst (v := 2) hx hb dX4_houseTold_88 (by decide) ?_
  refine lv_aload_n hx hb dX4_houseTold_89 rfl (lv_at hl 3 rfl) ?_
  refine va_get (D := (dC, dI)) (ci := 9) (v := .int 0) (C := RX4) (T := TX4) (N := 5) hx hb hts hi_X4_houseTold_X4 hown hK hP 0 rfl rfl 3 (by decide) (hts (.fieldLink RX4 114 "DeeprowsModel" "refused" "I") (List.mem_cons_of_mem _ zw_1130)) (fun _ h9 => h9) rfl dX4_houseTold_90 ?_
  refine va_iast (D := (dC, dI)) (cl := vwCl) hx hb hK hP hD (zS0 hS) 1 0 rfl rfl (by unfold vp_in; decide) dX4_houseTold_93 (fun H9 locs hP hD hS1 => ?_)
  have hz : s.heap.size + 1 ≤ H9.size := Nat.le_trans hz hS1.1
  have hS := zSS hS hS1
  replace hP : va_P (dC, dI) vwCl [(mo, .inr (9, [th, .ref am, .int 0, .int 0, .int 0])), (q3, .inl (cI, 6, .inl (upd (upd (upd (fun _ => 0) 0 0) 1 0) 2 0))), (am, .inr (4, [.int mm, .ref (zk 0), .int 0]))] H9 := hP
  replace hD : va_D A [(mo, .inr (9, [th, .ref am, .int 0, .int 0, .int 0])), (q3, .inl (cI, 6, .inl (upd (upd (upd (fun _ => 0) 0 0) 1 0) 2 0))), (am, .inr (4, [.int mm, .ref (zk 0), .int 0]))] := hD
  refine lv_dup hx hb dX4_houseTold_94 rfl ?_
  refine lv_iconst (v := 3) hx hb dX4_houseTold_95 (by decide) ?_
  refine lv_aload_n hx hb dX4_houseTold_96 rfl (lv_at hl 3 rfl) ?_
  refine va_get (D := (dC, dI)) (ci := 9) (v := .int 0) (C := RX4) (T := TX4) (N := 5) hx hb hts hi_X4_houseTold_X4 hown hK hP 0 rfl rfl 4 (by decide) (hts (.fieldLink RX4 207 "DeeprowsModel" "knocked" "I") (List.mem_cons_of_mem _ zw_1131)) (fun _ h9 => h9) rfl dX4_houseTold_97 ?_
  refine va_iast (D := (dC, dI)) (cl := vwCl) hx hb hK hP hD (zS0 hS) 1 0 rfl rfl (by unfold vp_in; decide) dX4_houseTold_100 (fun H10 locs hP hD hS1 => ?_)
  have hz : s.heap.size + 1 ≤ H10.size := Nat.le_trans hz hS1.1
  have hS := zSS hS hS1
  replace hP : va_P (dC, dI) vwCl [(mo, .inr (9, [th, .ref am, .int 0, .int 0, .int 0])), (q3, .inl (cI, 6, .inl (upd (upd (upd (upd (fun _ => 0) 0 0) 1 0) 2 0) 3 0))), (am, .inr (4, [.int mm, .ref (zk 0), .int 0]))] H10 := hP
  replace hD : va_D A [(mo, .inr (9, [th, .ref am, .int 0, .int 0, .int 0])), (q3, .inl (cI, 6, .inl (upd (upd (upd (upd (fun _ => 0) 0 0) 1 0) 2 0) 3 0))), (am, .inr (4, [.int mm, .ref (zk 0), .int 0]))] := hD
  refine lv_dup hx hb dX4_houseTold_101 rfl ?_
  refine lv_iconst (v := 4) hx hb dX4_houseTold_102 (by decide) ?_
  refine lv_iload_n hx hb dX4_houseTold_103 rfl (lv_at hl 2 rfl) ?_
  refine va_iast (D := (dC, dI)) (cl := vwCl) hx hb hK hP hD (zS0 hS) 1 0 rfl rfl (by unfold vp_in; decide) dX4_houseTold_104 (fun H11 locs hP hD hS1 => ?_)
  have hz : s.heap.size + 1 ≤ H11.size := Nat.le_trans hz hS1.1
  have hS := zSS hS hS1
  replace hP : va_P (dC, dI) vwCl [(mo, .inr (9, [th, .ref am, .int 0, .int 0, .int 0])), (q3, .inl (cI, 6, .inl (upd (upd (upd (upd (upd (fun _ => 0) 0 0) 1 0) 2 0) 3 0) 4 0))), (am, .inr (4, [.int mm, .ref (zk 0), .int 0]))] H11 := hP
  replace hD : va_D A [(mo, .inr (9, [th, .ref am, .int 0, .int 0, .int 0])), (q3, .inl (cI, 6, .inl (upd (upd (upd (upd (upd (fun _ => 0) 0 0) 1 0) 2 0) 3 0) 4 0))), (am, .inr (4, [.int mm, .ref (zk 0), .int 0]))] := hD
  refine lv_dup hx hb dX4_houseTold_105 rfl ?_
  refine lv_iconst (v := 5) hx hb dX4_houseTold_106 (by decide) ?_
  refine lv_iload_n hx hb dX4_houseTold_107 rfl (lv_at hl 1 rfl) ?_
  refine va_iast (D := (dC, dI)) (cl := vwCl) hx hb hK hP hD (zS0 hS) 1 0 rfl rfl (by unfold vp_in; decide) dX4_houseTold_108 (fun H12 locs hP hD hS1 => ?_)
  have hz : s.heap.size + 1 ≤ H12.size := Nat.le_trans hz hS1.1
  have hS := zSS hS hS1
  replace hP : va_P (dC, dI) vwCl [(mo, .inr (9, [th, .ref am, .int 0, .int 0, .int 0])), (q3, .inl (cI, 6, .inl (upd (upd (upd (upd (upd (upd (fun _ => 0) 0 0) 1 0) 2 0) 3 0) 4 0) 5 0))), (am, .inr (4, [.int mm, .ref (zk 0), .int 0]))] H12 := hP
  replace hD : va_D A [(mo, .inr (9, [th, .ref am, .int 0, .int 0, .int 0])), (q3, .inl (cI, 6, .inl (upd (upd (upd (upd (upd (upd (fun _ => 0) 0 0) 1 0) 2 0) 3 0) 4 0) 5 0))), (am, .inr (4, [.int mm, .ref (zk 0), .int 0]))] := hD
  refine lv_astore (lv' := [(4, .ref q3), (3, .int 0), (2, .int 0), (0, .ref mo), (1, .int 3)]) hx hb dX4_houseTold_109 hl (by decide) rfl (fun ls hl => ?_)
  refine lv_aload hx hb dX4_houseTold_111 (lv_at hl 0 rfl) ?_
  refine lv_iload_n hx hb dX4_houseTold_113 rfl (lv_at hl 4 rfl) ?_
  refine va_iald (D := (dC, dI)) (cl := vwCl) hx hb hK hP 1 0 rfl rfl (by unfold vp_in; decide) dX4_houseTold_114 ?_
  refine lv_topi (fun v13 ev13 => ?_)
  obtain rfl : v13 = 0 := ev13.trans (by decide +kernel)
  have hP9 := hP.sub (ws' := [(mo, .inr (9, [th, .ref am, .int 0, .int 0, .int 0])), (am, .inr (4, [.int mm, .ref (zk 0), .int 0]))]) [0, 2] rfl
  have hD9 := hD.sub (ws' := [(mo, .inr (9, [th, .ref am, .int 0, .int 0, .int 0])), (am, .inr (4, [.int mm, .ref (zk 0), .int 0]))]) [0, 2] (by decide) rfl
  exact W.iret (v := 0) hx hb hr (fun t ht hW => ⟨⟨_, (), rfl, rfl, ⟨by rw [ht]; exact hP9, va_K.moved hW.alike hK, hD9, by rw [ht]; exact hz⟩⟩, hS.F ht⟩) hS.2.2 dX4_houseTold_115

set_option maxHeartbeats 4000000 in
set_option maxRecDepth 100000 in
theorem k_hTold4 (l : Launch) (dC : Nat → ClassId) (dI : Nat → Nat → Nat) (cI cB cR cO : ClassId) (zk : Nat → Nat) (mo am : Nat) (th : Value) (mm : Int32) (sz : Nat)  : Met l yX4_houseTold wsX4_houseTold ({ frames := 1, cells := 1, slots := 6, locals := 20 }) (va_Pc [.ref mo, .int 4] (zPre (dC, dI) (zT cI cB cR cO) zk [] [(mo, .inr (9, [th, .ref am, .int 0, .int 0, .int 0])), (am, .inr (4, [.int mm, .ref (zk 0), .int 0]))] sz)) (va_Qi (fun r (_ : Unit) => r = 0) (fun _ t => zEnd (dC, dI) (zT cI cB cR cO) (va_A [(mo, .inr (9, [th, .ref am, .int 0, .int 0, .int 0])), (am, .inr (4, [.int mm, .ref (zk 0), .int 0]))] sz) [(mo, .inr (9, [th, .ref am, .int 0, .int 0, .int 0])), (am, .inr (4, [.int mm, .ref (zk 0), .int 0]))] sz 1 t) (va_A [(mo, .inr (9, [th, .ref am, .int 0, .int 0, .int 0])), (am, .inr (4, [.int mm, .ref (zk 0), .int 0]))] sz)) 1 6 (va_A [(mo, .inr (9, [th, .ref am, .int 0, .int 0, .int 0])), (am, .inr (4, [.int mm, .ref (zk 0), .int 0]))] sz) := by
  refine Met.ofW (cc := cX4_houseTold) (maxL := 6) (ret := (some .int)) (by decide) rfl ?_
  intro p e s mY args below meth c s₁ B hml hv
  obtain ⟨rfl, hsz, hP, hK, hD0, hZ⟩ := hv
  have hx := B.exec
  have hb := B.bytes
  have hr := B.returns
  have hts := atoms_spec (ws := wsX4_houseTold) B.pre
  have hown : s.vm.findClass RX4 = some mY.cls := findClass_of_methodNamed B.named
  have hlocks := B.notSynchronized
  subst hsz
  have hD := hD0.self (sz := s.heap.size)
  generalize hAe : va_A [(mo, .inr (9, [th, .ref am, .int 0, .int 0, .int 0])), (am, .inr (4, [.int mm, .ref (zk 0), .int 0]))] s.heap.size = A at hD hZ ⊢
  have hA : ∀ q : Nat, s.heap.size ≤ q → A q := fun q h => by rw [← hAe]; exact Or.inr h
  have hS : va_S A s.heap s.heap [] := va_S.rf
  have hz : s.heap.size + 0 ≤ s.heap.size := Nat.le_refl _
  have hl := lv_entry ([.ref mo, .int 4]) (n := 6) (Nat.le_of_ble_eq_true rfl)
  rw [lg_entry_eq]
  generalize (lg_sl ([.ref mo, .int 4]) ++ List.replicate (6 - (lg_sl ([.ref mo, .int 4])).length) Slot.unset).toArray = ls at hl ⊢
  have hl : lv_has ls 6 [(0, .ref mo), (1, .int 4)] := hl
  have hP : va_P (dC, dI) vwCl [(mo, .inr (9, [th, .ref am, .int 0, .int 0, .int 0])), (am, .inr (4, [.int mm, .ref (zk 0), .int 0]))] s.heap := hP
  have hD : va_D A [(mo, .inr (9, [th, .ref am, .int 0, .int 0, .int 0])), (am, .inr (4, [.int mm, .ref (zk 0), .int 0]))] := hD
  refine lv_iconst (v := 0) hx hb dX4_houseTold_0 (by decide) ?_
  refine lv_istore_n (lv' := [(2, .int 0), (0, .ref mo), (1, .int 4)]) hx hb dX4_houseTold_1 rfl hl (by decide) rfl (fun ls hl => ?_)
  refine lv_iconst (v := 0) hx hb dX4_houseTold_2 (by decide) ?_
  refine lv_istore_n (lv' := [(3, .int 0), (2, .int 0), (0, .ref mo), (1, .int 4)]) hx hb dX4_houseTold_3 rfl hl (by decide) rfl (fun ls hl => ?_)
  refine lv_iconst (v := 0) hx hb dX4_houseTold_4 (by decide) ?_
  refine lv_istore (lv' := [(4, .int 0), (3, .int 0), (2, .int 0), (0, .ref mo), (1, .int 4)]) hx hb dX4_houseTold_5 hl (by decide) rfl (fun ls hl => ?_)
  refine lv_iload hx hb dX4_houseTold_7 (lv_at hl 0 rfl) ?_
  refine lv_aload_n hx hb dX4_houseTold_9 rfl (lv_at hl 3 rfl) ?_
  refine va_get (D := (dC, dI)) (ci := 9) (v := .ref am) (C := RX4) (T := TX4) (N := 5) hx hb hts hi_X4_houseTold_X4 hown hK hP 0 rfl rfl 1 (by decide) (hts (.fieldLink RX4 10 "DeeprowsModel" "rows" "Ljava/util/ArrayList;") (List.mem_cons_of_mem _ zw_1128)) (fun _ h9 => h9) rfl dX4_houseTold_10 ?_
  have hPc := hP.sub (ws' := [(am, .inr (4, [.int mm, .ref (zk 0), .int 0]))]) [1] rfl
  have hDc := hD.sub (ws' := [(am, .inr (4, [.int mm, .ref (zk 0), .int 0]))]) [1] (by decide) rfl
  have hFc := va_free (wc := [(am, .inr (4, [.int mm, .ref (zk 0), .int 0]))]) hD hS hA [1] rfl
  have hDv := hDc.self (sz := s.heap.size)
  have hpre := zpre (xs' := []) (av := [.ref am]) hPc hK (hDc.weaken (fun _ _ _ h => h)) hZ hS hFc (fun r hr => by cases hr)
  refine va_calli (va_runV (As := []) (rest := [.int 0]) ⟨hx, hb, hml, hown, hts⟩ (k_size l dC dI cI cB cR cO zk am (zk 0) 0 (.int mm) s.heap.size ) (cwV 0 hts gX4_houseTold_Jx4a65c_size_8abf5 rfl rfl rfl (by decide +kernel) ⟨Nat.le_of_ble_eq_true rfl, Nat.le_of_ble_eq_true rfl⟩) ⟨zblind, (zrecv_4 hK hPc (q0 := 0) rfl), hpre⟩ rfl rfl hl.1 rfl (lv_room (Nat.le_of_ble_eq_true rfl)) dX4_houseTold_13 ⟨Nat.le_of_ble_eq_true rfl, Nat.le_of_ble_eq_true rfl⟩) hS (fun q _ h => hFc q h) hFc (fun r2 u t H1 locs ht hvm hw hB hz1 hk1 hS => ?_)
  obtain rfl : 0 = r2 := (show r2 = 0 from hw).symm
  obtain ⟨hP1, hK1, hD1, hz2⟩ := hB
  rw [ht] at hP1 hz2
  have hPD9 := va_join (wr := [(mo, .inr (9, [th, .ref am, .int 0, .int 0, .int 0]))]) (w1 := [(am, .inr (4, [.int mm, .ref (zk 0), .int 0]))]) hP hD [1] [0] rfl rfl (by decide) (by decide) hk1 hFc hP1 hD1
  clear hPc hDc hFc hDv hpre hP hD hP1 hK1 hD1
  obtain ⟨hP, hD⟩ := hPD9
  replace hz : s.heap.size + 0 ≤ H1.size := by omega
  clear hz2
  replace hP : va_P (dC, dI) vwCl [(mo, .inr (9, [th, .ref am, .int 0, .int 0, .int 0])), (am, .inr (4, [.int mm, .ref (zk 0), .int 0]))] H1 := hP
  replace hD : va_D A [(mo, .inr (9, [th, .ref am, .int 0, .int 0, .int 0])), (am, .inr (4, [.int mm, .ref (zk 0), .int 0]))] := hD
  refine W.widen (k := 0) (n := 0) (by omega) (by omega) ?_
  refine lv_icmp_ge (tgt := 66) hx hb dX4_houseTold_16 (by decide) (fun c9 => ?_) (fun c9 => ?_)
  rotate_left
  · exact absurd (by decide) c9
  refine lv_bipush (v := 6) hx hb dX4_houseTold_66 (by decide) ?_
  refine zw_newa (atype := .int) (ty := .int) (N' := 6) hx hb (hts (.arrayClass .int) (List.mem_cons_of_mem _ zw_131)) rfl (by first | exact Or.inl rfl | exact Or.inr rfl) hK hP hD hS hA 0 rfl (by decide) (by decide) (Nat.le_of_ble_eq_true rfl) (Nat.le_of_ble_eq_true rfl) (Nat.le_of_ble_eq_true rfl) dX4_houseTold_68 hz (fun q3 H4 hP hD hS hz => ?_)
  replace hP : va_P (dC, dI) vwCl [(mo, .inr (9, [th, .ref am, .int 0, .int 0, .int 0])), (am, .inr (4, [.int mm, .ref (zk 0), .int 0])), (q3, .inl (cI, 6, .inl (fun _ => 0)))] H4 := hP
  replace hD : va_D A [(mo, .inr (9, [th, .ref am, .int 0, .int 0, .int 0])), (am, .inr (4, [.int mm, .ref (zk 0), .int 0])), (q3, .inl (cI, 6, .inl (fun _ => 0)))] := hD
  refine W.widen (k := 1) (n := 6) (by omega) (by omega) ?_
  refine lv_dup hx hb dX4_houseTold_70 rfl ?_
  refine lv_iconst (v := 0) hx hb dX4_houseTold_71 (by decide) ?_
  refine lv_aload_n hx hb dX4_houseTold_72 rfl (lv_at hl 3 rfl) ?_
  refine va_get (D := (dC, dI)) (ci := 9) (v := .ref am) (C := RX4) (T := TX4) (N := 5) hx hb hts hi_X4_houseTold_X4 hown hK hP 0 rfl rfl 1 (by decide) (hts (.fieldLink RX4 10 "DeeprowsModel" "rows" "Ljava/util/ArrayList;") (List.mem_cons_of_mem _ zw_1128)) (fun _ h9 => h9) rfl dX4_houseTold_73 ?_
  have hPc := hP.sub (ws' := [(am, .inr (4, [.int mm, .ref (zk 0), .int 0]))]) [1] rfl
  have hDc := hD.sub (ws' := [(am, .inr (4, [.int mm, .ref (zk 0), .int 0]))]) [1] (by decide) rfl
  have hFc := va_free (wc := [(am, .inr (4, [.int mm, .ref (zk 0), .int 0]))]) hD hS hA [1] rfl
  have hDv := hDc.self (sz := H4.size)
  have hpre := zpre (xs' := []) (av := [.ref am]) hPc hK (hDc.weaken (fun _ _ _ h => h)) hZ hS hFc (fun r hr => by cases hr)
  refine va_calli (va_runV (As := []) (rest := [.int 0, .ref q3, .ref q3]) ⟨hx, hb, hml, hown, hts⟩ (k_size l dC dI cI cB cR cO zk am (zk 0) 0 (.int mm) H4.size ) (cwV 0 hts gX4_houseTold_Jx4a65c_size_8abf5 rfl rfl rfl (by decide +kernel) ⟨Nat.le_of_ble_eq_true rfl, Nat.le_of_ble_eq_true rfl⟩) ⟨zblind, (zrecv_4 hK hPc (q0 := 0) rfl), hpre⟩ rfl rfl hl.1 rfl (lv_room (Nat.le_of_ble_eq_true rfl)) dX4_houseTold_76 ⟨Nat.le_of_ble_eq_true rfl, Nat.le_of_ble_eq_true rfl⟩) hS (fun q _ h => hFc q h) hFc (fun r6 u t H5 locs ht hvm hw hB hz1 hk1 hS => ?_)
  obtain rfl : 0 = r6 := (show r6 = 0 from hw).symm
  obtain ⟨hP1, hK1, hD1, hz2⟩ := hB
  rw [ht] at hP1 hz2
  have hPD9 := va_join (wr := [(mo, .inr (9, [th, .ref am, .int 0, .int 0, .int 0])), (q3, .inl (cI, 6, .inl (fun _ => 0)))]) (w1 := [(am, .inr (4, [.int mm, .ref (zk 0), .int 0]))]) hP hD [1] [0, 2] rfl rfl (by decide) (by decide) hk1 hFc hP1 hD1
  clear hPc hDc hFc hDv hpre hP hD hP1 hK1 hD1
  obtain ⟨hP, hD⟩ := hPD9
  replace hz : s.heap.size + 1 ≤ H5.size := by omega
  clear hz2
  replace hP : va_P (dC, dI) vwCl [(mo, .inr (9, [th, .ref am, .int 0, .int 0, .int 0])), (q3, .inl (cI, 6, .inl (fun _ => 0))), (am, .inr (4, [.int mm, .ref (zk 0), .int 0]))] H5 := hP
  replace hD : va_D A [(mo, .inr (9, [th, .ref am, .int 0, .int 0, .int 0])), (q3, .inl (cI, 6, .inl (fun _ => 0))), (am, .inr (4, [.int mm, .ref (zk 0), .int 0]))] := hD
  refine W.widen (k := 1) (n := 6) (by omega) (by omega) ?_
  refine va_iast (D := (dC, dI)) (cl := vwCl) hx hb hK hP hD (zS0 hS) 1 0 rfl rfl (by unfold vp_in; decide) dX4_houseTold_79 (fun H7 locs hP hD hS1 => ?_)
  have hz : s.heap.size + 1 ≤ H7.size := Nat.le_trans hz hS1.1
  have hS := zSS hS hS1
  replace hP : va_P (dC, dI) vwCl [(mo, .inr (9, [th, .ref am, .int 0, .int 0, .int 0])), (q3, .inl (cI, 6, .inl (upd (fun _ => 0) 0 0))), (am, .inr (4, [.int mm, .ref (zk 0), .int 0]))] H7 := hP
  replace hD : va_D A [(mo, .inr (9, [th, .ref am, .int 0, .int 0, .int 0])), (q3, .inl (cI, 6, .inl (upd (fun _ => 0) 0 0))), (am, .inr (4, [.int mm, .ref (zk 0), .int 0]))] := hD
  refine lv_dup hx hb dX4_houseTold_80 rfl ?_
  refine lv_iconst (v := 1) hx hb dX4_houseTold_81 (by decide) ?_
  refine lv_aload_n hx hb dX4_houseTold_82 rfl (lv_at hl 3 rfl) ?_
  refine va_get (D := (dC, dI)) (ci := 9) (v := .int 0) (C := RX4) (T := TX4) (N := 5) hx hb hts hi_X4_houseTold_X4 hown hK hP 0 rfl rfl 2 (by decide) (hts (.fieldLink RX4 120 "DeeprowsModel" "made" "I") (List.mem_cons_of_mem _ zw_1129)) (fun _ h9 => h9) rfl dX4_houseTold_83 ?_
  refine va_iast (D := (dC, dI)) (cl := vwCl) hx hb hK hP hD (zS0 hS) 1 0 rfl rfl (by unfold vp_in; decide) dX4_houseTold_86 (fun H8 locs hP hD hS1 => ?_)
  have hz : s.heap.size + 1 ≤ H8.size := Nat.le_trans hz hS1.1
  have hS := zSS hS hS1
  replace hP : va_P (dC, dI) vwCl [(mo, .inr (9, [th, .ref am, .int 0, .int 0, .int 0])), (q3, .inl (cI, 6, .inl (upd (upd (fun _ => 0) 0 0) 1 0))), (am, .inr (4, [.int mm, .ref (zk 0), .int 0]))] H8 := hP
  replace hD : va_D A [(mo, .inr (9, [th, .ref am, .int 0, .int 0, .int 0])), (q3, .inl (cI, 6, .inl (upd (upd (fun _ => 0) 0 0) 1 0))), (am, .inr (4, [.int mm, .ref (zk 0), .int 0]))] := hD
  refine lv_dup hx hb dX4_houseTold_87 rfl ?_
  refine lv_iconst (v := 2) hx hb dX4_houseTold_88 (by decide) ?_
  refine lv_aload_n hx hb dX4_houseTold_89 rfl (lv_at hl 3 rfl) ?_
  refine va_get (D := (dC, dI)) (ci := 9) (v := .int 0) (C := RX4) (T := TX4) (N := 5) hx hb hts hi_X4_houseTold_X4 hown hK hP 0 rfl rfl 3 (by decide) (hts (.fieldLink RX4 114 "DeeprowsModel" "refused" "I") (List.mem_cons_of_mem _ zw_1130)) (fun _ h9 => h9) rfl dX4_houseTold_90 ?_
  refine va_iast (D := (dC, dI)) (cl := vwCl) hx hb hK hP hD (zS0 hS) 1 0 rfl rfl (by unfold vp_in; decide) dX4_houseTold_93 (fun H9 locs hP hD hS1 => ?_)
  have hz : s.heap.size + 1 ≤ H9.size := Nat.le_trans hz hS1.1
  have hS := zSS hS hS1
  replace hP : va_P (dC, dI) vwCl [(mo, .inr (9, [th, .ref am, .int 0, .int 0, .int 0])), (q3, .inl (cI, 6, .inl (upd (upd (upd (fun _ => 0) 0 0) 1 0) 2 0))), (am, .inr (4, [.int mm, .ref (zk 0), .int 0]))] H9 := hP
  replace hD : va_D A [(mo, .inr (9, [th, .ref am, .int 0, .int 0, .int 0])), (q3, .inl (cI, 6, .inl (upd (upd (upd (fun _ => 0) 0 0) 1 0) 2 0))), (am, .inr (4, [.int mm, .ref (zk 0), .int 0]))] := hD
  refine lv_dup hx hb dX4_houseTold_94 rfl ?_
  refine lv_iconst (v := 3) hx hb dX4_houseTold_95 (by decide) ?_
  refine lv_aload_n hx hb dX4_houseTold_96 rfl (lv_at hl 3 rfl) ?_
  refine va_get (D := (dC, dI)) (ci := 9) (v := .int 0) (C := RX4) (T := TX4) (N := 5) hx hb hts hi_X4_houseTold_X4 hown hK hP 0 rfl rfl 4 (by decide) (hts (.fieldLink RX4 207 "DeeprowsModel" "knocked" "I") (List.mem_cons_of_mem _ zw_1131)) (fun _ h9 => h9) rfl dX4_houseTold_97 ?_
  refine va_iast (D := (dC, dI)) (cl := vwCl) hx hb hK hP hD (zS0 hS) 1 0 rfl rfl (by unfold vp_in; decide) dX4_houseTold_100 (fun H10 locs hP hD hS1 => ?_)
  have hz : s.heap.size + 1 ≤ H10.size := Nat.le_trans hz hS1.1
  have hS := zSS hS hS1
  replace hP : va_P (dC, dI) vwCl [(mo, .inr (9, [th, .ref am, .int 0, .int 0, .int 0])), (q3, .inl (cI, 6, .inl (upd (upd (upd (upd (fun _ => 0) 0 0) 1 0) 2 0) 3 0))), (am, .inr (4, [.int mm, .ref (zk 0), .int 0]))] H10 := hP
  replace hD : va_D A [(mo, .inr (9, [th, .ref am, .int 0, .int 0, .int 0])), (q3, .inl (cI, 6, .inl (upd (upd (upd (upd (fun _ => 0) 0 0) 1 0) 2 0) 3 0))), (am, .inr (4, [.int mm, .ref (zk 0), .int 0]))] := hD
  refine lv_dup hx hb dX4_houseTold_101 rfl ?_
  refine lv_iconst (v := 4) hx hb dX4_houseTold_102 (by decide) ?_
  refine lv_iload_n hx hb dX4_houseTold_103 rfl (lv_at hl 2 rfl) ?_
  refine va_iast (D := (dC, dI)) (cl := vwCl) hx hb hK hP hD (zS0 hS) 1 0 rfl rfl (by unfold vp_in; decide) dX4_houseTold_104 (fun H11 locs hP hD hS1 => ?_)
  have hz : s.heap.size + 1 ≤ H11.size := Nat.le_trans hz hS1.1
  have hS := zSS hS hS1
  replace hP : va_P (dC, dI) vwCl [(mo, .inr (9, [th, .ref am, .int 0, .int 0, .int 0])), (q3, .inl (cI, 6, .inl (upd (upd (upd (upd (upd (fun _ => 0) 0 0) 1 0) 2 0) 3 0) 4 0))), (am, .inr (4, [.int mm, .ref (zk 0), .int 0]))] H11 := hP
  replace hD : va_D A [(mo, .inr (9, [th, .ref am, .int 0, .int 0, .int 0])), (q3, .inl (cI, 6, .inl (upd (upd (upd (upd (upd (fun _ => 0) 0 0) 1 0) 2 0) 3 0) 4 0))), (am, .inr (4, [.int mm, .ref (zk 0), .int 0]))] := hD
  refine lv_dup hx hb dX4_houseTold_105 rfl ?_
  refine lv_iconst (v := 5) hx hb dX4_houseTold_106 (by decide) ?_
  refine lv_iload_n hx hb dX4_houseTold_107 rfl (lv_at hl 1 rfl) ?_
  refine va_iast (D := (dC, dI)) (cl := vwCl) hx hb hK hP hD (zS0 hS) 1 0 rfl rfl (by unfold vp_in; decide) dX4_houseTold_108 (fun H12 locs hP hD hS1 => ?_)
  have hz : s.heap.size + 1 ≤ H12.size := Nat.le_trans hz hS1.1
  have hS := zSS hS hS1
  replace hP : va_P (dC, dI) vwCl [(mo, .inr (9, [th, .ref am, .int 0, .int 0, .int 0])), (q3, .inl (cI, 6, .inl (upd (upd (upd (upd (upd (upd (fun _ => 0) 0 0) 1 0) 2 0) 3 0) 4 0) 5 0))), (am, .inr (4, [.int mm, .ref (zk 0), .int 0]))] H12 := hP
  replace hD : va_D A [(mo, .inr (9, [th, .ref am, .int 0, .int 0, .int 0])), (q3, .inl (cI, 6, .inl (upd (upd (upd (upd (upd (upd (fun _ => 0) 0 0) 1 0) 2 0) 3 0) 4 0) 5 0))), (am, .inr (4, [.int mm, .ref (zk 0), .int 0]))] := hD
  refine lv_astore (lv' := [(4, .ref q3), (3, .int 0), (2, .int 0), (0, .ref mo), (1, .int 4)]) hx hb dX4_houseTold_109 hl (by decide) rfl (fun ls hl => ?_)
  refine lv_aload hx hb dX4_houseTold_111 (lv_at hl 0 rfl) ?_
  refine lv_iload_n hx hb dX4_houseTold_113 rfl (lv_at hl 4 rfl) ?_
  refine va_iald (D := (dC, dI)) (cl := vwCl) hx hb hK hP 1 0 rfl rfl (by unfold vp_in; decide) dX4_houseTold_114 ?_
  refine lv_topi (fun v13 ev13 => ?_)
  obtain rfl : v13 = 0 := ev13.trans (by decide +kernel)
  have hP9 := hP.sub (ws' := [(mo, .inr (9, [th, .ref am, .int 0, .int 0, .int 0])), (am, .inr (4, [.int mm, .ref (zk 0), .int 0]))]) [0, 2] rfl
  have hD9 := hD.sub (ws' := [(mo, .inr (9, [th, .ref am, .int 0, .int 0, .int 0])), (am, .inr (4, [.int mm, .ref (zk 0), .int 0]))]) [0, 2] (by decide) rfl
  exact W.iret (v := 0) hx hb hr (fun t ht hW => ⟨⟨_, (), rfl, rfl, ⟨by rw [ht]; exact hP9, va_K.moved hW.alike hK, hD9, by rw [ht]; exact hz⟩⟩, hS.F ht⟩) hS.2.2 dX4_houseTold_115

set_option maxHeartbeats 4000000 in
set_option maxRecDepth 100000 in
theorem k_hTold5 (l : Launch) (dC : Nat → ClassId) (dI : Nat → Nat → Nat) (cI cB cR cO : ClassId) (zk : Nat → Nat) (mo am : Nat) (th : Value) (mm : Int32) (sz : Nat)  : Met l yX4_houseTold wsX4_houseTold ({ frames := 1, cells := 1, slots := 6, locals := 20 }) (va_Pc [.ref mo, .int 5] (zPre (dC, dI) (zT cI cB cR cO) zk [] [(mo, .inr (9, [th, .ref am, .int 0, .int 0, .int 0])), (am, .inr (4, [.int mm, .ref (zk 0), .int 0]))] sz)) (va_Qi (fun r (_ : Unit) => r = 0) (fun _ t => zEnd (dC, dI) (zT cI cB cR cO) (va_A [(mo, .inr (9, [th, .ref am, .int 0, .int 0, .int 0])), (am, .inr (4, [.int mm, .ref (zk 0), .int 0]))] sz) [(mo, .inr (9, [th, .ref am, .int 0, .int 0, .int 0])), (am, .inr (4, [.int mm, .ref (zk 0), .int 0]))] sz 1 t) (va_A [(mo, .inr (9, [th, .ref am, .int 0, .int 0, .int 0])), (am, .inr (4, [.int mm, .ref (zk 0), .int 0]))] sz)) 1 6 (va_A [(mo, .inr (9, [th, .ref am, .int 0, .int 0, .int 0])), (am, .inr (4, [.int mm, .ref (zk 0), .int 0]))] sz) := by
  refine Met.ofW (cc := cX4_houseTold) (maxL := 6) (ret := (some .int)) (by decide) rfl ?_
  intro p e s mY args below meth c s₁ B hml hv
  obtain ⟨rfl, hsz, hP, hK, hD0, hZ⟩ := hv
  have hx := B.exec
  have hb := B.bytes
  have hr := B.returns
  have hts := atoms_spec (ws := wsX4_houseTold) B.pre
  have hown : s.vm.findClass RX4 = some mY.cls := findClass_of_methodNamed B.named
  have hlocks := B.notSynchronized
  subst hsz
  have hD := hD0.self (sz := s.heap.size)
  generalize hAe : va_A [(mo, .inr (9, [th, .ref am, .int 0, .int 0, .int 0])), (am, .inr (4, [.int mm, .ref (zk 0), .int 0]))] s.heap.size = A at hD hZ ⊢
  have hA : ∀ q : Nat, s.heap.size ≤ q → A q := fun q h => by rw [← hAe]; exact Or.inr h
  have hS : va_S A s.heap s.heap [] := va_S.rf
  have hz : s.heap.size + 0 ≤ s.heap.size := Nat.le_refl _
  have hl := lv_entry ([.ref mo, .int 5]) (n := 6) (Nat.le_of_ble_eq_true rfl)
  rw [lg_entry_eq]
  generalize (lg_sl ([.ref mo, .int 5]) ++ List.replicate (6 - (lg_sl ([.ref mo, .int 5])).length) Slot.unset).toArray = ls at hl ⊢
  have hl : lv_has ls 6 [(0, .ref mo), (1, .int 5)] := hl
  have hP : va_P (dC, dI) vwCl [(mo, .inr (9, [th, .ref am, .int 0, .int 0, .int 0])), (am, .inr (4, [.int mm, .ref (zk 0), .int 0]))] s.heap := hP
  have hD : va_D A [(mo, .inr (9, [th, .ref am, .int 0, .int 0, .int 0])), (am, .inr (4, [.int mm, .ref (zk 0), .int 0]))] := hD
  refine lv_iconst (v := 0) hx hb dX4_houseTold_0 (by decide) ?_
  refine lv_istore_n (lv' := [(2, .int 0), (0, .ref mo), (1, .int 5)]) hx hb dX4_houseTold_1 rfl hl (by decide) rfl (fun ls hl => ?_)
  refine lv_iconst (v := 0) hx hb dX4_houseTold_2 (by decide) ?_
  refine lv_istore_n (lv' := [(3, .int 0), (2, .int 0), (0, .ref mo), (1, .int 5)]) hx hb dX4_houseTold_3 rfl hl (by decide) rfl (fun ls hl => ?_)
  refine lv_iconst (v := 0) hx hb dX4_houseTold_4 (by decide) ?_
  refine lv_istore (lv' := [(4, .int 0), (3, .int 0), (2, .int 0), (0, .ref mo), (1, .int 5)]) hx hb dX4_houseTold_5 hl (by decide) rfl (fun ls hl => ?_)
  refine lv_iload hx hb dX4_houseTold_7 (lv_at hl 0 rfl) ?_
  refine lv_aload_n hx hb dX4_houseTold_9 rfl (lv_at hl 3 rfl) ?_
  refine va_get (D := (dC, dI)) (ci := 9) (v := .ref am) (C := RX4) (T := TX4) (N := 5) hx hb hts hi_X4_houseTold_X4 hown hK hP 0 rfl rfl 1 (by decide) (hts (.fieldLink RX4 10 "DeeprowsModel" "rows" "Ljava/util/ArrayList;") (List.mem_cons_of_mem _ zw_1128)) (fun _ h9 => h9) rfl dX4_houseTold_10 ?_
  have hPc := hP.sub (ws' := [(am, .inr (4, [.int mm, .ref (zk 0), .int 0]))]) [1] rfl
  have hDc := hD.sub (ws' := [(am, .inr (4, [.int mm, .ref (zk 0), .int 0]))]) [1] (by decide) rfl
  have hFc := va_free (wc := [(am, .inr (4, [.int mm, .ref (zk 0), .int 0]))]) hD hS hA [1] rfl
  have hDv := hDc.self (sz := s.heap.size)
  have hpre := zpre (xs' := []) (av := [.ref am]) hPc hK (hDc.weaken (fun _ _ _ h => h)) hZ hS hFc (fun r hr => by cases hr)
  refine va_calli (va_runV (As := []) (rest := [.int 0]) ⟨hx, hb, hml, hown, hts⟩ (k_size l dC dI cI cB cR cO zk am (zk 0) 0 (.int mm) s.heap.size ) (cwV 0 hts gX4_houseTold_Jx4a65c_size_8abf5 rfl rfl rfl (by decide +kernel) ⟨Nat.le_of_ble_eq_true rfl, Nat.le_of_ble_eq_true rfl⟩) ⟨zblind, (zrecv_4 hK hPc (q0 := 0) rfl), hpre⟩ rfl rfl hl.1 rfl (lv_room (Nat.le_of_ble_eq_true rfl)) dX4_houseTold_13 ⟨Nat.le_of_ble_eq_true rfl, Nat.le_of_ble_eq_true rfl⟩) hS (fun q _ h => hFc q h) hFc (fun r2 u t H1 locs ht hvm hw hB hz1 hk1 hS => ?_)
  obtain rfl : 0 = r2 := (show r2 = 0 from hw).symm
  obtain ⟨hP1, hK1, hD1, hz2⟩ := hB
  rw [ht] at hP1 hz2
  have hPD9 := va_join (wr := [(mo, .inr (9, [th, .ref am, .int 0, .int 0, .int 0]))]) (w1 := [(am, .inr (4, [.int mm, .ref (zk 0), .int 0]))]) hP hD [1] [0] rfl rfl (by decide) (by decide) hk1 hFc hP1 hD1
  clear hPc hDc hFc hDv hpre hP hD hP1 hK1 hD1
  obtain ⟨hP, hD⟩ := hPD9
  replace hz : s.heap.size + 0 ≤ H1.size := by omega
  clear hz2
  replace hP : va_P (dC, dI) vwCl [(mo, .inr (9, [th, .ref am, .int 0, .int 0, .int 0])), (am, .inr (4, [.int mm, .ref (zk 0), .int 0]))] H1 := hP
  replace hD : va_D A [(mo, .inr (9, [th, .ref am, .int 0, .int 0, .int 0])), (am, .inr (4, [.int mm, .ref (zk 0), .int 0]))] := hD
  refine W.widen (k := 0) (n := 0) (by omega) (by omega) ?_
  refine lv_icmp_ge (tgt := 66) hx hb dX4_houseTold_16 (by decide) (fun c9 => ?_) (fun c9 => ?_)
  rotate_left
  · exact absurd (by decide) c9
  refine lv_bipush (v := 6) hx hb dX4_houseTold_66 (by decide) ?_
  refine zw_newa (atype := .int) (ty := .int) (N' := 6) hx hb (hts (.arrayClass .int) (List.mem_cons_of_mem _ zw_131)) rfl (by first | exact Or.inl rfl | exact Or.inr rfl) hK hP hD hS hA 0 rfl (by decide) (by decide) (Nat.le_of_ble_eq_true rfl) (Nat.le_of_ble_eq_true rfl) (Nat.le_of_ble_eq_true rfl) dX4_houseTold_68 hz (fun q3 H4 hP hD hS hz => ?_)
  replace hP : va_P (dC, dI) vwCl [(mo, .inr (9, [th, .ref am, .int 0, .int 0, .int 0])), (am, .inr (4, [.int mm, .ref (zk 0), .int 0])), (q3, .inl (cI, 6, .inl (fun _ => 0)))] H4 := hP
  replace hD : va_D A [(mo, .inr (9, [th, .ref am, .int 0, .int 0, .int 0])), (am, .inr (4, [.int mm, .ref (zk 0), .int 0])), (q3, .inl (cI, 6, .inl (fun _ => 0)))] := hD
  refine W.widen (k := 1) (n := 6) (by omega) (by omega) ?_
  refine lv_dup hx hb dX4_houseTold_70 rfl ?_
  refine lv_iconst (v := 0) hx hb dX4_houseTold_71 (by decide) ?_
  refine lv_aload_n hx hb dX4_houseTold_72 rfl (lv_at hl 3 rfl) ?_
  refine va_get (D := (dC, dI)) (ci := 9) (v := .ref am) (C := RX4) (T := TX4) (N := 5) hx hb hts hi_X4_houseTold_X4 hown hK hP 0 rfl rfl 1 (by decide) (hts (.fieldLink RX4 10 "DeeprowsModel" "rows" "Ljava/util/ArrayList;") (List.mem_cons_of_mem _ zw_1128)) (fun _ h9 => h9) rfl dX4_houseTold_73 ?_
  have hPc := hP.sub (ws' := [(am, .inr (4, [.int mm, .ref (zk 0), .int 0]))]) [1] rfl
  have hDc := hD.sub (ws' := [(am, .inr (4, [.int mm, .ref (zk 0), .int 0]))]) [1] (by decide) rfl
  have hFc := va_free (wc := [(am, .inr (4, [.int mm, .ref (zk 0), .int 0]))]) hD hS hA [1] rfl
  have hDv := hDc.self (sz := H4.size)
  have hpre := zpre (xs' := []) (av := [.ref am]) hPc hK (hDc.weaken (fun _ _ _ h => h)) hZ hS hFc (fun r hr => by cases hr)
  refine va_calli (va_runV (As := []) (rest := [.int 0, .ref q3, .ref q3]) ⟨hx, hb, hml, hown, hts⟩ (k_size l dC dI cI cB cR cO zk am (zk 0) 0 (.int mm) H4.size ) (cwV 0 hts gX4_houseTold_Jx4a65c_size_8abf5 rfl rfl rfl (by decide +kernel) ⟨Nat.le_of_ble_eq_true rfl, Nat.le_of_ble_eq_true rfl⟩) ⟨zblind, (zrecv_4 hK hPc (q0 := 0) rfl), hpre⟩ rfl rfl hl.1 rfl (lv_room (Nat.le_of_ble_eq_true rfl)) dX4_houseTold_76 ⟨Nat.le_of_ble_eq_true rfl, Nat.le_of_ble_eq_true rfl⟩) hS (fun q _ h => hFc q h) hFc (fun r6 u t H5 locs ht hvm hw hB hz1 hk1 hS => ?_)
  obtain rfl : 0 = r6 := (show r6 = 0 from hw).symm
  obtain ⟨hP1, hK1, hD1, hz2⟩ := hB
  rw [ht] at hP1 hz2
  have hPD9 := va_join (wr := [(mo, .inr (9, [th, .ref am, .int 0, .int 0, .int 0])), (q3, .inl (cI, 6, .inl (fun _ => 0)))]) (w1 := [(am, .inr (4, [.int mm, .ref (zk 0), .int 0]))]) hP hD [1] [0, 2] rfl rfl (by decide) (by decide) hk1 hFc hP1 hD1
  clear hPc hDc hFc hDv hpre hP hD hP1 hK1 hD1
  obtain ⟨hP, hD⟩ := hPD9
  replace hz : s.heap.size + 1 ≤ H5.size := by omega
  clear hz2
  replace hP : va_P (dC, dI) vwCl [(mo, .inr (9, [th, .ref am, .int 0, .int 0, .int 0])), (q3, .inl (cI, 6, .inl (fun _ => 0))), (am, .inr (4, [.int mm, .ref (zk 0), .int 0]))] H5 := hP
  replace hD : va_D A [(mo, .inr (9, [th, .ref am, .int 0, .int 0, .int 0])), (q3, .inl (cI, 6, .inl (fun _ => 0))), (am, .inr (4, [.int mm, .ref (zk 0), .int 0]))] := hD
  refine W.widen (k := 1) (n := 6) (by omega) (by omega) ?_
  refine va_iast (D := (dC, dI)) (cl := vwCl) hx hb hK hP hD (zS0 hS) 1 0 rfl rfl (by unfold vp_in; decide) dX4_houseTold_79 (fun H7 locs hP hD hS1 => ?_)
  have hz : s.heap.size + 1 ≤ H7.size := Nat.le_trans hz hS1.1
  have hS := zSS hS hS1
  replace hP : va_P (dC, dI) vwCl [(mo, .inr (9, [th, .ref am, .int 0, .int 0, .int 0])), (q3, .inl (cI, 6, .inl (upd (fun _ => 0) 0 0))), (am, .inr (4, [.int mm, .ref (zk 0), .int 0]))] H7 := hP
  replace hD : va_D A [(mo, .inr (9, [th, .ref am, .int 0, .int 0, .int 0])), (q3, .inl (cI, 6, .inl (upd (fun _ => 0) 0 0))), (am, .inr (4, [.int mm, .ref (zk 0), .int 0]))] := hD
  refine lv_dup hx hb dX4_houseTold_80 rfl ?_
  refine lv_iconst (v := 1) hx hb dX4_houseTold_81 (by decide) ?_
  refine lv_aload_n hx hb dX4_houseTold_82 rfl (lv_at hl 3 rfl) ?_
  refine va_get (D := (dC, dI)) (ci := 9) (v := .int 0) (C := RX4) (T := TX4) (N := 5) hx hb hts hi_X4_houseTold_X4 hown hK hP 0 rfl rfl 2 (by decide) (hts (.fieldLink RX4 120 "DeeprowsModel" "made" "I") (List.mem_cons_of_mem _ zw_1129)) (fun _ h9 => h9) rfl dX4_houseTold_83 ?_
  refine va_iast (D := (dC, dI)) (cl := vwCl) hx hb hK hP hD (zS0 hS) 1 0 rfl rfl (by unfold vp_in; decide) dX4_houseTold_86 (fun H8 locs hP hD hS1 => ?_)
  have hz : s.heap.size + 1 ≤ H8.size := Nat.le_trans hz hS1.1
  have hS := zSS hS hS1
  replace hP : va_P (dC, dI) vwCl [(mo, .inr (9, [th, .ref am, .int 0, .int 0, .int 0])), (q3, .inl (cI, 6, .inl (upd (upd (fun _ => 0) 0 0) 1 0))), (am, .inr (4, [.int mm, .ref (zk 0), .int 0]))] H8 := hP
  replace hD : va_D A [(mo, .inr (9, [th, .ref am, .int 0, .int 0, .int 0])), (q3, .inl (cI, 6, .inl (upd (upd (fun _ => 0) 0 0) 1 0))), (am, .inr (4, [.int mm, .ref (zk 0), .int 0]))] := hD
  refine lv_dup hx hb dX4_houseTold_87 rfl ?_
  refine lv_iconst (v := 2) hx hb dX4_houseTold_88 (by decide) ?_
  refine lv_aload_n hx hb dX4_houseTold_89 rfl (lv_at hl 3 rfl) ?_
  refine va_get (D := (dC, dI)) (ci := 9) (v := .int 0) (C := RX4) (T := TX4) (N := 5) hx hb hts hi_X4_houseTold_X4 hown hK hP 0 rfl rfl 3 (by decide) (hts (.fieldLink RX4 114 "DeeprowsModel" "refused" "I") (List.mem_cons_of_mem _ zw_1130)) (fun _ h9 => h9) rfl dX4_houseTold_90 ?_
  refine va_iast (D := (dC, dI)) (cl := vwCl) hx hb hK hP hD (zS0 hS) 1 0 rfl rfl (by unfold vp_in; decide) dX4_houseTold_93 (fun H9 locs hP hD hS1 => ?_)
  have hz : s.heap.size + 1 ≤ H9.size := Nat.le_trans hz hS1.1
  have hS := zSS hS hS1
  replace hP : va_P (dC, dI) vwCl [(mo, .inr (9, [th, .ref am, .int 0, .int 0, .int 0])), (q3, .inl (cI, 6, .inl (upd (upd (upd (fun _ => 0) 0 0) 1 0) 2 0))), (am, .inr (4, [.int mm, .ref (zk 0), .int 0]))] H9 := hP
  replace hD : va_D A [(mo, .inr (9, [th, .ref am, .int 0, .int 0, .int 0])), (q3, .inl (cI, 6, .inl (upd (upd (upd (fun _ => 0) 0 0) 1 0) 2 0))), (am, .inr (4, [.int mm, .ref (zk 0), .int 0]))] := hD
  refine lv_dup hx hb dX4_houseTold_94 rfl ?_
  refine lv_iconst (v := 3) hx hb dX4_houseTold_95 (by decide) ?_
  refine lv_aload_n hx hb dX4_houseTold_96 rfl (lv_at hl 3 rfl) ?_
  refine va_get (D := (dC, dI)) (ci := 9) (v := .int 0) (C := RX4) (T := TX4) (N := 5) hx hb hts hi_X4_houseTold_X4 hown hK hP 0 rfl rfl 4 (by decide) (hts (.fieldLink RX4 207 "DeeprowsModel" "knocked" "I") (List.mem_cons_of_mem _ zw_1131)) (fun _ h9 => h9) rfl dX4_houseTold_97 ?_
  refine va_iast (D := (dC, dI)) (cl := vwCl) hx hb hK hP hD (zS0 hS) 1 0 rfl rfl (by unfold vp_in; decide) dX4_houseTold_100 (fun H10 locs hP hD hS1 => ?_)
  have hz : s.heap.size + 1 ≤ H10.size := Nat.le_trans hz hS1.1
  have hS := zSS hS hS1
  replace hP : va_P (dC, dI) vwCl [(mo, .inr (9, [th, .ref am, .int 0, .int 0, .int 0])), (q3, .inl (cI, 6, .inl (upd (upd (upd (upd (fun _ => 0) 0 0) 1 0) 2 0) 3 0))), (am, .inr (4, [.int mm, .ref (zk 0), .int 0]))] H10 := hP
  replace hD : va_D A [(mo, .inr (9, [th, .ref am, .int 0, .int 0, .int 0])), (q3, .inl (cI, 6, .inl (upd (upd (upd (upd (fun _ => 0) 0 0) 1 0) 2 0) 3 0))), (am, .inr (4, [.int mm, .ref (zk 0), .int 0]))] := hD
  refine lv_dup hx hb dX4_houseTold_101 rfl ?_
  refine lv_iconst (v := 4) hx hb dX4_houseTold_102 (by decide) ?_
  refine lv_iload_n hx hb dX4_houseTold_103 rfl (lv_at hl 2 rfl) ?_
  refine va_iast (D := (dC, dI)) (cl := vwCl) hx hb hK hP hD (zS0 hS) 1 0 rfl rfl (by unfold vp_in; decide) dX4_houseTold_104 (fun H11 locs hP hD hS1 => ?_)
  have hz : s.heap.size + 1 ≤ H11.size := Nat.le_trans hz hS1.1
  have hS := zSS hS hS1
  replace hP : va_P (dC, dI) vwCl [(mo, .inr (9, [th, .ref am, .int 0, .int 0, .int 0])), (q3, .inl (cI, 6, .inl (upd (upd (upd (upd (upd (fun _ => 0) 0 0) 1 0) 2 0) 3 0) 4 0))), (am, .inr (4, [.int mm, .ref (zk 0), .int 0]))] H11 := hP
  replace hD : va_D A [(mo, .inr (9, [th, .ref am, .int 0, .int 0, .int 0])), (q3, .inl (cI, 6, .inl (upd (upd (upd (upd (upd (fun _ => 0) 0 0) 1 0) 2 0) 3 0) 4 0))), (am, .inr (4, [.int mm, .ref (zk 0), .int 0]))] := hD
  refine lv_dup hx hb dX4_houseTold_105 rfl ?_
  refine lv_iconst (v := 5) hx hb dX4_houseTold_106 (by decide) ?_
  refine lv_iload_n hx hb dX4_houseTold_107 rfl (lv_at hl 1 rfl) ?_
  refine va_iast (D := (dC, dI)) (cl := vwCl) hx hb hK hP hD (zS0 hS) 1 0 rfl rfl (by unfold vp_in; decide) dX4_houseTold_108 (fun H12 locs hP hD hS1 => ?_)
  have hz : s.heap.size + 1 ≤ H12.size := Nat.le_trans hz hS1.1
  have hS := zSS hS hS1
  replace hP : va_P (dC, dI) vwCl [(mo, .inr (9, [th, .ref am, .int 0, .int 0, .int 0])), (q3, .inl (cI, 6, .inl (upd (upd (upd (upd (upd (upd (fun _ => 0) 0 0) 1 0) 2 0) 3 0) 4 0) 5 0))), (am, .inr (4, [.int mm, .ref (zk 0), .int 0]))] H12 := hP
  replace hD : va_D A [(mo, .inr (9, [th, .ref am, .int 0, .int 0, .int 0])), (q3, .inl (cI, 6, .inl (upd (upd (upd (upd (upd (upd (fun _ => 0) 0 0) 1 0) 2 0) 3 0) 4 0) 5 0))), (am, .inr (4, [.int mm, .ref (zk 0), .int 0]))] := hD
  refine lv_astore (lv' := [(4, .ref q3), (3, .int 0), (2, .int 0), (0, .ref mo), (1, .int 5)]) hx hb dX4_houseTold_109 hl (by decide) rfl (fun ls hl => ?_)
  refine lv_aload hx hb dX4_houseTold_111 (lv_at hl 0 rfl) ?_
  refine lv_iload_n hx hb dX4_houseTold_113 rfl (lv_at hl 4 rfl) ?_
  refine va_iald (D := (dC, dI)) (cl := vwCl) hx hb hK hP 1 0 rfl rfl (by unfold vp_in; decide) dX4_houseTold_114 ?_
  refine lv_topi (fun v13 ev13 => ?_)
  obtain rfl : v13 = 0 := ev13.trans (by decide +kernel)
  have hP9 := hP.sub (ws' := [(mo, .inr (9, [th, .ref am, .int 0, .int 0, .int 0])), (am, .inr (4, [.int mm, .ref (zk 0), .int 0]))]) [0, 2] rfl
  have hD9 := hD.sub (ws' := [(mo, .inr (9, [th, .ref am, .int 0, .int 0, .int 0])), (am, .inr (4, [.int mm, .ref (zk 0), .int 0]))]) [0, 2] (by decide) rfl
  exact W.iret (v := 0) hx hb hr (fun t ht hW => ⟨⟨_, (), rfl, rfl, ⟨by rw [ht]; exact hP9, va_K.moved hW.alike hK, hD9, by rw [ht]; exact hz⟩⟩, hS.F ht⟩) hS.2.2 dX4_houseTold_115

set_option maxHeartbeats 4000000 in
set_option maxRecDepth 100000 in
theorem k_isIn5_0 (l : Launch) (dC : Nat → ClassId) (dI : Nat → Nat → Nat) (cI cB cR cO : ClassId) (zk : Nat → Nat)  (sz : Nat)  : Met l yX4_isIn wsX4_isIn ({ frames := 0, cells := 0, slots := 0, locals := 0 }) (va_Pc [.int 0, .int 0, .int 5] (zPre (dC, dI) (zT cI cB cR cO) zk [] [] sz)) (va_Qi (fun r (_ : Unit) => r = 1) (fun _ t => zEnd (dC, dI) (zT cI cB cR cO) (va_A [] sz) [] sz 0 t) (va_A [] sz)) 0 0 (va_A [] sz) := by
  refine Met.ofW (cc := cX4_isIn) (maxL := 3) (ret := (some .boolean)) (by decide) rfl ?_
  intro p e s mY args below meth c s₁ B hml hv
  obtain ⟨rfl, hsz, hP, hK, hD0, hZ⟩ := hv
  have hx := B.exec
  have hb := B.bytes
  have hr := B.returns
  have hts := atoms_spec (ws := wsX4_isIn) B.pre
  have hown : s.vm.findClass RX4 = some mY.cls := findClass_of_methodNamed B.named
  have hlocks := B.notSynchronized
  subst hsz
  have hD := hD0.self (sz := s.heap.size)
  generalize hAe : va_A [] s.heap.size = A at hD hZ ⊢
  have hA : ∀ q : Nat, s.heap.size ≤ q → A q := fun q h => by rw [← hAe]; exact Or.inr h
  have hS : va_S A s.heap s.heap [] := va_S.rf
  have hz : s.heap.size + 0 ≤ s.heap.size := Nat.le_refl _
  have hl := lv_entry ([.int 0, .int 0, .int 5]) (n := 3) (Nat.le_of_ble_eq_true rfl)
  rw [lg_entry_eq]
  generalize (lg_sl ([.int 0, .int 0, .int 5]) ++ List.replicate (3 - (lg_sl ([.int 0, .int 0, .int 5])).length) Slot.unset).toArray = ls at hl ⊢
  have hl : lv_has ls 3 [(0, .int 0), (1, .int 0), (2, .int 5)] := hl
  have hP : va_P (dC, dI) vwCl [] s.heap := hP
  have hD : va_D A [] := hD
  refine lv_iload_n hx hb dX4_isIn_0 rfl (lv_at hl 0 rfl) ?_
  refine lv_iload_n hx hb dX4_isIn_1 rfl (lv_at hl 1 rfl) ?_
  refine lv_icmp_lt (tgt := 14) hx hb dX4_isIn_2 (by decide) (fun c9 => ?_) (fun c9 => ?_)
  · exact absurd c9 (by decide)
  refine lv_iload_n hx hb dX4_isIn_5 rfl (lv_at hl 0 rfl) ?_
  refine lv_iload_n hx hb dX4_isIn_6 rfl (lv_at hl 2 rfl) ?_
  refine lv_icmp_gt (tgt := 14) hx hb dX4_isIn_7 (by decide) (fun c9 => ?_) (fun c9 => ?_)
  · exact absurd c9 (by decide)
  refine lv_iconst (v := 1) hx hb dX4_isIn_10 (by decide) ?_
  refine lv_goto (tgt := 15) hx hb dX4_isIn_11 (by decide) ?_
  have hP9 := hP.sub (ws' := []) [] rfl
  have hD9 := hD.sub (ws' := []) [] (by decide) rfl
  exact W.zret (v := 1) hx hb hr (by decide +kernel) (fun t ht hW => ⟨⟨_, (), rfl, rfl, ⟨by rw [ht]; exact hP9, va_K.moved hW.alike hK, hD9, by rw [ht]; exact hz⟩⟩, hS.F ht⟩) hS.2.2 dX4_isIn_15

set_option maxHeartbeats 4000000 in
set_option maxRecDepth 100000 in
theorem k_isIn5_1 (l : Launch) (dC : Nat → ClassId) (dI : Nat → Nat → Nat) (cI cB cR cO : ClassId) (zk : Nat → Nat)  (sz : Nat)  : Met l yX4_isIn wsX4_isIn ({ frames := 0, cells := 0, slots := 0, locals := 0 }) (va_Pc [.int 1, .int 0, .int 5] (zPre (dC, dI) (zT cI cB cR cO) zk [] [] sz)) (va_Qi (fun r (_ : Unit) => r = 1) (fun _ t => zEnd (dC, dI) (zT cI cB cR cO) (va_A [] sz) [] sz 0 t) (va_A [] sz)) 0 0 (va_A [] sz) := by
  refine Met.ofW (cc := cX4_isIn) (maxL := 3) (ret := (some .boolean)) (by decide) rfl ?_
  intro p e s mY args below meth c s₁ B hml hv
  obtain ⟨rfl, hsz, hP, hK, hD0, hZ⟩ := hv
  have hx := B.exec
  have hb := B.bytes
  have hr := B.returns
  have hts := atoms_spec (ws := wsX4_isIn) B.pre
  have hown : s.vm.findClass RX4 = some mY.cls := findClass_of_methodNamed B.named
  have hlocks := B.notSynchronized
  subst hsz
  have hD := hD0.self (sz := s.heap.size)
  generalize hAe : va_A [] s.heap.size = A at hD hZ ⊢
  have hA : ∀ q : Nat, s.heap.size ≤ q → A q := fun q h => by rw [← hAe]; exact Or.inr h
  have hS : va_S A s.heap s.heap [] := va_S.rf
  have hz : s.heap.size + 0 ≤ s.heap.size := Nat.le_refl _
  have hl := lv_entry ([.int 1, .int 0, .int 5]) (n := 3) (Nat.le_of_ble_eq_true rfl)
  rw [lg_entry_eq]
  generalize (lg_sl ([.int 1, .int 0, .int 5]) ++ List.replicate (3 - (lg_sl ([.int 1, .int 0, .int 5])).length) Slot.unset).toArray = ls at hl ⊢
  have hl : lv_has ls 3 [(0, .int 1), (1, .int 0), (2, .int 5)] := hl
  have hP : va_P (dC, dI) vwCl [] s.heap := hP
  have hD : va_D A [] := hD
  refine lv_iload_n hx hb dX4_isIn_0 rfl (lv_at hl 0 rfl) ?_
  refine lv_iload_n hx hb dX4_isIn_1 rfl (lv_at hl 1 rfl) ?_
  refine lv_icmp_lt (tgt := 14) hx hb dX4_isIn_2 (by decide) (fun c9 => ?_) (fun c9 => ?_)
  · exact absurd c9 (by decide)
  refine lv_iload_n hx hb dX4_isIn_5 rfl (lv_at hl 0 rfl) ?_
  refine lv_iload_n hx hb dX4_isIn_6 rfl (lv_at hl 2 rfl) ?_
  refine lv_icmp_gt (tgt := 14) hx hb dX4_isIn_7 (by decide) (fun c9 => ?_) (fun c9 => ?_)
  · exact absurd c9 (by decide)
  refine lv_iconst (v := 1) hx hb dX4_isIn_10 (by decide) ?_
  refine lv_goto (tgt := 15) hx hb dX4_isIn_11 (by decide) ?_
  have hP9 := hP.sub (ws' := []) [] rfl
  have hD9 := hD.sub (ws' := []) [] (by decide) rfl
  exact W.zret (v := 1) hx hb hr (by decide +kernel) (fun t ht hW => ⟨⟨_, (), rfl, rfl, ⟨by rw [ht]; exact hP9, va_K.moved hW.alike hK, hD9, by rw [ht]; exact hz⟩⟩, hS.F ht⟩) hS.2.2 dX4_isIn_15

set_option maxHeartbeats 4000000 in
set_option maxRecDepth 100000 in
theorem k_isIn5_2 (l : Launch) (dC : Nat → ClassId) (dI : Nat → Nat → Nat) (cI cB cR cO : ClassId) (zk : Nat → Nat)  (sz : Nat)  : Met l yX4_isIn wsX4_isIn ({ frames := 0, cells := 0, slots := 0, locals := 0 }) (va_Pc [.int 2, .int 0, .int 5] (zPre (dC, dI) (zT cI cB cR cO) zk [] [] sz)) (va_Qi (fun r (_ : Unit) => r = 1) (fun _ t => zEnd (dC, dI) (zT cI cB cR cO) (va_A [] sz) [] sz 0 t) (va_A [] sz)) 0 0 (va_A [] sz) := by
  refine Met.ofW (cc := cX4_isIn) (maxL := 3) (ret := (some .boolean)) (by decide) rfl ?_
  intro p e s mY args below meth c s₁ B hml hv
  obtain ⟨rfl, hsz, hP, hK, hD0, hZ⟩ := hv
  have hx := B.exec
  have hb := B.bytes
  have hr := B.returns
  have hts := atoms_spec (ws := wsX4_isIn) B.pre
  have hown : s.vm.findClass RX4 = some mY.cls := findClass_of_methodNamed B.named
  have hlocks := B.notSynchronized
  subst hsz
  have hD := hD0.self (sz := s.heap.size)
  generalize hAe : va_A [] s.heap.size = A at hD hZ ⊢
  have hA : ∀ q : Nat, s.heap.size ≤ q → A q := fun q h => by rw [← hAe]; exact Or.inr h
  have hS : va_S A s.heap s.heap [] := va_S.rf
  have hz : s.heap.size + 0 ≤ s.heap.size := Nat.le_refl _
  have hl := lv_entry ([.int 2, .int 0, .int 5]) (n := 3) (Nat.le_of_ble_eq_true rfl)
  rw [lg_entry_eq]
  generalize (lg_sl ([.int 2, .int 0, .int 5]) ++ List.replicate (3 - (lg_sl ([.int 2, .int 0, .int 5])).length) Slot.unset).toArray = ls at hl ⊢
  have hl : lv_has ls 3 [(0, .int 2), (1, .int 0), (2, .int 5)] := hl
  have hP : va_P (dC, dI) vwCl [] s.heap := hP
  have hD : va_D A [] := hD
  refine lv_iload_n hx hb dX4_isIn_0 rfl (lv_at hl 0 rfl) ?_
  refine lv_iload_n hx hb dX4_isIn_1 rfl (lv_at hl 1 rfl) ?_
  refine lv_icmp_lt (tgt := 14) hx hb dX4_isIn_2 (by decide) (fun c9 => ?_) (fun c9 => ?_)
  · exact absurd c9 (by decide)
  refine lv_iload_n hx hb dX4_isIn_5 rfl (lv_at hl 0 rfl) ?_
  refine lv_iload_n hx hb dX4_isIn_6 rfl (lv_at hl 2 rfl) ?_
  refine lv_icmp_gt (tgt := 14) hx hb dX4_isIn_7 (by decide) (fun c9 => ?_) (fun c9 => ?_)
  · exact absurd c9 (by decide)
  refine lv_iconst (v := 1) hx hb dX4_isIn_10 (by decide) ?_
  refine lv_goto (tgt := 15) hx hb dX4_isIn_11 (by decide) ?_
  have hP9 := hP.sub (ws' := []) [] rfl
  have hD9 := hD.sub (ws' := []) [] (by decide) rfl
  exact W.zret (v := 1) hx hb hr (by decide +kernel) (fun t ht hW => ⟨⟨_, (), rfl, rfl, ⟨by rw [ht]; exact hP9, va_K.moved hW.alike hK, hD9, by rw [ht]; exact hz⟩⟩, hS.F ht⟩) hS.2.2 dX4_isIn_15

set_option maxHeartbeats 4000000 in
set_option maxRecDepth 100000 in
theorem k_isIn5_3 (l : Launch) (dC : Nat → ClassId) (dI : Nat → Nat → Nat) (cI cB cR cO : ClassId) (zk : Nat → Nat)  (sz : Nat)  : Met l yX4_isIn wsX4_isIn ({ frames := 0, cells := 0, slots := 0, locals := 0 }) (va_Pc [.int 3, .int 0, .int 5] (zPre (dC, dI) (zT cI cB cR cO) zk [] [] sz)) (va_Qi (fun r (_ : Unit) => r = 1) (fun _ t => zEnd (dC, dI) (zT cI cB cR cO) (va_A [] sz) [] sz 0 t) (va_A [] sz)) 0 0 (va_A [] sz) := by
  refine Met.ofW (cc := cX4_isIn) (maxL := 3) (ret := (some .boolean)) (by decide) rfl ?_
  intro p e s mY args below meth c s₁ B hml hv
  obtain ⟨rfl, hsz, hP, hK, hD0, hZ⟩ := hv
  have hx := B.exec
  have hb := B.bytes
  have hr := B.returns
  have hts := atoms_spec (ws := wsX4_isIn) B.pre
  have hown : s.vm.findClass RX4 = some mY.cls := findClass_of_methodNamed B.named
  have hlocks := B.notSynchronized
  subst hsz
  have hD := hD0.self (sz := s.heap.size)
  generalize hAe : va_A [] s.heap.size = A at hD hZ ⊢
  have hA : ∀ q : Nat, s.heap.size ≤ q → A q := fun q h => by rw [← hAe]; exact Or.inr h
  have hS : va_S A s.heap s.heap [] := va_S.rf
  have hz : s.heap.size + 0 ≤ s.heap.size := Nat.le_refl _
  have hl := lv_entry ([.int 3, .int 0, .int 5]) (n := 3) (Nat.le_of_ble_eq_true rfl)
  rw [lg_entry_eq]
  generalize (lg_sl ([.int 3, .int 0, .int 5]) ++ List.replicate (3 - (lg_sl ([.int 3, .int 0, .int 5])).length) Slot.unset).toArray = ls at hl ⊢
  have hl : lv_has ls 3 [(0, .int 3), (1, .int 0), (2, .int 5)] := hl
  have hP : va_P (dC, dI) vwCl [] s.heap := hP
  have hD : va_D A [] := hD
  refine lv_iload_n hx hb dX4_isIn_0 rfl (lv_at hl 0 rfl) ?_
  refine lv_iload_n hx hb dX4_isIn_1 rfl (lv_at hl 1 rfl) ?_
  refine lv_icmp_lt (tgt := 14) hx hb dX4_isIn_2 (by decide) (fun c9 => ?_) (fun c9 => ?_)
  · exact absurd c9 (by decide)
  refine lv_iload_n hx hb dX4_isIn_5 rfl (lv_at hl 0 rfl) ?_
  refine lv_iload_n hx hb dX4_isIn_6 rfl (lv_at hl 2 rfl) ?_
  refine lv_icmp_gt (tgt := 14) hx hb dX4_isIn_7 (by decide) (fun c9 => ?_) (fun c9 => ?_)
  · exact absurd c9 (by decide)
  refine lv_iconst (v := 1) hx hb dX4_isIn_10 (by decide) ?_
  refine lv_goto (tgt := 15) hx hb dX4_isIn_11 (by decide) ?_
  have hP9 := hP.sub (ws' := []) [] rfl
  have hD9 := hD.sub (ws' := []) [] (by decide) rfl
  exact W.zret (v := 1) hx hb hr (by decide +kernel) (fun t ht hW => ⟨⟨_, (), rfl, rfl, ⟨by rw [ht]; exact hP9, va_K.moved hW.alike hK, hD9, by rw [ht]; exact hz⟩⟩, hS.F ht⟩) hS.2.2 dX4_isIn_15

set_option maxHeartbeats 4000000 in
set_option maxRecDepth 100000 in
theorem k_isIn5_4 (l : Launch) (dC : Nat → ClassId) (dI : Nat → Nat → Nat) (cI cB cR cO : ClassId) (zk : Nat → Nat)  (sz : Nat)  : Met l yX4_isIn wsX4_isIn ({ frames := 0, cells := 0, slots := 0, locals := 0 }) (va_Pc [.int 4, .int 0, .int 5] (zPre (dC, dI) (zT cI cB cR cO) zk [] [] sz)) (va_Qi (fun r (_ : Unit) => r = 1) (fun _ t => zEnd (dC, dI) (zT cI cB cR cO) (va_A [] sz) [] sz 0 t) (va_A [] sz)) 0 0 (va_A [] sz) := by
  refine Met.ofW (cc := cX4_isIn) (maxL := 3) (ret := (some .boolean)) (by decide) rfl ?_
  intro p e s mY args below meth c s₁ B hml hv
  obtain ⟨rfl, hsz, hP, hK, hD0, hZ⟩ := hv
  have hx := B.exec
  have hb := B.bytes
  have hr := B.returns
  have hts := atoms_spec (ws := wsX4_isIn) B.pre
  have hown : s.vm.findClass RX4 = some mY.cls := findClass_of_methodNamed B.named
  have hlocks := B.notSynchronized
  subst hsz
  have hD := hD0.self (sz := s.heap.size)
  generalize hAe : va_A [] s.heap.size = A at hD hZ ⊢
  have hA : ∀ q : Nat, s.heap.size ≤ q → A q := fun q h => by rw [← hAe]; exact Or.inr h
  have hS : va_S A s.heap s.heap [] := va_S.rf
  have hz : s.heap.size + 0 ≤ s.heap.size := Nat.le_refl _
  have hl := lv_entry ([.int 4, .int 0, .int 5]) (n := 3) (Nat.le_of_ble_eq_true rfl)
  rw [lg_entry_eq]
  generalize (lg_sl ([.int 4, .int 0, .int 5]) ++ List.replicate (3 - (lg_sl ([.int 4, .int 0, .int 5])).length) Slot.unset).toArray = ls at hl ⊢
  have hl : lv_has ls 3 [(0, .int 4), (1, .int 0), (2, .int 5)] := hl
  have hP : va_P (dC, dI) vwCl [] s.heap := hP
  have hD : va_D A [] := hD
  refine lv_iload_n hx hb dX4_isIn_0 rfl (lv_at hl 0 rfl) ?_
  refine lv_iload_n hx hb dX4_isIn_1 rfl (lv_at hl 1 rfl) ?_
  refine lv_icmp_lt (tgt := 14) hx hb dX4_isIn_2 (by decide) (fun c9 => ?_) (fun c9 => ?_)
  · exact absurd c9 (by decide)
  refine lv_iload_n hx hb dX4_isIn_5 rfl (lv_at hl 0 rfl) ?_
  refine lv_iload_n hx hb dX4_isIn_6 rfl (lv_at hl 2 rfl) ?_
  refine lv_icmp_gt (tgt := 14) hx hb dX4_isIn_7 (by decide) (fun c9 => ?_) (fun c9 => ?_)
  · exact absurd c9 (by decide)
  refine lv_iconst (v := 1) hx hb dX4_isIn_10 (by decide) ?_
  refine lv_goto (tgt := 15) hx hb dX4_isIn_11 (by decide) ?_
  have hP9 := hP.sub (ws' := []) [] rfl
  have hD9 := hD.sub (ws' := []) [] (by decide) rfl
  exact W.zret (v := 1) hx hb hr (by decide +kernel) (fun t ht hW => ⟨⟨_, (), rfl, rfl, ⟨by rw [ht]; exact hP9, va_K.moved hW.alike hK, hD9, by rw [ht]; exact hz⟩⟩, hS.F ht⟩) hS.2.2 dX4_isIn_15

set_option maxHeartbeats 4000000 in
set_option maxRecDepth 100000 in
theorem k_isIn5_5 (l : Launch) (dC : Nat → ClassId) (dI : Nat → Nat → Nat) (cI cB cR cO : ClassId) (zk : Nat → Nat)  (sz : Nat)  : Met l yX4_isIn wsX4_isIn ({ frames := 0, cells := 0, slots := 0, locals := 0 }) (va_Pc [.int 5, .int 0, .int 5] (zPre (dC, dI) (zT cI cB cR cO) zk [] [] sz)) (va_Qi (fun r (_ : Unit) => r = 1) (fun _ t => zEnd (dC, dI) (zT cI cB cR cO) (va_A [] sz) [] sz 0 t) (va_A [] sz)) 0 0 (va_A [] sz) := by
  refine Met.ofW (cc := cX4_isIn) (maxL := 3) (ret := (some .boolean)) (by decide) rfl ?_
  intro p e s mY args below meth c s₁ B hml hv
  obtain ⟨rfl, hsz, hP, hK, hD0, hZ⟩ := hv
  have hx := B.exec
  have hb := B.bytes
  have hr := B.returns
  have hts := atoms_spec (ws := wsX4_isIn) B.pre
  have hown : s.vm.findClass RX4 = some mY.cls := findClass_of_methodNamed B.named
  have hlocks := B.notSynchronized
  subst hsz
  have hD := hD0.self (sz := s.heap.size)
  generalize hAe : va_A [] s.heap.size = A at hD hZ ⊢
  have hA : ∀ q : Nat, s.heap.size ≤ q → A q := fun q h => by rw [← hAe]; exact Or.inr h
  have hS : va_S A s.heap s.heap [] := va_S.rf
  have hz : s.heap.size + 0 ≤ s.heap.size := Nat.le_refl _
  have hl := lv_entry ([.int 5, .int 0, .int 5]) (n := 3) (Nat.le_of_ble_eq_true rfl)
  rw [lg_entry_eq]
  generalize (lg_sl ([.int 5, .int 0, .int 5]) ++ List.replicate (3 - (lg_sl ([.int 5, .int 0, .int 5])).length) Slot.unset).toArray = ls at hl ⊢
  have hl : lv_has ls 3 [(0, .int 5), (1, .int 0), (2, .int 5)] := hl
  have hP : va_P (dC, dI) vwCl [] s.heap := hP
  have hD : va_D A [] := hD
  refine lv_iload_n hx hb dX4_isIn_0 rfl (lv_at hl 0 rfl) ?_
  refine lv_iload_n hx hb dX4_isIn_1 rfl (lv_at hl 1 rfl) ?_
  refine lv_icmp_lt (tgt := 14) hx hb dX4_isIn_2 (by decide) (fun c9 => ?_) (fun c9 => ?_)
  · exact absurd c9 (by decide)
  refine lv_iload_n hx hb dX4_isIn_5 rfl (lv_at hl 0 rfl) ?_
  refine lv_iload_n hx hb dX4_isIn_6 rfl (lv_at hl 2 rfl) ?_
  refine lv_icmp_gt (tgt := 14) hx hb dX4_isIn_7 (by decide) (fun c9 => ?_) (fun c9 => ?_)
  · exact absurd c9 (by decide)
  refine lv_iconst (v := 1) hx hb dX4_isIn_10 (by decide) ?_
  refine lv_goto (tgt := 15) hx hb dX4_isIn_11 (by decide) ?_
  have hP9 := hP.sub (ws' := []) [] rfl
  have hD9 := hD.sub (ws' := []) [] (by decide) rfl
  exact W.zret (v := 1) hx hb hr (by decide +kernel) (fun t ht hW => ⟨⟨_, (), rfl, rfl, ⟨by rw [ht]; exact hP9, va_K.moved hW.alike hK, hD9, by rw [ht]; exact hz⟩⟩, hS.F ht⟩) hS.2.2 dX4_isIn_15

set_option maxHeartbeats 4000000 in
set_option maxRecDepth 100000 in
theorem k_isInOut (l : Launch) (dC : Nat → ClassId) (dI : Nat → Nat → Nat) (cI cB cR cO : ClassId) (zk : Nat → Nat) (p0 : Int32) (sz : Nat) (hp : p0.toInt < 0 ∨ 5 < p0.toInt) : Met l yX4_isIn wsX4_isIn ({ frames := 0, cells := 0, slots := 0, locals := 0 }) (va_Pc [.int p0, .int 0, .int 5] (zPre (dC, dI) (zT cI cB cR cO) zk [] [] sz)) (va_Qi (fun r (_ : Unit) => r = 0) (fun _ t => zEnd (dC, dI) (zT cI cB cR cO) (va_A [] sz) [] sz 0 t) (va_A [] sz)) 0 0 (va_A [] sz) := by
  refine Met.ofW (cc := cX4_isIn) (maxL := 3) (ret := (some .boolean)) (by decide) rfl ?_
  intro p e s mY args below meth c s₁ B hml hv
  obtain ⟨rfl, hsz, hP, hK, hD0, hZ⟩ := hv
  have hx := B.exec
  have hb := B.bytes
  have hr := B.returns
  have hts := atoms_spec (ws := wsX4_isIn) B.pre
  have hown : s.vm.findClass RX4 = some mY.cls := findClass_of_methodNamed B.named
  have hlocks := B.notSynchronized
  subst hsz
  have hD := hD0.self (sz := s.heap.size)
  generalize hAe : va_A [] s.heap.size = A at hD hZ ⊢
  have hA : ∀ q : Nat, s.heap.size ≤ q → A q := fun q h => by rw [← hAe]; exact Or.inr h
  have hS : va_S A s.heap s.heap [] := va_S.rf
  have hz : s.heap.size + 0 ≤ s.heap.size := Nat.le_refl _
  have hl := lv_entry ([.int p0, .int 0, .int 5]) (n := 3) (Nat.le_of_ble_eq_true rfl)
  rw [lg_entry_eq]
  generalize (lg_sl ([.int p0, .int 0, .int 5]) ++ List.replicate (3 - (lg_sl ([.int p0, .int 0, .int 5])).length) Slot.unset).toArray = ls at hl ⊢
  have hl : lv_has ls 3 [(0, .int p0), (1, .int 0), (2, .int 5)] := hl
  have hP : va_P (dC, dI) vwCl [] s.heap := hP
  have hD : va_D A [] := hD
  refine lv_iload_n hx hb dX4_isIn_0 rfl (lv_at hl 0 rfl) ?_
  refine lv_iload_n hx hb dX4_isIn_1 rfl (lv_at hl 1 rfl) ?_
  refine lv_icmp_lt (tgt := 14) hx hb dX4_isIn_2 (by decide) (fun c9 => ?_) (fun c8 => ?_)
  · refine lv_iconst (v := 0) hx hb dX4_isIn_14 (by decide) ?_
    have hP9 := hP.sub (ws' := []) [] rfl
    have hD9 := hD.sub (ws' := []) [] (by decide) rfl
    exact W.zret (v := 0) hx hb hr (by decide +kernel) (fun t ht hW => ⟨⟨_, (), rfl, rfl, ⟨by rw [ht]; exact hP9, va_K.moved hW.alike hK, hD9, by rw [ht]; exact hz⟩⟩, hS.F ht⟩) hS.2.2 dX4_isIn_15
  · refine lv_iload_n hx hb dX4_isIn_5 rfl (lv_at hl 0 rfl) ?_
    refine lv_iload_n hx hb dX4_isIn_6 rfl (lv_at hl 2 rfl) ?_
    refine lv_icmp_gt (tgt := 14) hx hb dX4_isIn_7 (by decide) (fun c9 => ?_) (fun c9 => ?_)
    rotate_left
    · exact absurd (zgt5 hp c8) c9
    refine lv_iconst (v := 0) hx hb dX4_isIn_14 (by decide) ?_
    have hP9 := hP.sub (ws' := []) [] rfl
    have hD9 := hD.sub (ws' := []) [] (by decide) rfl
    exact W.zret (v := 0) hx hb hr (by decide +kernel) (fun t ht hW => ⟨⟨_, (), rfl, rfl, ⟨by rw [ht]; exact hP9, va_K.moved hW.alike hK, hD9, by rw [ht]; exact hz⟩⟩, hS.F ht⟩) hS.2.2 dX4_isIn_15

set_option maxHeartbeats 4000000 in
set_option maxRecDepth 100000 in
theorem k_ref0 (l : Launch) (dC : Nat → ClassId) (dI : Nat → Nat → Nat) (cI cB cR cO : ClassId) (zk : Nat → Nat) (mo am : Nat) (sz : Nat)  : Met l yX4_refuse wsX4_refuse ({ frames := 0, cells := 0, slots := 0, locals := 0 }) (va_Pc [.ref mo, .int 0, .int 1] (zPre (dC, dI) (zT cI cB cR cO) zk [] [(mo, .inr (9, [.int 0, .ref am, .int 0, .int 0, .int 0]))] sz)) (va_Qi (fun r (_ : Unit) => r = 0) (fun _ t => zEnd (dC, dI) (zT cI cB cR cO) (va_A [(mo, .inr (9, [.int 0, .ref am, .int 0, .int 0, .int 0]))] sz) [(mo, .inr (9, [.int 0, .ref am, .int 0, .int 0, .int 0]))] sz 0 t) (va_A [(mo, .inr (9, [.int 0, .ref am, .int 0, .int 0, .int 0]))] sz)) 0 0 (va_A [(mo, .inr (9, [.int 0, .ref am, .int 0, .int 0, .int 0]))] sz) := by
  refine Met.ofW (cc := cX4_refuse) (maxL := 3) (ret := (some .boolean)) (by decide) rfl ?_
  intro p e s mY args below meth c s₁ B hml hv
  obtain ⟨rfl, hsz, hP, hK, hD0, hZ⟩ := hv
  have hx := B.exec
  have hb := B.bytes
  have hr := B.returns
  have hts := atoms_spec (ws := wsX4_refuse) B.pre
  have hown : s.vm.findClass RX4 = some mY.cls := findClass_of_methodNamed B.named
  have hlocks := B.notSynchronized
  subst hsz
  have hD := hD0.self (sz := s.heap.size)
  generalize hAe : va_A [(mo, .inr (9, [.int 0, .ref am, .int 0, .int 0, .int 0]))] s.heap.size = A at hD hZ ⊢
  have hA : ∀ q : Nat, s.heap.size ≤ q → A q := fun q h => by rw [← hAe]; exact Or.inr h
  have hS : va_S A s.heap s.heap [] := va_S.rf
  have hz : s.heap.size + 0 ≤ s.heap.size := Nat.le_refl _
  have hl := lv_entry ([.ref mo, .int 0, .int 1]) (n := 3) (Nat.le_of_ble_eq_true rfl)
  rw [lg_entry_eq]
  generalize (lg_sl ([.ref mo, .int 0, .int 1]) ++ List.replicate (3 - (lg_sl ([.ref mo, .int 0, .int 1])).length) Slot.unset).toArray = ls at hl ⊢
  have hl : lv_has ls 3 [(0, .ref mo), (1, .int 0), (2, .int 1)] := hl
  have hP : va_P (dC, dI) vwCl [(mo, .inr (9, [.int 0, .ref am, .int 0, .int 0, .int 0]))] s.heap := hP
  have hD : va_D A [(mo, .inr (9, [.int 0, .ref am, .int 0, .int 0, .int 0]))] := hD
  refine lv_iload_n hx hb dX4_refuse_0 rfl (lv_at hl 1 rfl) ?_
  refine lv_if_eq (tgt := 16) hx hb dX4_refuse_1 (by decide) (fun c9 => ?_) (fun c9 => ?_)
  rotate_left
  · exact absurd (by decide) c9
  refine lv_aload_n hx hb dX4_refuse_16 rfl (lv_at hl 0 rfl) ?_
  refine va_get (D := (dC, dI)) (ci := 9) (v := .int 0) (C := RX4) (T := TX4) (N := 5) hx hb hts hi_X4_refuse_X4 hown hK hP 0 rfl rfl 0 (by decide) (hts (.fieldLink RX4 16 "DeeprowsModel" "thrown" "I") (List.mem_cons_of_mem _ zw_1127)) (fun _ h9 => h9) rfl dX4_refuse_17 ?_
  refine lv_if_le (tgt := 27) hx hb dX4_refuse_20 (by decide) (fun c9 => ?_) (fun c9 => ?_)
  rotate_left
  · exact absurd (by decide) c9
  refine lv_iconst (v := 0) hx hb dX4_refuse_27 (by decide) ?_
  have hP9 := hP.sub (ws' := [(mo, .inr (9, [.int 0, .ref am, .int 0, .int 0, .int 0]))]) [0] rfl
  have hD9 := hD.sub (ws' := [(mo, .inr (9, [.int 0, .ref am, .int 0, .int 0, .int 0]))]) [0] (by decide) rfl
  exact W.zret (v := 0) hx hb hr (by decide +kernel) (fun t ht hW => ⟨⟨_, (), rfl, rfl, ⟨by rw [ht]; exact hP9, va_K.moved hW.alike hK, hD9, by rw [ht]; exact hz⟩⟩, hS.F ht⟩) hS.2.2 dX4_refuse_28

set_option maxHeartbeats 4000000 in
set_option maxRecDepth 100000 in
theorem k_stt0 (l : Launch) (dC : Nat → ClassId) (dI : Nat → Nat → Nat) (cI cB cR cO : ClassId) (zk : Nat → Nat) (mo am : Nat) (th : Value) (sz : Nat)  : Met l yX4_start wsX4_start ({ frames := 1, cells := 0, slots := 0, locals := 22 }) (va_Pc [.ref mo, .int 0, .int 1] (zPre (dC, dI) (zT cI cB cR cO) zk [] [(mo, .inr (9, [th, .ref am, .int 0, .int 0, .int 0]))] sz)) (va_Qi (fun r (_ : Unit) => r = 0) (fun _ t => zEnd (dC, dI) (zT cI cB cR cO) (va_A [(mo, .inr (9, [th, .ref am, .int 0, .int 0, .int 0]))] sz) [(mo, .inr (9, [.int 0, .ref am, .int 0, .int 0, .int 0]))] sz 0 t) (va_A [(mo, .inr (9, [th, .ref am, .int 0, .int 0, .int 0]))] sz)) 0 0 (va_A [(mo, .inr (9, [th, .ref am, .int 0, .int 0, .int 0]))] sz) := by
  refine Met.ofW (cc := cX4_start) (maxL := 3) (ret := (some .boolean)) (by decide) rfl ?_
  intro p e s mY args below meth c s₁ B hml hv
  obtain ⟨rfl, hsz, hP, hK, hD0, hZ⟩ := hv
  have hx := B.exec
  have hb := B.bytes
  have hr := B.returns
  have hts := atoms_spec (ws := wsX4_start) B.pre
  have hown : s.vm.findClass RX4 = some mY.cls := findClass_of_methodNamed B.named
  have hlocks := B.notSynchronized
  subst hsz
  have hD := hD0.self (sz := s.heap.size)
  generalize hAe : va_A [(mo, .inr (9, [th, .ref am, .int 0, .int 0, .int 0]))] s.heap.size = A at hD hZ ⊢
  have hA : ∀ q : Nat, s.heap.size ≤ q → A q := fun q h => by rw [← hAe]; exact Or.inr h
  have hS : va_S A s.heap s.heap [] := va_S.rf
  have hz : s.heap.size + 0 ≤ s.heap.size := Nat.le_refl _
  have hl := lv_entry ([.ref mo, .int 0, .int 1]) (n := 3) (Nat.le_of_ble_eq_true rfl)
  rw [lg_entry_eq]
  generalize (lg_sl ([.ref mo, .int 0, .int 1]) ++ List.replicate (3 - (lg_sl ([.ref mo, .int 0, .int 1])).length) Slot.unset).toArray = ls at hl ⊢
  have hl : lv_has ls 3 [(0, .ref mo), (1, .int 0), (2, .int 1)] := hl
  have hP : va_P (dC, dI) vwCl [(mo, .inr (9, [th, .ref am, .int 0, .int 0, .int 0]))] s.heap := hP
  have hD : va_D A [(mo, .inr (9, [th, .ref am, .int 0, .int 0, .int 0]))] := hD
  refine lv_aload_n hx hb dX4_start_0 rfl (lv_at hl 0 rfl) ?_
  refine lv_iconst (v := 0) hx hb dX4_start_1 (by decide) ?_
  refine va_put (D := (dC, dI)) (ci := 9) (v := .int 0) (ty := .int) (C := RX4) (T := TX4) (N := 5) hx hb hts hi_X4_start_X4 tyX4 tyX4_ok nmX4 hown hK hP hD (zS0 hS) 0 rfl rfl 0 (by decide) (hts (.fieldLink RX4 16 "DeeprowsModel" "thrown" "I") (List.mem_cons_of_mem _ zw_1127)) (fun _ h9 => h9) rfl (by decide +kernel) rfl rfl (Nat.le_of_ble_eq_true rfl) dX4_start_2 (fun H1 locs hP hD hS1 => ?_)
  have hz : s.heap.size + 0 ≤ H1.size := Nat.le_trans hz hS1.1
  have hS := zSS hS hS1
  replace hP : va_P (dC, dI) vwCl [(mo, .inr (9, [.int 0, .ref am, .int 0, .int 0, .int 0]))] H1 := hP
  replace hD : va_D A [(mo, .inr (9, [.int 0, .ref am, .int 0, .int 0, .int 0]))] := hD
  refine lv_aload_n hx hb dX4_start_5 rfl (lv_at hl 0 rfl) ?_
  refine lv_iload_n hx hb dX4_start_6 rfl (lv_at hl 1 rfl) ?_
  refine lv_iload_n hx hb dX4_start_7 rfl (lv_at hl 2 rfl) ?_
  have hPc := hP.sub (ws' := [(mo, .inr (9, [.int 0, .ref am, .int 0, .int 0, .int 0]))]) [0] rfl
  have hDc := hD.sub (ws' := [(mo, .inr (9, [.int 0, .ref am, .int 0, .int 0, .int 0]))]) [0] (by decide) rfl
  have hFc := va_free (wc := [(mo, .inr (9, [.int 0, .ref am, .int 0, .int 0, .int 0]))]) hD hS hA [0] rfl
  have hDv := hDc.self (sz := H1.size)
  have hpre := zpre (xs' := []) (av := [.ref mo, .int 0, .int 1]) hPc hK (hDc.weaken (fun _ _ _ h => h)) hZ hS hFc (fun r hr => by cases hr)
  refine va_calli (va_runV (As := [.int 0, .int 1]) (rest := []) ⟨hx, hb, hml, hown, hts⟩ (k_ref0 l dC dI cI cB cR cO zk mo am H1.size ) (cwV 2 hts gX4_start_X4_refuse rfl rfl rfl (by decide +kernel) ⟨Nat.le_of_ble_eq_true rfl, Nat.le_of_ble_eq_true rfl⟩) ⟨zblind, (zrecv_9 hK hPc (q0 := 0) rfl), hpre⟩ rfl rfl hl.1 rfl (lv_room (Nat.le_of_ble_eq_true rfl)) dX4_start_8 ⟨Nat.le_of_ble_eq_true rfl, Nat.le_of_ble_eq_true rfl⟩) hS (fun q _ h => hFc q h) hFc (fun r3 u t H2 locs ht hvm hw hB hz1 hk1 hS => ?_)
  obtain rfl : 0 = r3 := (show r3 = 0 from hw).symm
  obtain ⟨hP1, hK1, hD1, hz2⟩ := hB
  rw [ht] at hP1 hz2
  have hPD9 := va_join (wr := []) (w1 := [(mo, .inr (9, [.int 0, .ref am, .int 0, .int 0, .int 0]))]) hP hD [0] [] rfl rfl (by decide) (by decide) hk1 hFc hP1 hD1
  clear hPc hDc hFc hDv hpre hP hD hP1 hK1 hD1
  obtain ⟨hP, hD⟩ := hPD9
  replace hz : s.heap.size + 0 ≤ H2.size := by omega
  clear hz2
  replace hP : va_P (dC, dI) vwCl [(mo, .inr (9, [.int 0, .ref am, .int 0, .int 0, .int 0]))] H2 := hP
  replace hD : va_D A [(mo, .inr (9, [.int 0, .ref am, .int 0, .int 0, .int 0]))] := hD
  refine W.widen (k := 0) (n := 0) (by omega) (by omega) ?_
  have hP9 := hP.sub (ws' := [(mo, .inr (9, [.int 0, .ref am, .int 0, .int 0, .int 0]))]) [0] rfl
  have hD9 := hD.sub (ws' := [(mo, .inr (9, [.int 0, .ref am, .int 0, .int 0, .int 0]))]) [0] (by decide) rfl
  exact W.zret (v := 0) hx hb hr (by decide +kernel) (fun t ht hW => ⟨⟨_, (), rfl, rfl, ⟨by rw [ht]; exact hP9, va_K.moved hW.alike hK, hD9, by rw [ht]; exact hz⟩⟩, hS.F ht⟩) hS.2.2 dX4_start_11

set_option maxHeartbeats 4000000 in
set_option maxRecDepth 100000 in
theorem k_house0M (l : Launch) (dC : Nat → ClassId) (dI : Nat → Nat → Nat) (cI cB cR cO : ClassId) (zk : Nat → Nat) (mo am : Nat) (th : Value) (mm : Int32) (sz : Nat)  : Met l yX4_house wsX4_house ({ frames := 2, cells := 1, slots := 6, locals := 45 }) (va_Pc [.ref mo, .int 0] (zPre (dC, dI) (zT cI cB cR cO) zk [] [(mo, .inr (9, [th, .ref am, .int 0, .int 0, .int 0])), (am, .inr (4, [.int mm, .ref (zk 0), .int 0]))] sz)) (va_Qi (fun r (_ : Unit) => r = 0) (fun _ t => zEnd (dC, dI) (zT cI cB cR cO) (va_A [(mo, .inr (9, [th, .ref am, .int 0, .int 0, .int 0])), (am, .inr (4, [.int mm, .ref (zk 0), .int 0]))] sz) [(mo, .inr (9, [.int 0, .ref am, .int 0, .int 0, .int 0])), (am, .inr (4, [.int mm, .ref (zk 0), .int 0]))] sz 1 t) (va_A [(mo, .inr (9, [th, .ref am, .int 0, .int 0, .int 0])), (am, .inr (4, [.int mm, .ref (zk 0), .int 0]))] sz)) 1 6 (va_A [(mo, .inr (9, [th, .ref am, .int 0, .int 0, .int 0])), (am, .inr (4, [.int mm, .ref (zk 0), .int 0]))] sz) := by
  refine Met.ofW (cc := cX4_house) (maxL := 2) (ret := (some .int)) (by decide) rfl ?_
  intro p e s mY args below meth c s₁ B hml hv
  obtain ⟨rfl, hsz, hP, hK, hD0, hZ⟩ := hv
  have hx := B.exec
  have hb := B.bytes
  have hr := B.returns
  have hts := atoms_spec (ws := wsX4_house) B.pre
  have hown : s.vm.findClass RX4 = some mY.cls := findClass_of_methodNamed B.named
  have hlocks := B.notSynchronized
  subst hsz
  have hD := hD0.self (sz := s.heap.size)
  generalize hAe : va_A [(mo, .inr (9, [th, .ref am, .int 0, .int 0, .int 0])), (am, .inr (4, [.int mm, .ref (zk 0), .int 0]))] s.heap.size = A at hD hZ ⊢
  have hA : ∀ q : Nat, s.heap.size ≤ q → A q := fun q h => by rw [← hAe]; exact Or.inr h
  have hS : va_S A s.heap s.heap [] := va_S.rf
  have hz : s.heap.size + 0 ≤ s.heap.size := Nat.le_refl _
  have hl := lv_entry ([.ref mo, .int 0]) (n := 2) (Nat.le_of_ble_eq_true rfl)
  rw [lg_entry_eq]
  generalize (lg_sl ([.ref mo, .int 0]) ++ List.replicate (2 - (lg_sl ([.ref mo, .int 0])).length) Slot.unset).toArray = ls at hl ⊢
  have hl : lv_has ls 2 [(0, .ref mo), (1, .int 0)] := hl
  have hP : va_P (dC, dI) vwCl [(mo, .inr (9, [th, .ref am, .int 0, .int 0, .int 0])), (am, .inr (4, [.int mm, .ref (zk 0), .int 0]))] s.heap := hP
  have hD : va_D A [(mo, .inr (9, [th, .ref am, .int 0, .int 0, .int 0])), (am, .inr (4, [.int mm, .ref (zk 0), .int 0]))] := hD
  refine lv_aload_n hx hb dX4_house_0 rfl (lv_at hl 0 rfl) ?_
  refine lv_iload_n hx hb dX4_house_1 rfl (lv_at hl 1 rfl) ?_
  refine lv_iconst (v := 0) hx hb dX4_house_2 (by decide) ?_
  refine lv_iconst (v := 5) hx hb dX4_house_3 (by decide) ?_
  have hPc := hP.sub (ws' := []) [] rfl
  have hDc := hD.sub (ws' := []) [] (by decide) rfl
  have hFc := va_free (wc := []) hD hS hA [] rfl
  have hDv := hDc.self (sz := s.heap.size)
  have hpre := zpre (xs' := []) (av := [.int 0, .int 0, .int 5]) hPc hK (hDc.weaken (fun _ _ _ h => h)) hZ hS hFc (fun r hr => by cases hr)
  refine va_calli (va_runS (As := [.int 0, .int 0, .int 5]) (rest := [.ref mo]) ⟨hx, hb, hml, hown, hts⟩ (k_isIn5_0 l dC dI cI cB cR cO zk  s.heap.size ) (va_cwS 3 hts gX4_house_X4_isIn rfl rfl rfl (by decide +kernel) ⟨Nat.le_of_ble_eq_true rfl, Nat.le_of_ble_eq_true rfl⟩) ⟨zblind, hpre⟩ rfl rfl hl.1 rfl (lv_room (Nat.le_of_ble_eq_true rfl)) dX4_house_4 ⟨Nat.le_of_ble_eq_true rfl, Nat.le_of_ble_eq_true rfl⟩) hS (fun q _ h => hFc q h) hFc (fun r2 u t H1 locs ht hvm hw hB hz1 hk1 hS => ?_)
  obtain rfl : 1 = r2 := (show r2 = 1 from hw).symm
  obtain ⟨hP1, hK1, hD1, hz2⟩ := hB
  rw [ht] at hP1 hz2
  have hPD9 := va_join (wr := [(mo, .inr (9, [th, .ref am, .int 0, .int 0, .int 0])), (am, .inr (4, [.int mm, .ref (zk 0), .int 0]))]) (w1 := []) hP hD [] [0, 1] rfl rfl (by decide) (by decide) hk1 hFc hP1 hD1
  clear hPc hDc hFc hDv hpre hP hD hP1 hK1 hD1
  obtain ⟨hP, hD⟩ := hPD9
  replace hz : s.heap.size + 0 ≤ H1.size := by omega
  clear hz2
  replace hP : va_P (dC, dI) vwCl [(mo, .inr (9, [th, .ref am, .int 0, .int 0, .int 0])), (am, .inr (4, [.int mm, .ref (zk 0), .int 0]))] H1 := hP
  replace hD : va_D A [(mo, .inr (9, [th, .ref am, .int 0, .int 0, .int 0])), (am, .inr (4, [.int mm, .ref (zk 0), .int 0]))] := hD
  refine W.widen (k := 0) (n := 0) (by omega) (by omega) ?_
  refine lv_if_ne (tgt := 14) hx hb dX4_house_7 (by decide) (fun c9 => ?_) (fun c9 => ?_)
  rotate_left
  · exact absurd c9 (by decide)
  refine lv_iconst (v := 0) hx hb dX4_house_14 (by decide) ?_
  refine lv_iconst (v := 1) hx hb dX4_house_15 (by decide) ?_
  have hPc := hP.sub (ws' := [(mo, .inr (9, [th, .ref am, .int 0, .int 0, .int 0]))]) [0] rfl
  have hDc := hD.sub (ws' := [(mo, .inr (9, [th, .ref am, .int 0, .int 0, .int 0]))]) [0] (by decide) rfl
  have hFc := va_free (wc := [(mo, .inr (9, [th, .ref am, .int 0, .int 0, .int 0]))]) hD hS hA [0] rfl
  have hDv := hDc.self (sz := H1.size)
  have hpre := zpre (xs' := []) (av := [.ref mo, .int 0, .int 1]) hPc hK (hDc.weaken (fun _ _ _ h => h)) hZ hS hFc (fun r hr => by cases hr)
  refine va_calli (va_runV (As := [.int 0, .int 1]) (rest := []) ⟨hx, hb, hml, hown, hts⟩ (k_stt0 l dC dI cI cB cR cO zk mo am th H1.size ) (cwV 2 hts gX4_house_X4_start rfl rfl rfl (by decide +kernel) ⟨Nat.le_of_ble_eq_true rfl, Nat.le_of_ble_eq_true rfl⟩) ⟨zblind, (zrecv_9 hK hPc (q0 := 0) rfl), hpre⟩ rfl rfl hl.1 rfl (lv_room (Nat.le_of_ble_eq_true rfl)) dX4_house_16 ⟨Nat.le_of_ble_eq_true rfl, Nat.le_of_ble_eq_true rfl⟩) hS (fun q _ h => hFc q h) hFc (fun r4 u t H3 locs ht hvm hw hB hz1 hk1 hS => ?_)
  obtain rfl : 0 = r4 := (show r4 = 0 from hw).symm
  obtain ⟨hP1, hK1, hD1, hz2⟩ := hB
  rw [ht] at hP1 hz2
  have hPD9 := va_join (wr := [(am, .inr (4, [.int mm, .ref (zk 0), .int 0]))]) (w1 := [(mo, .inr (9, [.int 0, .ref am, .int 0, .int 0, .int 0]))]) hP hD [0] [1] rfl rfl (by decide) (by decide) hk1 hFc hP1 hD1
  clear hPc hDc hFc hDv hpre hP hD hP1 hK1 hD1
  obtain ⟨hP, hD⟩ := hPD9
  replace hz : s.heap.size + 0 ≤ H3.size := by omega
  clear hz2
  replace hP : va_P (dC, dI) vwCl [(am, .inr (4, [.int mm, .ref (zk 0), .int 0])), (mo, .inr (9, [.int 0, .ref am, .int 0, .int 0, .int 0]))] H3 := hP
  replace hD : va_D A [(am, .inr (4, [.int mm, .ref (zk 0), .int 0])), (mo, .inr (9, [.int 0, .ref am, .int 0, .int 0, .int 0]))] := hD
  refine W.widen (k := 0) (n := 0) (by omega) (by omega) ?_
  refine lv_if_eq (tgt := 26) hx hb dX4_house_19 (by decide) (fun c9 => ?_) (fun c9 => ?_)
  rotate_left
  · exact absurd (by decide) c9
  refine lv_aload_n hx hb dX4_house_26 rfl (lv_at hl 0 rfl) ?_
  refine lv_iload_n hx hb dX4_house_27 rfl (lv_at hl 1 rfl) ?_
  have hPc := hP.sub (ws' := [(mo, .inr (9, [.int 0, .ref am, .int 0, .int 0, .int 0])), (am, .inr (4, [.int mm, .ref (zk 0), .int 0]))]) [1, 0] rfl
  have hDc := hD.sub (ws' := [(mo, .inr (9, [.int 0, .ref am, .int 0, .int 0, .int 0])), (am, .inr (4, [.int mm, .ref (zk 0), .int 0]))]) [1, 0] (by decide) rfl
  have hFc := va_free (wc := [(mo, .inr (9, [.int 0, .ref am, .int 0, .int 0, .int 0])), (am, .inr (4, [.int mm, .ref (zk 0), .int 0]))]) hD hS hA [1, 0] rfl
  have hDv := hDc.self (sz := H3.size)
  have hpre := zpre (xs' := []) (av := [.ref mo, .int 0]) hPc hK (hDc.weaken (fun _ _ _ h => h)) hZ hS hFc (fun r hr => by cases hr)
  refine va_calli (va_runV (As := [.int 0]) (rest := []) ⟨hx, hb, hml, hown, hts⟩ (k_hTold0 l dC dI cI cB cR cO zk mo am (.int 0) mm H3.size ) (cwV 1 hts gX4_house_X4_houseTold rfl rfl rfl (by decide +kernel) ⟨Nat.le_of_ble_eq_true rfl, Nat.le_of_ble_eq_true rfl⟩) ⟨zblind, (zrecv_9 hK hPc (q0 := 0) rfl), hpre⟩ rfl rfl hl.1 rfl (lv_room (Nat.le_of_ble_eq_true rfl)) dX4_house_28 ⟨Nat.le_of_ble_eq_true rfl, Nat.le_of_ble_eq_true rfl⟩) hS (fun q _ h => hFc q h) hFc (fun r6 u t H5 locs ht hvm hw hB hz1 hk1 hS => ?_)
  obtain rfl : 0 = r6 := (show r6 = 0 from hw).symm
  obtain ⟨hP1, hK1, hD1, hz2⟩ := hB
  rw [ht] at hP1 hz2
  have hPD9 := va_join (wr := []) (w1 := [(mo, .inr (9, [.int 0, .ref am, .int 0, .int 0, .int 0])), (am, .inr (4, [.int mm, .ref (zk 0), .int 0]))]) hP hD [1, 0] [] rfl rfl (by decide) (by decide) hk1 hFc hP1 hD1
  clear hPc hDc hFc hDv hpre hP hD hP1 hK1 hD1
  obtain ⟨hP, hD⟩ := hPD9
  replace hz : s.heap.size + 1 ≤ H5.size := by omega
  clear hz2
  replace hP : va_P (dC, dI) vwCl [(mo, .inr (9, [.int 0, .ref am, .int 0, .int 0, .int 0])), (am, .inr (4, [.int mm, .ref (zk 0), .int 0]))] H5 := hP
  replace hD : va_D A [(mo, .inr (9, [.int 0, .ref am, .int 0, .int 0, .int 0])), (am, .inr (4, [.int mm, .ref (zk 0), .int 0]))] := hD
  refine W.widen (k := 1) (n := 6) (by omega) (by omega) ?_
  have hP9 := hP.sub (ws' := [(mo, .inr (9, [.int 0, .ref am, .int 0, .int 0, .int 0])), (am, .inr (4, [.int mm, .ref (zk 0), .int 0]))]) [0, 1] rfl
  have hD9 := hD.sub (ws' := [(mo, .inr (9, [.int 0, .ref am, .int 0, .int 0, .int 0])), (am, .inr (4, [.int mm, .ref (zk 0), .int 0]))]) [0, 1] (by decide) rfl
  exact W.iret (v := 0) hx hb hr (fun t ht hW => ⟨⟨_, (), rfl, rfl, ⟨by rw [ht]; exact hP9, va_K.moved hW.alike hK, hD9, by rw [ht]; exact hz⟩⟩, hS.F ht⟩) hS.2.2 dX4_house_31

set_option maxHeartbeats 4000000 in
set_option maxRecDepth 100000 in
theorem k_house1M (l : Launch) (dC : Nat → ClassId) (dI : Nat → Nat → Nat) (cI cB cR cO : ClassId) (zk : Nat → Nat) (mo am : Nat) (th : Value) (mm : Int32) (sz : Nat)  : Met l yX4_house wsX4_house ({ frames := 2, cells := 1, slots := 6, locals := 45 }) (va_Pc [.ref mo, .int 1] (zPre (dC, dI) (zT cI cB cR cO) zk [] [(mo, .inr (9, [th, .ref am, .int 0, .int 0, .int 0])), (am, .inr (4, [.int mm, .ref (zk 0), .int 0]))] sz)) (va_Qi (fun r (_ : Unit) => r = 0) (fun _ t => zEnd (dC, dI) (zT cI cB cR cO) (va_A [(mo, .inr (9, [th, .ref am, .int 0, .int 0, .int 0])), (am, .inr (4, [.int mm, .ref (zk 0), .int 0]))] sz) [(mo, .inr (9, [.int 0, .ref am, .int 0, .int 0, .int 0])), (am, .inr (4, [.int mm, .ref (zk 0), .int 0]))] sz 1 t) (va_A [(mo, .inr (9, [th, .ref am, .int 0, .int 0, .int 0])), (am, .inr (4, [.int mm, .ref (zk 0), .int 0]))] sz)) 1 6 (va_A [(mo, .inr (9, [th, .ref am, .int 0, .int 0, .int 0])), (am, .inr (4, [.int mm, .ref (zk 0), .int 0]))] sz) := by
  refine Met.ofW (cc := cX4_house) (maxL := 2) (ret := (some .int)) (by decide) rfl ?_
  intro p e s mY args below meth c s₁ B hml hv
  obtain ⟨rfl, hsz, hP, hK, hD0, hZ⟩ := hv
  have hx := B.exec
  have hb := B.bytes
  have hr := B.returns
  have hts := atoms_spec (ws := wsX4_house) B.pre
  have hown : s.vm.findClass RX4 = some mY.cls := findClass_of_methodNamed B.named
  have hlocks := B.notSynchronized
  subst hsz
  have hD := hD0.self (sz := s.heap.size)
  generalize hAe : va_A [(mo, .inr (9, [th, .ref am, .int 0, .int 0, .int 0])), (am, .inr (4, [.int mm, .ref (zk 0), .int 0]))] s.heap.size = A at hD hZ ⊢
  have hA : ∀ q : Nat, s.heap.size ≤ q → A q := fun q h => by rw [← hAe]; exact Or.inr h
  have hS : va_S A s.heap s.heap [] := va_S.rf
  have hz : s.heap.size + 0 ≤ s.heap.size := Nat.le_refl _
  have hl := lv_entry ([.ref mo, .int 1]) (n := 2) (Nat.le_of_ble_eq_true rfl)
  rw [lg_entry_eq]
  generalize (lg_sl ([.ref mo, .int 1]) ++ List.replicate (2 - (lg_sl ([.ref mo, .int 1])).length) Slot.unset).toArray = ls at hl ⊢
  have hl : lv_has ls 2 [(0, .ref mo), (1, .int 1)] := hl
  have hP : va_P (dC, dI) vwCl [(mo, .inr (9, [th, .ref am, .int 0, .int 0, .int 0])), (am, .inr (4, [.int mm, .ref (zk 0), .int 0]))] s.heap := hP
  have hD : va_D A [(mo, .inr (9, [th, .ref am, .int 0, .int 0, .int 0])), (am, .inr (4, [.int mm, .ref (zk 0), .int 0]))] := hD
  refine lv_aload_n hx hb dX4_house_0 rfl (lv_at hl 0 rfl) ?_
  refine lv_iload_n hx hb dX4_house_1 rfl (lv_at hl 1 rfl) ?_
  refine lv_iconst (v := 0) hx hb dX4_house_2 (by decide) ?_
  refine lv_iconst (v := 5) hx hb dX4_house_3 (by decide) ?_
  have hPc := hP.sub (ws' := []) [] rfl
  have hDc := hD.sub (ws' := []) [] (by decide) rfl
  have hFc := va_free (wc := []) hD hS hA [] rfl
  have hDv := hDc.self (sz := s.heap.size)
  have hpre := zpre (xs' := []) (av := [.int 1, .int 0, .int 5]) hPc hK (hDc.weaken (fun _ _ _ h => h)) hZ hS hFc (fun r hr => by cases hr)
  refine va_calli (va_runS (As := [.int 1, .int 0, .int 5]) (rest := [.ref mo]) ⟨hx, hb, hml, hown, hts⟩ (k_isIn5_1 l dC dI cI cB cR cO zk  s.heap.size ) (va_cwS 3 hts gX4_house_X4_isIn rfl rfl rfl (by decide +kernel) ⟨Nat.le_of_ble_eq_true rfl, Nat.le_of_ble_eq_true rfl⟩) ⟨zblind, hpre⟩ rfl rfl hl.1 rfl (lv_room (Nat.le_of_ble_eq_true rfl)) dX4_house_4 ⟨Nat.le_of_ble_eq_true rfl, Nat.le_of_ble_eq_true rfl⟩) hS (fun q _ h => hFc q h) hFc (fun r2 u t H1 locs ht hvm hw hB hz1 hk1 hS => ?_)
  obtain rfl : 1 = r2 := (show r2 = 1 from hw).symm
  obtain ⟨hP1, hK1, hD1, hz2⟩ := hB
  rw [ht] at hP1 hz2
  have hPD9 := va_join (wr := [(mo, .inr (9, [th, .ref am, .int 0, .int 0, .int 0])), (am, .inr (4, [.int mm, .ref (zk 0), .int 0]))]) (w1 := []) hP hD [] [0, 1] rfl rfl (by decide) (by decide) hk1 hFc hP1 hD1
  clear hPc hDc hFc hDv hpre hP hD hP1 hK1 hD1
  obtain ⟨hP, hD⟩ := hPD9
  replace hz : s.heap.size + 0 ≤ H1.size := by omega
  clear hz2
  replace hP : va_P (dC, dI) vwCl [(mo, .inr (9, [th, .ref am, .int 0, .int 0, .int 0])), (am, .inr (4, [.int mm, .ref (zk 0), .int 0]))] H1 := hP
  replace hD : va_D A [(mo, .inr (9, [th, .ref am, .int 0, .int 0, .int 0])), (am, .inr (4, [.int mm, .ref (zk 0), .int 0]))] := hD
  refine W.widen (k := 0) (n := 0) (by omega) (by omega) ?_
  refine lv_if_ne (tgt := 14) hx hb dX4_house_7 (by decide) (fun c9 => ?_) (fun c9 => ?_)
  rotate_left
  · exact absurd c9 (by decide)
  refine lv_iconst (v := 0) hx hb dX4_house_14 (by decide) ?_
  refine lv_iconst (v := 1) hx hb dX4_house_15 (by decide) ?_
  have hPc := hP.sub (ws' := [(mo, .inr (9, [th, .ref am, .int 0, .int 0, .int 0]))]) [0] rfl
  have hDc := hD.sub (ws' := [(mo, .inr (9, [th, .ref am, .int 0, .int 0, .int 0]))]) [0] (by decide) rfl
  have hFc := va_free (wc := [(mo, .inr (9, [th, .ref am, .int 0, .int 0, .int 0]))]) hD hS hA [0] rfl
  have hDv := hDc.self (sz := H1.size)
  have hpre := zpre (xs' := []) (av := [.ref mo, .int 0, .int 1]) hPc hK (hDc.weaken (fun _ _ _ h => h)) hZ hS hFc (fun r hr => by cases hr)
  refine va_calli (va_runV (As := [.int 0, .int 1]) (rest := []) ⟨hx, hb, hml, hown, hts⟩ (k_stt0 l dC dI cI cB cR cO zk mo am th H1.size ) (cwV 2 hts gX4_house_X4_start rfl rfl rfl (by decide +kernel) ⟨Nat.le_of_ble_eq_true rfl, Nat.le_of_ble_eq_true rfl⟩) ⟨zblind, (zrecv_9 hK hPc (q0 := 0) rfl), hpre⟩ rfl rfl hl.1 rfl (lv_room (Nat.le_of_ble_eq_true rfl)) dX4_house_16 ⟨Nat.le_of_ble_eq_true rfl, Nat.le_of_ble_eq_true rfl⟩) hS (fun q _ h => hFc q h) hFc (fun r4 u t H3 locs ht hvm hw hB hz1 hk1 hS => ?_)
  obtain rfl : 0 = r4 := (show r4 = 0 from hw).symm
  obtain ⟨hP1, hK1, hD1, hz2⟩ := hB
  rw [ht] at hP1 hz2
  have hPD9 := va_join (wr := [(am, .inr (4, [.int mm, .ref (zk 0), .int 0]))]) (w1 := [(mo, .inr (9, [.int 0, .ref am, .int 0, .int 0, .int 0]))]) hP hD [0] [1] rfl rfl (by decide) (by decide) hk1 hFc hP1 hD1
  clear hPc hDc hFc hDv hpre hP hD hP1 hK1 hD1
  obtain ⟨hP, hD⟩ := hPD9
  replace hz : s.heap.size + 0 ≤ H3.size := by omega
  clear hz2
  replace hP : va_P (dC, dI) vwCl [(am, .inr (4, [.int mm, .ref (zk 0), .int 0])), (mo, .inr (9, [.int 0, .ref am, .int 0, .int 0, .int 0]))] H3 := hP
  replace hD : va_D A [(am, .inr (4, [.int mm, .ref (zk 0), .int 0])), (mo, .inr (9, [.int 0, .ref am, .int 0, .int 0, .int 0]))] := hD
  refine W.widen (k := 0) (n := 0) (by omega) (by omega) ?_
  refine lv_if_eq (tgt := 26) hx hb dX4_house_19 (by decide) (fun c9 => ?_) (fun c9 => ?_)
  rotate_left
  · exact absurd (by decide) c9
  refine lv_aload_n hx hb dX4_house_26 rfl (lv_at hl 0 rfl) ?_
  refine lv_iload_n hx hb dX4_house_27 rfl (lv_at hl 1 rfl) ?_
  have hPc := hP.sub (ws' := [(mo, .inr (9, [.int 0, .ref am, .int 0, .int 0, .int 0])), (am, .inr (4, [.int mm, .ref (zk 0), .int 0]))]) [1, 0] rfl
  have hDc := hD.sub (ws' := [(mo, .inr (9, [.int 0, .ref am, .int 0, .int 0, .int 0])), (am, .inr (4, [.int mm, .ref (zk 0), .int 0]))]) [1, 0] (by decide) rfl
  have hFc := va_free (wc := [(mo, .inr (9, [.int 0, .ref am, .int 0, .int 0, .int 0])), (am, .inr (4, [.int mm, .ref (zk 0), .int 0]))]) hD hS hA [1, 0] rfl
  have hDv := hDc.self (sz := H3.size)
  have hpre := zpre (xs' := []) (av := [.ref mo, .int 1]) hPc hK (hDc.weaken (fun _ _ _ h => h)) hZ hS hFc (fun r hr => by cases hr)
  refine va_calli (va_runV (As := [.int 1]) (rest := []) ⟨hx, hb, hml, hown, hts⟩ (k_hTold1 l dC dI cI cB cR cO zk mo am (.int 0) mm H3.size ) (cwV 1 hts gX4_house_X4_houseTold rfl rfl rfl (by decide +kernel) ⟨Nat.le_of_ble_eq_true rfl, Nat.le_of_ble_eq_true rfl⟩) ⟨zblind, (zrecv_9 hK hPc (q0 := 0) rfl), hpre⟩ rfl rfl hl.1 rfl (lv_room (Nat.le_of_ble_eq_true rfl)) dX4_house_28 ⟨Nat.le_of_ble_eq_true rfl, Nat.le_of_ble_eq_true rfl⟩) hS (fun q _ h => hFc q h) hFc (fun r6 u t H5 locs ht hvm hw hB hz1 hk1 hS => ?_)
  obtain rfl : 0 = r6 := (show r6 = 0 from hw).symm
  obtain ⟨hP1, hK1, hD1, hz2⟩ := hB
  rw [ht] at hP1 hz2
  have hPD9 := va_join (wr := []) (w1 := [(mo, .inr (9, [.int 0, .ref am, .int 0, .int 0, .int 0])), (am, .inr (4, [.int mm, .ref (zk 0), .int 0]))]) hP hD [1, 0] [] rfl rfl (by decide) (by decide) hk1 hFc hP1 hD1
  clear hPc hDc hFc hDv hpre hP hD hP1 hK1 hD1
  obtain ⟨hP, hD⟩ := hPD9
  replace hz : s.heap.size + 1 ≤ H5.size := by omega
  clear hz2
  replace hP : va_P (dC, dI) vwCl [(mo, .inr (9, [.int 0, .ref am, .int 0, .int 0, .int 0])), (am, .inr (4, [.int mm, .ref (zk 0), .int 0]))] H5 := hP
  replace hD : va_D A [(mo, .inr (9, [.int 0, .ref am, .int 0, .int 0, .int 0])), (am, .inr (4, [.int mm, .ref (zk 0), .int 0]))] := hD
  refine W.widen (k := 1) (n := 6) (by omega) (by omega) ?_
  have hP9 := hP.sub (ws' := [(mo, .inr (9, [.int 0, .ref am, .int 0, .int 0, .int 0])), (am, .inr (4, [.int mm, .ref (zk 0), .int 0]))]) [0, 1] rfl
  have hD9 := hD.sub (ws' := [(mo, .inr (9, [.int 0, .ref am, .int 0, .int 0, .int 0])), (am, .inr (4, [.int mm, .ref (zk 0), .int 0]))]) [0, 1] (by decide) rfl
  exact W.iret (v := 0) hx hb hr (fun t ht hW => ⟨⟨_, (), rfl, rfl, ⟨by rw [ht]; exact hP9, va_K.moved hW.alike hK, hD9, by rw [ht]; exact hz⟩⟩, hS.F ht⟩) hS.2.2 dX4_house_31

set_option maxHeartbeats 4000000 in
set_option maxRecDepth 100000 in
theorem k_house2M (l : Launch) (dC : Nat → ClassId) (dI : Nat → Nat → Nat) (cI cB cR cO : ClassId) (zk : Nat → Nat) (mo am : Nat) (th : Value) (mm : Int32) (sz : Nat)  : Met l yX4_house wsX4_house ({ frames := 2, cells := 1, slots := 6, locals := 45 }) (va_Pc [.ref mo, .int 2] (zPre (dC, dI) (zT cI cB cR cO) zk [] [(mo, .inr (9, [th, .ref am, .int 0, .int 0, .int 0])), (am, .inr (4, [.int mm, .ref (zk 0), .int 0]))] sz)) (va_Qi (fun r (_ : Unit) => r = 0) (fun _ t => zEnd (dC, dI) (zT cI cB cR cO) (va_A [(mo, .inr (9, [th, .ref am, .int 0, .int 0, .int 0])), (am, .inr (4, [.int mm, .ref (zk 0), .int 0]))] sz) [(mo, .inr (9, [.int 0, .ref am, .int 0, .int 0, .int 0])), (am, .inr (4, [.int mm, .ref (zk 0), .int 0]))] sz 1 t) (va_A [(mo, .inr (9, [th, .ref am, .int 0, .int 0, .int 0])), (am, .inr (4, [.int mm, .ref (zk 0), .int 0]))] sz)) 1 6 (va_A [(mo, .inr (9, [th, .ref am, .int 0, .int 0, .int 0])), (am, .inr (4, [.int mm, .ref (zk 0), .int 0]))] sz) := by
  refine Met.ofW (cc := cX4_house) (maxL := 2) (ret := (some .int)) (by decide) rfl ?_
  intro p e s mY args below meth c s₁ B hml hv
  obtain ⟨rfl, hsz, hP, hK, hD0, hZ⟩ := hv
  have hx := B.exec
  have hb := B.bytes
  have hr := B.returns
  have hts := atoms_spec (ws := wsX4_house) B.pre
  have hown : s.vm.findClass RX4 = some mY.cls := findClass_of_methodNamed B.named
  have hlocks := B.notSynchronized
  subst hsz
  have hD := hD0.self (sz := s.heap.size)
  generalize hAe : va_A [(mo, .inr (9, [th, .ref am, .int 0, .int 0, .int 0])), (am, .inr (4, [.int mm, .ref (zk 0), .int 0]))] s.heap.size = A at hD hZ ⊢
  have hA : ∀ q : Nat, s.heap.size ≤ q → A q := fun q h => by rw [← hAe]; exact Or.inr h
  have hS : va_S A s.heap s.heap [] := va_S.rf
  have hz : s.heap.size + 0 ≤ s.heap.size := Nat.le_refl _
  have hl := lv_entry ([.ref mo, .int 2]) (n := 2) (Nat.le_of_ble_eq_true rfl)
  rw [lg_entry_eq]
  generalize (lg_sl ([.ref mo, .int 2]) ++ List.replicate (2 - (lg_sl ([.ref mo, .int 2])).length) Slot.unset).toArray = ls at hl ⊢
  have hl : lv_has ls 2 [(0, .ref mo), (1, .int 2)] := hl
  have hP : va_P (dC, dI) vwCl [(mo, .inr (9, [th, .ref am, .int 0, .int 0, .int 0])), (am, .inr (4, [.int mm, .ref (zk 0), .int 0]))] s.heap := hP
  have hD : va_D A [(mo, .inr (9, [th, .ref am, .int 0, .int 0, .int 0])), (am, .inr (4, [.int mm, .ref (zk 0), .int 0]))] := hD
  refine lv_aload_n hx hb dX4_house_0 rfl (lv_at hl 0 rfl) ?_
  refine lv_iload_n hx hb dX4_house_1 rfl (lv_at hl 1 rfl) ?_
  refine lv_iconst (v := 0) hx hb dX4_house_2 (by decide) ?_
  refine lv_iconst (v := 5) hx hb dX4_house_3 (by decide) ?_
  have hPc := hP.sub (ws' := []) [] rfl
  have hDc := hD.sub (ws' := []) [] (by decide) rfl
  have hFc := va_free (wc := []) hD hS hA [] rfl
  have hDv := hDc.self (sz := s.heap.size)
  have hpre := zpre (xs' := []) (av := [.int 2, .int 0, .int 5]) hPc hK (hDc.weaken (fun _ _ _ h => h)) hZ hS hFc (fun r hr => by cases hr)
  refine va_calli (va_runS (As := [.int 2, .int 0, .int 5]) (rest := [.ref mo]) ⟨hx, hb, hml, hown, hts⟩ (k_isIn5_2 l dC dI cI cB cR cO zk  s.heap.size ) (va_cwS 3 hts gX4_house_X4_isIn rfl rfl rfl (by decide +kernel) ⟨Nat.le_of_ble_eq_true rfl, Nat.le_of_ble_eq_true rfl⟩) ⟨zblind, hpre⟩ rfl rfl hl.1 rfl (lv_room (Nat.le_of_ble_eq_true rfl)) dX4_house_4 ⟨Nat.le_of_ble_eq_true rfl, Nat.le_of_ble_eq_true rfl⟩) hS (fun q _ h => hFc q h) hFc (fun r2 u t H1 locs ht hvm hw hB hz1 hk1 hS => ?_)
  obtain rfl : 1 = r2 := (show r2 = 1 from hw).symm
  obtain ⟨hP1, hK1, hD1, hz2⟩ := hB
  rw [ht] at hP1 hz2
  have hPD9 := va_join (wr := [(mo, .inr (9, [th, .ref am, .int 0, .int 0, .int 0])), (am, .inr (4, [.int mm, .ref (zk 0), .int 0]))]) (w1 := []) hP hD [] [0, 1] rfl rfl (by decide) (by decide) hk1 hFc hP1 hD1
  clear hPc hDc hFc hDv hpre hP hD hP1 hK1 hD1
  obtain ⟨hP, hD⟩ := hPD9
  replace hz : s.heap.size + 0 ≤ H1.size := by omega
  clear hz2
  replace hP : va_P (dC, dI) vwCl [(mo, .inr (9, [th, .ref am, .int 0, .int 0, .int 0])), (am, .inr (4, [.int mm, .ref (zk 0), .int 0]))] H1 := hP
  replace hD : va_D A [(mo, .inr (9, [th, .ref am, .int 0, .int 0, .int 0])), (am, .inr (4, [.int mm, .ref (zk 0), .int 0]))] := hD
  refine W.widen (k := 0) (n := 0) (by omega) (by omega) ?_
  refine lv_if_ne (tgt := 14) hx hb dX4_house_7 (by decide) (fun c9 => ?_) (fun c9 => ?_)
  rotate_left
  · exact absurd c9 (by decide)
  refine lv_iconst (v := 0) hx hb dX4_house_14 (by decide) ?_
  refine lv_iconst (v := 1) hx hb dX4_house_15 (by decide) ?_
  have hPc := hP.sub (ws' := [(mo, .inr (9, [th, .ref am, .int 0, .int 0, .int 0]))]) [0] rfl
  have hDc := hD.sub (ws' := [(mo, .inr (9, [th, .ref am, .int 0, .int 0, .int 0]))]) [0] (by decide) rfl
  have hFc := va_free (wc := [(mo, .inr (9, [th, .ref am, .int 0, .int 0, .int 0]))]) hD hS hA [0] rfl
  have hDv := hDc.self (sz := H1.size)
  have hpre := zpre (xs' := []) (av := [.ref mo, .int 0, .int 1]) hPc hK (hDc.weaken (fun _ _ _ h => h)) hZ hS hFc (fun r hr => by cases hr)
  refine va_calli (va_runV (As := [.int 0, .int 1]) (rest := []) ⟨hx, hb, hml, hown, hts⟩ (k_stt0 l dC dI cI cB cR cO zk mo am th H1.size ) (cwV 2 hts gX4_house_X4_start rfl rfl rfl (by decide +kernel) ⟨Nat.le_of_ble_eq_true rfl, Nat.le_of_ble_eq_true rfl⟩) ⟨zblind, (zrecv_9 hK hPc (q0 := 0) rfl), hpre⟩ rfl rfl hl.1 rfl (lv_room (Nat.le_of_ble_eq_true rfl)) dX4_house_16 ⟨Nat.le_of_ble_eq_true rfl, Nat.le_of_ble_eq_true rfl⟩) hS (fun q _ h => hFc q h) hFc (fun r4 u t H3 locs ht hvm hw hB hz1 hk1 hS => ?_)
  obtain rfl : 0 = r4 := (show r4 = 0 from hw).symm
  obtain ⟨hP1, hK1, hD1, hz2⟩ := hB
  rw [ht] at hP1 hz2
  have hPD9 := va_join (wr := [(am, .inr (4, [.int mm, .ref (zk 0), .int 0]))]) (w1 := [(mo, .inr (9, [.int 0, .ref am, .int 0, .int 0, .int 0]))]) hP hD [0] [1] rfl rfl (by decide) (by decide) hk1 hFc hP1 hD1
  clear hPc hDc hFc hDv hpre hP hD hP1 hK1 hD1
  obtain ⟨hP, hD⟩ := hPD9
  replace hz : s.heap.size + 0 ≤ H3.size := by omega
  clear hz2
  replace hP : va_P (dC, dI) vwCl [(am, .inr (4, [.int mm, .ref (zk 0), .int 0])), (mo, .inr (9, [.int 0, .ref am, .int 0, .int 0, .int 0]))] H3 := hP
  replace hD : va_D A [(am, .inr (4, [.int mm, .ref (zk 0), .int 0])), (mo, .inr (9, [.int 0, .ref am, .int 0, .int 0, .int 0]))] := hD
  refine W.widen (k := 0) (n := 0) (by omega) (by omega) ?_
  refine lv_if_eq (tgt := 26) hx hb dX4_house_19 (by decide) (fun c9 => ?_) (fun c9 => ?_)
  rotate_left
  · exact absurd (by decide) c9
  refine lv_aload_n hx hb dX4_house_26 rfl (lv_at hl 0 rfl) ?_
  refine lv_iload_n hx hb dX4_house_27 rfl (lv_at hl 1 rfl) ?_
  have hPc := hP.sub (ws' := [(mo, .inr (9, [.int 0, .ref am, .int 0, .int 0, .int 0])), (am, .inr (4, [.int mm, .ref (zk 0), .int 0]))]) [1, 0] rfl
  have hDc := hD.sub (ws' := [(mo, .inr (9, [.int 0, .ref am, .int 0, .int 0, .int 0])), (am, .inr (4, [.int mm, .ref (zk 0), .int 0]))]) [1, 0] (by decide) rfl
  have hFc := va_free (wc := [(mo, .inr (9, [.int 0, .ref am, .int 0, .int 0, .int 0])), (am, .inr (4, [.int mm, .ref (zk 0), .int 0]))]) hD hS hA [1, 0] rfl
  have hDv := hDc.self (sz := H3.size)
  have hpre := zpre (xs' := []) (av := [.ref mo, .int 2]) hPc hK (hDc.weaken (fun _ _ _ h => h)) hZ hS hFc (fun r hr => by cases hr)
  refine va_calli (va_runV (As := [.int 2]) (rest := []) ⟨hx, hb, hml, hown, hts⟩ (k_hTold2 l dC dI cI cB cR cO zk mo am (.int 0) mm H3.size ) (cwV 1 hts gX4_house_X4_houseTold rfl rfl rfl (by decide +kernel) ⟨Nat.le_of_ble_eq_true rfl, Nat.le_of_ble_eq_true rfl⟩) ⟨zblind, (zrecv_9 hK hPc (q0 := 0) rfl), hpre⟩ rfl rfl hl.1 rfl (lv_room (Nat.le_of_ble_eq_true rfl)) dX4_house_28 ⟨Nat.le_of_ble_eq_true rfl, Nat.le_of_ble_eq_true rfl⟩) hS (fun q _ h => hFc q h) hFc (fun r6 u t H5 locs ht hvm hw hB hz1 hk1 hS => ?_)
  obtain rfl : 0 = r6 := (show r6 = 0 from hw).symm
  obtain ⟨hP1, hK1, hD1, hz2⟩ := hB
  rw [ht] at hP1 hz2
  have hPD9 := va_join (wr := []) (w1 := [(mo, .inr (9, [.int 0, .ref am, .int 0, .int 0, .int 0])), (am, .inr (4, [.int mm, .ref (zk 0), .int 0]))]) hP hD [1, 0] [] rfl rfl (by decide) (by decide) hk1 hFc hP1 hD1
  clear hPc hDc hFc hDv hpre hP hD hP1 hK1 hD1
  obtain ⟨hP, hD⟩ := hPD9
  replace hz : s.heap.size + 1 ≤ H5.size := by omega
  clear hz2
  replace hP : va_P (dC, dI) vwCl [(mo, .inr (9, [.int 0, .ref am, .int 0, .int 0, .int 0])), (am, .inr (4, [.int mm, .ref (zk 0), .int 0]))] H5 := hP
  replace hD : va_D A [(mo, .inr (9, [.int 0, .ref am, .int 0, .int 0, .int 0])), (am, .inr (4, [.int mm, .ref (zk 0), .int 0]))] := hD
  refine W.widen (k := 1) (n := 6) (by omega) (by omega) ?_
  have hP9 := hP.sub (ws' := [(mo, .inr (9, [.int 0, .ref am, .int 0, .int 0, .int 0])), (am, .inr (4, [.int mm, .ref (zk 0), .int 0]))]) [0, 1] rfl
  have hD9 := hD.sub (ws' := [(mo, .inr (9, [.int 0, .ref am, .int 0, .int 0, .int 0])), (am, .inr (4, [.int mm, .ref (zk 0), .int 0]))]) [0, 1] (by decide) rfl
  exact W.iret (v := 0) hx hb hr (fun t ht hW => ⟨⟨_, (), rfl, rfl, ⟨by rw [ht]; exact hP9, va_K.moved hW.alike hK, hD9, by rw [ht]; exact hz⟩⟩, hS.F ht⟩) hS.2.2 dX4_house_31

set_option maxHeartbeats 4000000 in
set_option maxRecDepth 100000 in
theorem k_house3M (l : Launch) (dC : Nat → ClassId) (dI : Nat → Nat → Nat) (cI cB cR cO : ClassId) (zk : Nat → Nat) (mo am : Nat) (th : Value) (mm : Int32) (sz : Nat)  : Met l yX4_house wsX4_house ({ frames := 2, cells := 1, slots := 6, locals := 45 }) (va_Pc [.ref mo, .int 3] (zPre (dC, dI) (zT cI cB cR cO) zk [] [(mo, .inr (9, [th, .ref am, .int 0, .int 0, .int 0])), (am, .inr (4, [.int mm, .ref (zk 0), .int 0]))] sz)) (va_Qi (fun r (_ : Unit) => r = 0) (fun _ t => zEnd (dC, dI) (zT cI cB cR cO) (va_A [(mo, .inr (9, [th, .ref am, .int 0, .int 0, .int 0])), (am, .inr (4, [.int mm, .ref (zk 0), .int 0]))] sz) [(mo, .inr (9, [.int 0, .ref am, .int 0, .int 0, .int 0])), (am, .inr (4, [.int mm, .ref (zk 0), .int 0]))] sz 1 t) (va_A [(mo, .inr (9, [th, .ref am, .int 0, .int 0, .int 0])), (am, .inr (4, [.int mm, .ref (zk 0), .int 0]))] sz)) 1 6 (va_A [(mo, .inr (9, [th, .ref am, .int 0, .int 0, .int 0])), (am, .inr (4, [.int mm, .ref (zk 0), .int 0]))] sz) := by
  refine Met.ofW (cc := cX4_house) (maxL := 2) (ret := (some .int)) (by decide) rfl ?_
  intro p e s mY args below meth c s₁ B hml hv
  obtain ⟨rfl, hsz, hP, hK, hD0, hZ⟩ := hv
  have hx := B.exec
  have hb := B.bytes
  have hr := B.returns
  have hts := atoms_spec (ws := wsX4_house) B.pre
  have hown : s.vm.findClass RX4 = some mY.cls := findClass_of_methodNamed B.named
  have hlocks := B.notSynchronized
  subst hsz
  have hD := hD0.self (sz := s.heap.size)
  generalize hAe : va_A [(mo, .inr (9, [th, .ref am, .int 0, .int 0, .int 0])), (am, .inr (4, [.int mm, .ref (zk 0), .int 0]))] s.heap.size = A at hD hZ ⊢
  have hA : ∀ q : Nat, s.heap.size ≤ q → A q := fun q h => by rw [← hAe]; exact Or.inr h
  have hS : va_S A s.heap s.heap [] := va_S.rf
  have hz : s.heap.size + 0 ≤ s.heap.size := Nat.le_refl _
  have hl := lv_entry ([.ref mo, .int 3]) (n := 2) (Nat.le_of_ble_eq_true rfl)
  rw [lg_entry_eq]
  generalize (lg_sl ([.ref mo, .int 3]) ++ List.replicate (2 - (lg_sl ([.ref mo, .int 3])).length) Slot.unset).toArray = ls at hl ⊢
  have hl : lv_has ls 2 [(0, .ref mo), (1, .int 3)] := hl
  have hP : va_P (dC, dI) vwCl [(mo, .inr (9, [th, .ref am, .int 0, .int 0, .int 0])), (am, .inr (4, [.int mm, .ref (zk 0), .int 0]))] s.heap := hP
  have hD : va_D A [(mo, .inr (9, [th, .ref am, .int 0, .int 0, .int 0])), (am, .inr (4, [.int mm, .ref (zk 0), .int 0]))] := hD
  refine lv_aload_n hx hb dX4_house_0 rfl (lv_at hl 0 rfl) ?_
  refine lv_iload_n hx hb dX4_house_1 rfl (lv_at hl 1 rfl) ?_
  refine lv_iconst (v := 0) hx hb dX4_house_2 (by decide) ?_
  refine lv_iconst (v := 5) hx hb dX4_house_3 (by decide) ?_
  have hPc := hP.sub (ws' := []) [] rfl
  have hDc := hD.sub (ws' := []) [] (by decide) rfl
  have hFc := va_free (wc := []) hD hS hA [] rfl
  have hDv := hDc.self (sz := s.heap.size)
  have hpre := zpre (xs' := []) (av := [.int 3, .int 0, .int 5]) hPc hK (hDc.weaken (fun _ _ _ h => h)) hZ hS hFc (fun r hr => by cases hr)
  refine va_calli (va_runS (As := [.int 3, .int 0, .int 5]) (rest := [.ref mo]) ⟨hx, hb, hml, hown, hts⟩ (k_isIn5_3 l dC dI cI cB cR cO zk  s.heap.size ) (va_cwS 3 hts gX4_house_X4_isIn rfl rfl rfl (by decide +kernel) ⟨Nat.le_of_ble_eq_true rfl, Nat.le_of_ble_eq_true rfl⟩) ⟨zblind, hpre⟩ rfl rfl hl.1 rfl (lv_room (Nat.le_of_ble_eq_true rfl)) dX4_house_4 ⟨Nat.le_of_ble_eq_true rfl, Nat.le_of_ble_eq_true rfl⟩) hS (fun q _ h => hFc q h) hFc (fun r2 u t H1 locs ht hvm hw hB hz1 hk1 hS => ?_)
  obtain rfl : 1 = r2 := (show r2 = 1 from hw).symm
  obtain ⟨hP1, hK1, hD1, hz2⟩ := hB
  rw [ht] at hP1 hz2
  have hPD9 := va_join (wr := [(mo, .inr (9, [th, .ref am, .int 0, .int 0, .int 0])), (am, .inr (4, [.int mm, .ref (zk 0), .int 0]))]) (w1 := []) hP hD [] [0, 1] rfl rfl (by decide) (by decide) hk1 hFc hP1 hD1
  clear hPc hDc hFc hDv hpre hP hD hP1 hK1 hD1
  obtain ⟨hP, hD⟩ := hPD9
  replace hz : s.heap.size + 0 ≤ H1.size := by omega
  clear hz2
  replace hP : va_P (dC, dI) vwCl [(mo, .inr (9, [th, .ref am, .int 0, .int 0, .int 0])), (am, .inr (4, [.int mm, .ref (zk 0), .int 0]))] H1 := hP
  replace hD : va_D A [(mo, .inr (9, [th, .ref am, .int 0, .int 0, .int 0])), (am, .inr (4, [.int mm, .ref (zk 0), .int 0]))] := hD
  refine W.widen (k := 0) (n := 0) (by omega) (by omega) ?_
  refine lv_if_ne (tgt := 14) hx hb dX4_house_7 (by decide) (fun c9 => ?_) (fun c9 => ?_)
  rotate_left
  · exact absurd c9 (by decide)
  refine lv_iconst (v := 0) hx hb dX4_house_14 (by decide) ?_
  refine lv_iconst (v := 1) hx hb dX4_house_15 (by decide) ?_
  have hPc := hP.sub (ws' := [(mo, .inr (9, [th, .ref am, .int 0, .int 0, .int 0]))]) [0] rfl
  have hDc := hD.sub (ws' := [(mo, .inr (9, [th, .ref am, .int 0, .int 0, .int 0]))]) [0] (by decide) rfl
  have hFc := va_free (wc := [(mo, .inr (9, [th, .ref am, .int 0, .int 0, .int 0]))]) hD hS hA [0] rfl
  have hDv := hDc.self (sz := H1.size)
  have hpre := zpre (xs' := []) (av := [.ref mo, .int 0, .int 1]) hPc hK (hDc.weaken (fun _ _ _ h => h)) hZ hS hFc (fun r hr => by cases hr)
  refine va_calli (va_runV (As := [.int 0, .int 1]) (rest := []) ⟨hx, hb, hml, hown, hts⟩ (k_stt0 l dC dI cI cB cR cO zk mo am th H1.size ) (cwV 2 hts gX4_house_X4_start rfl rfl rfl (by decide +kernel) ⟨Nat.le_of_ble_eq_true rfl, Nat.le_of_ble_eq_true rfl⟩) ⟨zblind, (zrecv_9 hK hPc (q0 := 0) rfl), hpre⟩ rfl rfl hl.1 rfl (lv_room (Nat.le_of_ble_eq_true rfl)) dX4_house_16 ⟨Nat.le_of_ble_eq_true rfl, Nat.le_of_ble_eq_true rfl⟩) hS (fun q _ h => hFc q h) hFc (fun r4 u t H3 locs ht hvm hw hB hz1 hk1 hS => ?_)
  obtain rfl : 0 = r4 := (show r4 = 0 from hw).symm
  obtain ⟨hP1, hK1, hD1, hz2⟩ := hB
  rw [ht] at hP1 hz2
  have hPD9 := va_join (wr := [(am, .inr (4, [.int mm, .ref (zk 0), .int 0]))]) (w1 := [(mo, .inr (9, [.int 0, .ref am, .int 0, .int 0, .int 0]))]) hP hD [0] [1] rfl rfl (by decide) (by decide) hk1 hFc hP1 hD1
  clear hPc hDc hFc hDv hpre hP hD hP1 hK1 hD1
  obtain ⟨hP, hD⟩ := hPD9
  replace hz : s.heap.size + 0 ≤ H3.size := by omega
  clear hz2
  replace hP : va_P (dC, dI) vwCl [(am, .inr (4, [.int mm, .ref (zk 0), .int 0])), (mo, .inr (9, [.int 0, .ref am, .int 0, .int 0, .int 0]))] H3 := hP
  replace hD : va_D A [(am, .inr (4, [.int mm, .ref (zk 0), .int 0])), (mo, .inr (9, [.int 0, .ref am, .int 0, .int 0, .int 0]))] := hD
  refine W.widen (k := 0) (n := 0) (by omega) (by omega) ?_
  refine lv_if_eq (tgt := 26) hx hb dX4_house_19 (by decide) (fun c9 => ?_) (fun c9 => ?_)
  rotate_left
  · exact absurd (by decide) c9
  refine lv_aload_n hx hb dX4_house_26 rfl (lv_at hl 0 rfl) ?_
  refine lv_iload_n hx hb dX4_house_27 rfl (lv_at hl 1 rfl) ?_
  have hPc := hP.sub (ws' := [(mo, .inr (9, [.int 0, .ref am, .int 0, .int 0, .int 0])), (am, .inr (4, [.int mm, .ref (zk 0), .int 0]))]) [1, 0] rfl
  have hDc := hD.sub (ws' := [(mo, .inr (9, [.int 0, .ref am, .int 0, .int 0, .int 0])), (am, .inr (4, [.int mm, .ref (zk 0), .int 0]))]) [1, 0] (by decide) rfl
  have hFc := va_free (wc := [(mo, .inr (9, [.int 0, .ref am, .int 0, .int 0, .int 0])), (am, .inr (4, [.int mm, .ref (zk 0), .int 0]))]) hD hS hA [1, 0] rfl
  have hDv := hDc.self (sz := H3.size)
  have hpre := zpre (xs' := []) (av := [.ref mo, .int 3]) hPc hK (hDc.weaken (fun _ _ _ h => h)) hZ hS hFc (fun r hr => by cases hr)
  refine va_calli (va_runV (As := [.int 3]) (rest := []) ⟨hx, hb, hml, hown, hts⟩ (k_hTold3 l dC dI cI cB cR cO zk mo am (.int 0) mm H3.size ) (cwV 1 hts gX4_house_X4_houseTold rfl rfl rfl (by decide +kernel) ⟨Nat.le_of_ble_eq_true rfl, Nat.le_of_ble_eq_true rfl⟩) ⟨zblind, (zrecv_9 hK hPc (q0 := 0) rfl), hpre⟩ rfl rfl hl.1 rfl (lv_room (Nat.le_of_ble_eq_true rfl)) dX4_house_28 ⟨Nat.le_of_ble_eq_true rfl, Nat.le_of_ble_eq_true rfl⟩) hS (fun q _ h => hFc q h) hFc (fun r6 u t H5 locs ht hvm hw hB hz1 hk1 hS => ?_)
  obtain rfl : 0 = r6 := (show r6 = 0 from hw).symm
  obtain ⟨hP1, hK1, hD1, hz2⟩ := hB
  rw [ht] at hP1 hz2
  have hPD9 := va_join (wr := []) (w1 := [(mo, .inr (9, [.int 0, .ref am, .int 0, .int 0, .int 0])), (am, .inr (4, [.int mm, .ref (zk 0), .int 0]))]) hP hD [1, 0] [] rfl rfl (by decide) (by decide) hk1 hFc hP1 hD1
  clear hPc hDc hFc hDv hpre hP hD hP1 hK1 hD1
  obtain ⟨hP, hD⟩ := hPD9
  replace hz : s.heap.size + 1 ≤ H5.size := by omega
  clear hz2
  replace hP : va_P (dC, dI) vwCl [(mo, .inr (9, [.int 0, .ref am, .int 0, .int 0, .int 0])), (am, .inr (4, [.int mm, .ref (zk 0), .int 0]))] H5 := hP
  replace hD : va_D A [(mo, .inr (9, [.int 0, .ref am, .int 0, .int 0, .int 0])), (am, .inr (4, [.int mm, .ref (zk 0), .int 0]))] := hD
  refine W.widen (k := 1) (n := 6) (by omega) (by omega) ?_
  have hP9 := hP.sub (ws' := [(mo, .inr (9, [.int 0, .ref am, .int 0, .int 0, .int 0])), (am, .inr (4, [.int mm, .ref (zk 0), .int 0]))]) [0, 1] rfl
  have hD9 := hD.sub (ws' := [(mo, .inr (9, [.int 0, .ref am, .int 0, .int 0, .int 0])), (am, .inr (4, [.int mm, .ref (zk 0), .int 0]))]) [0, 1] (by decide) rfl
  exact W.iret (v := 0) hx hb hr (fun t ht hW => ⟨⟨_, (), rfl, rfl, ⟨by rw [ht]; exact hP9, va_K.moved hW.alike hK, hD9, by rw [ht]; exact hz⟩⟩, hS.F ht⟩) hS.2.2 dX4_house_31

set_option maxHeartbeats 4000000 in
set_option maxRecDepth 100000 in
theorem k_house4M (l : Launch) (dC : Nat → ClassId) (dI : Nat → Nat → Nat) (cI cB cR cO : ClassId) (zk : Nat → Nat) (mo am : Nat) (th : Value) (mm : Int32) (sz : Nat)  : Met l yX4_house wsX4_house ({ frames := 2, cells := 1, slots := 6, locals := 45 }) (va_Pc [.ref mo, .int 4] (zPre (dC, dI) (zT cI cB cR cO) zk [] [(mo, .inr (9, [th, .ref am, .int 0, .int 0, .int 0])), (am, .inr (4, [.int mm, .ref (zk 0), .int 0]))] sz)) (va_Qi (fun r (_ : Unit) => r = 0) (fun _ t => zEnd (dC, dI) (zT cI cB cR cO) (va_A [(mo, .inr (9, [th, .ref am, .int 0, .int 0, .int 0])), (am, .inr (4, [.int mm, .ref (zk 0), .int 0]))] sz) [(mo, .inr (9, [.int 0, .ref am, .int 0, .int 0, .int 0])), (am, .inr (4, [.int mm, .ref (zk 0), .int 0]))] sz 1 t) (va_A [(mo, .inr (9, [th, .ref am, .int 0, .int 0, .int 0])), (am, .inr (4, [.int mm, .ref (zk 0), .int 0]))] sz)) 1 6 (va_A [(mo, .inr (9, [th, .ref am, .int 0, .int 0, .int 0])), (am, .inr (4, [.int mm, .ref (zk 0), .int 0]))] sz) := by
  refine Met.ofW (cc := cX4_house) (maxL := 2) (ret := (some .int)) (by decide) rfl ?_
  intro p e s mY args below meth c s₁ B hml hv
  obtain ⟨rfl, hsz, hP, hK, hD0, hZ⟩ := hv
  have hx := B.exec
  have hb := B.bytes
  have hr := B.returns
  have hts := atoms_spec (ws := wsX4_house) B.pre
  have hown : s.vm.findClass RX4 = some mY.cls := findClass_of_methodNamed B.named
  have hlocks := B.notSynchronized
  subst hsz
  have hD := hD0.self (sz := s.heap.size)
  generalize hAe : va_A [(mo, .inr (9, [th, .ref am, .int 0, .int 0, .int 0])), (am, .inr (4, [.int mm, .ref (zk 0), .int 0]))] s.heap.size = A at hD hZ ⊢
  have hA : ∀ q : Nat, s.heap.size ≤ q → A q := fun q h => by rw [← hAe]; exact Or.inr h
  have hS : va_S A s.heap s.heap [] := va_S.rf
  have hz : s.heap.size + 0 ≤ s.heap.size := Nat.le_refl _
  have hl := lv_entry ([.ref mo, .int 4]) (n := 2) (Nat.le_of_ble_eq_true rfl)
  rw [lg_entry_eq]
  generalize (lg_sl ([.ref mo, .int 4]) ++ List.replicate (2 - (lg_sl ([.ref mo, .int 4])).length) Slot.unset).toArray = ls at hl ⊢
  have hl : lv_has ls 2 [(0, .ref mo), (1, .int 4)] := hl
  have hP : va_P (dC, dI) vwCl [(mo, .inr (9, [th, .ref am, .int 0, .int 0, .int 0])), (am, .inr (4, [.int mm, .ref (zk 0), .int 0]))] s.heap := hP
  have hD : va_D A [(mo, .inr (9, [th, .ref am, .int 0, .int 0, .int 0])), (am, .inr (4, [.int mm, .ref (zk 0), .int 0]))] := hD
  refine lv_aload_n hx hb dX4_house_0 rfl (lv_at hl 0 rfl) ?_
  refine lv_iload_n hx hb dX4_house_1 rfl (lv_at hl 1 rfl) ?_
  refine lv_iconst (v := 0) hx hb dX4_house_2 (by decide) ?_
  refine lv_iconst (v := 5) hx hb dX4_house_3 (by decide) ?_
  have hPc := hP.sub (ws' := []) [] rfl
  have hDc := hD.sub (ws' := []) [] (by decide) rfl
  have hFc := va_free (wc := []) hD hS hA [] rfl
  have hDv := hDc.self (sz := s.heap.size)
  have hpre := zpre (xs' := []) (av := [.int 4, .int 0, .int 5]) hPc hK (hDc.weaken (fun _ _ _ h => h)) hZ hS hFc (fun r hr => by cases hr)
  refine va_calli (va_runS (As := [.int 4, .int 0, .int 5]) (rest := [.ref mo]) ⟨hx, hb, hml, hown, hts⟩ (k_isIn5_4 l dC dI cI cB cR cO zk  s.heap.size ) (va_cwS 3 hts gX4_house_X4_isIn rfl rfl rfl (by decide +kernel) ⟨Nat.le_of_ble_eq_true rfl, Nat.le_of_ble_eq_true rfl⟩) ⟨zblind, hpre⟩ rfl rfl hl.1 rfl (lv_room (Nat.le_of_ble_eq_true rfl)) dX4_house_4 ⟨Nat.le_of_ble_eq_true rfl, Nat.le_of_ble_eq_true rfl⟩) hS (fun q _ h => hFc q h) hFc (fun r2 u t H1 locs ht hvm hw hB hz1 hk1 hS => ?_)
  obtain rfl : 1 = r2 := (show r2 = 1 from hw).symm
  obtain ⟨hP1, hK1, hD1, hz2⟩ := hB
  rw [ht] at hP1 hz2
  have hPD9 := va_join (wr := [(mo, .inr (9, [th, .ref am, .int 0, .int 0, .int 0])), (am, .inr (4, [.int mm, .ref (zk 0), .int 0]))]) (w1 := []) hP hD [] [0, 1] rfl rfl (by decide) (by decide) hk1 hFc hP1 hD1
  clear hPc hDc hFc hDv hpre hP hD hP1 hK1 hD1
  obtain ⟨hP, hD⟩ := hPD9
  replace hz : s.heap.size + 0 ≤ H1.size := by omega
  clear hz2
  replace hP : va_P (dC, dI) vwCl [(mo, .inr (9, [th, .ref am, .int 0, .int 0, .int 0])), (am, .inr (4, [.int mm, .ref (zk 0), .int 0]))] H1 := hP
  replace hD : va_D A [(mo, .inr (9, [th, .ref am, .int 0, .int 0, .int 0])), (am, .inr (4, [.int mm, .ref (zk 0), .int 0]))] := hD
  refine W.widen (k := 0) (n := 0) (by omega) (by omega) ?_
  refine lv_if_ne (tgt := 14) hx hb dX4_house_7 (by decide) (fun c9 => ?_) (fun c9 => ?_)
  rotate_left
  · exact absurd c9 (by decide)
  refine lv_iconst (v := 0) hx hb dX4_house_14 (by decide) ?_
  refine lv_iconst (v := 1) hx hb dX4_house_15 (by decide) ?_
  have hPc := hP.sub (ws' := [(mo, .inr (9, [th, .ref am, .int 0, .int 0, .int 0]))]) [0] rfl
  have hDc := hD.sub (ws' := [(mo, .inr (9, [th, .ref am, .int 0, .int 0, .int 0]))]) [0] (by decide) rfl
  have hFc := va_free (wc := [(mo, .inr (9, [th, .ref am, .int 0, .int 0, .int 0]))]) hD hS hA [0] rfl
  have hDv := hDc.self (sz := H1.size)
  have hpre := zpre (xs' := []) (av := [.ref mo, .int 0, .int 1]) hPc hK (hDc.weaken (fun _ _ _ h => h)) hZ hS hFc (fun r hr => by cases hr)
  refine va_calli (va_runV (As := [.int 0, .int 1]) (rest := []) ⟨hx, hb, hml, hown, hts⟩ (k_stt0 l dC dI cI cB cR cO zk mo am th H1.size ) (cwV 2 hts gX4_house_X4_start rfl rfl rfl (by decide +kernel) ⟨Nat.le_of_ble_eq_true rfl, Nat.le_of_ble_eq_true rfl⟩) ⟨zblind, (zrecv_9 hK hPc (q0 := 0) rfl), hpre⟩ rfl rfl hl.1 rfl (lv_room (Nat.le_of_ble_eq_true rfl)) dX4_house_16 ⟨Nat.le_of_ble_eq_true rfl, Nat.le_of_ble_eq_true rfl⟩) hS (fun q _ h => hFc q h) hFc (fun r4 u t H3 locs ht hvm hw hB hz1 hk1 hS => ?_)
  obtain rfl : 0 = r4 := (show r4 = 0 from hw).symm
  obtain ⟨hP1, hK1, hD1, hz2⟩ := hB
  rw [ht] at hP1 hz2
  have hPD9 := va_join (wr := [(am, .inr (4, [.int mm, .ref (zk 0), .int 0]))]) (w1 := [(mo, .inr (9, [.int 0, .ref am, .int 0, .int 0, .int 0]))]) hP hD [0] [1] rfl rfl (by decide) (by decide) hk1 hFc hP1 hD1
  clear hPc hDc hFc hDv hpre hP hD hP1 hK1 hD1
  obtain ⟨hP, hD⟩ := hPD9
  replace hz : s.heap.size + 0 ≤ H3.size := by omega
  clear hz2
  replace hP : va_P (dC, dI) vwCl [(am, .inr (4, [.int mm, .ref (zk 0), .int 0])), (mo, .inr (9, [.int 0, .ref am, .int 0, .int 0, .int 0]))] H3 := hP
  replace hD : va_D A [(am, .inr (4, [.int mm, .ref (zk 0), .int 0])), (mo, .inr (9, [.int 0, .ref am, .int 0, .int 0, .int 0]))] := hD
  refine W.widen (k := 0) (n := 0) (by omega) (by omega) ?_
  refine lv_if_eq (tgt := 26) hx hb dX4_house_19 (by decide) (fun c9 => ?_) (fun c9 => ?_)
  rotate_left
  · exact absurd (by decide) c9
  refine lv_aload_n hx hb dX4_house_26 rfl (lv_at hl 0 rfl) ?_
  refine lv_iload_n hx hb dX4_house_27 rfl (lv_at hl 1 rfl) ?_
  have hPc := hP.sub (ws' := [(mo, .inr (9, [.int 0, .ref am, .int 0, .int 0, .int 0])), (am, .inr (4, [.int mm, .ref (zk 0), .int 0]))]) [1, 0] rfl
  have hDc := hD.sub (ws' := [(mo, .inr (9, [.int 0, .ref am, .int 0, .int 0, .int 0])), (am, .inr (4, [.int mm, .ref (zk 0), .int 0]))]) [1, 0] (by decide) rfl
  have hFc := va_free (wc := [(mo, .inr (9, [.int 0, .ref am, .int 0, .int 0, .int 0])), (am, .inr (4, [.int mm, .ref (zk 0), .int 0]))]) hD hS hA [1, 0] rfl
  have hDv := hDc.self (sz := H3.size)
  have hpre := zpre (xs' := []) (av := [.ref mo, .int 4]) hPc hK (hDc.weaken (fun _ _ _ h => h)) hZ hS hFc (fun r hr => by cases hr)
  refine va_calli (va_runV (As := [.int 4]) (rest := []) ⟨hx, hb, hml, hown, hts⟩ (k_hTold4 l dC dI cI cB cR cO zk mo am (.int 0) mm H3.size ) (cwV 1 hts gX4_house_X4_houseTold rfl rfl rfl (by decide +kernel) ⟨Nat.le_of_ble_eq_true rfl, Nat.le_of_ble_eq_true rfl⟩) ⟨zblind, (zrecv_9 hK hPc (q0 := 0) rfl), hpre⟩ rfl rfl hl.1 rfl (lv_room (Nat.le_of_ble_eq_true rfl)) dX4_house_28 ⟨Nat.le_of_ble_eq_true rfl, Nat.le_of_ble_eq_true rfl⟩) hS (fun q _ h => hFc q h) hFc (fun r6 u t H5 locs ht hvm hw hB hz1 hk1 hS => ?_)
  obtain rfl : 0 = r6 := (show r6 = 0 from hw).symm
  obtain ⟨hP1, hK1, hD1, hz2⟩ := hB
  rw [ht] at hP1 hz2
  have hPD9 := va_join (wr := []) (w1 := [(mo, .inr (9, [.int 0, .ref am, .int 0, .int 0, .int 0])), (am, .inr (4, [.int mm, .ref (zk 0), .int 0]))]) hP hD [1, 0] [] rfl rfl (by decide) (by decide) hk1 hFc hP1 hD1
  clear hPc hDc hFc hDv hpre hP hD hP1 hK1 hD1
  obtain ⟨hP, hD⟩ := hPD9
  replace hz : s.heap.size + 1 ≤ H5.size := by omega
  clear hz2
  replace hP : va_P (dC, dI) vwCl [(mo, .inr (9, [.int 0, .ref am, .int 0, .int 0, .int 0])), (am, .inr (4, [.int mm, .ref (zk 0), .int 0]))] H5 := hP
  replace hD : va_D A [(mo, .inr (9, [.int 0, .ref am, .int 0, .int 0, .int 0])), (am, .inr (4, [.int mm, .ref (zk 0), .int 0]))] := hD
  refine W.widen (k := 1) (n := 6) (by omega) (by omega) ?_
  have hP9 := hP.sub (ws' := [(mo, .inr (9, [.int 0, .ref am, .int 0, .int 0, .int 0])), (am, .inr (4, [.int mm, .ref (zk 0), .int 0]))]) [0, 1] rfl
  have hD9 := hD.sub (ws' := [(mo, .inr (9, [.int 0, .ref am, .int 0, .int 0, .int 0])), (am, .inr (4, [.int mm, .ref (zk 0), .int 0]))]) [0, 1] (by decide) rfl
  exact W.iret (v := 0) hx hb hr (fun t ht hW => ⟨⟨_, (), rfl, rfl, ⟨by rw [ht]; exact hP9, va_K.moved hW.alike hK, hD9, by rw [ht]; exact hz⟩⟩, hS.F ht⟩) hS.2.2 dX4_house_31

set_option maxHeartbeats 4000000 in
set_option maxRecDepth 100000 in
theorem k_house5M (l : Launch) (dC : Nat → ClassId) (dI : Nat → Nat → Nat) (cI cB cR cO : ClassId) (zk : Nat → Nat) (mo am : Nat) (th : Value) (mm : Int32) (sz : Nat)  : Met l yX4_house wsX4_house ({ frames := 2, cells := 1, slots := 6, locals := 45 }) (va_Pc [.ref mo, .int 5] (zPre (dC, dI) (zT cI cB cR cO) zk [] [(mo, .inr (9, [th, .ref am, .int 0, .int 0, .int 0])), (am, .inr (4, [.int mm, .ref (zk 0), .int 0]))] sz)) (va_Qi (fun r (_ : Unit) => r = 0) (fun _ t => zEnd (dC, dI) (zT cI cB cR cO) (va_A [(mo, .inr (9, [th, .ref am, .int 0, .int 0, .int 0])), (am, .inr (4, [.int mm, .ref (zk 0), .int 0]))] sz) [(mo, .inr (9, [.int 0, .ref am, .int 0, .int 0, .int 0])), (am, .inr (4, [.int mm, .ref (zk 0), .int 0]))] sz 1 t) (va_A [(mo, .inr (9, [th, .ref am, .int 0, .int 0, .int 0])), (am, .inr (4, [.int mm, .ref (zk 0), .int 0]))] sz)) 1 6 (va_A [(mo, .inr (9, [th, .ref am, .int 0, .int 0, .int 0])), (am, .inr (4, [.int mm, .ref (zk 0), .int 0]))] sz) := by
  refine Met.ofW (cc := cX4_house) (maxL := 2) (ret := (some .int)) (by decide) rfl ?_
  intro p e s mY args below meth c s₁ B hml hv
  obtain ⟨rfl, hsz, hP, hK, hD0, hZ⟩ := hv
  have hx := B.exec
  have hb := B.bytes
  have hr := B.returns
  have hts := atoms_spec (ws := wsX4_house) B.pre
  have hown : s.vm.findClass RX4 = some mY.cls := findClass_of_methodNamed B.named
  have hlocks := B.notSynchronized
  subst hsz
  have hD := hD0.self (sz := s.heap.size)
  generalize hAe : va_A [(mo, .inr (9, [th, .ref am, .int 0, .int 0, .int 0])), (am, .inr (4, [.int mm, .ref (zk 0), .int 0]))] s.heap.size = A at hD hZ ⊢
  have hA : ∀ q : Nat, s.heap.size ≤ q → A q := fun q h => by rw [← hAe]; exact Or.inr h
  have hS : va_S A s.heap s.heap [] := va_S.rf
  have hz : s.heap.size + 0 ≤ s.heap.size := Nat.le_refl _
  have hl := lv_entry ([.ref mo, .int 5]) (n := 2) (Nat.le_of_ble_eq_true rfl)
  rw [lg_entry_eq]
  generalize (lg_sl ([.ref mo, .int 5]) ++ List.replicate (2 - (lg_sl ([.ref mo, .int 5])).length) Slot.unset).toArray = ls at hl ⊢
  have hl : lv_has ls 2 [(0, .ref mo), (1, .int 5)] := hl
  have hP : va_P (dC, dI) vwCl [(mo, .inr (9, [th, .ref am, .int 0, .int 0, .int 0])), (am, .inr (4, [.int mm, .ref (zk 0), .int 0]))] s.heap := hP
  have hD : va_D A [(mo, .inr (9, [th, .ref am, .int 0, .int 0, .int 0])), (am, .inr (4, [.int mm, .ref (zk 0), .int 0]))] := hD
  refine lv_aload_n hx hb dX4_house_0 rfl (lv_at hl 0 rfl) ?_
  refine lv_iload_n hx hb dX4_house_1 rfl (lv_at hl 1 rfl) ?_
  refine lv_iconst (v := 0) hx hb dX4_house_2 (by decide) ?_
  refine lv_iconst (v := 5) hx hb dX4_house_3 (by decide) ?_
  have hPc := hP.sub (ws' := []) [] rfl
  have hDc := hD.sub (ws' := []) [] (by decide) rfl
  have hFc := va_free (wc := []) hD hS hA [] rfl
  have hDv := hDc.self (sz := s.heap.size)
  have hpre := zpre (xs' := []) (av := [.int 5, .int 0, .int 5]) hPc hK (hDc.weaken (fun _ _ _ h => h)) hZ hS hFc (fun r hr => by cases hr)
  refine va_calli (va_runS (As := [.int 5, .int 0, .int 5]) (rest := [.ref mo]) ⟨hx, hb, hml, hown, hts⟩ (k_isIn5_5 l dC dI cI cB cR cO zk  s.heap.size ) (va_cwS 3 hts gX4_house_X4_isIn rfl rfl rfl (by decide +kernel) ⟨Nat.le_of_ble_eq_true rfl, Nat.le_of_ble_eq_true rfl⟩) ⟨zblind, hpre⟩ rfl rfl hl.1 rfl (lv_room (Nat.le_of_ble_eq_true rfl)) dX4_house_4 ⟨Nat.le_of_ble_eq_true rfl, Nat.le_of_ble_eq_true rfl⟩) hS (fun q _ h => hFc q h) hFc (fun r2 u t H1 locs ht hvm hw hB hz1 hk1 hS => ?_)
  obtain rfl : 1 = r2 := (show r2 = 1 from hw).symm
  obtain ⟨hP1, hK1, hD1, hz2⟩ := hB
  rw [ht] at hP1 hz2
  have hPD9 := va_join (wr := [(mo, .inr (9, [th, .ref am, .int 0, .int 0, .int 0])), (am, .inr (4, [.int mm, .ref (zk 0), .int 0]))]) (w1 := []) hP hD [] [0, 1] rfl rfl (by decide) (by decide) hk1 hFc hP1 hD1
  clear hPc hDc hFc hDv hpre hP hD hP1 hK1 hD1
  obtain ⟨hP, hD⟩ := hPD9
  replace hz : s.heap.size + 0 ≤ H1.size := by omega
  clear hz2
  replace hP : va_P (dC, dI) vwCl [(mo, .inr (9, [th, .ref am, .int 0, .int 0, .int 0])), (am, .inr (4, [.int mm, .ref (zk 0), .int 0]))] H1 := hP
  replace hD : va_D A [(mo, .inr (9, [th, .ref am, .int 0, .int 0, .int 0])), (am, .inr (4, [.int mm, .ref (zk 0), .int 0]))] := hD
  refine W.widen (k := 0) (n := 0) (by omega) (by omega) ?_
  refine lv_if_ne (tgt := 14) hx hb dX4_house_7 (by decide) (fun c9 => ?_) (fun c9 => ?_)
  rotate_left
  · exact absurd c9 (by decide)
  refine lv_iconst (v := 0) hx hb dX4_house_14 (by decide) ?_
  refine lv_iconst (v := 1) hx hb dX4_house_15 (by decide) ?_
  have hPc := hP.sub (ws' := [(mo, .inr (9, [th, .ref am, .int 0, .int 0, .int 0]))]) [0] rfl
  have hDc := hD.sub (ws' := [(mo, .inr (9, [th, .ref am, .int 0, .int 0, .int 0]))]) [0] (by decide) rfl
  have hFc := va_free (wc := [(mo, .inr (9, [th, .ref am, .int 0, .int 0, .int 0]))]) hD hS hA [0] rfl
  have hDv := hDc.self (sz := H1.size)
  have hpre := zpre (xs' := []) (av := [.ref mo, .int 0, .int 1]) hPc hK (hDc.weaken (fun _ _ _ h => h)) hZ hS hFc (fun r hr => by cases hr)
  refine va_calli (va_runV (As := [.int 0, .int 1]) (rest := []) ⟨hx, hb, hml, hown, hts⟩ (k_stt0 l dC dI cI cB cR cO zk mo am th H1.size ) (cwV 2 hts gX4_house_X4_start rfl rfl rfl (by decide +kernel) ⟨Nat.le_of_ble_eq_true rfl, Nat.le_of_ble_eq_true rfl⟩) ⟨zblind, (zrecv_9 hK hPc (q0 := 0) rfl), hpre⟩ rfl rfl hl.1 rfl (lv_room (Nat.le_of_ble_eq_true rfl)) dX4_house_16 ⟨Nat.le_of_ble_eq_true rfl, Nat.le_of_ble_eq_true rfl⟩) hS (fun q _ h => hFc q h) hFc (fun r4 u t H3 locs ht hvm hw hB hz1 hk1 hS => ?_)
  obtain rfl : 0 = r4 := (show r4 = 0 from hw).symm
  obtain ⟨hP1, hK1, hD1, hz2⟩ := hB
  rw [ht] at hP1 hz2
  have hPD9 := va_join (wr := [(am, .inr (4, [.int mm, .ref (zk 0), .int 0]))]) (w1 := [(mo, .inr (9, [.int 0, .ref am, .int 0, .int 0, .int 0]))]) hP hD [0] [1] rfl rfl (by decide) (by decide) hk1 hFc hP1 hD1
  clear hPc hDc hFc hDv hpre hP hD hP1 hK1 hD1
  obtain ⟨hP, hD⟩ := hPD9
  replace hz : s.heap.size + 0 ≤ H3.size := by omega
  clear hz2
  replace hP : va_P (dC, dI) vwCl [(am, .inr (4, [.int mm, .ref (zk 0), .int 0])), (mo, .inr (9, [.int 0, .ref am, .int 0, .int 0, .int 0]))] H3 := hP
  replace hD : va_D A [(am, .inr (4, [.int mm, .ref (zk 0), .int 0])), (mo, .inr (9, [.int 0, .ref am, .int 0, .int 0, .int 0]))] := hD
  refine W.widen (k := 0) (n := 0) (by omega) (by omega) ?_
  refine lv_if_eq (tgt := 26) hx hb dX4_house_19 (by decide) (fun c9 => ?_) (fun c9 => ?_)
  rotate_left
  · exact absurd (by decide) c9
  refine lv_aload_n hx hb dX4_house_26 rfl (lv_at hl 0 rfl) ?_
  refine lv_iload_n hx hb dX4_house_27 rfl (lv_at hl 1 rfl) ?_
  have hPc := hP.sub (ws' := [(mo, .inr (9, [.int 0, .ref am, .int 0, .int 0, .int 0])), (am, .inr (4, [.int mm, .ref (zk 0), .int 0]))]) [1, 0] rfl
  have hDc := hD.sub (ws' := [(mo, .inr (9, [.int 0, .ref am, .int 0, .int 0, .int 0])), (am, .inr (4, [.int mm, .ref (zk 0), .int 0]))]) [1, 0] (by decide) rfl
  have hFc := va_free (wc := [(mo, .inr (9, [.int 0, .ref am, .int 0, .int 0, .int 0])), (am, .inr (4, [.int mm, .ref (zk 0), .int 0]))]) hD hS hA [1, 0] rfl
  have hDv := hDc.self (sz := H3.size)
  have hpre := zpre (xs' := []) (av := [.ref mo, .int 5]) hPc hK (hDc.weaken (fun _ _ _ h => h)) hZ hS hFc (fun r hr => by cases hr)
  refine va_calli (va_runV (As := [.int 5]) (rest := []) ⟨hx, hb, hml, hown, hts⟩ (k_hTold5 l dC dI cI cB cR cO zk mo am (.int 0) mm H3.size ) (cwV 1 hts gX4_house_X4_houseTold rfl rfl rfl (by decide +kernel) ⟨Nat.le_of_ble_eq_true rfl, Nat.le_of_ble_eq_true rfl⟩) ⟨zblind, (zrecv_9 hK hPc (q0 := 0) rfl), hpre⟩ rfl rfl hl.1 rfl (lv_room (Nat.le_of_ble_eq_true rfl)) dX4_house_28 ⟨Nat.le_of_ble_eq_true rfl, Nat.le_of_ble_eq_true rfl⟩) hS (fun q _ h => hFc q h) hFc (fun r6 u t H5 locs ht hvm hw hB hz1 hk1 hS => ?_)
  obtain rfl : 0 = r6 := (show r6 = 0 from hw).symm
  obtain ⟨hP1, hK1, hD1, hz2⟩ := hB
  rw [ht] at hP1 hz2
  have hPD9 := va_join (wr := []) (w1 := [(mo, .inr (9, [.int 0, .ref am, .int 0, .int 0, .int 0])), (am, .inr (4, [.int mm, .ref (zk 0), .int 0]))]) hP hD [1, 0] [] rfl rfl (by decide) (by decide) hk1 hFc hP1 hD1
  clear hPc hDc hFc hDv hpre hP hD hP1 hK1 hD1
  obtain ⟨hP, hD⟩ := hPD9
  replace hz : s.heap.size + 1 ≤ H5.size := by omega
  clear hz2
  replace hP : va_P (dC, dI) vwCl [(mo, .inr (9, [.int 0, .ref am, .int 0, .int 0, .int 0])), (am, .inr (4, [.int mm, .ref (zk 0), .int 0]))] H5 := hP
  replace hD : va_D A [(mo, .inr (9, [.int 0, .ref am, .int 0, .int 0, .int 0])), (am, .inr (4, [.int mm, .ref (zk 0), .int 0]))] := hD
  refine W.widen (k := 1) (n := 6) (by omega) (by omega) ?_
  have hP9 := hP.sub (ws' := [(mo, .inr (9, [.int 0, .ref am, .int 0, .int 0, .int 0])), (am, .inr (4, [.int mm, .ref (zk 0), .int 0]))]) [0, 1] rfl
  have hD9 := hD.sub (ws' := [(mo, .inr (9, [.int 0, .ref am, .int 0, .int 0, .int 0])), (am, .inr (4, [.int mm, .ref (zk 0), .int 0]))]) [0, 1] (by decide) rfl
  exact W.iret (v := 0) hx hb hr (fun t ht hW => ⟨⟨_, (), rfl, rfl, ⟨by rw [ht]; exact hP9, va_K.moved hW.alike hK, hD9, by rw [ht]; exact hz⟩⟩, hS.F ht⟩) hS.2.2 dX4_house_31

set_option maxHeartbeats 4000000 in
set_option maxRecDepth 100000 in
theorem k_houseM (l : Launch) (dC : Nat → ClassId) (dI : Nat → Nat → Nat) (cI cB cR cO : ClassId) (zk : Nat → Nat) (mo am : Nat) (th : Value) (mm : Int32) (p0 : Int32) (sz : Nat) (hp : p0.toInt < 0 ∨ 5 < p0.toInt) : Met l yX4_house wsX4_house ({ frames := 2, cells := 0, slots := 0, locals := 44 }) (va_Pc [.ref mo, .int p0] (zPre (dC, dI) (zT cI cB cR cO) zk [] [(mo, .inr (9, [th, .ref am, .int 0, .int 0, .int 0])), (am, .inr (4, [.int mm, .ref (zk 0), .int 0]))] sz)) (va_Qi (fun r (_ : Unit) => True) (fun _ t => zEnd (dC, dI) (zT cI cB cR cO) (va_A [(mo, .inr (9, [th, .ref am, .int 0, .int 0, .int 0])), (am, .inr (4, [.int mm, .ref (zk 0), .int 0]))] sz) [(mo, .inr (9, [.int 1, .ref am, .int 0, .int 0, .int 0])), (am, .inr (4, [.int mm, .ref (zk 0), .int 0]))] sz 0 t) (va_A [(mo, .inr (9, [th, .ref am, .int 0, .int 0, .int 0])), (am, .inr (4, [.int mm, .ref (zk 0), .int 0]))] sz)) 0 0 (va_A [(mo, .inr (9, [th, .ref am, .int 0, .int 0, .int 0])), (am, .inr (4, [.int mm, .ref (zk 0), .int 0]))] sz) := by
  refine Met.ofW (cc := cX4_house) (maxL := 2) (ret := (some .int)) (by decide) rfl ?_
  intro p e s mY args below meth c s₁ B hml hv
  obtain ⟨rfl, hsz, hP, hK, hD0, hZ⟩ := hv
  have hx := B.exec
  have hb := B.bytes
  have hr := B.returns
  have hts := atoms_spec (ws := wsX4_house) B.pre
  have hown : s.vm.findClass RX4 = some mY.cls := findClass_of_methodNamed B.named
  have hlocks := B.notSynchronized
  subst hsz
  have hD := hD0.self (sz := s.heap.size)
  generalize hAe : va_A [(mo, .inr (9, [th, .ref am, .int 0, .int 0, .int 0])), (am, .inr (4, [.int mm, .ref (zk 0), .int 0]))] s.heap.size = A at hD hZ ⊢
  have hA : ∀ q : Nat, s.heap.size ≤ q → A q := fun q h => by rw [← hAe]; exact Or.inr h
  have hS : va_S A s.heap s.heap [] := va_S.rf
  have hz : s.heap.size + 0 ≤ s.heap.size := Nat.le_refl _
  have hl := lv_entry ([.ref mo, .int p0]) (n := 2) (Nat.le_of_ble_eq_true rfl)
  rw [lg_entry_eq]
  generalize (lg_sl ([.ref mo, .int p0]) ++ List.replicate (2 - (lg_sl ([.ref mo, .int p0])).length) Slot.unset).toArray = ls at hl ⊢
  have hl : lv_has ls 2 [(0, .ref mo), (1, .int p0)] := hl
  have hP : va_P (dC, dI) vwCl [(mo, .inr (9, [th, .ref am, .int 0, .int 0, .int 0])), (am, .inr (4, [.int mm, .ref (zk 0), .int 0]))] s.heap := hP
  have hD : va_D A [(mo, .inr (9, [th, .ref am, .int 0, .int 0, .int 0])), (am, .inr (4, [.int mm, .ref (zk 0), .int 0]))] := hD
  refine lv_aload_n hx hb dX4_house_0 rfl (lv_at hl 0 rfl) ?_
  refine lv_iload_n hx hb dX4_house_1 rfl (lv_at hl 1 rfl) ?_
  refine lv_iconst (v := 0) hx hb dX4_house_2 (by decide) ?_
  refine lv_iconst (v := 5) hx hb dX4_house_3 (by decide) ?_
  have hPc := hP.sub (ws' := []) [] rfl
  have hDc := hD.sub (ws' := []) [] (by decide) rfl
  have hFc := va_free (wc := []) hD hS hA [] rfl
  have hDv := hDc.self (sz := s.heap.size)
  have hpre := zpre (xs' := []) (av := [.int p0, .int 0, .int 5]) hPc hK (hDc.weaken (fun _ _ _ h => h)) hZ hS hFc (fun r hr => by cases hr)
  refine va_calli (va_runS (As := [.int p0, .int 0, .int 5]) (rest := [.ref mo]) ⟨hx, hb, hml, hown, hts⟩ (k_isInOut l dC dI cI cB cR cO zk p0 s.heap.size hp) (va_cwS 3 hts gX4_house_X4_isIn rfl rfl rfl (by decide +kernel) ⟨Nat.le_of_ble_eq_true rfl, Nat.le_of_ble_eq_true rfl⟩) ⟨zblind, hpre⟩ rfl rfl hl.1 rfl (lv_room (Nat.le_of_ble_eq_true rfl)) dX4_house_4 ⟨Nat.le_of_ble_eq_true rfl, Nat.le_of_ble_eq_true rfl⟩) hS (fun q _ h => hFc q h) hFc (fun r2 u t H1 locs ht hvm hw hB hz1 hk1 hS => ?_)
  obtain rfl : 0 = r2 := (show r2 = 0 from hw).symm
  obtain ⟨hP1, hK1, hD1, hz2⟩ := hB
  rw [ht] at hP1 hz2
  have hPD9 := va_join (wr := [(mo, .inr (9, [th, .ref am, .int 0, .int 0, .int 0])), (am, .inr (4, [.int mm, .ref (zk 0), .int 0]))]) (w1 := []) hP hD [] [0, 1] rfl rfl (by decide) (by decide) hk1 hFc hP1 hD1
  clear hPc hDc hFc hDv hpre hP hD hP1 hK1 hD1
  obtain ⟨hP, hD⟩ := hPD9
  replace hz : s.heap.size + 0 ≤ H1.size := by omega
  clear hz2
  replace hP : va_P (dC, dI) vwCl [(mo, .inr (9, [th, .ref am, .int 0, .int 0, .int 0])), (am, .inr (4, [.int mm, .ref (zk 0), .int 0]))] H1 := hP
  replace hD : va_D A [(mo, .inr (9, [th, .ref am, .int 0, .int 0, .int 0])), (am, .inr (4, [.int mm, .ref (zk 0), .int 0]))] := hD
  refine W.widen (k := 0) (n := 0) (by omega) (by omega) ?_
  refine lv_if_ne (tgt := 14) hx hb dX4_house_7 (by decide) (fun c9 => ?_) (fun c9 => ?_)
  · exact absurd (by decide) c9
  refine lv_iconst (v := 1) hx hb dX4_house_10 (by decide) ?_
  refine lv_goto (tgt := 15) hx hb dX4_house_11 (by decide) ?_
  refine lv_iconst (v := 1) hx hb dX4_house_15 (by decide) ?_
  have hPc := hP.sub (ws' := [(mo, .inr (9, [th, .ref am, .int 0, .int 0, .int 0]))]) [0] rfl
  have hDc := hD.sub (ws' := [(mo, .inr (9, [th, .ref am, .int 0, .int 0, .int 0]))]) [0] (by decide) rfl
  have hFc := va_free (wc := [(mo, .inr (9, [th, .ref am, .int 0, .int 0, .int 0]))]) hD hS hA [0] rfl
  have hDv := hDc.self (sz := H1.size)
  have hpre := zpre (xs' := []) (av := [.ref mo, .int 1, .int 1]) hPc hK (hDc.weaken (fun _ _ _ h => h)) hZ hS hFc (fun r hr => by cases hr)
  refine va_calli (va_runV (As := [.int 1, .int 1]) (rest := []) ⟨hx, hb, hml, hown, hts⟩ (k_sttz l dC dI cI cB cR cO zk mo am th (.int 0) (.int 0) (.int 0) H1.size ) (cwV 2 hts gX4_house_X4_start rfl rfl rfl (by decide +kernel) ⟨Nat.le_of_ble_eq_true rfl, Nat.le_of_ble_eq_true rfl⟩) ⟨zblind, (zrecv_9 hK hPc (q0 := 0) rfl), hpre⟩ rfl rfl hl.1 rfl (lv_room (Nat.le_of_ble_eq_true rfl)) dX4_house_16 ⟨Nat.le_of_ble_eq_true rfl, Nat.le_of_ble_eq_true rfl⟩) hS (fun q _ h => hFc q h) hFc (fun r4 u t H3 locs ht hvm hw hB hz1 hk1 hS => ?_)
  obtain rfl : 1 = r4 := (show r4 = 1 from hw).symm
  obtain ⟨hP1, hK1, hD1, hz2⟩ := hB
  rw [ht] at hP1 hz2
  have hPD9 := va_join (wr := [(am, .inr (4, [.int mm, .ref (zk 0), .int 0]))]) (w1 := [(mo, .inr (9, [.int 1, .ref am, .int 0, .int 0, .int 0]))]) hP hD [0] [1] rfl rfl (by decide) (by decide) hk1 hFc hP1 hD1
  clear hPc hDc hFc hDv hpre hP hD hP1 hK1 hD1
  obtain ⟨hP, hD⟩ := hPD9
  replace hz : s.heap.size + 0 ≤ H3.size := by omega
  clear hz2
  replace hP : va_P (dC, dI) vwCl [(am, .inr (4, [.int mm, .ref (zk 0), .int 0])), (mo, .inr (9, [.int 1, .ref am, .int 0, .int 0, .int 0]))] H3 := hP
  replace hD : va_D A [(am, .inr (4, [.int mm, .ref (zk 0), .int 0])), (mo, .inr (9, [.int 1, .ref am, .int 0, .int 0, .int 0]))] := hD
  refine W.widen (k := 0) (n := 0) (by omega) (by omega) ?_
  refine lv_if_eq (tgt := 26) hx hb dX4_house_19 (by decide) (fun c9 => ?_) (fun c9 => ?_)
  · exact absurd c9 (by decide)
  refine lv_iconst (v := 0) hx hb dX4_house_22 (by decide) ?_
  refine lv_goto (tgt := 31) hx hb dX4_house_23 (by decide) ?_
  have hP9 := hP.sub (ws' := [(mo, .inr (9, [.int 1, .ref am, .int 0, .int 0, .int 0])), (am, .inr (4, [.int mm, .ref (zk 0), .int 0]))]) [1, 0] rfl
  have hD9 := hD.sub (ws' := [(mo, .inr (9, [.int 1, .ref am, .int 0, .int 0, .int 0])), (am, .inr (4, [.int mm, .ref (zk 0), .int 0]))]) [1, 0] (by decide) rfl
  exact W.iret (v := 0) hx hb hr (fun t ht hW => ⟨⟨_, (), rfl, trivial, ⟨by rw [ht]; exact hP9, va_K.moved hW.alike hK, hD9, by rw [ht]; exact hz⟩⟩, hS.F ht⟩) hS.2.2 dX4_house_31

theorem hi_X1_isSound_X1 : ∀ w ∈ u_ws RX1 TX1 8, w ∈ wsX1_isSound := fun w h => List.mem_cons_of_mem _ (zhi_X1 w h)
set_option maxHeartbeats 4000000 in
set_option maxRecDepth 100000 in
theorem k_soundX (l : Launch) (dC : Nat → ClassId) (dI : Nat → Nat → Nat) (cI cB cR cO : ClassId) (zk : Nat → Nat) (xo al b1 : Nat) (x4 x5 x7 : Value) (mc : Int32) (sz : Nat)  : Met l yX1_isSound wsX1_isSound ({ frames := 1, cells := 0, slots := 0, locals := 20 }) (va_Pc [.ref xo] (zPre (dC, dI) (zT cI cB cR cO) zk [] [(xo, .inr (6, [.ref al, .int 0, .int 0, .int 0, x4, x5, .ref b1, x7])), (al, .inr (4, [.int mc, .ref (zk 0), .int 0]))] sz)) (va_Qi (fun r (_ : Unit) => r = 1) (fun _ t => zEnd (dC, dI) (zT cI cB cR cO) (va_A [(xo, .inr (6, [.ref al, .int 0, .int 0, .int 0, x4, x5, .ref b1, x7])), (al, .inr (4, [.int mc, .ref (zk 0), .int 0]))] sz) [(xo, .inr (6, [.ref al, .int 0, .int 0, .int 0, x4, x5, .ref b1, x7])), (al, .inr (4, [.int mc, .ref (zk 0), .int 0]))] sz 0 t) (va_A [(xo, .inr (6, [.ref al, .int 0, .int 0, .int 0, x4, x5, .ref b1, x7])), (al, .inr (4, [.int mc, .ref (zk 0), .int 0]))] sz)) 0 0 (va_A [(xo, .inr (6, [.ref al, .int 0, .int 0, .int 0, x4, x5, .ref b1, x7])), (al, .inr (4, [.int mc, .ref (zk 0), .int 0]))] sz) := by
  refine Met.ofW (cc := cX1_isSound) (maxL := 4) (ret := (some .boolean)) (by decide) rfl ?_
  intro p e s mY args below meth c s₁ B hml hv
  obtain ⟨rfl, hsz, hP, hK, hD0, hZ⟩ := hv
  have hx := B.exec
  have hb := B.bytes
  have hr := B.returns
  have hts := atoms_spec (ws := wsX1_isSound) B.pre
  have hown : s.vm.findClass RX1 = some mY.cls := findClass_of_methodNamed B.named
  have hlocks := B.notSynchronized
  subst hsz
  have hD := hD0.self (sz := s.heap.size)
  generalize hAe : va_A [(xo, .inr (6, [.ref al, .int 0, .int 0, .int 0, x4, x5, .ref b1, x7])), (al, .inr (4, [.int mc, .ref (zk 0), .int 0]))] s.heap.size = A at hD hZ ⊢
  have hA : ∀ q : Nat, s.heap.size ≤ q → A q := fun q h => by rw [← hAe]; exact Or.inr h
  have hS : va_S A s.heap s.heap [] := va_S.rf
  have hz : s.heap.size + 0 ≤ s.heap.size := Nat.le_refl _
  have hl := lv_entry ([.ref xo]) (n := 4) (Nat.le_of_ble_eq_true rfl)
  rw [lg_entry_eq]
  generalize (lg_sl ([.ref xo]) ++ List.replicate (4 - (lg_sl ([.ref xo])).length) Slot.unset).toArray = ls at hl ⊢
  have hl : lv_has ls 4 [(0, .ref xo)] := hl
  have hP : va_P (dC, dI) vwCl [(xo, .inr (6, [.ref al, .int 0, .int 0, .int 0, x4, x5, .ref b1, x7])), (al, .inr (4, [.int mc, .ref (zk 0), .int 0]))] s.heap := hP
  have hD : va_D A [(xo, .inr (6, [.ref al, .int 0, .int 0, .int 0, x4, x5, .ref b1, x7])), (al, .inr (4, [.int mc, .ref (zk 0), .int 0]))] := hD
  refine lv_iconst (v := 0) hx hb dX1_isSound_0 (by decide) ?_
  refine lv_istore_n (lv' := [(1, .int 0), (0, .ref xo)]) hx hb dX1_isSound_1 rfl hl (by decide) rfl (fun ls hl => ?_)
  refine lv_iload_n hx hb dX1_isSound_2 rfl (lv_at hl 0 rfl) ?_
  refine lv_aload_n hx hb dX1_isSound_3 rfl (lv_at hl 1 rfl) ?_
  refine va_get (D := (dC, dI)) (ci := 6) (v := .ref al) (C := RX1) (T := TX1) (N := 8) hx hb hts hi_X1_isSound_X1 hown hK hP 0 rfl rfl 0 (by decide) (hts (.fieldLink RX1 12 "Deeprows" "rows" "Ljava/util/ArrayList;") (List.mem_cons_of_mem _ zw_165)) (fun _ h9 => h9) rfl dX1_isSound_4 ?_
  have hPc := hP.sub (ws' := [(al, .inr (4, [.int mc, .ref (zk 0), .int 0]))]) [1] rfl
  have hDc := hD.sub (ws' := [(al, .inr (4, [.int mc, .ref (zk 0), .int 0]))]) [1] (by decide) rfl
  have hFc := va_free (wc := [(al, .inr (4, [.int mc, .ref (zk 0), .int 0]))]) hD hS hA [1] rfl
  have hDv := hDc.self (sz := s.heap.size)
  have hpre := zpre (xs' := []) (av := [.ref al]) hPc hK (hDc.weaken (fun _ _ _ h => h)) hZ hS hFc (fun r hr => by cases hr)
  refine va_calli (va_runV (As := []) (rest := [.int 0]) ⟨hx, hb, hml, hown, hts⟩ (k_size l dC dI cI cB cR cO zk al (zk 0) 0 (.int mc) s.heap.size ) (cwV 0 hts gX1_isSound_Jx4a65c_size_8abf5 rfl rfl rfl (by decide +kernel) ⟨Nat.le_of_ble_eq_true rfl, Nat.le_of_ble_eq_true rfl⟩) ⟨zblind, (zrecv_4 hK hPc (q0 := 0) rfl), hpre⟩ rfl rfl hl.1 rfl (lv_room (Nat.le_of_ble_eq_true rfl)) dX1_isSound_7 ⟨Nat.le_of_ble_eq_true rfl, Nat.le_of_ble_eq_true rfl⟩) hS (fun q _ h => hFc q h) hFc (fun r2 u t H1 locs ht hvm hw hB hz1 hk1 hS => ?_)
  obtain rfl : 0 = r2 := (show r2 = 0 from hw).symm
  obtain ⟨hP1, hK1, hD1, hz2⟩ := hB
  rw [ht] at hP1 hz2
  have hPD9 := va_join (wr := [(xo, .inr (6, [.ref al, .int 0, .int 0, .int 0, x4, x5, .ref b1, x7]))]) (w1 := [(al, .inr (4, [.int mc, .ref (zk 0), .int 0]))]) hP hD [1] [0] rfl rfl (by decide) (by decide) hk1 hFc hP1 hD1
  clear hPc hDc hFc hDv hpre hP hD hP1 hK1 hD1
  obtain ⟨hP, hD⟩ := hPD9
  replace hz : s.heap.size + 0 ≤ H1.size := by omega
  clear hz2
  replace hP : va_P (dC, dI) vwCl [(xo, .inr (6, [.ref al, .int 0, .int 0, .int 0, x4, x5, .ref b1, x7])), (al, .inr (4, [.int mc, .ref (zk 0), .int 0]))] H1 := hP
  replace hD : va_D A [(xo, .inr (6, [.ref al, .int 0, .int 0, .int 0, x4, x5, .ref b1, x7])), (al, .inr (4, [.int mc, .ref (zk 0), .int 0]))] := hD
  refine W.widen (k := 0) (n := 0) (by omega) (by omega) ?_
  refine lv_icmp_ge (tgt := 89) hx hb dX1_isSound_10 (by decide) (fun c9 => ?_) (fun c9 => ?_)
  rotate_left
  · exact absurd (by decide) c9
  refine lv_iconst (v := 1) hx hb dX1_isSound_89 (by decide) ?_
  have hP9 := hP.sub (ws' := [(xo, .inr (6, [.ref al, .int 0, .int 0, .int 0, x4, x5, .ref b1, x7])), (al, .inr (4, [.int mc, .ref (zk 0), .int 0]))]) [0, 1] rfl
  have hD9 := hD.sub (ws' := [(xo, .inr (6, [.ref al, .int 0, .int 0, .int 0, x4, x5, .ref b1, x7])), (al, .inr (4, [.int mc, .ref (zk 0), .int 0]))]) [0, 1] (by decide) rfl
  exact W.zret (v := 1) hx hb hr (by decide +kernel) (fun t ht hW => ⟨⟨_, (), rfl, rfl, ⟨by rw [ht]; exact hP9, va_K.moved hW.alike hK, hD9, by rw [ht]; exact hz⟩⟩, hS.F ht⟩) hS.2.2 dX1_isSound_90

theorem hi_X4_isSound_X4 : ∀ w ∈ u_ws RX4 TX4 5, w ∈ wsX4_isSound := fun w h => List.mem_cons_of_mem _ (zhi_X4 w h)
set_option maxHeartbeats 4000000 in
set_option maxRecDepth 100000 in
theorem k_soundM (l : Launch) (dC : Nat → ClassId) (dI : Nat → Nat → Nat) (cI cB cR cO : ClassId) (zk : Nat → Nat) (mo am : Nat) (th : Value) (mm : Int32) (sz : Nat)  : Met l yX4_isSound wsX4_isSound ({ frames := 0, cells := 0, slots := 0, locals := 0 }) (va_Pc [.ref mo] (zPre (dC, dI) (zT cI cB cR cO) zk [] [(mo, .inr (9, [th, .ref am, .int 0, .int 0, .int 0])), (am, .inr (4, [.int mm, .ref (zk 0), .int 0]))] sz)) (va_Qi (fun r (_ : Unit) => r = 1) (fun _ t => zEnd (dC, dI) (zT cI cB cR cO) (va_A [(mo, .inr (9, [th, .ref am, .int 0, .int 0, .int 0])), (am, .inr (4, [.int mm, .ref (zk 0), .int 0]))] sz) [(mo, .inr (9, [.int 0, .ref am, .int 0, .int 0, .int 0])), (am, .inr (4, [.int mm, .ref (zk 0), .int 0]))] sz 0 t) (va_A [(mo, .inr (9, [th, .ref am, .int 0, .int 0, .int 0])), (am, .inr (4, [.int mm, .ref (zk 0), .int 0]))] sz)) 0 0 (va_A [(mo, .inr (9, [th, .ref am, .int 0, .int 0, .int 0])), (am, .inr (4, [.int mm, .ref (zk 0), .int 0]))] sz) := by
  refine Met.ofW (cc := cX4_isSound) (maxL := 1) (ret := (some .boolean)) (by decide) rfl ?_
  intro p e s mY args below meth c s₁ B hml hv
  obtain ⟨rfl, hsz, hP, hK, hD0, hZ⟩ := hv
  have hx := B.exec
  have hb := B.bytes
  have hr := B.returns
  have hts := atoms_spec (ws := wsX4_isSound) B.pre
  have hown : s.vm.findClass RX4 = some mY.cls := findClass_of_methodNamed B.named
  have hlocks := B.notSynchronized
  subst hsz
  have hD := hD0.self (sz := s.heap.size)
  generalize hAe : va_A [(mo, .inr (9, [th, .ref am, .int 0, .int 0, .int 0])), (am, .inr (4, [.int mm, .ref (zk 0), .int 0]))] s.heap.size = A at hD hZ ⊢
  have hA : ∀ q : Nat, s.heap.size ≤ q → A q := fun q h => by rw [← hAe]; exact Or.inr h
  have hS : va_S A s.heap s.heap [] := va_S.rf
  have hz : s.heap.size + 0 ≤ s.heap.size := Nat.le_refl _
  have hl := lv_entry ([.ref mo]) (n := 1) (Nat.le_of_ble_eq_true rfl)
  rw [lg_entry_eq]
  generalize (lg_sl ([.ref mo]) ++ List.replicate (1 - (lg_sl ([.ref mo])).length) Slot.unset).toArray = ls at hl ⊢
  have hl : lv_has ls 1 [(0, .ref mo)] := hl
  have hP : va_P (dC, dI) vwCl [(mo, .inr (9, [th, .ref am, .int 0, .int 0, .int 0])), (am, .inr (4, [.int mm, .ref (zk 0), .int 0]))] s.heap := hP
  have hD : va_D A [(mo, .inr (9, [th, .ref am, .int 0, .int 0, .int 0])), (am, .inr (4, [.int mm, .ref (zk 0), .int 0]))] := hD
  refine lv_aload_n hx hb dX4_isSound_0 rfl (lv_at hl 0 rfl) ?_
  refine lv_iconst (v := 0) hx hb dX4_isSound_1 (by decide) ?_
  refine va_put (D := (dC, dI)) (ci := 9) (v := .int 0) (ty := .int) (C := RX4) (T := TX4) (N := 5) hx hb hts hi_X4_isSound_X4 tyX4 tyX4_ok nmX4 hown hK hP hD (zS0 hS) 0 rfl rfl 0 (by decide) (hts (.fieldLink RX4 16 "DeeprowsModel" "thrown" "I") (List.mem_cons_of_mem _ zw_1127)) (fun _ h9 => h9) rfl (by decide +kernel) rfl rfl (Nat.le_of_ble_eq_true rfl) dX4_isSound_2 (fun H1 locs hP hD hS1 => ?_)
  have hz : s.heap.size + 0 ≤ H1.size := Nat.le_trans hz hS1.1
  have hS := zSS hS hS1
  replace hP : va_P (dC, dI) vwCl [(mo, .inr (9, [.int 0, .ref am, .int 0, .int 0, .int 0])), (am, .inr (4, [.int mm, .ref (zk 0), .int 0]))] H1 := hP
  replace hD : va_D A [(mo, .inr (9, [.int 0, .ref am, .int 0, .int 0, .int 0])), (am, .inr (4, [.int mm, .ref (zk 0), .int 0]))] := hD
  refine lv_iconst (v := 1) hx hb dX4_isSound_5 (by decide) ?_
  have hP9 := hP.sub (ws' := [(mo, .inr (9, [.int 0, .ref am, .int 0, .int 0, .int 0])), (am, .inr (4, [.int mm, .ref (zk 0), .int 0]))]) [0, 1] rfl
  have hD9 := hD.sub (ws' := [(mo, .inr (9, [.int 0, .ref am, .int 0, .int 0, .int 0])), (am, .inr (4, [.int mm, .ref (zk 0), .int 0]))]) [0, 1] (by decide) rfl
  exact W.zret (v := 1) hx hb hr (by decide +kernel) (fun t ht hW => ⟨⟨_, (), rfl, rfl, ⟨by rw [ht]; exact hP9, va_K.moved hW.alike hK, hD9, by rw [ht]; exact hz⟩⟩, hS.F ht⟩) hS.2.2 dX4_isSound_6

theorem hi_X1_digest_X1 : ∀ w ∈ u_ws RX1 TX1 8, w ∈ wsX1_digest := fun w h => List.mem_cons_of_mem _ (zhi_X1 w h)
set_option maxHeartbeats 4000000 in
set_option maxRecDepth 100000 in
theorem k_digX (l : Launch) (dC : Nat → ClassId) (dI : Nat → Nat → Nat) (cI cB cR cO : ClassId) (zk : Nat → Nat) (xo al b1 : Nat) (x4 x5 x7 : Value) (mc : Int32) (sz : Nat)  : Met l yX1_digest wsX1_digest ({ frames := 3, cells := 0, slots := 0, locals := 64 }) (va_Pc [.ref xo] (zPre (dC, dI) (zT cI cB cR cO) zk [] [(xo, .inr (6, [.ref al, .int 0, .int 0, .int 0, x4, x5, .ref b1, x7])), (al, .inr (4, [.int mc, .ref (zk 0), .int 0]))] sz)) (va_Ql (fun (r : Int64) (_ : Unit) => r = 214020625169470) (fun _ t => zEnd (dC, dI) (zT cI cB cR cO) (va_A [(xo, .inr (6, [.ref al, .int 0, .int 0, .int 0, x4, x5, .ref b1, x7])), (al, .inr (4, [.int mc, .ref (zk 0), .int 0]))] sz) [(xo, .inr (6, [.ref al, .int 0, .int 0, .int 0, x4, x5, .ref b1, x7])), (al, .inr (4, [.int mc, .ref (zk 0), .int 0]))] sz 0 t) (va_A [(xo, .inr (6, [.ref al, .int 0, .int 0, .int 0, x4, x5, .ref b1, x7])), (al, .inr (4, [.int mc, .ref (zk 0), .int 0]))] sz)) 0 0 (va_A [(xo, .inr (6, [.ref al, .int 0, .int 0, .int 0, x4, x5, .ref b1, x7])), (al, .inr (4, [.int mc, .ref (zk 0), .int 0]))] sz) := by
  refine Met.ofW (cc := cX1_digest) (maxL := 5) (ret := (some .long)) (by decide) rfl ?_
  intro p e s mY args below meth c s₁ B hml hv
  obtain ⟨rfl, hsz, hP, hK, hD0, hZ⟩ := hv
  have hx := B.exec
  have hb := B.bytes
  have hr := B.returns
  have hts := atoms_spec (ws := wsX1_digest) B.pre
  have hown : s.vm.findClass RX1 = some mY.cls := findClass_of_methodNamed B.named
  have hlocks := B.notSynchronized
  subst hsz
  have hD := hD0.self (sz := s.heap.size)
  generalize hAe : va_A [(xo, .inr (6, [.ref al, .int 0, .int 0, .int 0, x4, x5, .ref b1, x7])), (al, .inr (4, [.int mc, .ref (zk 0), .int 0]))] s.heap.size = A at hD hZ ⊢
  have hA : ∀ q : Nat, s.heap.size ≤ q → A q := fun q h => by rw [← hAe]; exact Or.inr h
  have hS : va_S A s.heap s.heap [] := va_S.rf
  have hz : s.heap.size + 0 ≤ s.heap.size := Nat.le_refl _
  have hl := lv_entry ([.ref xo]) (n := 5) (Nat.le_of_ble_eq_true rfl)
  rw [lg_entry_eq]
  generalize (lg_sl ([.ref xo]) ++ List.replicate (5 - (lg_sl ([.ref xo])).length) Slot.unset).toArray = ls at hl ⊢
  have hl : lv_has ls 5 [(0, .ref xo)] := hl
  have hP : va_P (dC, dI) vwCl [(xo, .inr (6, [.ref al, .int 0, .int 0, .int 0, x4, x5, .ref b1, x7])), (al, .inr (4, [.int mc, .ref (zk 0), .int 0]))] s.heap := hP
  have hD : va_D A [(xo, .inr (6, [.ref al, .int 0, .int 0, .int 0, x4, x5, .ref b1, x7])), (al, .inr (4, [.int mc, .ref (zk 0), .int 0]))] := hD
  refine lv_ldc2 (v := 7779) hx hb hown (hts (.constantLong RX1 243 (7779)) (List.mem_cons_of_mem _ zw_702)) dX1_digest_0 ?_
  refine lv_lstore_n (lv' := [(1, .long 7779), (0, .ref xo)]) hx hb dX1_digest_3 rfl hl (by decide) rfl (fun ls hl => ?_)
  refine lv_iconst (v := 0) hx hb dX1_digest_4 (by decide) ?_
  refine lv_istore_n (lv' := [(3, .int 0), (1, .long 7779), (0, .ref xo)]) hx hb dX1_digest_5 rfl hl (by decide) rfl (fun ls hl => ?_)
  refine lv_iload_n hx hb dX1_digest_6 rfl (lv_at hl 0 rfl) ?_
  refine lv_iconst (v := 5) hx hb dX1_digest_7 (by decide) ?_
  refine lv_icmp_gt (tgt := 30) hx hb dX1_digest_8 (by decide) (fun c9 => ?_) (fun c9 => ?_)
  · exact absurd c9 (by decide)
  refine lv_lload_n hx hb dX1_digest_11 rfl (lv_at hl 1 rfl) ?_
  refine lv_ldc2 (v := 31) hx hb hown (hts (.constantLong RX1 245 (31)) (List.mem_cons_of_mem _ zw_703)) dX1_digest_12 ?_
  refine lv_lmul hx hb dX1_digest_15 ?_
  refine lv_topl (fun v1 ev1 => ?_)
  obtain rfl : v1 = 241149 := ev1.trans (by decide +kernel)
  refine lv_aload_n hx hb dX1_digest_16 rfl (lv_at hl 2 rfl) ?_
  refine lv_iload_n hx hb dX1_digest_17 rfl (lv_at hl 0 rfl) ?_
  have hPc := hP.sub (ws' := [(xo, .inr (6, [.ref al, .int 0, .int 0, .int 0, x4, x5, .ref b1, x7])), (al, .inr (4, [.int mc, .ref (zk 0), .int 0]))]) [0, 1] rfl
  have hDc := hD.sub (ws' := [(xo, .inr (6, [.ref al, .int 0, .int 0, .int 0, x4, x5, .ref b1, x7])), (al, .inr (4, [.int mc, .ref (zk 0), .int 0]))]) [0, 1] (by decide) rfl
  have hFc := va_free (wc := [(xo, .inr (6, [.ref al, .int 0, .int 0, .int 0, x4, x5, .ref b1, x7])), (al, .inr (4, [.int mc, .ref (zk 0), .int 0]))]) hD hS hA [0, 1] rfl
  have hDv := hDc.self (sz := s.heap.size)
  have hpre := zpre (xs' := []) (av := [.ref xo, .int 0]) hPc hK (hDc.weaken (fun _ _ _ h => h)) hZ hS hFc (fun r hr => by cases hr)
  refine va_calli (va_runV (As := [.int 0]) (rest := [.long 241149]) ⟨hx, hb, hml, hown, hts⟩ (k_house0X l dC dI cI cB cR cO zk xo al b1 x4 x5 x7 mc s.heap.size ) (cwV 1 hts gX1_digest_X1_house rfl rfl rfl (by decide +kernel) ⟨Nat.le_of_ble_eq_true rfl, Nat.le_of_ble_eq_true rfl⟩) ⟨zblind, (zrecv_6 hK hPc (q0 := 0) rfl), hpre⟩ rfl rfl hl.1 rfl (lv_room (Nat.le_of_ble_eq_true rfl)) dX1_digest_18 ⟨Nat.le_of_ble_eq_true rfl, Nat.le_of_ble_eq_true rfl⟩) hS (fun q _ h => hFc q h) hFc (fun r3 u t H2 locs ht hvm hw hB hz1 hk1 hS => ?_)
  obtain rfl : 0 = r3 := (show r3 = 0 from hw).symm
  obtain ⟨hP1, hK1, hD1, hz2⟩ := hB
  rw [ht] at hP1 hz2
  have hPD9 := va_join (wr := []) (w1 := [(xo, .inr (6, [.ref al, .int 0, .int 0, .int 0, x4, x5, .ref b1, x7])), (al, .inr (4, [.int mc, .ref (zk 0), .int 0]))]) hP hD [0, 1] [] rfl rfl (by decide) (by decide) hk1 hFc hP1 hD1
  clear hPc hDc hFc hDv hpre hP hD hP1 hK1 hD1
  obtain ⟨hP, hD⟩ := hPD9
  replace hz : s.heap.size + 0 ≤ H2.size := by omega
  clear hz2
  replace hP : va_P (dC, dI) vwCl [(xo, .inr (6, [.ref al, .int 0, .int 0, .int 0, x4, x5, .ref b1, x7])), (al, .inr (4, [.int mc, .ref (zk 0), .int 0]))] H2 := hP
  replace hD : va_D A [(xo, .inr (6, [.ref al, .int 0, .int 0, .int 0, x4, x5, .ref b1, x7])), (al, .inr (4, [.int mc, .ref (zk 0), .int 0]))] := hD
  refine W.widen (k := 0) (n := 0) (by omega) (by omega) ?_
  refine lv_i2l (v := 0) hx hb dX1_digest_21 (by decide) ?_
  refine lv_ladd hx hb dX1_digest_22 ?_
  refine lv_topl (fun v4 ev4 => ?_)
  obtain rfl : v4 = 241149 := ev4.trans (by decide +kernel)
  refine lv_lstore_n (lv' := [(1, .long 241149), (3, .int 0), (0, .ref xo)]) hx hb dX1_digest_23 rfl hl (by decide) rfl (fun ls hl => ?_)
  refine lv_iinc (v := 1) (lv' := [(3, .int 1), (1, .long 241149), (0, .ref xo)]) hx hb dX1_digest_24 hl (k := 1) rfl (by decide) (by decide) rfl (fun ls hl => ?_)
  refine lv_goto (tgt := 6) hx hb dX1_digest_27 (by decide) ?_
  refine lv_iload_n hx hb dX1_digest_6 rfl (lv_at hl 0 rfl) ?_
  refine lv_iconst (v := 5) hx hb dX1_digest_7 (by decide) ?_
  refine lv_icmp_gt (tgt := 30) hx hb dX1_digest_8 (by decide) (fun c9 => ?_) (fun c9 => ?_)
  · exact absurd c9 (by decide)
  refine lv_lload_n hx hb dX1_digest_11 rfl (lv_at hl 1 rfl) ?_
  refine lv_ldc2 (v := 31) hx hb hown (hts (.constantLong RX1 245 (31)) (List.mem_cons_of_mem _ zw_703)) dX1_digest_12 ?_
  refine lv_lmul hx hb dX1_digest_15 ?_
  refine lv_topl (fun v5 ev5 => ?_)
  obtain rfl : v5 = 7475619 := ev5.trans (by decide +kernel)
  refine lv_aload_n hx hb dX1_digest_16 rfl (lv_at hl 2 rfl) ?_
  refine lv_iload_n hx hb dX1_digest_17 rfl (lv_at hl 0 rfl) ?_
  have hPc := hP.sub (ws' := [(xo, .inr (6, [.ref al, .int 0, .int 0, .int 0, x4, x5, .ref b1, x7])), (al, .inr (4, [.int mc, .ref (zk 0), .int 0]))]) [0, 1] rfl
  have hDc := hD.sub (ws' := [(xo, .inr (6, [.ref al, .int 0, .int 0, .int 0, x4, x5, .ref b1, x7])), (al, .inr (4, [.int mc, .ref (zk 0), .int 0]))]) [0, 1] (by decide) rfl
  have hFc := va_free (wc := [(xo, .inr (6, [.ref al, .int 0, .int 0, .int 0, x4, x5, .ref b1, x7])), (al, .inr (4, [.int mc, .ref (zk 0), .int 0]))]) hD hS hA [0, 1] rfl
  have hDv := hDc.self (sz := H2.size)
  have hpre := zpre (xs' := []) (av := [.ref xo, .int 1]) hPc hK (hDc.weaken (fun _ _ _ h => h)) hZ hS hFc (fun r hr => by cases hr)
  refine va_calli (va_runV (As := [.int 1]) (rest := [.long 7475619]) ⟨hx, hb, hml, hown, hts⟩ (k_house1X l dC dI cI cB cR cO zk xo al b1 x4 x5 x7 mc H2.size ) (cwV 1 hts gX1_digest_X1_house rfl rfl rfl (by decide +kernel) ⟨Nat.le_of_ble_eq_true rfl, Nat.le_of_ble_eq_true rfl⟩) ⟨zblind, (zrecv_6 hK hPc (q0 := 0) rfl), hpre⟩ rfl rfl hl.1 rfl (lv_room (Nat.le_of_ble_eq_true rfl)) dX1_digest_18 ⟨Nat.le_of_ble_eq_true rfl, Nat.le_of_ble_eq_true rfl⟩) hS (fun q _ h => hFc q h) hFc (fun r7 u t H6 locs ht hvm hw hB hz1 hk1 hS => ?_)
  obtain rfl : 0 = r7 := (show r7 = 0 from hw).symm
  obtain ⟨hP1, hK1, hD1, hz2⟩ := hB
  rw [ht] at hP1 hz2
  have hPD9 := va_join (wr := []) (w1 := [(xo, .inr (6, [.ref al, .int 0, .int 0, .int 0, x4, x5, .ref b1, x7])), (al, .inr (4, [.int mc, .ref (zk 0), .int 0]))]) hP hD [0, 1] [] rfl rfl (by decide) (by decide) hk1 hFc hP1 hD1
  clear hPc hDc hFc hDv hpre hP hD hP1 hK1 hD1
  obtain ⟨hP, hD⟩ := hPD9
  replace hz : s.heap.size + 0 ≤ H6.size := by omega
  clear hz2
  replace hP : va_P (dC, dI) vwCl [(xo, .inr (6, [.ref al, .int 0, .int 0, .int 0, x4, x5, .ref b1, x7])), (al, .inr (4, [.int mc, .ref (zk 0), .int 0]))] H6 := hP
  replace hD : va_D A [(xo, .inr (6, [.ref al, .int 0, .int 0, .int 0, x4, x5, .ref b1, x7])), (al, .inr (4, [.int mc, .ref (zk 0), .int 0]))] := hD
  refine W.widen (k := 0) (n := 0) (by omega) (by omega) ?_
  refine lv_i2l (v := 0) hx hb dX1_digest_21 (by decide) ?_
  refine lv_ladd hx hb dX1_digest_22 ?_
  refine lv_topl (fun v8 ev8 => ?_)
  obtain rfl : v8 = 7475619 := ev8.trans (by decide +kernel)
  refine lv_lstore_n (lv' := [(1, .long 7475619), (3, .int 1), (0, .ref xo)]) hx hb dX1_digest_23 rfl hl (by decide) rfl (fun ls hl => ?_)
  refine lv_iinc (v := 2) (lv' := [(3, .int 2), (1, .long 7475619), (0, .ref xo)]) hx hb dX1_digest_24 hl (k := 1) rfl (by decide) (by decide) rfl (fun ls hl => ?_)
  refine lv_goto (tgt := 6) hx hb dX1_digest_27 (by decide) ?_
  refine lv_iload_n hx hb dX1_digest_6 rfl (lv_at hl 0 rfl) ?_
  refine lv_iconst (v := 5) hx hb dX1_digest_7 (by decide) ?_
  refine lv_icmp_gt (tgt := 30) hx hb dX1_digest_8 (by decide) (fun c9 => ?_) (fun c9 => ?_)
  · exact absurd c9 (by decide)
  refine lv_lload_n hx hb dX1_digest_11 rfl (lv_at hl 1 rfl) ?_
  refine lv_ldc2 (v := 31) hx hb hown (hts (.constantLong RX1 245 (31)) (List.mem_cons_of_mem _ zw_703)) dX1_digest_12 ?_
  refine lv_lmul hx hb dX1_digest_15 ?_
  refine lv_topl (fun v9 ev9 => ?_)
  obtain rfl : v9 = 231744189 := ev9.trans (by decide +kernel)
  refine lv_aload_n hx hb dX1_digest_16 rfl (lv_at hl 2 rfl) ?_
  refine lv_iload_n hx hb dX1_digest_17 rfl (lv_at hl 0 rfl) ?_
  have hPc := hP.sub (ws' := [(xo, .inr (6, [.ref al, .int 0, .int 0, .int 0, x4, x5, .ref b1, x7])), (al, .inr (4, [.int mc, .ref (zk 0), .int 0]))]) [0, 1] rfl
  have hDc := hD.sub (ws' := [(xo, .inr (6, [.ref al, .int 0, .int 0, .int 0, x4, x5, .ref b1, x7])), (al, .inr (4, [.int mc, .ref (zk 0), .int 0]))]) [0, 1] (by decide) rfl
  have hFc := va_free (wc := [(xo, .inr (6, [.ref al, .int 0, .int 0, .int 0, x4, x5, .ref b1, x7])), (al, .inr (4, [.int mc, .ref (zk 0), .int 0]))]) hD hS hA [0, 1] rfl
  have hDv := hDc.self (sz := H6.size)
  have hpre := zpre (xs' := []) (av := [.ref xo, .int 2]) hPc hK (hDc.weaken (fun _ _ _ h => h)) hZ hS hFc (fun r hr => by cases hr)
  refine va_calli (va_runV (As := [.int 2]) (rest := [.long 231744189]) ⟨hx, hb, hml, hown, hts⟩ (k_house2X l dC dI cI cB cR cO zk xo al b1 x4 x5 x7 mc H6.size ) (cwV 1 hts gX1_digest_X1_house rfl rfl rfl (by decide +kernel) ⟨Nat.le_of_ble_eq_true rfl, Nat.le_of_ble_eq_true rfl⟩) ⟨zblind, (zrecv_6 hK hPc (q0 := 0) rfl), hpre⟩ rfl rfl hl.1 rfl (lv_room (Nat.le_of_ble_eq_true rfl)) dX1_digest_18 ⟨Nat.le_of_ble_eq_true rfl, Nat.le_of_ble_eq_true rfl⟩) hS (fun q _ h => hFc q h) hFc (fun r11 u t H10 locs ht hvm hw hB hz1 hk1 hS => ?_)
  obtain rfl : 0 = r11 := (show r11 = 0 from hw).symm
  obtain ⟨hP1, hK1, hD1, hz2⟩ := hB
  rw [ht] at hP1 hz2
  have hPD9 := va_join (wr := []) (w1 := [(xo, .inr (6, [.ref al, .int 0, .int 0, .int 0, x4, x5, .ref b1, x7])), (al, .inr (4, [.int mc, .ref (zk 0), .int 0]))]) hP hD [0, 1] [] rfl rfl (by decide) (by decide) hk1 hFc hP1 hD1
  clear hPc hDc hFc hDv hpre hP hD hP1 hK1 hD1
  obtain ⟨hP, hD⟩ := hPD9
  replace hz : s.heap.size + 0 ≤ H10.size := by omega
  clear hz2
  replace hP : va_P (dC, dI) vwCl [(xo, .inr (6, [.ref al, .int 0, .int 0, .int 0, x4, x5, .ref b1, x7])), (al, .inr (4, [.int mc, .ref (zk 0), .int 0]))] H10 := hP
  replace hD : va_D A [(xo, .inr (6, [.ref al, .int 0, .int 0, .int 0, x4, x5, .ref b1, x7])), (al, .inr (4, [.int mc, .ref (zk 0), .int 0]))] := hD
  refine W.widen (k := 0) (n := 0) (by omega) (by omega) ?_
  refine lv_i2l (v := 0) hx hb dX1_digest_21 (by decide) ?_
  refine lv_ladd hx hb dX1_digest_22 ?_
  refine lv_topl (fun v12 ev12 => ?_)
  obtain rfl : v12 = 231744189 := ev12.trans (by decide +kernel)
  refine lv_lstore_n (lv' := [(1, .long 231744189), (3, .int 2), (0, .ref xo)]) hx hb dX1_digest_23 rfl hl (by decide) rfl (fun ls hl => ?_)
  refine lv_iinc (v := 3) (lv' := [(3, .int 3), (1, .long 231744189), (0, .ref xo)]) hx hb dX1_digest_24 hl (k := 1) rfl (by decide) (by decide) rfl (fun ls hl => ?_)
  refine lv_goto (tgt := 6) hx hb dX1_digest_27 (by decide) ?_
  refine lv_iload_n hx hb dX1_digest_6 rfl (lv_at hl 0 rfl) ?_
  refine lv_iconst (v := 5) hx hb dX1_digest_7 (by decide) ?_
  refine lv_icmp_gt (tgt := 30) hx hb dX1_digest_8 (by decide) (fun c9 => ?_) (fun c9 => ?_)
  · exact absurd c9 (by decide)
  refine lv_lload_n hx hb dX1_digest_11 rfl (lv_at hl 1 rfl) ?_
  refine lv_ldc2 (v := 31) hx hb hown (hts (.constantLong RX1 245 (31)) (List.mem_cons_of_mem _ zw_703)) dX1_digest_12 ?_
  refine lv_lmul hx hb dX1_digest_15 ?_
  refine lv_topl (fun v13 ev13 => ?_)
  obtain rfl : v13 = 7184069859 := ev13.trans (by decide +kernel)
  refine lv_aload_n hx hb dX1_digest_16 rfl (lv_at hl 2 rfl) ?_
  refine lv_iload_n hx hb dX1_digest_17 rfl (lv_at hl 0 rfl) ?_
  have hPc := hP.sub (ws' := [(xo, .inr (6, [.ref al, .int 0, .int 0, .int 0, x4, x5, .ref b1, x7])), (al, .inr (4, [.int mc, .ref (zk 0), .int 0]))]) [0, 1] rfl
  have hDc := hD.sub (ws' := [(xo, .inr (6, [.ref al, .int 0, .int 0, .int 0, x4, x5, .ref b1, x7])), (al, .inr (4, [.int mc, .ref (zk 0), .int 0]))]) [0, 1] (by decide) rfl
  have hFc := va_free (wc := [(xo, .inr (6, [.ref al, .int 0, .int 0, .int 0, x4, x5, .ref b1, x7])), (al, .inr (4, [.int mc, .ref (zk 0), .int 0]))]) hD hS hA [0, 1] rfl
  have hDv := hDc.self (sz := H10.size)
  have hpre := zpre (xs' := []) (av := [.ref xo, .int 3]) hPc hK (hDc.weaken (fun _ _ _ h => h)) hZ hS hFc (fun r hr => by cases hr)
  refine va_calli (va_runV (As := [.int 3]) (rest := [.long 7184069859]) ⟨hx, hb, hml, hown, hts⟩ (k_house3X l dC dI cI cB cR cO zk xo al b1 x4 x5 x7 mc H10.size ) (cwV 1 hts gX1_digest_X1_house rfl rfl rfl (by decide +kernel) ⟨Nat.le_of_ble_eq_true rfl, Nat.le_of_ble_eq_true rfl⟩) ⟨zblind, (zrecv_6 hK hPc (q0 := 0) rfl), hpre⟩ rfl rfl hl.1 rfl (lv_room (Nat.le_of_ble_eq_true rfl)) dX1_digest_18 ⟨Nat.le_of_ble_eq_true rfl, Nat.le_of_ble_eq_true rfl⟩) hS (fun q _ h => hFc q h) hFc (fun r15 u t H14 locs ht hvm hw hB hz1 hk1 hS => ?_)
  obtain rfl : 0 = r15 := (show r15 = 0 from hw).symm
  obtain ⟨hP1, hK1, hD1, hz2⟩ := hB
  rw [ht] at hP1 hz2
  have hPD9 := va_join (wr := []) (w1 := [(xo, .inr (6, [.ref al, .int 0, .int 0, .int 0, x4, x5, .ref b1, x7])), (al, .inr (4, [.int mc, .ref (zk 0), .int 0]))]) hP hD [0, 1] [] rfl rfl (by decide) (by decide) hk1 hFc hP1 hD1
  clear hPc hDc hFc hDv hpre hP hD hP1 hK1 hD1
  obtain ⟨hP, hD⟩ := hPD9
  replace hz : s.heap.size + 0 ≤ H14.size := by omega
  clear hz2
  replace hP : va_P (dC, dI) vwCl [(xo, .inr (6, [.ref al, .int 0, .int 0, .int 0, x4, x5, .ref b1, x7])), (al, .inr (4, [.int mc, .ref (zk 0), .int 0]))] H14 := hP
  replace hD : va_D A [(xo, .inr (6, [.ref al, .int 0, .int 0, .int 0, x4, x5, .ref b1, x7])), (al, .inr (4, [.int mc, .ref (zk 0), .int 0]))] := hD
  refine W.widen (k := 0) (n := 0) (by omega) (by omega) ?_
  refine lv_i2l (v := 0) hx hb dX1_digest_21 (by decide) ?_
  refine lv_ladd hx hb dX1_digest_22 ?_
  refine lv_topl (fun v16 ev16 => ?_)
  obtain rfl : v16 = 7184069859 := ev16.trans (by decide +kernel)
  refine lv_lstore_n (lv' := [(1, .long 7184069859), (3, .int 3), (0, .ref xo)]) hx hb dX1_digest_23 rfl hl (by decide) rfl (fun ls hl => ?_)
  refine lv_iinc (v := 4) (lv' := [(3, .int 4), (1, .long 7184069859), (0, .ref xo)]) hx hb dX1_digest_24 hl (k := 1) rfl (by decide) (by decide) rfl (fun ls hl => ?_)
  refine lv_goto (tgt := 6) hx hb dX1_digest_27 (by decide) ?_
  refine lv_iload_n hx hb dX1_digest_6 rfl (lv_at hl 0 rfl) ?_
  refine lv_iconst (v := 5) hx hb dX1_digest_7 (by decide) ?_
  refine lv_icmp_gt (tgt := 30) hx hb dX1_digest_8 (by decide) (fun c9 => ?_) (fun c9 => ?_)
  · exact absurd c9 (by decide)
  refine lv_lload_n hx hb dX1_digest_11 rfl (lv_at hl 1 rfl) ?_
  refine lv_ldc2 (v := 31) hx hb hown (hts (.constantLong RX1 245 (31)) (List.mem_cons_of_mem _ zw_703)) dX1_digest_12 ?_
  refine lv_lmul hx hb dX1_digest_15 ?_
  refine lv_topl (fun v17 ev17 => ?_)
  obtain rfl : v17 = 222706165629 := ev17.trans (by decide +kernel)
  refine lv_aload_n hx hb dX1_digest_16 rfl (lv_at hl 2 rfl) ?_
  refine lv_iload_n hx hb dX1_digest_17 rfl (lv_at hl 0 rfl) ?_
  have hPc := hP.sub (ws' := [(xo, .inr (6, [.ref al, .int 0, .int 0, .int 0, x4, x5, .ref b1, x7])), (al, .inr (4, [.int mc, .ref (zk 0), .int 0]))]) [0, 1] rfl
  have hDc := hD.sub (ws' := [(xo, .inr (6, [.ref al, .int 0, .int 0, .int 0, x4, x5, .ref b1, x7])), (al, .inr (4, [.int mc, .ref (zk 0), .int 0]))]) [0, 1] (by decide) rfl
  have hFc := va_free (wc := [(xo, .inr (6, [.ref al, .int 0, .int 0, .int 0, x4, x5, .ref b1, x7])), (al, .inr (4, [.int mc, .ref (zk 0), .int 0]))]) hD hS hA [0, 1] rfl
  have hDv := hDc.self (sz := H14.size)
  have hpre := zpre (xs' := []) (av := [.ref xo, .int 4]) hPc hK (hDc.weaken (fun _ _ _ h => h)) hZ hS hFc (fun r hr => by cases hr)
  refine va_calli (va_runV (As := [.int 4]) (rest := [.long 222706165629]) ⟨hx, hb, hml, hown, hts⟩ (k_house4X l dC dI cI cB cR cO zk xo al b1 x4 x5 x7 mc H14.size ) (cwV 1 hts gX1_digest_X1_house rfl rfl rfl (by decide +kernel) ⟨Nat.le_of_ble_eq_true rfl, Nat.le_of_ble_eq_true rfl⟩) ⟨zblind, (zrecv_6 hK hPc (q0 := 0) rfl), hpre⟩ rfl rfl hl.1 rfl (lv_room (Nat.le_of_ble_eq_true rfl)) dX1_digest_18 ⟨Nat.le_of_ble_eq_true rfl, Nat.le_of_ble_eq_true rfl⟩) hS (fun q _ h => hFc q h) hFc (fun r19 u t H18 locs ht hvm hw hB hz1 hk1 hS => ?_)
  obtain rfl : 0 = r19 := (show r19 = 0 from hw).symm
  obtain ⟨hP1, hK1, hD1, hz2⟩ := hB
  rw [ht] at hP1 hz2
  have hPD9 := va_join (wr := []) (w1 := [(xo, .inr (6, [.ref al, .int 0, .int 0, .int 0, x4, x5, .ref b1, x7])), (al, .inr (4, [.int mc, .ref (zk 0), .int 0]))]) hP hD [0, 1] [] rfl rfl (by decide) (by decide) hk1 hFc hP1 hD1
  clear hPc hDc hFc hDv hpre hP hD hP1 hK1 hD1
  obtain ⟨hP, hD⟩ := hPD9
  replace hz : s.heap.size + 0 ≤ H18.size := by omega
  clear hz2
  replace hP : va_P (dC, dI) vwCl [(xo, .inr (6, [.ref al, .int 0, .int 0, .int 0, x4, x5, .ref b1, x7])), (al, .inr (4, [.int mc, .ref (zk 0), .int 0]))] H18 := hP
  replace hD : va_D A [(xo, .inr (6, [.ref al, .int 0, .int 0, .int 0, x4, x5, .ref b1, x7])), (al, .inr (4, [.int mc, .ref (zk 0), .int 0]))] := hD
  refine W.widen (k := 0) (n := 0) (by omega) (by omega) ?_
  refine lv_i2l (v := 0) hx hb dX1_digest_21 (by decide) ?_
  refine lv_ladd hx hb dX1_digest_22 ?_
  refine lv_topl (fun v20 ev20 => ?_)
  obtain rfl : v20 = 222706165629 := ev20.trans (by decide +kernel)
  refine lv_lstore_n (lv' := [(1, .long 222706165629), (3, .int 4), (0, .ref xo)]) hx hb dX1_digest_23 rfl hl (by decide) rfl (fun ls hl => ?_)
  refine lv_iinc (v := 5) (lv' := [(3, .int 5), (1, .long 222706165629), (0, .ref xo)]) hx hb dX1_digest_24 hl (k := 1) rfl (by decide) (by decide) rfl (fun ls hl => ?_)
  refine lv_goto (tgt := 6) hx hb dX1_digest_27 (by decide) ?_
  refine lv_iload_n hx hb dX1_digest_6 rfl (lv_at hl 0 rfl) ?_
  refine lv_iconst (v := 5) hx hb dX1_digest_7 (by decide) ?_
  refine lv_icmp_gt (tgt := 30) hx hb dX1_digest_8 (by decide) (fun c9 => ?_) (fun c9 => ?_)
  · exact absurd c9 (by decide)
  refine lv_lload_n hx hb dX1_digest_11 rfl (lv_at hl 1 rfl) ?_
  refine lv_ldc2 (v := 31) hx hb hown (hts (.constantLong RX1 245 (31)) (List.mem_cons_of_mem _ zw_703)) dX1_digest_12 ?_
  refine lv_lmul hx hb dX1_digest_15 ?_
  refine lv_topl (fun v21 ev21 => ?_)
  obtain rfl : v21 = 6903891134499 := ev21.trans (by decide +kernel)
  refine lv_aload_n hx hb dX1_digest_16 rfl (lv_at hl 2 rfl) ?_
  refine lv_iload_n hx hb dX1_digest_17 rfl (lv_at hl 0 rfl) ?_
  have hPc := hP.sub (ws' := [(xo, .inr (6, [.ref al, .int 0, .int 0, .int 0, x4, x5, .ref b1, x7])), (al, .inr (4, [.int mc, .ref (zk 0), .int 0]))]) [0, 1] rfl
  have hDc := hD.sub (ws' := [(xo, .inr (6, [.ref al, .int 0, .int 0, .int 0, x4, x5, .ref b1, x7])), (al, .inr (4, [.int mc, .ref (zk 0), .int 0]))]) [0, 1] (by decide) rfl
  have hFc := va_free (wc := [(xo, .inr (6, [.ref al, .int 0, .int 0, .int 0, x4, x5, .ref b1, x7])), (al, .inr (4, [.int mc, .ref (zk 0), .int 0]))]) hD hS hA [0, 1] rfl
  have hDv := hDc.self (sz := H18.size)
  have hpre := zpre (xs' := []) (av := [.ref xo, .int 5]) hPc hK (hDc.weaken (fun _ _ _ h => h)) hZ hS hFc (fun r hr => by cases hr)
  refine va_calli (va_runV (As := [.int 5]) (rest := [.long 6903891134499]) ⟨hx, hb, hml, hown, hts⟩ (k_house5X l dC dI cI cB cR cO zk xo al b1 x4 x5 x7 mc H18.size ) (cwV 1 hts gX1_digest_X1_house rfl rfl rfl (by decide +kernel) ⟨Nat.le_of_ble_eq_true rfl, Nat.le_of_ble_eq_true rfl⟩) ⟨zblind, (zrecv_6 hK hPc (q0 := 0) rfl), hpre⟩ rfl rfl hl.1 rfl (lv_room (Nat.le_of_ble_eq_true rfl)) dX1_digest_18 ⟨Nat.le_of_ble_eq_true rfl, Nat.le_of_ble_eq_true rfl⟩) hS (fun q _ h => hFc q h) hFc (fun r23 u t H22 locs ht hvm hw hB hz1 hk1 hS => ?_)
  obtain rfl : 0 = r23 := (show r23 = 0 from hw).symm
  obtain ⟨hP1, hK1, hD1, hz2⟩ := hB
  rw [ht] at hP1 hz2
  have hPD9 := va_join (wr := []) (w1 := [(xo, .inr (6, [.ref al, .int 0, .int 0, .int 0, x4, x5, .ref b1, x7])), (al, .inr (4, [.int mc, .ref (zk 0), .int 0]))]) hP hD [0, 1] [] rfl rfl (by decide) (by decide) hk1 hFc hP1 hD1
  clear hPc hDc hFc hDv hpre hP hD hP1 hK1 hD1
  obtain ⟨hP, hD⟩ := hPD9
  replace hz : s.heap.size + 0 ≤ H22.size := by omega
  clear hz2
  replace hP : va_P (dC, dI) vwCl [(xo, .inr (6, [.ref al, .int 0, .int 0, .int 0, x4, x5, .ref b1, x7])), (al, .inr (4, [.int mc, .ref (zk 0), .int 0]))] H22 := hP
  replace hD : va_D A [(xo, .inr (6, [.ref al, .int 0, .int 0, .int 0, x4, x5, .ref b1, x7])), (al, .inr (4, [.int mc, .ref (zk 0), .int 0]))] := hD
  refine W.widen (k := 0) (n := 0) (by omega) (by omega) ?_
  refine lv_i2l (v := 0) hx hb dX1_digest_21 (by decide) ?_
  refine lv_ladd hx hb dX1_digest_22 ?_
  refine lv_topl (fun v24 ev24 => ?_)
  obtain rfl : v24 = 6903891134499 := ev24.trans (by decide +kernel)
  refine lv_lstore_n (lv' := [(1, .long 6903891134499), (3, .int 5), (0, .ref xo)]) hx hb dX1_digest_23 rfl hl (by decide) rfl (fun ls hl => ?_)
  refine lv_iinc (v := 6) (lv' := [(3, .int 6), (1, .long 6903891134499), (0, .ref xo)]) hx hb dX1_digest_24 hl (k := 1) rfl (by decide) (by decide) rfl (fun ls hl => ?_)
  refine lv_goto (tgt := 6) hx hb dX1_digest_27 (by decide) ?_
  refine lv_iload_n hx hb dX1_digest_6 rfl (lv_at hl 0 rfl) ?_
  refine lv_iconst (v := 5) hx hb dX1_digest_7 (by decide) ?_
  refine lv_icmp_gt (tgt := 30) hx hb dX1_digest_8 (by decide) (fun c9 => ?_) (fun c9 => ?_)
  rotate_left
  · exact absurd (by decide) c9
  refine lv_iconst (v := 0) hx hb dX1_digest_30 (by decide) ?_
  refine lv_istore_n (lv' := [(3, .int 0), (1, .long 6903891134499), (0, .ref xo)]) hx hb dX1_digest_31 rfl hl (by decide) rfl (fun ls hl => ?_)
  refine lv_iload_n hx hb dX1_digest_32 rfl (lv_at hl 0 rfl) ?_
  refine lv_aload_n hx hb dX1_digest_33 rfl (lv_at hl 2 rfl) ?_
  refine va_get (D := (dC, dI)) (ci := 6) (v := .ref al) (C := RX1) (T := TX1) (N := 8) hx hb hts hi_X1_digest_X1 hown hK hP 0 rfl rfl 0 (by decide) (hts (.fieldLink RX1 12 "Deeprows" "rows" "Ljava/util/ArrayList;") (List.mem_cons_of_mem _ zw_165)) (fun _ h9 => h9) rfl dX1_digest_34 ?_
  have hPc := hP.sub (ws' := [(al, .inr (4, [.int mc, .ref (zk 0), .int 0]))]) [1] rfl
  have hDc := hD.sub (ws' := [(al, .inr (4, [.int mc, .ref (zk 0), .int 0]))]) [1] (by decide) rfl
  have hFc := va_free (wc := [(al, .inr (4, [.int mc, .ref (zk 0), .int 0]))]) hD hS hA [1] rfl
  have hDv := hDc.self (sz := H22.size)
  have hpre := zpre (xs' := []) (av := [.ref al]) hPc hK (hDc.weaken (fun _ _ _ h => h)) hZ hS hFc (fun r hr => by cases hr)
  refine va_calli (va_runV (As := []) (rest := [.int 0]) ⟨hx, hb, hml, hown, hts⟩ (k_size l dC dI cI cB cR cO zk al (zk 0) 0 (.int mc) H22.size ) (cwV 0 hts gX1_digest_Jx4a65c_size_8abf5 rfl rfl rfl (by decide +kernel) ⟨Nat.le_of_ble_eq_true rfl, Nat.le_of_ble_eq_true rfl⟩) ⟨zblind, (zrecv_4 hK hPc (q0 := 0) rfl), hpre⟩ rfl rfl hl.1 rfl (lv_room (Nat.le_of_ble_eq_true rfl)) dX1_digest_37 ⟨Nat.le_of_ble_eq_true rfl, Nat.le_of_ble_eq_true rfl⟩) hS (fun q _ h => hFc q h) hFc (fun r26 u t H25 locs ht hvm hw hB hz1 hk1 hS => ?_)
  obtain rfl : 0 = r26 := (show r26 = 0 from hw).symm
  obtain ⟨hP1, hK1, hD1, hz2⟩ := hB
  rw [ht] at hP1 hz2
  have hPD9 := va_join (wr := [(xo, .inr (6, [.ref al, .int 0, .int 0, .int 0, x4, x5, .ref b1, x7]))]) (w1 := [(al, .inr (4, [.int mc, .ref (zk 0), .int 0]))]) hP hD [1] [0] rfl rfl (by decide) (by decide) hk1 hFc hP1 hD1
  clear hPc hDc hFc hDv hpre hP hD hP1 hK1 hD1
  obtain ⟨hP, hD⟩ := hPD9
  replace hz : s.heap.size + 0 ≤ H25.size := by omega
  clear hz2
  replace hP : va_P (dC, dI) vwCl [(xo, .inr (6, [.ref al, .int 0, .int 0, .int 0, x4, x5, .ref b1, x7])), (al, .inr (4, [.int mc, .ref (zk 0), .int 0]))] H25 := hP
  replace hD : va_D A [(xo, .inr (6, [.ref al, .int 0, .int 0, .int 0, x4, x5, .ref b1, x7])), (al, .inr (4, [.int mc, .ref (zk 0), .int 0]))] := hD
  refine W.widen (k := 0) (n := 0) (by omega) (by omega) ?_
  refine lv_icmp_ge (tgt := 56) hx hb dX1_digest_40 (by decide) (fun c9 => ?_) (fun c9 => ?_)
  rotate_left
  · exact absurd (by decide) c9
  refine lv_iconst (v := 0) hx hb dX1_digest_56 (by decide) ?_
  refine lv_istore_n (lv' := [(3, .int 0), (1, .long 6903891134499), (0, .ref xo)]) hx hb dX1_digest_57 rfl hl (by decide) rfl (fun ls hl => ?_)
  refine lv_iload_n hx hb dX1_digest_58 rfl (lv_at hl 0 rfl) ?_
  refine lv_aload_n hx hb dX1_digest_59 rfl (lv_at hl 2 rfl) ?_
  refine va_get (D := (dC, dI)) (ci := 6) (v := .ref al) (C := RX1) (T := TX1) (N := 8) hx hb hts hi_X1_digest_X1 hown hK hP 0 rfl rfl 0 (by decide) (hts (.fieldLink RX1 12 "Deeprows" "rows" "Ljava/util/ArrayList;") (List.mem_cons_of_mem _ zw_165)) (fun _ h9 => h9) rfl dX1_digest_60 ?_
  have hPc := hP.sub (ws' := [(al, .inr (4, [.int mc, .ref (zk 0), .int 0]))]) [1] rfl
  have hDc := hD.sub (ws' := [(al, .inr (4, [.int mc, .ref (zk 0), .int 0]))]) [1] (by decide) rfl
  have hFc := va_free (wc := [(al, .inr (4, [.int mc, .ref (zk 0), .int 0]))]) hD hS hA [1] rfl
  have hDv := hDc.self (sz := H25.size)
  have hpre := zpre (xs' := []) (av := [.ref al]) hPc hK (hDc.weaken (fun _ _ _ h => h)) hZ hS hFc (fun r hr => by cases hr)
  refine va_calli (va_runV (As := []) (rest := [.int 0]) ⟨hx, hb, hml, hown, hts⟩ (k_size l dC dI cI cB cR cO zk al (zk 0) 0 (.int mc) H25.size ) (cwV 0 hts gX1_digest_Jx4a65c_size_8abf5 rfl rfl rfl (by decide +kernel) ⟨Nat.le_of_ble_eq_true rfl, Nat.le_of_ble_eq_true rfl⟩) ⟨zblind, (zrecv_4 hK hPc (q0 := 0) rfl), hpre⟩ rfl rfl hl.1 rfl (lv_room (Nat.le_of_ble_eq_true rfl)) dX1_digest_63 ⟨Nat.le_of_ble_eq_true rfl, Nat.le_of_ble_eq_true rfl⟩) hS (fun q _ h => hFc q h) hFc (fun r28 u t H27 locs ht hvm hw hB hz1 hk1 hS => ?_)
  obtain rfl : 0 = r28 := (show r28 = 0 from hw).symm
  obtain ⟨hP1, hK1, hD1, hz2⟩ := hB
  rw [ht] at hP1 hz2
  have hPD9 := va_join (wr := [(xo, .inr (6, [.ref al, .int 0, .int 0, .int 0, x4, x5, .ref b1, x7]))]) (w1 := [(al, .inr (4, [.int mc, .ref (zk 0), .int 0]))]) hP hD [1] [0] rfl rfl (by decide) (by decide) hk1 hFc hP1 hD1
  clear hPc hDc hFc hDv hpre hP hD hP1 hK1 hD1
  obtain ⟨hP, hD⟩ := hPD9
  replace hz : s.heap.size + 0 ≤ H27.size := by omega
  clear hz2
  replace hP : va_P (dC, dI) vwCl [(xo, .inr (6, [.ref al, .int 0, .int 0, .int 0, x4, x5, .ref b1, x7])), (al, .inr (4, [.int mc, .ref (zk 0), .int 0]))] H27 := hP
  replace hD : va_D A [(xo, .inr (6, [.ref al, .int 0, .int 0, .int 0, x4, x5, .ref b1, x7])), (al, .inr (4, [.int mc, .ref (zk 0), .int 0]))] := hD
  refine W.widen (k := 0) (n := 0) (by omega) (by omega) ?_
  refine lv_icmp_ge (tgt := 121) hx hb dX1_digest_66 (by decide) (fun c9 => ?_) (fun c9 => ?_)
  rotate_left
  · exact absurd (by decide) c9
  refine lv_lload_n hx hb dX1_digest_121 rfl (lv_at hl 1 rfl) ?_
  refine lv_ldc2 (v := 31) hx hb hown (hts (.constantLong RX1 245 (31)) (List.mem_cons_of_mem _ zw_703)) dX1_digest_122 ?_
  refine lv_lmul hx hb dX1_digest_125 ?_
  refine lv_topl (fun v29 ev29 => ?_)
  obtain rfl : v29 = 214020625169469 := ev29.trans (by decide +kernel)
  refine lv_aload_n hx hb dX1_digest_126 rfl (lv_at hl 2 rfl) ?_
  have hPc := hP.sub (ws' := [(xo, .inr (6, [.ref al, .int 0, .int 0, .int 0, x4, x5, .ref b1, x7])), (al, .inr (4, [.int mc, .ref (zk 0), .int 0]))]) [0, 1] rfl
  have hDc := hD.sub (ws' := [(xo, .inr (6, [.ref al, .int 0, .int 0, .int 0, x4, x5, .ref b1, x7])), (al, .inr (4, [.int mc, .ref (zk 0), .int 0]))]) [0, 1] (by decide) rfl
  have hFc := va_free (wc := [(xo, .inr (6, [.ref al, .int 0, .int 0, .int 0, x4, x5, .ref b1, x7])), (al, .inr (4, [.int mc, .ref (zk 0), .int 0]))]) hD hS hA [0, 1] rfl
  have hDv := hDc.self (sz := H27.size)
  have hpre := zpre (xs' := []) (av := [.ref xo]) hPc hK (hDc.weaken (fun _ _ _ h => h)) hZ hS hFc (fun r hr => by cases hr)
  refine va_calli (va_runV (As := []) (rest := [.long 214020625169469]) ⟨hx, hb, hml, hown, hts⟩ (k_soundX l dC dI cI cB cR cO zk xo al b1 x4 x5 x7 mc H27.size ) (cwV 0 hts gX1_digest_X1_isSound rfl rfl rfl (by decide +kernel) ⟨Nat.le_of_ble_eq_true rfl, Nat.le_of_ble_eq_true rfl⟩) ⟨zblind, (zrecv_6 hK hPc (q0 := 0) rfl), hpre⟩ rfl rfl hl.1 rfl (lv_room (Nat.le_of_ble_eq_true rfl)) dX1_digest_127 ⟨Nat.le_of_ble_eq_true rfl, Nat.le_of_ble_eq_true rfl⟩) hS (fun q _ h => hFc q h) hFc (fun r31 u t H30 locs ht hvm hw hB hz1 hk1 hS => ?_)
  obtain rfl : 1 = r31 := (show r31 = 1 from hw).symm
  obtain ⟨hP1, hK1, hD1, hz2⟩ := hB
  rw [ht] at hP1 hz2
  have hPD9 := va_join (wr := []) (w1 := [(xo, .inr (6, [.ref al, .int 0, .int 0, .int 0, x4, x5, .ref b1, x7])), (al, .inr (4, [.int mc, .ref (zk 0), .int 0]))]) hP hD [0, 1] [] rfl rfl (by decide) (by decide) hk1 hFc hP1 hD1
  clear hPc hDc hFc hDv hpre hP hD hP1 hK1 hD1
  obtain ⟨hP, hD⟩ := hPD9
  replace hz : s.heap.size + 0 ≤ H30.size := by omega
  clear hz2
  replace hP : va_P (dC, dI) vwCl [(xo, .inr (6, [.ref al, .int 0, .int 0, .int 0, x4, x5, .ref b1, x7])), (al, .inr (4, [.int mc, .ref (zk 0), .int 0]))] H30 := hP
  replace hD : va_D A [(xo, .inr (6, [.ref al, .int 0, .int 0, .int 0, x4, x5, .ref b1, x7])), (al, .inr (4, [.int mc, .ref (zk 0), .int 0]))] := hD
  refine W.widen (k := 0) (n := 0) (by omega) (by omega) ?_
  refine lv_if_eq (tgt := 137) hx hb dX1_digest_130 (by decide) (fun c9 => ?_) (fun c9 => ?_)
  · exact absurd c9 (by decide)
  refine lv_iconst (v := 1) hx hb dX1_digest_133 (by decide) ?_
  refine lv_goto (tgt := 138) hx hb dX1_digest_134 (by decide) ?_
  refine lv_i2l (v := 1) hx hb dX1_digest_138 (by decide) ?_
  refine lv_ladd hx hb dX1_digest_139 ?_
  refine lv_topl (fun v32 ev32 => ?_)
  obtain rfl : v32 = 214020625169470 := ev32.trans (by decide +kernel)
  have hP9 := hP.sub (ws' := [(xo, .inr (6, [.ref al, .int 0, .int 0, .int 0, x4, x5, .ref b1, x7])), (al, .inr (4, [.int mc, .ref (zk 0), .int 0]))]) [0, 1] rfl
  have hD9 := hD.sub (ws' := [(xo, .inr (6, [.ref al, .int 0, .int 0, .int 0, x4, x5, .ref b1, x7])), (al, .inr (4, [.int mc, .ref (zk 0), .int 0]))]) [0, 1] (by decide) rfl
  exact W.lret (v := 214020625169470) hx hb hr (fun t ht hW => ⟨⟨_, (), rfl, rfl, ⟨by rw [ht]; exact hP9, va_K.moved hW.alike hK, hD9, by rw [ht]; exact hz⟩⟩, hS.F ht⟩) hS.2.2 dX1_digest_140

set_option maxHeartbeats 4000000 in
set_option maxRecDepth 100000 in
theorem k_add_0 (l : Launch) (dC : Nat → ClassId) (dI : Nat → Nat → Nat) (cI cB cR cO : ClassId) (zk : Nat → Nat)  (sz : Nat)  : Met l yX4_add wsX4_add ({ frames := 0, cells := 0, slots := 0, locals := 0 }) (va_Pc [.long 7779, .long 0] (zPre (dC, dI) (zT cI cB cR cO) zk [] [] sz)) (va_Ql (fun (r : Int64) (_ : Unit) => r = 241149) (fun _ t => zEnd (dC, dI) (zT cI cB cR cO) (va_A [] sz) [] sz 0 t) (va_A [] sz)) 0 0 (va_A [] sz) := by
  refine Met.ofW (cc := cX4_add) (maxL := 4) (ret := (some .long)) (by decide) rfl ?_
  intro p e s mY args below meth c s₁ B hml hv
  obtain ⟨rfl, hsz, hP, hK, hD0, hZ⟩ := hv
  have hx := B.exec
  have hb := B.bytes
  have hr := B.returns
  have hts := atoms_spec (ws := wsX4_add) B.pre
  have hown : s.vm.findClass RX4 = some mY.cls := findClass_of_methodNamed B.named
  have hlocks := B.notSynchronized
  subst hsz
  have hD := hD0.self (sz := s.heap.size)
  generalize hAe : va_A [] s.heap.size = A at hD hZ ⊢
  have hA : ∀ q : Nat, s.heap.size ≤ q → A q := fun q h => by rw [← hAe]; exact Or.inr h
  have hS : va_S A s.heap s.heap [] := va_S.rf
  have hz : s.heap.size + 0 ≤ s.heap.size := Nat.le_refl _
  have hl := lv_entry ([.long 7779, .long 0]) (n := 4) (Nat.le_of_ble_eq_true rfl)
  rw [lg_entry_eq]
  generalize (lg_sl ([.long 7779, .long 0]) ++ List.replicate (4 - (lg_sl ([.long 7779, .long 0])).length) Slot.unset).toArray = ls at hl ⊢
  have hl : lv_has ls 4 [(0, .long 7779), (2, .long 0)] := hl
  have hP : va_P (dC, dI) vwCl [] s.heap := hP
  have hD : va_D A [] := hD
  refine lv_lload_n hx hb dX4_add_0 rfl (lv_at hl 0 rfl) ?_
  refine lv_ldc2 (v := 31) hx hb hown (hts (.constantLong RX4 217 (31)) (List.mem_cons_of_mem _ zw_1461)) dX4_add_1 ?_
  refine lv_lmul hx hb dX4_add_4 ?_
  refine lv_topl (fun v1 ev1 => ?_)
  obtain rfl : v1 = 241149 := ev1.trans (by decide +kernel)
  refine lv_lload_n hx hb dX4_add_5 rfl (lv_at hl 1 rfl) ?_
  refine lv_ladd hx hb dX4_add_6 ?_
  refine lv_topl (fun v2 ev2 => ?_)
  obtain rfl : v2 = 241149 := ev2.trans (by decide +kernel)
  have hP9 := hP.sub (ws' := []) [] rfl
  have hD9 := hD.sub (ws' := []) [] (by decide) rfl
  exact W.lret (v := 241149) hx hb hr (fun t ht hW => ⟨⟨_, (), rfl, rfl, ⟨by rw [ht]; exact hP9, va_K.moved hW.alike hK, hD9, by rw [ht]; exact hz⟩⟩, hS.F ht⟩) hS.2.2 dX4_add_7

set_option maxHeartbeats 4000000 in
set_option maxRecDepth 100000 in
theorem k_add_1 (l : Launch) (dC : Nat → ClassId) (dI : Nat → Nat → Nat) (cI cB cR cO : ClassId) (zk : Nat → Nat)  (sz : Nat)  : Met l yX4_add wsX4_add ({ frames := 0, cells := 0, slots := 0, locals := 0 }) (va_Pc [.long 241149, .long 0] (zPre (dC, dI) (zT cI cB cR cO) zk [] [] sz)) (va_Ql (fun (r : Int64) (_ : Unit) => r = 7475619) (fun _ t => zEnd (dC, dI) (zT cI cB cR cO) (va_A [] sz) [] sz 0 t) (va_A [] sz)) 0 0 (va_A [] sz) := by
  refine Met.ofW (cc := cX4_add) (maxL := 4) (ret := (some .long)) (by decide) rfl ?_
  intro p e s mY args below meth c s₁ B hml hv
  obtain ⟨rfl, hsz, hP, hK, hD0, hZ⟩ := hv
  have hx := B.exec
  have hb := B.bytes
  have hr := B.returns
  have hts := atoms_spec (ws := wsX4_add) B.pre
  have hown : s.vm.findClass RX4 = some mY.cls := findClass_of_methodNamed B.named
  have hlocks := B.notSynchronized
  subst hsz
  have hD := hD0.self (sz := s.heap.size)
  generalize hAe : va_A [] s.heap.size = A at hD hZ ⊢
  have hA : ∀ q : Nat, s.heap.size ≤ q → A q := fun q h => by rw [← hAe]; exact Or.inr h
  have hS : va_S A s.heap s.heap [] := va_S.rf
  have hz : s.heap.size + 0 ≤ s.heap.size := Nat.le_refl _
  have hl := lv_entry ([.long 241149, .long 0]) (n := 4) (Nat.le_of_ble_eq_true rfl)
  rw [lg_entry_eq]
  generalize (lg_sl ([.long 241149, .long 0]) ++ List.replicate (4 - (lg_sl ([.long 241149, .long 0])).length) Slot.unset).toArray = ls at hl ⊢
  have hl : lv_has ls 4 [(0, .long 241149), (2, .long 0)] := hl
  have hP : va_P (dC, dI) vwCl [] s.heap := hP
  have hD : va_D A [] := hD
  refine lv_lload_n hx hb dX4_add_0 rfl (lv_at hl 0 rfl) ?_
  refine lv_ldc2 (v := 31) hx hb hown (hts (.constantLong RX4 217 (31)) (List.mem_cons_of_mem _ zw_1461)) dX4_add_1 ?_
  refine lv_lmul hx hb dX4_add_4 ?_
  refine lv_topl (fun v1 ev1 => ?_)
  obtain rfl : v1 = 7475619 := ev1.trans (by decide +kernel)
  refine lv_lload_n hx hb dX4_add_5 rfl (lv_at hl 1 rfl) ?_
  refine lv_ladd hx hb dX4_add_6 ?_
  refine lv_topl (fun v2 ev2 => ?_)
  obtain rfl : v2 = 7475619 := ev2.trans (by decide +kernel)
  have hP9 := hP.sub (ws' := []) [] rfl
  have hD9 := hD.sub (ws' := []) [] (by decide) rfl
  exact W.lret (v := 7475619) hx hb hr (fun t ht hW => ⟨⟨_, (), rfl, rfl, ⟨by rw [ht]; exact hP9, va_K.moved hW.alike hK, hD9, by rw [ht]; exact hz⟩⟩, hS.F ht⟩) hS.2.2 dX4_add_7

set_option maxHeartbeats 4000000 in
set_option maxRecDepth 100000 in
theorem k_add_2 (l : Launch) (dC : Nat → ClassId) (dI : Nat → Nat → Nat) (cI cB cR cO : ClassId) (zk : Nat → Nat)  (sz : Nat)  : Met l yX4_add wsX4_add ({ frames := 0, cells := 0, slots := 0, locals := 0 }) (va_Pc [.long 7475619, .long 0] (zPre (dC, dI) (zT cI cB cR cO) zk [] [] sz)) (va_Ql (fun (r : Int64) (_ : Unit) => r = 231744189) (fun _ t => zEnd (dC, dI) (zT cI cB cR cO) (va_A [] sz) [] sz 0 t) (va_A [] sz)) 0 0 (va_A [] sz) := by
  refine Met.ofW (cc := cX4_add) (maxL := 4) (ret := (some .long)) (by decide) rfl ?_
  intro p e s mY args below meth c s₁ B hml hv
  obtain ⟨rfl, hsz, hP, hK, hD0, hZ⟩ := hv
  have hx := B.exec
  have hb := B.bytes
  have hr := B.returns
  have hts := atoms_spec (ws := wsX4_add) B.pre
  have hown : s.vm.findClass RX4 = some mY.cls := findClass_of_methodNamed B.named
  have hlocks := B.notSynchronized
  subst hsz
  have hD := hD0.self (sz := s.heap.size)
  generalize hAe : va_A [] s.heap.size = A at hD hZ ⊢
  have hA : ∀ q : Nat, s.heap.size ≤ q → A q := fun q h => by rw [← hAe]; exact Or.inr h
  have hS : va_S A s.heap s.heap [] := va_S.rf
  have hz : s.heap.size + 0 ≤ s.heap.size := Nat.le_refl _
  have hl := lv_entry ([.long 7475619, .long 0]) (n := 4) (Nat.le_of_ble_eq_true rfl)
  rw [lg_entry_eq]
  generalize (lg_sl ([.long 7475619, .long 0]) ++ List.replicate (4 - (lg_sl ([.long 7475619, .long 0])).length) Slot.unset).toArray = ls at hl ⊢
  have hl : lv_has ls 4 [(0, .long 7475619), (2, .long 0)] := hl
  have hP : va_P (dC, dI) vwCl [] s.heap := hP
  have hD : va_D A [] := hD
  refine lv_lload_n hx hb dX4_add_0 rfl (lv_at hl 0 rfl) ?_
  refine lv_ldc2 (v := 31) hx hb hown (hts (.constantLong RX4 217 (31)) (List.mem_cons_of_mem _ zw_1461)) dX4_add_1 ?_
  refine lv_lmul hx hb dX4_add_4 ?_
  refine lv_topl (fun v1 ev1 => ?_)
  obtain rfl : v1 = 231744189 := ev1.trans (by decide +kernel)
  refine lv_lload_n hx hb dX4_add_5 rfl (lv_at hl 1 rfl) ?_
  refine lv_ladd hx hb dX4_add_6 ?_
  refine lv_topl (fun v2 ev2 => ?_)
  obtain rfl : v2 = 231744189 := ev2.trans (by decide +kernel)
  have hP9 := hP.sub (ws' := []) [] rfl
  have hD9 := hD.sub (ws' := []) [] (by decide) rfl
  exact W.lret (v := 231744189) hx hb hr (fun t ht hW => ⟨⟨_, (), rfl, rfl, ⟨by rw [ht]; exact hP9, va_K.moved hW.alike hK, hD9, by rw [ht]; exact hz⟩⟩, hS.F ht⟩) hS.2.2 dX4_add_7

set_option maxHeartbeats 4000000 in
set_option maxRecDepth 100000 in
theorem k_add_3 (l : Launch) (dC : Nat → ClassId) (dI : Nat → Nat → Nat) (cI cB cR cO : ClassId) (zk : Nat → Nat)  (sz : Nat)  : Met l yX4_add wsX4_add ({ frames := 0, cells := 0, slots := 0, locals := 0 }) (va_Pc [.long 231744189, .long 0] (zPre (dC, dI) (zT cI cB cR cO) zk [] [] sz)) (va_Ql (fun (r : Int64) (_ : Unit) => r = 7184069859) (fun _ t => zEnd (dC, dI) (zT cI cB cR cO) (va_A [] sz) [] sz 0 t) (va_A [] sz)) 0 0 (va_A [] sz) := by
  refine Met.ofW (cc := cX4_add) (maxL := 4) (ret := (some .long)) (by decide) rfl ?_
  intro p e s mY args below meth c s₁ B hml hv
  obtain ⟨rfl, hsz, hP, hK, hD0, hZ⟩ := hv
  have hx := B.exec
  have hb := B.bytes
  have hr := B.returns
  have hts := atoms_spec (ws := wsX4_add) B.pre
  have hown : s.vm.findClass RX4 = some mY.cls := findClass_of_methodNamed B.named
  have hlocks := B.notSynchronized
  subst hsz
  have hD := hD0.self (sz := s.heap.size)
  generalize hAe : va_A [] s.heap.size = A at hD hZ ⊢
  have hA : ∀ q : Nat, s.heap.size ≤ q → A q := fun q h => by rw [← hAe]; exact Or.inr h
  have hS : va_S A s.heap s.heap [] := va_S.rf
  have hz : s.heap.size + 0 ≤ s.heap.size := Nat.le_refl _
  have hl := lv_entry ([.long 231744189, .long 0]) (n := 4) (Nat.le_of_ble_eq_true rfl)
  rw [lg_entry_eq]
  generalize (lg_sl ([.long 231744189, .long 0]) ++ List.replicate (4 - (lg_sl ([.long 231744189, .long 0])).length) Slot.unset).toArray = ls at hl ⊢
  have hl : lv_has ls 4 [(0, .long 231744189), (2, .long 0)] := hl
  have hP : va_P (dC, dI) vwCl [] s.heap := hP
  have hD : va_D A [] := hD
  refine lv_lload_n hx hb dX4_add_0 rfl (lv_at hl 0 rfl) ?_
  refine lv_ldc2 (v := 31) hx hb hown (hts (.constantLong RX4 217 (31)) (List.mem_cons_of_mem _ zw_1461)) dX4_add_1 ?_
  refine lv_lmul hx hb dX4_add_4 ?_
  refine lv_topl (fun v1 ev1 => ?_)
  obtain rfl : v1 = 7184069859 := ev1.trans (by decide +kernel)
  refine lv_lload_n hx hb dX4_add_5 rfl (lv_at hl 1 rfl) ?_
  refine lv_ladd hx hb dX4_add_6 ?_
  refine lv_topl (fun v2 ev2 => ?_)
  obtain rfl : v2 = 7184069859 := ev2.trans (by decide +kernel)
  have hP9 := hP.sub (ws' := []) [] rfl
  have hD9 := hD.sub (ws' := []) [] (by decide) rfl
  exact W.lret (v := 7184069859) hx hb hr (fun t ht hW => ⟨⟨_, (), rfl, rfl, ⟨by rw [ht]; exact hP9, va_K.moved hW.alike hK, hD9, by rw [ht]; exact hz⟩⟩, hS.F ht⟩) hS.2.2 dX4_add_7

set_option maxHeartbeats 4000000 in
set_option maxRecDepth 100000 in
theorem k_add_4 (l : Launch) (dC : Nat → ClassId) (dI : Nat → Nat → Nat) (cI cB cR cO : ClassId) (zk : Nat → Nat)  (sz : Nat)  : Met l yX4_add wsX4_add ({ frames := 0, cells := 0, slots := 0, locals := 0 }) (va_Pc [.long 7184069859, .long 0] (zPre (dC, dI) (zT cI cB cR cO) zk [] [] sz)) (va_Ql (fun (r : Int64) (_ : Unit) => r = 222706165629) (fun _ t => zEnd (dC, dI) (zT cI cB cR cO) (va_A [] sz) [] sz 0 t) (va_A [] sz)) 0 0 (va_A [] sz) := by
  refine Met.ofW (cc := cX4_add) (maxL := 4) (ret := (some .long)) (by decide) rfl ?_
  intro p e s mY args below meth c s₁ B hml hv
  obtain ⟨rfl, hsz, hP, hK, hD0, hZ⟩ := hv
  have hx := B.exec
  have hb := B.bytes
  have hr := B.returns
  have hts := atoms_spec (ws := wsX4_add) B.pre
  have hown : s.vm.findClass RX4 = some mY.cls := findClass_of_methodNamed B.named
  have hlocks := B.notSynchronized
  subst hsz
  have hD := hD0.self (sz := s.heap.size)
  generalize hAe : va_A [] s.heap.size = A at hD hZ ⊢
  have hA : ∀ q : Nat, s.heap.size ≤ q → A q := fun q h => by rw [← hAe]; exact Or.inr h
  have hS : va_S A s.heap s.heap [] := va_S.rf
  have hz : s.heap.size + 0 ≤ s.heap.size := Nat.le_refl _
  have hl := lv_entry ([.long 7184069859, .long 0]) (n := 4) (Nat.le_of_ble_eq_true rfl)
  rw [lg_entry_eq]
  generalize (lg_sl ([.long 7184069859, .long 0]) ++ List.replicate (4 - (lg_sl ([.long 7184069859, .long 0])).length) Slot.unset).toArray = ls at hl ⊢
  have hl : lv_has ls 4 [(0, .long 7184069859), (2, .long 0)] := hl
  have hP : va_P (dC, dI) vwCl [] s.heap := hP
  have hD : va_D A [] := hD
  refine lv_lload_n hx hb dX4_add_0 rfl (lv_at hl 0 rfl) ?_
  refine lv_ldc2 (v := 31) hx hb hown (hts (.constantLong RX4 217 (31)) (List.mem_cons_of_mem _ zw_1461)) dX4_add_1 ?_
  refine lv_lmul hx hb dX4_add_4 ?_
  refine lv_topl (fun v1 ev1 => ?_)
  obtain rfl : v1 = 222706165629 := ev1.trans (by decide +kernel)
  refine lv_lload_n hx hb dX4_add_5 rfl (lv_at hl 1 rfl) ?_
  refine lv_ladd hx hb dX4_add_6 ?_
  refine lv_topl (fun v2 ev2 => ?_)
  obtain rfl : v2 = 222706165629 := ev2.trans (by decide +kernel)
  have hP9 := hP.sub (ws' := []) [] rfl
  have hD9 := hD.sub (ws' := []) [] (by decide) rfl
  exact W.lret (v := 222706165629) hx hb hr (fun t ht hW => ⟨⟨_, (), rfl, rfl, ⟨by rw [ht]; exact hP9, va_K.moved hW.alike hK, hD9, by rw [ht]; exact hz⟩⟩, hS.F ht⟩) hS.2.2 dX4_add_7

set_option maxHeartbeats 4000000 in
set_option maxRecDepth 100000 in
theorem k_add_5 (l : Launch) (dC : Nat → ClassId) (dI : Nat → Nat → Nat) (cI cB cR cO : ClassId) (zk : Nat → Nat)  (sz : Nat)  : Met l yX4_add wsX4_add ({ frames := 0, cells := 0, slots := 0, locals := 0 }) (va_Pc [.long 222706165629, .long 0] (zPre (dC, dI) (zT cI cB cR cO) zk [] [] sz)) (va_Ql (fun (r : Int64) (_ : Unit) => r = 6903891134499) (fun _ t => zEnd (dC, dI) (zT cI cB cR cO) (va_A [] sz) [] sz 0 t) (va_A [] sz)) 0 0 (va_A [] sz) := by
  refine Met.ofW (cc := cX4_add) (maxL := 4) (ret := (some .long)) (by decide) rfl ?_
  intro p e s mY args below meth c s₁ B hml hv
  obtain ⟨rfl, hsz, hP, hK, hD0, hZ⟩ := hv
  have hx := B.exec
  have hb := B.bytes
  have hr := B.returns
  have hts := atoms_spec (ws := wsX4_add) B.pre
  have hown : s.vm.findClass RX4 = some mY.cls := findClass_of_methodNamed B.named
  have hlocks := B.notSynchronized
  subst hsz
  have hD := hD0.self (sz := s.heap.size)
  generalize hAe : va_A [] s.heap.size = A at hD hZ ⊢
  have hA : ∀ q : Nat, s.heap.size ≤ q → A q := fun q h => by rw [← hAe]; exact Or.inr h
  have hS : va_S A s.heap s.heap [] := va_S.rf
  have hz : s.heap.size + 0 ≤ s.heap.size := Nat.le_refl _
  have hl := lv_entry ([.long 222706165629, .long 0]) (n := 4) (Nat.le_of_ble_eq_true rfl)
  rw [lg_entry_eq]
  generalize (lg_sl ([.long 222706165629, .long 0]) ++ List.replicate (4 - (lg_sl ([.long 222706165629, .long 0])).length) Slot.unset).toArray = ls at hl ⊢
  have hl : lv_has ls 4 [(0, .long 222706165629), (2, .long 0)] := hl
  have hP : va_P (dC, dI) vwCl [] s.heap := hP
  have hD : va_D A [] := hD
  refine lv_lload_n hx hb dX4_add_0 rfl (lv_at hl 0 rfl) ?_
  refine lv_ldc2 (v := 31) hx hb hown (hts (.constantLong RX4 217 (31)) (List.mem_cons_of_mem _ zw_1461)) dX4_add_1 ?_
  refine lv_lmul hx hb dX4_add_4 ?_
  refine lv_topl (fun v1 ev1 => ?_)
  obtain rfl : v1 = 6903891134499 := ev1.trans (by decide +kernel)
  refine lv_lload_n hx hb dX4_add_5 rfl (lv_at hl 1 rfl) ?_
  refine lv_ladd hx hb dX4_add_6 ?_
  refine lv_topl (fun v2 ev2 => ?_)
  obtain rfl : v2 = 6903891134499 := ev2.trans (by decide +kernel)
  have hP9 := hP.sub (ws' := []) [] rfl
  have hD9 := hD.sub (ws' := []) [] (by decide) rfl
  exact W.lret (v := 6903891134499) hx hb hr (fun t ht hW => ⟨⟨_, (), rfl, rfl, ⟨by rw [ht]; exact hP9, va_K.moved hW.alike hK, hD9, by rw [ht]; exact hz⟩⟩, hS.F ht⟩) hS.2.2 dX4_add_7

set_option maxHeartbeats 4000000 in
set_option maxRecDepth 100000 in
theorem k_add_6 (l : Launch) (dC : Nat → ClassId) (dI : Nat → Nat → Nat) (cI cB cR cO : ClassId) (zk : Nat → Nat)  (sz : Nat)  : Met l yX4_add wsX4_add ({ frames := 0, cells := 0, slots := 0, locals := 0 }) (va_Pc [.long 6903891134499, .long 1] (zPre (dC, dI) (zT cI cB cR cO) zk [] [] sz)) (va_Ql (fun (r : Int64) (_ : Unit) => r = 214020625169470) (fun _ t => zEnd (dC, dI) (zT cI cB cR cO) (va_A [] sz) [] sz 0 t) (va_A [] sz)) 0 0 (va_A [] sz) := by
  refine Met.ofW (cc := cX4_add) (maxL := 4) (ret := (some .long)) (by decide) rfl ?_
  intro p e s mY args below meth c s₁ B hml hv
  obtain ⟨rfl, hsz, hP, hK, hD0, hZ⟩ := hv
  have hx := B.exec
  have hb := B.bytes
  have hr := B.returns
  have hts := atoms_spec (ws := wsX4_add) B.pre
  have hown : s.vm.findClass RX4 = some mY.cls := findClass_of_methodNamed B.named
  have hlocks := B.notSynchronized
  subst hsz
  have hD := hD0.self (sz := s.heap.size)
  generalize hAe : va_A [] s.heap.size = A at hD hZ ⊢
  have hA : ∀ q : Nat, s.heap.size ≤ q → A q := fun q h => by rw [← hAe]; exact Or.inr h
  have hS : va_S A s.heap s.heap [] := va_S.rf
  have hz : s.heap.size + 0 ≤ s.heap.size := Nat.le_refl _
  have hl := lv_entry ([.long 6903891134499, .long 1]) (n := 4) (Nat.le_of_ble_eq_true rfl)
  rw [lg_entry_eq]
  generalize (lg_sl ([.long 6903891134499, .long 1]) ++ List.replicate (4 - (lg_sl ([.long 6903891134499, .long 1])).length) Slot.unset).toArray = ls at hl ⊢
  have hl : lv_has ls 4 [(0, .long 6903891134499), (2, .long 1)] := hl
  have hP : va_P (dC, dI) vwCl [] s.heap := hP
  have hD : va_D A [] := hD
  refine lv_lload_n hx hb dX4_add_0 rfl (lv_at hl 0 rfl) ?_
  refine lv_ldc2 (v := 31) hx hb hown (hts (.constantLong RX4 217 (31)) (List.mem_cons_of_mem _ zw_1461)) dX4_add_1 ?_
  refine lv_lmul hx hb dX4_add_4 ?_
  refine lv_topl (fun v1 ev1 => ?_)
  obtain rfl : v1 = 214020625169469 := ev1.trans (by decide +kernel)
  refine lv_lload_n hx hb dX4_add_5 rfl (lv_at hl 1 rfl) ?_
  refine lv_ladd hx hb dX4_add_6 ?_
  refine lv_topl (fun v2 ev2 => ?_)
  obtain rfl : v2 = 214020625169470 := ev2.trans (by decide +kernel)
  have hP9 := hP.sub (ws' := []) [] rfl
  have hD9 := hD.sub (ws' := []) [] (by decide) rfl
  exact W.lret (v := 214020625169470) hx hb hr (fun t ht hW => ⟨⟨_, (), rfl, rfl, ⟨by rw [ht]; exact hP9, va_K.moved hW.alike hK, hD9, by rw [ht]; exact hz⟩⟩, hS.F ht⟩) hS.2.2 dX4_add_7

theorem hi_X4_digest_X4 : ∀ w ∈ u_ws RX4 TX4 5, w ∈ wsX4_digest := fun w h => List.mem_cons_of_mem _ (zhi_X4 w h)
set_option maxHeartbeats 4000000 in
set_option maxRecDepth 100000 in
theorem k_digM (l : Launch) (dC : Nat → ClassId) (dI : Nat → Nat → Nat) (cI cB cR cO : ClassId) (zk : Nat → Nat) (mo am : Nat) (th : Value) (mm : Int32) (sz : Nat)  : Met l yX4_digest wsX4_digest ({ frames := 2, cells := 6, slots := 36, locals := 45 }) (va_Pc [.ref mo] (zPre (dC, dI) (zT cI cB cR cO) zk [] [(mo, .inr (9, [th, .ref am, .int 0, .int 0, .int 0])), (am, .inr (4, [.int mm, .ref (zk 0), .int 0]))] sz)) (va_Ql (fun (r : Int64) (_ : Unit) => r = 214020625169470) (fun _ t => zEnd (dC, dI) (zT cI cB cR cO) (va_A [(mo, .inr (9, [th, .ref am, .int 0, .int 0, .int 0])), (am, .inr (4, [.int mm, .ref (zk 0), .int 0]))] sz) [(mo, .inr (9, [.int 0, .ref am, .int 0, .int 0, .int 0])), (am, .inr (4, [.int mm, .ref (zk 0), .int 0]))] sz 6 t) (va_A [(mo, .inr (9, [th, .ref am, .int 0, .int 0, .int 0])), (am, .inr (4, [.int mm, .ref (zk 0), .int 0]))] sz)) 6 36 (va_A [(mo, .inr (9, [th, .ref am, .int 0, .int 0, .int 0])), (am, .inr (4, [.int mm, .ref (zk 0), .int 0]))] sz) := by
  refine Met.ofW (cc := cX4_digest) (maxL := 6) (ret := (some .long)) (by decide) rfl ?_
  intro p e s mY args below meth c s₁ B hml hv
  obtain ⟨rfl, hsz, hP, hK, hD0, hZ⟩ := hv
  have hx := B.exec
  have hb := B.bytes
  have hr := B.returns
  have hts := atoms_spec (ws := wsX4_digest) B.pre
  have hown : s.vm.findClass RX4 = some mY.cls := findClass_of_methodNamed B.named
  have hlocks := B.notSynchronized
  subst hsz
  have hD := hD0.self (sz := s.heap.size)
  generalize hAe : va_A [(mo, .inr (9, [th, .ref am, .int 0, .int 0, .int 0])), (am, .inr (4, [.int mm, .ref (zk 0), .int 0]))] s.heap.size = A at hD hZ ⊢
  have hA : ∀ q : Nat, s.heap.size ≤ q → A q := fun q h => by rw [← hAe]; exact Or.inr h
  have hS : va_S A s.heap s.heap [] := va_S.rf
  have hz : s.heap.size + 0 ≤ s.heap.size := Nat.le_refl _
  have hl := lv_entry ([.ref mo]) (n := 6) (Nat.le_of_ble_eq_true rfl)
  rw [lg_entry_eq]
  generalize (lg_sl ([.ref mo]) ++ List.replicate (6 - (lg_sl ([.ref mo])).length) Slot.unset).toArray = ls at hl ⊢
  have hl : lv_has ls 6 [(0, .ref mo)] := hl
  have hP : va_P (dC, dI) vwCl [(mo, .inr (9, [th, .ref am, .int 0, .int 0, .int 0])), (am, .inr (4, [.int mm, .ref (zk 0), .int 0]))] s.heap := hP
  have hD : va_D A [(mo, .inr (9, [th, .ref am, .int 0, .int 0, .int 0])), (am, .inr (4, [.int mm, .ref (zk 0), .int 0]))] := hD
  refine lv_aload_n hx hb dX4_digest_0 rfl (lv_at hl 0 rfl) ?_
  refine lv_iconst (v := 0) hx hb dX4_digest_1 (by decide) ?_
  refine va_put (D := (dC, dI)) (ci := 9) (v := .int 0) (ty := .int) (C := RX4) (T := TX4) (N := 5) hx hb hts hi_X4_digest_X4 tyX4 tyX4_ok nmX4 hown hK hP hD (zS0 hS) 0 rfl rfl 0 (by decide) (hts (.fieldLink RX4 16 "DeeprowsModel" "thrown" "I") (List.mem_cons_of_mem _ zw_1127)) (fun _ h9 => h9) rfl (by decide +kernel) rfl rfl (Nat.le_of_ble_eq_true rfl) dX4_digest_2 (fun H1 locs hP hD hS1 => ?_)
  have hz : s.heap.size + 0 ≤ H1.size := Nat.le_trans hz hS1.1
  have hS := zSS hS hS1
  replace hP : va_P (dC, dI) vwCl [(mo, .inr (9, [.int 0, .ref am, .int 0, .int 0, .int 0])), (am, .inr (4, [.int mm, .ref (zk 0), .int 0]))] H1 := hP
  replace hD : va_D A [(mo, .inr (9, [.int 0, .ref am, .int 0, .int 0, .int 0])), (am, .inr (4, [.int mm, .ref (zk 0), .int 0]))] := hD
  refine lv_ldc2 (v := 7779) hx hb hown (hts (.constantLong RX4 219 (7779)) (List.mem_cons_of_mem _ zw_1457)) dX4_digest_5 ?_
  refine lv_lstore_n (lv' := [(1, .long 7779), (0, .ref mo)]) hx hb dX4_digest_8 rfl hl (by decide) rfl (fun ls hl => ?_)
  refine lv_iconst (v := 0) hx hb dX4_digest_9 (by decide) ?_
  refine lv_istore_n (lv' := [(3, .int 0), (1, .long 7779), (0, .ref mo)]) hx hb dX4_digest_10 rfl hl (by decide) rfl (fun ls hl => ?_)
  refine lv_iload_n hx hb dX4_digest_11 rfl (lv_at hl 0 rfl) ?_
  refine lv_bipush (v := 6) hx hb dX4_digest_12 (by decide) ?_
  refine lv_icmp_ge (tgt := 34) hx hb dX4_digest_14 (by decide) (fun c9 => ?_) (fun c9 => ?_)
  · exact absurd c9 (by decide)
  refine lv_lload_n hx hb dX4_digest_17 rfl (lv_at hl 1 rfl) ?_
  refine lv_aload_n hx hb dX4_digest_18 rfl (lv_at hl 2 rfl) ?_
  refine lv_iload_n hx hb dX4_digest_19 rfl (lv_at hl 0 rfl) ?_
  have hPc := hP.sub (ws' := [(mo, .inr (9, [.int 0, .ref am, .int 0, .int 0, .int 0])), (am, .inr (4, [.int mm, .ref (zk 0), .int 0]))]) [0, 1] rfl
  have hDc := hD.sub (ws' := [(mo, .inr (9, [.int 0, .ref am, .int 0, .int 0, .int 0])), (am, .inr (4, [.int mm, .ref (zk 0), .int 0]))]) [0, 1] (by decide) rfl
  have hFc := va_free (wc := [(mo, .inr (9, [.int 0, .ref am, .int 0, .int 0, .int 0])), (am, .inr (4, [.int mm, .ref (zk 0), .int 0]))]) hD hS hA [0, 1] rfl
  have hDv := hDc.self (sz := H1.size)
  have hpre := zpre (xs' := []) (av := [.ref mo, .int 0]) hPc hK (hDc.weaken (fun _ _ _ h => h)) hZ hS hFc (fun r hr => by cases hr)
  refine va_calli (va_runV (As := [.int 0]) (rest := [.long 7779]) ⟨hx, hb, hml, hown, hts⟩ (k_hTold0 l dC dI cI cB cR cO zk mo am (.int 0) mm H1.size ) (cwV 1 hts gX4_digest_X4_houseTold rfl rfl rfl (by decide +kernel) ⟨Nat.le_of_ble_eq_true rfl, Nat.le_of_ble_eq_true rfl⟩) ⟨zblind, (zrecv_9 hK hPc (q0 := 0) rfl), hpre⟩ rfl rfl hl.1 rfl (lv_room (Nat.le_of_ble_eq_true rfl)) dX4_digest_20 ⟨Nat.le_of_ble_eq_true rfl, Nat.le_of_ble_eq_true rfl⟩) hS (fun q _ h => hFc q h) hFc (fun r3 u t H2 locs ht hvm hw hB hz1 hk1 hS => ?_)
  obtain rfl : 0 = r3 := (show r3 = 0 from hw).symm
  obtain ⟨hP1, hK1, hD1, hz2⟩ := hB
  rw [ht] at hP1 hz2
  have hPD9 := va_join (wr := []) (w1 := [(mo, .inr (9, [.int 0, .ref am, .int 0, .int 0, .int 0])), (am, .inr (4, [.int mm, .ref (zk 0), .int 0]))]) hP hD [0, 1] [] rfl rfl (by decide) (by decide) hk1 hFc hP1 hD1
  clear hPc hDc hFc hDv hpre hP hD hP1 hK1 hD1
  obtain ⟨hP, hD⟩ := hPD9
  replace hz : s.heap.size + 1 ≤ H2.size := by omega
  clear hz2
  replace hP : va_P (dC, dI) vwCl [(mo, .inr (9, [.int 0, .ref am, .int 0, .int 0, .int 0])), (am, .inr (4, [.int mm, .ref (zk 0), .int 0]))] H2 := hP
  replace hD : va_D A [(mo, .inr (9, [.int 0, .ref am, .int 0, .int 0, .int 0])), (am, .inr (4, [.int mm, .ref (zk 0), .int 0]))] := hD
  refine W.widen (k := 1) (n := 6) (by omega) (by omega) ?_
  refine lv_i2l (v := 0) hx hb dX4_digest_23 (by decide) ?_
  have hPc := hP.sub (ws' := []) [] rfl
  have hDc := hD.sub (ws' := []) [] (by decide) rfl
  have hFc := va_free (wc := []) hD hS hA [] rfl
  have hDv := hDc.self (sz := H2.size)
  have hpre := zpre (xs' := []) (av := [.long 7779, .long 0]) hPc hK (hDc.weaken (fun _ _ _ h => h)) hZ hS hFc (fun r hr => by cases hr)
  refine va_calll (va_runS (As := [.long 7779, .long 0]) (rest := []) ⟨hx, hb, hml, hown, hts⟩ (k_add_0 l dC dI cI cB cR cO zk  H2.size ) (va_cwS 2 hts gX4_digest_X4_add rfl rfl rfl (by decide +kernel) ⟨Nat.le_of_ble_eq_true rfl, Nat.le_of_ble_eq_true rfl⟩) ⟨zblind, hpre⟩ rfl rfl hl.1 rfl (lv_room (Nat.le_of_ble_eq_true rfl)) dX4_digest_24 ⟨Nat.le_of_ble_eq_true rfl, Nat.le_of_ble_eq_true rfl⟩) hS (fun q _ h => hFc q h) hFc (fun r5 u t H4 locs ht hvm hw hB hz1 hk1 hS => ?_)
  obtain rfl : 241149 = r5 := (show r5 = 241149 from hw).symm
  obtain ⟨hP1, hK1, hD1, hz2⟩ := hB
  rw [ht] at hP1 hz2
  have hPD9 := va_join (wr := [(mo, .inr (9, [.int 0, .ref am, .int 0, .int 0, .int 0])), (am, .inr (4, [.int mm, .ref (zk 0), .int 0]))]) (w1 := []) hP hD [] [0, 1] rfl rfl (by decide) (by decide) hk1 hFc hP1 hD1
  clear hPc hDc hFc hDv hpre hP hD hP1 hK1 hD1
  obtain ⟨hP, hD⟩ := hPD9
  replace hz : s.heap.size + 1 ≤ H4.size := by omega
  clear hz2
  replace hP : va_P (dC, dI) vwCl [(mo, .inr (9, [.int 0, .ref am, .int 0, .int 0, .int 0])), (am, .inr (4, [.int mm, .ref (zk 0), .int 0]))] H4 := hP
  replace hD : va_D A [(mo, .inr (9, [.int 0, .ref am, .int 0, .int 0, .int 0])), (am, .inr (4, [.int mm, .ref (zk 0), .int 0]))] := hD
  refine W.widen (k := 1) (n := 6) (by omega) (by omega) ?_
  refine lv_lstore_n (lv' := [(1, .long 241149), (3, .int 0), (0, .ref mo)]) hx hb dX4_digest_27 rfl hl (by decide) rfl (fun ls hl => ?_)
  refine lv_iinc (v := 1) (lv' := [(3, .int 1), (1, .long 241149), (0, .ref mo)]) hx hb dX4_digest_28 hl (k := 1) rfl (by decide) (by decide) rfl (fun ls hl => ?_)
  refine lv_goto (tgt := 11) hx hb dX4_digest_31 (by decide) ?_
  refine lv_iload_n hx hb dX4_digest_11 rfl (lv_at hl 0 rfl) ?_
  refine lv_bipush (v := 6) hx hb dX4_digest_12 (by decide) ?_
  refine lv_icmp_ge (tgt := 34) hx hb dX4_digest_14 (by decide) (fun c9 => ?_) (fun c9 => ?_)
  · exact absurd c9 (by decide)
  refine lv_lload_n hx hb dX4_digest_17 rfl (lv_at hl 1 rfl) ?_
  refine lv_aload_n hx hb dX4_digest_18 rfl (lv_at hl 2 rfl) ?_
  refine lv_iload_n hx hb dX4_digest_19 rfl (lv_at hl 0 rfl) ?_
  have hPc := hP.sub (ws' := [(mo, .inr (9, [.int 0, .ref am, .int 0, .int 0, .int 0])), (am, .inr (4, [.int mm, .ref (zk 0), .int 0]))]) [0, 1] rfl
  have hDc := hD.sub (ws' := [(mo, .inr (9, [.int 0, .ref am, .int 0, .int 0, .int 0])), (am, .inr (4, [.int mm, .ref (zk 0), .int 0]))]) [0, 1] (by decide) rfl
  have hFc := va_free (wc := [(mo, .inr (9, [.int 0, .ref am, .int 0, .int 0, .int 0])), (am, .inr (4, [.int mm, .ref (zk 0), .int 0]))]) hD hS hA [0, 1] rfl
  have hDv := hDc.self (sz := H4.size)
  have hpre := zpre (xs' := []) (av := [.ref mo, .int 1]) hPc hK (hDc.weaken (fun _ _ _ h => h)) hZ hS hFc (fun r hr => by cases hr)
  refine va_calli (va_runV (As := [.int 1]) (rest := [.long 241149]) ⟨hx, hb, hml, hown, hts⟩ (k_hTold1 l dC dI cI cB cR cO zk mo am (.int 0) mm H4.size ) (cwV 1 hts gX4_digest_X4_houseTold rfl rfl rfl (by decide +kernel) ⟨Nat.le_of_ble_eq_true rfl, Nat.le_of_ble_eq_true rfl⟩) ⟨zblind, (zrecv_9 hK hPc (q0 := 0) rfl), hpre⟩ rfl rfl hl.1 rfl (lv_room (Nat.le_of_ble_eq_true rfl)) dX4_digest_20 ⟨Nat.le_of_ble_eq_true rfl, Nat.le_of_ble_eq_true rfl⟩) hS (fun q _ h => hFc q h) hFc (fun r7 u t H6 locs ht hvm hw hB hz1 hk1 hS => ?_)
  obtain rfl : 0 = r7 := (show r7 = 0 from hw).symm
  obtain ⟨hP1, hK1, hD1, hz2⟩ := hB
  rw [ht] at hP1 hz2
  have hPD9 := va_join (wr := []) (w1 := [(mo, .inr (9, [.int 0, .ref am, .int 0, .int 0, .int 0])), (am, .inr (4, [.int mm, .ref (zk 0), .int 0]))]) hP hD [0, 1] [] rfl rfl (by decide) (by decide) hk1 hFc hP1 hD1
  clear hPc hDc hFc hDv hpre hP hD hP1 hK1 hD1
  obtain ⟨hP, hD⟩ := hPD9
  replace hz : s.heap.size + 2 ≤ H6.size := by omega
  clear hz2
  replace hP : va_P (dC, dI) vwCl [(mo, .inr (9, [.int 0, .ref am, .int 0, .int 0, .int 0])), (am, .inr (4, [.int mm, .ref (zk 0), .int 0]))] H6 := hP
  replace hD : va_D A [(mo, .inr (9, [.int 0, .ref am, .int 0, .int 0, .int 0])), (am, .inr (4, [.int mm, .ref (zk 0), .int 0]))] := hD
  refine W.widen (k := 2) (n := 12) (by omega) (by omega) ?_
  refine lv_i2l (v := 0) hx hb dX4_digest_23 (by decide) ?_
  have hPc := hP.sub (ws' := []) [] rfl
  have hDc := hD.sub (ws' := []) [] (by decide) rfl
  have hFc := va_free (wc := []) hD hS hA [] rfl
  have hDv := hDc.self (sz := H6.size)
  have hpre := zpre (xs' := []) (av := [.long 241149, .long 0]) hPc hK (hDc.weaken (fun _ _ _ h => h)) hZ hS hFc (fun r hr => by cases hr)
  refine va_calll (va_runS (As := [.long 241149, .long 0]) (rest := []) ⟨hx, hb, hml, hown, hts⟩ (k_add_1 l dC dI cI cB cR cO zk  H6.size ) (va_cwS 2 hts gX4_digest_X4_add rfl rfl rfl (by decide +kernel) ⟨Nat.le_of_ble_eq_true rfl, Nat.le_of_ble_eq_true rfl⟩) ⟨zblind, hpre⟩ rfl rfl hl.1 rfl (lv_room (Nat.le_of_ble_eq_true rfl)) dX4_digest_24 ⟨Nat.le_of_ble_eq_true rfl, Nat.le_of_ble_eq_true rfl⟩) hS (fun q _ h => hFc q h) hFc (fun r9 u t H8 locs ht hvm hw hB hz1 hk1 hS => ?_)
  obtain rfl : 7475619 = r9 := (show r9 = 7475619 from hw).symm
  obtain ⟨hP1, hK1, hD1, hz2⟩ := hB
  rw [ht] at hP1 hz2
  have hPD9 := va_join (wr := [(mo, .inr (9, [.int 0, .ref am, .int 0, .int 0, .int 0])), (am, .inr (4, [.int mm, .ref (zk 0), .int 0]))]) (w1 := []) hP hD [] [0, 1] rfl rfl (by decide) (by decide) hk1 hFc hP1 hD1
  clear hPc hDc hFc hDv hpre hP hD hP1 hK1 hD1
  obtain ⟨hP, hD⟩ := hPD9
  replace hz : s.heap.size + 2 ≤ H8.size := by omega
  clear hz2
  replace hP : va_P (dC, dI) vwCl [(mo, .inr (9, [.int 0, .ref am, .int 0, .int 0, .int 0])), (am, .inr (4, [.int mm, .ref (zk 0), .int 0]))] H8 := hP
  replace hD : va_D A [(mo, .inr (9, [.int 0, .ref am, .int 0, .int 0, .int 0])), (am, .inr (4, [.int mm, .ref (zk 0), .int 0]))] := hD
  refine W.widen (k := 2) (n := 12) (by omega) (by omega) ?_
  refine lv_lstore_n (lv' := [(1, .long 7475619), (3, .int 1), (0, .ref mo)]) hx hb dX4_digest_27 rfl hl (by decide) rfl (fun ls hl => ?_)
  refine lv_iinc (v := 2) (lv' := [(3, .int 2), (1, .long 7475619), (0, .ref mo)]) hx hb dX4_digest_28 hl (k := 1) rfl (by decide) (by decide) rfl (fun ls hl => ?_)
  refine lv_goto (tgt := 11) hx hb dX4_digest_31 (by decide) ?_
  refine lv_iload_n hx hb dX4_digest_11 rfl (lv_at hl 0 rfl) ?_
  refine lv_bipush (v := 6) hx hb dX4_digest_12 (by decide) ?_
  refine lv_icmp_ge (tgt := 34) hx hb dX4_digest_14 (by decide) (fun c9 => ?_) (fun c9 => ?_)
  · exact absurd c9 (by decide)
  refine lv_lload_n hx hb dX4_digest_17 rfl (lv_at hl 1 rfl) ?_
  refine lv_aload_n hx hb dX4_digest_18 rfl (lv_at hl 2 rfl) ?_
  refine lv_iload_n hx hb dX4_digest_19 rfl (lv_at hl 0 rfl) ?_
  have hPc := hP.sub (ws' := [(mo, .inr (9, [.int 0, .ref am, .int 0, .int 0, .int 0])), (am, .inr (4, [.int mm, .ref (zk 0), .int 0]))]) [0, 1] rfl
  have hDc := hD.sub (ws' := [(mo, .inr (9, [.int 0, .ref am, .int 0, .int 0, .int 0])), (am, .inr (4, [.int mm, .ref (zk 0), .int 0]))]) [0, 1] (by decide) rfl
  have hFc := va_free (wc := [(mo, .inr (9, [.int 0, .ref am, .int 0, .int 0, .int 0])), (am, .inr (4, [.int mm, .ref (zk 0), .int 0]))]) hD hS hA [0, 1] rfl
  have hDv := hDc.self (sz := H8.size)
  have hpre := zpre (xs' := []) (av := [.ref mo, .int 2]) hPc hK (hDc.weaken (fun _ _ _ h => h)) hZ hS hFc (fun r hr => by cases hr)
  refine va_calli (va_runV (As := [.int 2]) (rest := [.long 7475619]) ⟨hx, hb, hml, hown, hts⟩ (k_hTold2 l dC dI cI cB cR cO zk mo am (.int 0) mm H8.size ) (cwV 1 hts gX4_digest_X4_houseTold rfl rfl rfl (by decide +kernel) ⟨Nat.le_of_ble_eq_true rfl, Nat.le_of_ble_eq_true rfl⟩) ⟨zblind, (zrecv_9 hK hPc (q0 := 0) rfl), hpre⟩ rfl rfl hl.1 rfl (lv_room (Nat.le_of_ble_eq_true rfl)) dX4_digest_20 ⟨Nat.le_of_ble_eq_true rfl, Nat.le_of_ble_eq_true rfl⟩) hS (fun q _ h => hFc q h) hFc (fun r11 u t H10 locs ht hvm hw hB hz1 hk1 hS => ?_)
  obtain rfl : 0 = r11 := (show r11 = 0 from hw).symm
  obtain ⟨hP1, hK1, hD1, hz2⟩ := hB
  rw [ht] at hP1 hz2
  have hPD9 := va_join (wr := []) (w1 := [(mo, .inr (9, [.int 0, .ref am, .int 0, .int 0, .int 0])), (am, .inr (4, [.int mm, .ref (zk 0), .int 0]))]) hP hD [0, 1] [] rfl rfl (by decide) (by decide) hk1 hFc hP1 hD1
  clear hPc hDc hFc hDv hpre hP hD hP1 hK1 hD1
  obtain ⟨hP, hD⟩ := hPD9
  replace hz : s.heap.size + 3 ≤ H10.size := by omega
  clear hz2
  replace hP : va_P (dC, dI) vwCl [(mo, .inr (9, [.int 0, .ref am, .int 0, .int 0, .int 0])), (am, .inr (4, [.int mm, .ref (zk 0), .int 0]))] H10 := hP
  replace hD : va_D A [(mo, .inr (9, [.int 0, .ref am, .int 0, .int 0, .int 0])), (am, .inr (4, [.int mm, .ref (zk 0), .int 0]))] := hD
  refine W.widen (k := 3) (n := 18) (by omega) (by omega) ?_
  refine lv_i2l (v := 0) hx hb dX4_digest_23 (by decide) ?_
  have hPc := hP.sub (ws' := []) [] rfl
  have hDc := hD.sub (ws' := []) [] (by decide) rfl
  have hFc := va_free (wc := []) hD hS hA [] rfl
  have hDv := hDc.self (sz := H10.size)
  have hpre := zpre (xs' := []) (av := [.long 7475619, .long 0]) hPc hK (hDc.weaken (fun _ _ _ h => h)) hZ hS hFc (fun r hr => by cases hr)
  refine va_calll (va_runS (As := [.long 7475619, .long 0]) (rest := []) ⟨hx, hb, hml, hown, hts⟩ (k_add_2 l dC dI cI cB cR cO zk  H10.size ) (va_cwS 2 hts gX4_digest_X4_add rfl rfl rfl (by decide +kernel) ⟨Nat.le_of_ble_eq_true rfl, Nat.le_of_ble_eq_true rfl⟩) ⟨zblind, hpre⟩ rfl rfl hl.1 rfl (lv_room (Nat.le_of_ble_eq_true rfl)) dX4_digest_24 ⟨Nat.le_of_ble_eq_true rfl, Nat.le_of_ble_eq_true rfl⟩) hS (fun q _ h => hFc q h) hFc (fun r13 u t H12 locs ht hvm hw hB hz1 hk1 hS => ?_)
  obtain rfl : 231744189 = r13 := (show r13 = 231744189 from hw).symm
  obtain ⟨hP1, hK1, hD1, hz2⟩ := hB
  rw [ht] at hP1 hz2
  have hPD9 := va_join (wr := [(mo, .inr (9, [.int 0, .ref am, .int 0, .int 0, .int 0])), (am, .inr (4, [.int mm, .ref (zk 0), .int 0]))]) (w1 := []) hP hD [] [0, 1] rfl rfl (by decide) (by decide) hk1 hFc hP1 hD1
  clear hPc hDc hFc hDv hpre hP hD hP1 hK1 hD1
  obtain ⟨hP, hD⟩ := hPD9
  replace hz : s.heap.size + 3 ≤ H12.size := by omega
  clear hz2
  replace hP : va_P (dC, dI) vwCl [(mo, .inr (9, [.int 0, .ref am, .int 0, .int 0, .int 0])), (am, .inr (4, [.int mm, .ref (zk 0), .int 0]))] H12 := hP
  replace hD : va_D A [(mo, .inr (9, [.int 0, .ref am, .int 0, .int 0, .int 0])), (am, .inr (4, [.int mm, .ref (zk 0), .int 0]))] := hD
  refine W.widen (k := 3) (n := 18) (by omega) (by omega) ?_
  refine lv_lstore_n (lv' := [(1, .long 231744189), (3, .int 2), (0, .ref mo)]) hx hb dX4_digest_27 rfl hl (by decide) rfl (fun ls hl => ?_)
  refine lv_iinc (v := 3) (lv' := [(3, .int 3), (1, .long 231744189), (0, .ref mo)]) hx hb dX4_digest_28 hl (k := 1) rfl (by decide) (by decide) rfl (fun ls hl => ?_)
  refine lv_goto (tgt := 11) hx hb dX4_digest_31 (by decide) ?_
  refine lv_iload_n hx hb dX4_digest_11 rfl (lv_at hl 0 rfl) ?_
  refine lv_bipush (v := 6) hx hb dX4_digest_12 (by decide) ?_
  refine lv_icmp_ge (tgt := 34) hx hb dX4_digest_14 (by decide) (fun c9 => ?_) (fun c9 => ?_)
  · exact absurd c9 (by decide)
  refine lv_lload_n hx hb dX4_digest_17 rfl (lv_at hl 1 rfl) ?_
  refine lv_aload_n hx hb dX4_digest_18 rfl (lv_at hl 2 rfl) ?_
  refine lv_iload_n hx hb dX4_digest_19 rfl (lv_at hl 0 rfl) ?_
  have hPc := hP.sub (ws' := [(mo, .inr (9, [.int 0, .ref am, .int 0, .int 0, .int 0])), (am, .inr (4, [.int mm, .ref (zk 0), .int 0]))]) [0, 1] rfl
  have hDc := hD.sub (ws' := [(mo, .inr (9, [.int 0, .ref am, .int 0, .int 0, .int 0])), (am, .inr (4, [.int mm, .ref (zk 0), .int 0]))]) [0, 1] (by decide) rfl
  have hFc := va_free (wc := [(mo, .inr (9, [.int 0, .ref am, .int 0, .int 0, .int 0])), (am, .inr (4, [.int mm, .ref (zk 0), .int 0]))]) hD hS hA [0, 1] rfl
  have hDv := hDc.self (sz := H12.size)
  have hpre := zpre (xs' := []) (av := [.ref mo, .int 3]) hPc hK (hDc.weaken (fun _ _ _ h => h)) hZ hS hFc (fun r hr => by cases hr)
  refine va_calli (va_runV (As := [.int 3]) (rest := [.long 231744189]) ⟨hx, hb, hml, hown, hts⟩ (k_hTold3 l dC dI cI cB cR cO zk mo am (.int 0) mm H12.size ) (cwV 1 hts gX4_digest_X4_houseTold rfl rfl rfl (by decide +kernel) ⟨Nat.le_of_ble_eq_true rfl, Nat.le_of_ble_eq_true rfl⟩) ⟨zblind, (zrecv_9 hK hPc (q0 := 0) rfl), hpre⟩ rfl rfl hl.1 rfl (lv_room (Nat.le_of_ble_eq_true rfl)) dX4_digest_20 ⟨Nat.le_of_ble_eq_true rfl, Nat.le_of_ble_eq_true rfl⟩) hS (fun q _ h => hFc q h) hFc (fun r15 u t H14 locs ht hvm hw hB hz1 hk1 hS => ?_)
  obtain rfl : 0 = r15 := (show r15 = 0 from hw).symm
  obtain ⟨hP1, hK1, hD1, hz2⟩ := hB
  rw [ht] at hP1 hz2
  have hPD9 := va_join (wr := []) (w1 := [(mo, .inr (9, [.int 0, .ref am, .int 0, .int 0, .int 0])), (am, .inr (4, [.int mm, .ref (zk 0), .int 0]))]) hP hD [0, 1] [] rfl rfl (by decide) (by decide) hk1 hFc hP1 hD1
  clear hPc hDc hFc hDv hpre hP hD hP1 hK1 hD1
  obtain ⟨hP, hD⟩ := hPD9
  replace hz : s.heap.size + 4 ≤ H14.size := by omega
  clear hz2
  replace hP : va_P (dC, dI) vwCl [(mo, .inr (9, [.int 0, .ref am, .int 0, .int 0, .int 0])), (am, .inr (4, [.int mm, .ref (zk 0), .int 0]))] H14 := hP
  replace hD : va_D A [(mo, .inr (9, [.int 0, .ref am, .int 0, .int 0, .int 0])), (am, .inr (4, [.int mm, .ref (zk 0), .int 0]))] := hD
  refine W.widen (k := 4) (n := 24) (by omega) (by omega) ?_
  refine lv_i2l (v := 0) hx hb dX4_digest_23 (by decide) ?_
  have hPc := hP.sub (ws' := []) [] rfl
  have hDc := hD.sub (ws' := []) [] (by decide) rfl
  have hFc := va_free (wc := []) hD hS hA [] rfl
  have hDv := hDc.self (sz := H14.size)
  have hpre := zpre (xs' := []) (av := [.long 231744189, .long 0]) hPc hK (hDc.weaken (fun _ _ _ h => h)) hZ hS hFc (fun r hr => by cases hr)
  refine va_calll (va_runS (As := [.long 231744189, .long 0]) (rest := []) ⟨hx, hb, hml, hown, hts⟩ (k_add_3 l dC dI cI cB cR cO zk  H14.size ) (va_cwS 2 hts gX4_digest_X4_add rfl rfl rfl (by decide +kernel) ⟨Nat.le_of_ble_eq_true rfl, Nat.le_of_ble_eq_true rfl⟩) ⟨zblind, hpre⟩ rfl rfl hl.1 rfl (lv_room (Nat.le_of_ble_eq_true rfl)) dX4_digest_24 ⟨Nat.le_of_ble_eq_true rfl, Nat.le_of_ble_eq_true rfl⟩) hS (fun q _ h => hFc q h) hFc (fun r17 u t H16 locs ht hvm hw hB hz1 hk1 hS => ?_)
  obtain rfl : 7184069859 = r17 := (show r17 = 7184069859 from hw).symm
  obtain ⟨hP1, hK1, hD1, hz2⟩ := hB
  rw [ht] at hP1 hz2
  have hPD9 := va_join (wr := [(mo, .inr (9, [.int 0, .ref am, .int 0, .int 0, .int 0])), (am, .inr (4, [.int mm, .ref (zk 0), .int 0]))]) (w1 := []) hP hD [] [0, 1] rfl rfl (by decide) (by decide) hk1 hFc hP1 hD1
  clear hPc hDc hFc hDv hpre hP hD hP1 hK1 hD1
  obtain ⟨hP, hD⟩ := hPD9
  replace hz : s.heap.size + 4 ≤ H16.size := by omega
  clear hz2
  replace hP : va_P (dC, dI) vwCl [(mo, .inr (9, [.int 0, .ref am, .int 0, .int 0, .int 0])), (am, .inr (4, [.int mm, .ref (zk 0), .int 0]))] H16 := hP
  replace hD : va_D A [(mo, .inr (9, [.int 0, .ref am, .int 0, .int 0, .int 0])), (am, .inr (4, [.int mm, .ref (zk 0), .int 0]))] := hD
  refine W.widen (k := 4) (n := 24) (by omega) (by omega) ?_
  refine lv_lstore_n (lv' := [(1, .long 7184069859), (3, .int 3), (0, .ref mo)]) hx hb dX4_digest_27 rfl hl (by decide) rfl (fun ls hl => ?_)
  refine lv_iinc (v := 4) (lv' := [(3, .int 4), (1, .long 7184069859), (0, .ref mo)]) hx hb dX4_digest_28 hl (k := 1) rfl (by decide) (by decide) rfl (fun ls hl => ?_)
  refine lv_goto (tgt := 11) hx hb dX4_digest_31 (by decide) ?_
  refine lv_iload_n hx hb dX4_digest_11 rfl (lv_at hl 0 rfl) ?_
  refine lv_bipush (v := 6) hx hb dX4_digest_12 (by decide) ?_
  refine lv_icmp_ge (tgt := 34) hx hb dX4_digest_14 (by decide) (fun c9 => ?_) (fun c9 => ?_)
  · exact absurd c9 (by decide)
  refine lv_lload_n hx hb dX4_digest_17 rfl (lv_at hl 1 rfl) ?_
  refine lv_aload_n hx hb dX4_digest_18 rfl (lv_at hl 2 rfl) ?_
  refine lv_iload_n hx hb dX4_digest_19 rfl (lv_at hl 0 rfl) ?_
  have hPc := hP.sub (ws' := [(mo, .inr (9, [.int 0, .ref am, .int 0, .int 0, .int 0])), (am, .inr (4, [.int mm, .ref (zk 0), .int 0]))]) [0, 1] rfl
  have hDc := hD.sub (ws' := [(mo, .inr (9, [.int 0, .ref am, .int 0, .int 0, .int 0])), (am, .inr (4, [.int mm, .ref (zk 0), .int 0]))]) [0, 1] (by decide) rfl
  have hFc := va_free (wc := [(mo, .inr (9, [.int 0, .ref am, .int 0, .int 0, .int 0])), (am, .inr (4, [.int mm, .ref (zk 0), .int 0]))]) hD hS hA [0, 1] rfl
  have hDv := hDc.self (sz := H16.size)
  have hpre := zpre (xs' := []) (av := [.ref mo, .int 4]) hPc hK (hDc.weaken (fun _ _ _ h => h)) hZ hS hFc (fun r hr => by cases hr)
  refine va_calli (va_runV (As := [.int 4]) (rest := [.long 7184069859]) ⟨hx, hb, hml, hown, hts⟩ (k_hTold4 l dC dI cI cB cR cO zk mo am (.int 0) mm H16.size ) (cwV 1 hts gX4_digest_X4_houseTold rfl rfl rfl (by decide +kernel) ⟨Nat.le_of_ble_eq_true rfl, Nat.le_of_ble_eq_true rfl⟩) ⟨zblind, (zrecv_9 hK hPc (q0 := 0) rfl), hpre⟩ rfl rfl hl.1 rfl (lv_room (Nat.le_of_ble_eq_true rfl)) dX4_digest_20 ⟨Nat.le_of_ble_eq_true rfl, Nat.le_of_ble_eq_true rfl⟩) hS (fun q _ h => hFc q h) hFc (fun r19 u t H18 locs ht hvm hw hB hz1 hk1 hS => ?_)
  obtain rfl : 0 = r19 := (show r19 = 0 from hw).symm
  obtain ⟨hP1, hK1, hD1, hz2⟩ := hB
  rw [ht] at hP1 hz2
  have hPD9 := va_join (wr := []) (w1 := [(mo, .inr (9, [.int 0, .ref am, .int 0, .int 0, .int 0])), (am, .inr (4, [.int mm, .ref (zk 0), .int 0]))]) hP hD [0, 1] [] rfl rfl (by decide) (by decide) hk1 hFc hP1 hD1
  clear hPc hDc hFc hDv hpre hP hD hP1 hK1 hD1
  obtain ⟨hP, hD⟩ := hPD9
  replace hz : s.heap.size + 5 ≤ H18.size := by omega
  clear hz2
  replace hP : va_P (dC, dI) vwCl [(mo, .inr (9, [.int 0, .ref am, .int 0, .int 0, .int 0])), (am, .inr (4, [.int mm, .ref (zk 0), .int 0]))] H18 := hP
  replace hD : va_D A [(mo, .inr (9, [.int 0, .ref am, .int 0, .int 0, .int 0])), (am, .inr (4, [.int mm, .ref (zk 0), .int 0]))] := hD
  refine W.widen (k := 5) (n := 30) (by omega) (by omega) ?_
  refine lv_i2l (v := 0) hx hb dX4_digest_23 (by decide) ?_
  have hPc := hP.sub (ws' := []) [] rfl
  have hDc := hD.sub (ws' := []) [] (by decide) rfl
  have hFc := va_free (wc := []) hD hS hA [] rfl
  have hDv := hDc.self (sz := H18.size)
  have hpre := zpre (xs' := []) (av := [.long 7184069859, .long 0]) hPc hK (hDc.weaken (fun _ _ _ h => h)) hZ hS hFc (fun r hr => by cases hr)
  refine va_calll (va_runS (As := [.long 7184069859, .long 0]) (rest := []) ⟨hx, hb, hml, hown, hts⟩ (k_add_4 l dC dI cI cB cR cO zk  H18.size ) (va_cwS 2 hts gX4_digest_X4_add rfl rfl rfl (by decide +kernel) ⟨Nat.le_of_ble_eq_true rfl, Nat.le_of_ble_eq_true rfl⟩) ⟨zblind, hpre⟩ rfl rfl hl.1 rfl (lv_room (Nat.le_of_ble_eq_true rfl)) dX4_digest_24 ⟨Nat.le_of_ble_eq_true rfl, Nat.le_of_ble_eq_true rfl⟩) hS (fun q _ h => hFc q h) hFc (fun r21 u t H20 locs ht hvm hw hB hz1 hk1 hS => ?_)
  obtain rfl : 222706165629 = r21 := (show r21 = 222706165629 from hw).symm
  obtain ⟨hP1, hK1, hD1, hz2⟩ := hB
  rw [ht] at hP1 hz2
  have hPD9 := va_join (wr := [(mo, .inr (9, [.int 0, .ref am, .int 0, .int 0, .int 0])), (am, .inr (4, [.int mm, .ref (zk 0), .int 0]))]) (w1 := []) hP hD [] [0, 1] rfl rfl (by decide) (by decide) hk1 hFc hP1 hD1
  clear hPc hDc hFc hDv hpre hP hD hP1 hK1 hD1
  obtain ⟨hP, hD⟩ := hPD9
  replace hz : s.heap.size + 5 ≤ H20.size := by omega
  clear hz2
  replace hP : va_P (dC, dI) vwCl [(mo, .inr (9, [.int 0, .ref am, .int 0, .int 0, .int 0])), (am, .inr (4, [.int mm, .ref (zk 0), .int 0]))] H20 := hP
  replace hD : va_D A [(mo, .inr (9, [.int 0, .ref am, .int 0, .int 0, .int 0])), (am, .inr (4, [.int mm, .ref (zk 0), .int 0]))] := hD
  refine W.widen (k := 5) (n := 30) (by omega) (by omega) ?_
  refine lv_lstore_n (lv' := [(1, .long 222706165629), (3, .int 4), (0, .ref mo)]) hx hb dX4_digest_27 rfl hl (by decide) rfl (fun ls hl => ?_)
  refine lv_iinc (v := 5) (lv' := [(3, .int 5), (1, .long 222706165629), (0, .ref mo)]) hx hb dX4_digest_28 hl (k := 1) rfl (by decide) (by decide) rfl (fun ls hl => ?_)
  refine lv_goto (tgt := 11) hx hb dX4_digest_31 (by decide) ?_
  refine lv_iload_n hx hb dX4_digest_11 rfl (lv_at hl 0 rfl) ?_
  refine lv_bipush (v := 6) hx hb dX4_digest_12 (by decide) ?_
  refine lv_icmp_ge (tgt := 34) hx hb dX4_digest_14 (by decide) (fun c9 => ?_) (fun c9 => ?_)
  · exact absurd c9 (by decide)
  refine lv_lload_n hx hb dX4_digest_17 rfl (lv_at hl 1 rfl) ?_
  refine lv_aload_n hx hb dX4_digest_18 rfl (lv_at hl 2 rfl) ?_
  refine lv_iload_n hx hb dX4_digest_19 rfl (lv_at hl 0 rfl) ?_
  have hPc := hP.sub (ws' := [(mo, .inr (9, [.int 0, .ref am, .int 0, .int 0, .int 0])), (am, .inr (4, [.int mm, .ref (zk 0), .int 0]))]) [0, 1] rfl
  have hDc := hD.sub (ws' := [(mo, .inr (9, [.int 0, .ref am, .int 0, .int 0, .int 0])), (am, .inr (4, [.int mm, .ref (zk 0), .int 0]))]) [0, 1] (by decide) rfl
  have hFc := va_free (wc := [(mo, .inr (9, [.int 0, .ref am, .int 0, .int 0, .int 0])), (am, .inr (4, [.int mm, .ref (zk 0), .int 0]))]) hD hS hA [0, 1] rfl
  have hDv := hDc.self (sz := H20.size)
  have hpre := zpre (xs' := []) (av := [.ref mo, .int 5]) hPc hK (hDc.weaken (fun _ _ _ h => h)) hZ hS hFc (fun r hr => by cases hr)
  refine va_calli (va_runV (As := [.int 5]) (rest := [.long 222706165629]) ⟨hx, hb, hml, hown, hts⟩ (k_hTold5 l dC dI cI cB cR cO zk mo am (.int 0) mm H20.size ) (cwV 1 hts gX4_digest_X4_houseTold rfl rfl rfl (by decide +kernel) ⟨Nat.le_of_ble_eq_true rfl, Nat.le_of_ble_eq_true rfl⟩) ⟨zblind, (zrecv_9 hK hPc (q0 := 0) rfl), hpre⟩ rfl rfl hl.1 rfl (lv_room (Nat.le_of_ble_eq_true rfl)) dX4_digest_20 ⟨Nat.le_of_ble_eq_true rfl, Nat.le_of_ble_eq_true rfl⟩) hS (fun q _ h => hFc q h) hFc (fun r23 u t H22 locs ht hvm hw hB hz1 hk1 hS => ?_)
  obtain rfl : 0 = r23 := (show r23 = 0 from hw).symm
  obtain ⟨hP1, hK1, hD1, hz2⟩ := hB
  rw [ht] at hP1 hz2
  have hPD9 := va_join (wr := []) (w1 := [(mo, .inr (9, [.int 0, .ref am, .int 0, .int 0, .int 0])), (am, .inr (4, [.int mm, .ref (zk 0), .int 0]))]) hP hD [0, 1] [] rfl rfl (by decide) (by decide) hk1 hFc hP1 hD1
  clear hPc hDc hFc hDv hpre hP hD hP1 hK1 hD1
  obtain ⟨hP, hD⟩ := hPD9
  replace hz : s.heap.size + 6 ≤ H22.size := by omega
  clear hz2
  replace hP : va_P (dC, dI) vwCl [(mo, .inr (9, [.int 0, .ref am, .int 0, .int 0, .int 0])), (am, .inr (4, [.int mm, .ref (zk 0), .int 0]))] H22 := hP
  replace hD : va_D A [(mo, .inr (9, [.int 0, .ref am, .int 0, .int 0, .int 0])), (am, .inr (4, [.int mm, .ref (zk 0), .int 0]))] := hD
  refine W.widen (k := 6) (n := 36) (by omega) (by omega) ?_
  refine lv_i2l (v := 0) hx hb dX4_digest_23 (by decide) ?_
  have hPc := hP.sub (ws' := []) [] rfl
  have hDc := hD.sub (ws' := []) [] (by decide) rfl
  have hFc := va_free (wc := []) hD hS hA [] rfl
  have hDv := hDc.self (sz := H22.size)
  have hpre := zpre (xs' := []) (av := [.long 222706165629, .long 0]) hPc hK (hDc.weaken (fun _ _ _ h => h)) hZ hS hFc (fun r hr => by cases hr)
  refine va_calll (va_runS (As := [.long 222706165629, .long 0]) (rest := []) ⟨hx, hb, hml, hown, hts⟩ (k_add_5 l dC dI cI cB cR cO zk  H22.size ) (va_cwS 2 hts gX4_digest_X4_add rfl rfl rfl (by decide +kernel) ⟨Nat.le_of_ble_eq_true rfl, Nat.le_of_ble_eq_true rfl⟩) ⟨zblind, hpre⟩ rfl rfl hl.1 rfl (lv_room (Nat.le_of_ble_eq_true rfl)) dX4_digest_24 ⟨Nat.le_of_ble_eq_true rfl, Nat.le_of_ble_eq_true rfl⟩) hS (fun q _ h => hFc q h) hFc (fun r25 u t H24 locs ht hvm hw hB hz1 hk1 hS => ?_)
  obtain rfl : 6903891134499 = r25 := (show r25 = 6903891134499 from hw).symm
  obtain ⟨hP1, hK1, hD1, hz2⟩ := hB
  rw [ht] at hP1 hz2
  have hPD9 := va_join (wr := [(mo, .inr (9, [.int 0, .ref am, .int 0, .int 0, .int 0])), (am, .inr (4, [.int mm, .ref (zk 0), .int 0]))]) (w1 := []) hP hD [] [0, 1] rfl rfl (by decide) (by decide) hk1 hFc hP1 hD1
  clear hPc hDc hFc hDv hpre hP hD hP1 hK1 hD1
  obtain ⟨hP, hD⟩ := hPD9
  replace hz : s.heap.size + 6 ≤ H24.size := by omega
  clear hz2
  replace hP : va_P (dC, dI) vwCl [(mo, .inr (9, [.int 0, .ref am, .int 0, .int 0, .int 0])), (am, .inr (4, [.int mm, .ref (zk 0), .int 0]))] H24 := hP
  replace hD : va_D A [(mo, .inr (9, [.int 0, .ref am, .int 0, .int 0, .int 0])), (am, .inr (4, [.int mm, .ref (zk 0), .int 0]))] := hD
  refine W.widen (k := 6) (n := 36) (by omega) (by omega) ?_
  refine lv_lstore_n (lv' := [(1, .long 6903891134499), (3, .int 5), (0, .ref mo)]) hx hb dX4_digest_27 rfl hl (by decide) rfl (fun ls hl => ?_)
  refine lv_iinc (v := 6) (lv' := [(3, .int 6), (1, .long 6903891134499), (0, .ref mo)]) hx hb dX4_digest_28 hl (k := 1) rfl (by decide) (by decide) rfl (fun ls hl => ?_)
  refine lv_goto (tgt := 11) hx hb dX4_digest_31 (by decide) ?_
  refine lv_iload_n hx hb dX4_digest_11 rfl (lv_at hl 0 rfl) ?_
  refine lv_bipush (v := 6) hx hb dX4_digest_12 (by decide) ?_
  refine lv_icmp_ge (tgt := 34) hx hb dX4_digest_14 (by decide) (fun c9 => ?_) (fun c9 => ?_)
  rotate_left
  · exact absurd (by decide) c9
  refine lv_iconst (v := 0) hx hb dX4_digest_34 (by decide) ?_
  refine lv_istore_n (lv' := [(3, .int 0), (1, .long 6903891134499), (0, .ref mo)]) hx hb dX4_digest_35 rfl hl (by decide) rfl (fun ls hl => ?_)
  refine lv_iload_n hx hb dX4_digest_36 rfl (lv_at hl 0 rfl) ?_
  refine lv_aload_n hx hb dX4_digest_37 rfl (lv_at hl 2 rfl) ?_
  refine va_get (D := (dC, dI)) (ci := 9) (v := .ref am) (C := RX4) (T := TX4) (N := 5) hx hb hts hi_X4_digest_X4 hown hK hP 0 rfl rfl 1 (by decide) (hts (.fieldLink RX4 10 "DeeprowsModel" "rows" "Ljava/util/ArrayList;") (List.mem_cons_of_mem _ zw_1128)) (fun _ h9 => h9) rfl dX4_digest_38 ?_
  have hPc := hP.sub (ws' := [(am, .inr (4, [.int mm, .ref (zk 0), .int 0]))]) [1] rfl
  have hDc := hD.sub (ws' := [(am, .inr (4, [.int mm, .ref (zk 0), .int 0]))]) [1] (by decide) rfl
  have hFc := va_free (wc := [(am, .inr (4, [.int mm, .ref (zk 0), .int 0]))]) hD hS hA [1] rfl
  have hDv := hDc.self (sz := H24.size)
  have hpre := zpre (xs' := []) (av := [.ref am]) hPc hK (hDc.weaken (fun _ _ _ h => h)) hZ hS hFc (fun r hr => by cases hr)
  refine va_calli (va_runV (As := []) (rest := [.int 0]) ⟨hx, hb, hml, hown, hts⟩ (k_size l dC dI cI cB cR cO zk am (zk 0) 0 (.int mm) H24.size ) (cwV 0 hts gX4_digest_Jx4a65c_size_8abf5 rfl rfl rfl (by decide +kernel) ⟨Nat.le_of_ble_eq_true rfl, Nat.le_of_ble_eq_true rfl⟩) ⟨zblind, (zrecv_4 hK hPc (q0 := 0) rfl), hpre⟩ rfl rfl hl.1 rfl (lv_room (Nat.le_of_ble_eq_true rfl)) dX4_digest_41 ⟨Nat.le_of_ble_eq_true rfl, Nat.le_of_ble_eq_true rfl⟩) hS (fun q _ h => hFc q h) hFc (fun r27 u t H26 locs ht hvm hw hB hz1 hk1 hS => ?_)
  obtain rfl : 0 = r27 := (show r27 = 0 from hw).symm
  obtain ⟨hP1, hK1, hD1, hz2⟩ := hB
  rw [ht] at hP1 hz2
  have hPD9 := va_join (wr := [(mo, .inr (9, [.int 0, .ref am, .int 0, .int 0, .int 0]))]) (w1 := [(am, .inr (4, [.int mm, .ref (zk 0), .int 0]))]) hP hD [1] [0] rfl rfl (by decide) (by decide) hk1 hFc hP1 hD1
  clear hPc hDc hFc hDv hpre hP hD hP1 hK1 hD1
  obtain ⟨hP, hD⟩ := hPD9
  replace hz : s.heap.size + 6 ≤ H26.size := by omega
  clear hz2
  replace hP : va_P (dC, dI) vwCl [(mo, .inr (9, [.int 0, .ref am, .int 0, .int 0, .int 0])), (am, .inr (4, [.int mm, .ref (zk 0), .int 0]))] H26 := hP
  replace hD : va_D A [(mo, .inr (9, [.int 0, .ref am, .int 0, .int 0, .int 0])), (am, .inr (4, [.int mm, .ref (zk 0), .int 0]))] := hD
  refine W.widen (k := 6) (n := 36) (by omega) (by omega) ?_
  refine lv_icmp_ge (tgt := 163) hx hb dX4_digest_44 (by decide) (fun c9 => ?_) (fun c9 => ?_)
  rotate_left
  · exact absurd (by decide) c9
  refine lv_iconst (v := 0) hx hb dX4_digest_163 (by decide) ?_
  refine lv_istore_n (lv' := [(3, .int 0), (1, .long 6903891134499), (0, .ref mo)]) hx hb dX4_digest_164 rfl hl (by decide) rfl (fun ls hl => ?_)
  refine lv_iload_n hx hb dX4_digest_165 rfl (lv_at hl 0 rfl) ?_
  refine lv_aload_n hx hb dX4_digest_166 rfl (lv_at hl 2 rfl) ?_
  refine va_get (D := (dC, dI)) (ci := 9) (v := .ref am) (C := RX4) (T := TX4) (N := 5) hx hb hts hi_X4_digest_X4 hown hK hP 0 rfl rfl 1 (by decide) (hts (.fieldLink RX4 10 "DeeprowsModel" "rows" "Ljava/util/ArrayList;") (List.mem_cons_of_mem _ zw_1128)) (fun _ h9 => h9) rfl dX4_digest_167 ?_
  have hPc := hP.sub (ws' := [(am, .inr (4, [.int mm, .ref (zk 0), .int 0]))]) [1] rfl
  have hDc := hD.sub (ws' := [(am, .inr (4, [.int mm, .ref (zk 0), .int 0]))]) [1] (by decide) rfl
  have hFc := va_free (wc := [(am, .inr (4, [.int mm, .ref (zk 0), .int 0]))]) hD hS hA [1] rfl
  have hDv := hDc.self (sz := H26.size)
  have hpre := zpre (xs' := []) (av := [.ref am]) hPc hK (hDc.weaken (fun _ _ _ h => h)) hZ hS hFc (fun r hr => by cases hr)
  refine va_calli (va_runV (As := []) (rest := [.int 0]) ⟨hx, hb, hml, hown, hts⟩ (k_size l dC dI cI cB cR cO zk am (zk 0) 0 (.int mm) H26.size ) (cwV 0 hts gX4_digest_Jx4a65c_size_8abf5 rfl rfl rfl (by decide +kernel) ⟨Nat.le_of_ble_eq_true rfl, Nat.le_of_ble_eq_true rfl⟩) ⟨zblind, (zrecv_4 hK hPc (q0 := 0) rfl), hpre⟩ rfl rfl hl.1 rfl (lv_room (Nat.le_of_ble_eq_true rfl)) dX4_digest_170 ⟨Nat.le_of_ble_eq_true rfl, Nat.le_of_ble_eq_true rfl⟩) hS (fun q _ h => hFc q h) hFc (fun r29 u t H28 locs ht hvm hw hB hz1 hk1 hS => ?_)
  obtain rfl : 0 = r29 := (show r29 = 0 from hw).symm
  obtain ⟨hP1, hK1, hD1, hz2⟩ := hB
  rw [ht] at hP1 hz2
  have hPD9 := va_join (wr := [(mo, .inr (9, [.int 0, .ref am, .int 0, .int 0, .int 0]))]) (w1 := [(am, .inr (4, [.int mm, .ref (zk 0), .int 0]))]) hP hD [1] [0] rfl rfl (by decide) (by decide) hk1 hFc hP1 hD1
  clear hPc hDc hFc hDv hpre hP hD hP1 hK1 hD1
  obtain ⟨hP, hD⟩ := hPD9
  replace hz : s.heap.size + 6 ≤ H28.size := by omega
  clear hz2
  replace hP : va_P (dC, dI) vwCl [(mo, .inr (9, [.int 0, .ref am, .int 0, .int 0, .int 0])), (am, .inr (4, [.int mm, .ref (zk 0), .int 0]))] H28 := hP
  replace hD : va_D A [(mo, .inr (9, [.int 0, .ref am, .int 0, .int 0, .int 0])), (am, .inr (4, [.int mm, .ref (zk 0), .int 0]))] := hD
  refine W.widen (k := 6) (n := 36) (by omega) (by omega) ?_
  refine lv_icmp_ge (tgt := 221) hx hb dX4_digest_173 (by decide) (fun c9 => ?_) (fun c9 => ?_)
  rotate_left
  · exact absurd (by decide) c9
  refine lv_lload_n hx hb dX4_digest_221 rfl (lv_at hl 1 rfl) ?_
  refine lv_lconst (v := 1) hx hb dX4_digest_222 (by decide) ?_
  have hPc := hP.sub (ws' := []) [] rfl
  have hDc := hD.sub (ws' := []) [] (by decide) rfl
  have hFc := va_free (wc := []) hD hS hA [] rfl
  have hDv := hDc.self (sz := H28.size)
  have hpre := zpre (xs' := []) (av := [.long 6903891134499, .long 1]) hPc hK (hDc.weaken (fun _ _ _ h => h)) hZ hS hFc (fun r hr => by cases hr)
  refine va_calll (va_runS (As := [.long 6903891134499, .long 1]) (rest := []) ⟨hx, hb, hml, hown, hts⟩ (k_add_6 l dC dI cI cB cR cO zk  H28.size ) (va_cwS 2 hts gX4_digest_X4_add rfl rfl rfl (by decide +kernel) ⟨Nat.le_of_ble_eq_true rfl, Nat.le_of_ble_eq_true rfl⟩) ⟨zblind, hpre⟩ rfl rfl hl.1 rfl (lv_room (Nat.le_of_ble_eq_true rfl)) dX4_digest_223 ⟨Nat.le_of_ble_eq_true rfl, Nat.le_of_ble_eq_true rfl⟩) hS (fun q _ h => hFc q h) hFc (fun r31 u t H30 locs ht hvm hw hB hz1 hk1 hS => ?_)
  obtain rfl : 214020625169470 = r31 := (show r31 = 214020625169470 from hw).symm
  obtain ⟨hP1, hK1, hD1, hz2⟩ := hB
  rw [ht] at hP1 hz2
  have hPD9 := va_join (wr := [(mo, .inr (9, [.int 0, .ref am, .int 0, .int 0, .int 0])), (am, .inr (4, [.int mm, .ref (zk 0), .int 0]))]) (w1 := []) hP hD [] [0, 1] rfl rfl (by decide) (by decide) hk1 hFc hP1 hD1
  clear hPc hDc hFc hDv hpre hP hD hP1 hK1 hD1
  obtain ⟨hP, hD⟩ := hPD9
  replace hz : s.heap.size + 6 ≤ H30.size := by omega
  clear hz2
  replace hP : va_P (dC, dI) vwCl [(mo, .inr (9, [.int 0, .ref am, .int 0, .int 0, .int 0])), (am, .inr (4, [.int mm, .ref (zk 0), .int 0]))] H30 := hP
  replace hD : va_D A [(mo, .inr (9, [.int 0, .ref am, .int 0, .int 0, .int 0])), (am, .inr (4, [.int mm, .ref (zk 0), .int 0]))] := hD
  refine W.widen (k := 6) (n := 36) (by omega) (by omega) ?_
  have hP9 := hP.sub (ws' := [(mo, .inr (9, [.int 0, .ref am, .int 0, .int 0, .int 0])), (am, .inr (4, [.int mm, .ref (zk 0), .int 0]))]) [0, 1] rfl
  have hD9 := hD.sub (ws' := [(mo, .inr (9, [.int 0, .ref am, .int 0, .int 0, .int 0])), (am, .inr (4, [.int mm, .ref (zk 0), .int 0]))]) [0, 1] (by decide) rfl
  exact W.lret (v := 214020625169470) hx hb hr (fun t ht hW => ⟨⟨_, (), rfl, rfl, ⟨by rw [ht]; exact hP9, va_K.moved hW.alike hK, hD9, by rw [ht]; exact hz⟩⟩, hS.F ht⟩) hS.2.2 dX4_digest_226
