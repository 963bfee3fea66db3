set_option maxHeartbeats 4000000 in
set_option maxRecDepth 100000 in
theorem k_rqL (l : Launch) (dC : Nat → ClassId) (dI : Nat → Nat → Nat) (cI cB cR cO : ClassId) (zk : Nat → Nat)  (sz : Nat)  : Met l yX1_requireLength wsX1_requireLength ({ frames := 0, cells := 0, slots := 0, locals := 0 }) (va_Pc [.int 4] (zPre (dC, dI) (zT cI cB cR cO) zk [] [] sz)) (va_Qv (fun _ : Unit => True) (fun _ t => zEnd (dC, dI) (zT cI cB cR cO) (va_A [] sz) [] sz 0 t) (va_A [] sz)) 0 0 (va_A [] sz) := by
  refine Met.ofW (cc := cX1_requireLength) (maxL := 1) (ret := none) (by decide) rfl ?_
  intro p e s mY args below meth c s₁ B hml hv
  obtain ⟨rfl, hsz, hP, hK, hD0, hZ⟩ := hv
  have hx := B.exec
  have hb := B.bytes
  have hr := B.returns
  have hts := atoms_spec (ws := wsX1_requireLength) B.pre
  have hown : s.vm.findClass RX1 = some mY.cls := findClass_of_methodNamed B.named
  have hlocks := B.notSynchronized
  subst hsz
  have hD := hD0.self (sz := s.heap.size)
  generalize hAe : va_A [] s.heap.size = A at hD hZ ⊢
  have hA : ∀ q : Nat, s.heap.size ≤ q → A q := fun q h => by rw [← hAe]; exact Or.inr h
  have hS : va_S A s.heap s.heap [] := va_S.rf
  have hz : s.heap.size + 0 ≤ s.heap.size := Nat.le_refl _
  have hl := lv_entry ([.int 4]) (n := 1) (Nat.le_of_ble_eq_true rfl)
  rw [lg_entry_eq]
  generalize (lg_sl ([.int 4]) ++ List.replicate (1 - (lg_sl ([.int 4])).length) Slot.unset).toArray = ls at hl ⊢
  have hl : lv_has ls 1 [(0, .int 4)] := hl
  have hP : va_P (dC, dI) vwCl [] s.heap := hP
  have hD : va_D A [] := hD
  refine lv_iload_n hx hb dX1_requireLength_0 rfl (lv_at hl 0 rfl) ?_
  refine lv_if_lt (tgt := 9) hx hb dX1_requireLength_1 (by decide) (fun c9 => ?_) (fun c9 => ?_)
  · exact absurd c9 (by decide)
  refine lv_iload_n hx hb dX1_requireLength_4 rfl (lv_at hl 0 rfl) ?_
  refine lv_iconst (v := 4) hx hb dX1_requireLength_5 (by decide) ?_
  refine lv_icmp_le (tgt := 20) hx hb dX1_requireLength_6 (by decide) (fun c9 => ?_) (fun c9 => ?_)
  rotate_left
  · exact absurd (by decide) c9
  have hP9 := hP.sub (ws' := []) [] rfl
  have hD9 := hD.sub (ws' := []) [] (by decide) rfl
  exact W.vret hx hb hr (fun t ht hW => ⟨⟨(), rfl, trivial, ⟨by rw [ht]; exact hP9, va_K.moved hW.alike hK, hD9, by rw [ht]; exact hz⟩⟩, hS.F ht⟩) hS.2.2 dX1_requireLength_20

theorem hi_X1_requireRoom_X1 : ∀ w ∈ u_ws RX1 TX1 8, w ∈ wsX1_requireRoom := fun w h => List.mem_cons_of_mem _ (zhi_X1 w h)
set_option maxHeartbeats 4000000 in
set_option maxRecDepth 100000 in
theorem k_rqR0 (l : Launch) (dC : Nat → ClassId) (dI : Nat → Nat → Nat) (cI cB cR cO : ClassId) (zk : Nat → Nat) (xo al b1 : Nat) (x1 x2 x3 x4 x5 x7 : Value) (ed : Nat) (mc : Int32) (sz : Nat)  : Met l yX1_requireRoom wsX1_requireRoom ({ frames := 1, cells := 0, slots := 0, locals := 20 }) (va_Pc [.ref xo, .int 1] (zPre (dC, dI) (zT cI cB cR cO) zk [] [(xo, .inr (6, [.ref al, x1, x2, x3, x4, x5, .ref b1, x7])), (al, .inr (4, [.int mc, .ref (zk 0), .int 0]))] sz)) (va_Qv (fun _ : Unit => True) (fun _ t => zEnd (dC, dI) (zT cI cB cR cO) (va_A [(xo, .inr (6, [.ref al, x1, x2, x3, x4, x5, .ref b1, x7])), (al, .inr (4, [.int mc, .ref (zk 0), .int 0]))] sz) [(xo, .inr (6, [.ref al, x1, x2, x3, x4, x5, .ref b1, x7])), (al, .inr (4, [.int mc, .ref (zk 0), .int 0]))] sz 0 t) (va_A [(xo, .inr (6, [.ref al, x1, x2, x3, x4, x5, .ref b1, x7])), (al, .inr (4, [.int mc, .ref (zk 0), .int 0]))] sz)) 0 0 (va_A [(xo, .inr (6, [.ref al, x1, x2, x3, x4, x5, .ref b1, x7])), (al, .inr (4, [.int mc, .ref (zk 0), .int 0]))] sz) := by
  refine Met.ofW (cc := cX1_requireRoom) (maxL := 2) (ret := none) (by decide) rfl ?_
  intro p e s mY args below meth c s₁ B hml hv
  obtain ⟨rfl, hsz, hP, hK, hD0, hZ⟩ := hv
  have hx := B.exec
  have hb := B.bytes
  have hr := B.returns
  have hts := atoms_spec (ws := wsX1_requireRoom) B.pre
  have hown : s.vm.findClass RX1 = some mY.cls := findClass_of_methodNamed B.named
  have hlocks := B.notSynchronized
  subst hsz
  have hD := hD0.self (sz := s.heap.size)
  generalize hAe : va_A [(xo, .inr (6, [.ref al, x1, x2, x3, x4, x5, .ref b1, x7])), (al, .inr (4, [.int mc, .ref (zk 0), .int 0]))] s.heap.size = A at hD hZ ⊢
  have hA : ∀ q : Nat, s.heap.size ≤ q → A q := fun q h => by rw [← hAe]; exact Or.inr h
  have hS : va_S A s.heap s.heap [] := va_S.rf
  have hz : s.heap.size + 0 ≤ s.heap.size := Nat.le_refl _
  have hl := lv_entry ([.ref xo, .int 1]) (n := 2) (Nat.le_of_ble_eq_true rfl)
  rw [lg_entry_eq]
  generalize (lg_sl ([.ref xo, .int 1]) ++ List.replicate (2 - (lg_sl ([.ref xo, .int 1])).length) Slot.unset).toArray = ls at hl ⊢
  have hl : lv_has ls 2 [(0, .ref xo), (1, .int 1)] := hl
  have hP : va_P (dC, dI) vwCl [(xo, .inr (6, [.ref al, x1, x2, x3, x4, x5, .ref b1, x7])), (al, .inr (4, [.int mc, .ref (zk 0), .int 0]))] s.heap := hP
  have hD : va_D A [(xo, .inr (6, [.ref al, x1, x2, x3, x4, x5, .ref b1, x7])), (al, .inr (4, [.int mc, .ref (zk 0), .int 0]))] := hD
  refine lv_aload_n hx hb dX1_requireRoom_0 rfl (lv_at hl 0 rfl) ?_
  refine va_get (D := (dC, dI)) (ci := 6) (v := .ref al) (C := RX1) (T := TX1) (N := 8) hx hb hts hi_X1_requireRoom_X1 hown hK hP 0 rfl rfl 0 (by decide) (hts (.fieldLink RX1 12 "Deeprows" "rows" "Ljava/util/ArrayList;") (List.mem_cons_of_mem _ zw_171)) (fun _ h9 => h9) rfl dX1_requireRoom_1 ?_
  have hPc := hP.sub (ws' := [(al, .inr (4, [.int mc, .ref (zk 0), .int 0]))]) [1] rfl
  have hDc := hD.sub (ws' := [(al, .inr (4, [.int mc, .ref (zk 0), .int 0]))]) [1] (by decide) rfl
  have hFc := va_free (wc := [(al, .inr (4, [.int mc, .ref (zk 0), .int 0]))]) hD hS hA [1] rfl
  have hDv := hDc.self (sz := s.heap.size)
  have hpre := zpre (xs' := []) (av := [.ref al]) hPc hK (hDc.weaken (fun _ _ _ h => h)) hZ hS hFc (fun r hr => by cases hr)
  refine va_calli (va_runV (As := []) (rest := []) ⟨hx, hb, hml, hown, hts⟩ (k_size l dC dI cI cB cR cO zk al (zk 0) 0 (.int mc) s.heap.size ) (cwV 0 hts gX1_requireRoom_Jx4a65c_size_8abf5 rfl rfl rfl (by decide +kernel) ⟨Nat.le_of_ble_eq_true rfl, Nat.le_of_ble_eq_true rfl⟩) ⟨zblind, (zrecv_4 hK hPc (q0 := 0) rfl), hpre⟩ rfl rfl hl.1 rfl (lv_room (Nat.le_of_ble_eq_true rfl)) dX1_requireRoom_4 ⟨Nat.le_of_ble_eq_true rfl, Nat.le_of_ble_eq_true rfl⟩) hS (fun q _ h => hFc q h) hFc (fun r2 u t H1 locs ht hvm hw hB hz1 hk1 hS => ?_)
  obtain rfl : 0 = r2 := (show r2 = 0 from hw).symm
  obtain ⟨hP1, hK1, hD1, hz2⟩ := hB
  rw [ht] at hP1 hz2
  have hPD9 := va_join (wr := [(xo, .inr (6, [.ref al, x1, x2, x3, x4, x5, .ref b1, x7]))]) (w1 := [(al, .inr (4, [.int mc, .ref (zk 0), .int 0]))]) hP hD [1] [0] rfl rfl (by decide) (by decide) hk1 hFc hP1 hD1
  clear hPc hDc hFc hDv hpre hP hD hP1 hK1 hD1
  obtain ⟨hP, hD⟩ := hPD9
  replace hz : s.heap.size + 0 ≤ H1.size := by omega
  clear hz2
  replace hP : va_P (dC, dI) vwCl [(xo, .inr (6, [.ref al, x1, x2, x3, x4, x5, .ref b1, x7])), (al, .inr (4, [.int mc, .ref (zk 0), .int 0]))] H1 := hP
  replace hD : va_D A [(xo, .inr (6, [.ref al, x1, x2, x3, x4, x5, .ref b1, x7])), (al, .inr (4, [.int mc, .ref (zk 0), .int 0]))] := hD
  refine W.widen (k := 0) (n := 0) (by omega) (by omega) ?_
  refine lv_iload_n hx hb dX1_requireRoom_7 rfl (lv_at hl 1 rfl) ?_
  refine lv_iadd hx hb dX1_requireRoom_8 ?_
  refine lv_topi (fun v3 ev3 => ?_)
  obtain rfl : v3 = 1 := ev3.trans (by decide)
  refine lv_bipush (v := 12) hx hb dX1_requireRoom_9 (by decide) ?_
  refine lv_icmp_le (tgt := 25) hx hb dX1_requireRoom_11 (by decide) (fun c9 => ?_) (fun c9 => ?_)
  rotate_left
  · exact absurd (by decide) c9
  have hP9 := hP.sub (ws' := [(xo, .inr (6, [.ref al, x1, x2, x3, x4, x5, .ref b1, x7])), (al, .inr (4, [.int mc, .ref (zk 0), .int 0]))]) [0, 1] rfl
  have hD9 := hD.sub (ws' := [(xo, .inr (6, [.ref al, x1, x2, x3, x4, x5, .ref b1, x7])), (al, .inr (4, [.int mc, .ref (zk 0), .int 0]))]) [0, 1] (by decide) rfl
  exact W.vret hx hb hr (fun t ht hW => ⟨⟨(), rfl, trivial, ⟨by rw [ht]; exact hP9, va_K.moved hW.alike hK, hD9, by rw [ht]; exact hz⟩⟩, hS.F ht⟩) hS.2.2 dX1_requireRoom_25

theorem hi_X1_addRow_X1 : ∀ w ∈ u_ws RX1 TX1 8, w ∈ wsX1_addRow := fun w h => List.mem_cons_of_mem _ (zhi_X1 w h)
theorem hi_X1_addRow_X0 : ∀ w ∈ u_ws RX0 TX0 6, w ∈ wsX1_addRow := fun w h => List.mem_cons_of_mem _ (zhi_X0 w h)
set_option maxHeartbeats 4000000 in
set_option maxRecDepth 100000 in
theorem k_adR0 (l : Launch) (dC : Nat → ClassId) (dI : Nat → Nat → Nat) (cI cB cR cO : ClassId) (zk : Nat → Nat) (xo al b1 : Nat) (x1 x2 x3 x4 x5 x7 : Value) (ed el e1 e2 e3 : Nat) (ee : Nat → Option Nat) (mc : Int32) (sz : Nat)  : Met l yX1_addRow wsX1_addRow ({ frames := 5, cells := 1, slots := 10, locals := 127 }) (va_Pc [.ref xo, .ref el] (zPre (dC, dI) (zT cI cB cR cO) zk [] [(xo, .inr (6, [.ref al, x1, x2, x3, x4, x5, .ref b1, x7])), (al, .inr (4, [.int mc, .ref (zk 0), .int 0])), (el, .inr (5, [.int 4, .int 4, .ref e1, .ref e2, .ref e3, .int 0]))] sz)) (va_Qr (fun _ : Unit => True) (fun _ ra t => ∃ ed2, ∃ (mc2 : Int32), zEnd (dC, dI) (zT cI cB cR cO) (va_A [(xo, .inr (6, [.ref al, x1, x2, x3, x4, x5, .ref b1, x7])), (al, .inr (4, [.int mc, .ref (zk 0), .int 0])), (el, .inr (5, [.int 4, .int 4, .ref e1, .ref e2, .ref e3, .int 0]))] sz) [(xo, .inr (6, [.ref al, x1, x2, x3, x4, x5, .ref b1, x7])), (al, .inr (4, [.int mc2, .ref ed2, .int 1])), (ed2, .inl (cO, 10, .inr (.inr (.inr (.inr (va_up (fun _ => none) 0 (some el))))))), (el, .inr (5, [.int 4, .int 4, .ref e1, .ref e2, .ref e3, .int 0]))] sz 1 t ∧ ra = el) (va_A [(xo, .inr (6, [.ref al, x1, x2, x3, x4, x5, .ref b1, x7])), (al, .inr (4, [.int mc, .ref (zk 0), .int 0])), (el, .inr (5, [.int 4, .int 4, .ref e1, .ref e2, .ref e3, .int 0]))] sz)) 1 10 (va_A [(xo, .inr (6, [.ref al, x1, x2, x3, x4, x5, .ref b1, x7])), (al, .inr (4, [.int mc, .ref (zk 0), .int 0])), (el, .inr (5, [.int 4, .int 4, .ref e1, .ref e2, .ref e3, .int 0]))] sz) := by
  refine Met.ofW (cc := cX1_addRow) (maxL := 2) (ret := (some (.object "Deeprows$Row"))) (by decide) rfl ?_
  intro p e s mY args below meth c s₁ B hml hv
  obtain ⟨rfl, hsz, hP, hK, hD0, hZ⟩ := hv
  have hx := B.exec
  have hb := B.bytes
  have hr := B.returns
  have hts := atoms_spec (ws := wsX1_addRow) B.pre
  have hown : s.vm.findClass RX1 = some mY.cls := findClass_of_methodNamed B.named
  have hlocks := B.notSynchronized
  subst hsz
  have hD := hD0.self (sz := s.heap.size)
  generalize hAe : va_A [(xo, .inr (6, [.ref al, x1, x2, x3, x4, x5, .ref b1, x7])), (al, .inr (4, [.int mc, .ref (zk 0), .int 0])), (el, .inr (5, [.int 4, .int 4, .ref e1, .ref e2, .ref e3, .int 0]))] s.heap.size = A at hD hZ ⊢
  have hA : ∀ q : Nat, s.heap.size ≤ q → A q := fun q h => by rw [← hAe]; exact Or.inr h
  have hS : va_S A s.heap s.heap [] := va_S.rf
  have hz : s.heap.size + 0 ≤ s.heap.size := Nat.le_refl _
  have hl := lv_entry ([.ref xo, .ref el]) (n := 2) (Nat.le_of_ble_eq_true rfl)
  rw [lg_entry_eq]
  generalize (lg_sl ([.ref xo, .ref el]) ++ List.replicate (2 - (lg_sl ([.ref xo, .ref el])).length) Slot.unset).toArray = ls at hl ⊢
  have hl : lv_has ls 2 [(0, .ref xo), (1, .ref el)] := hl
  have hP : va_P (dC, dI) vwCl [(xo, .inr (6, [.ref al, x1, x2, x3, x4, x5, .ref b1, x7])), (al, .inr (4, [.int mc, .ref (zk 0), .int 0])), (el, .inr (5, [.int 4, .int 4, .ref e1, .ref e2, .ref e3, .int 0]))] s.heap := hP
  have hD : va_D A [(xo, .inr (6, [.ref al, x1, x2, x3, x4, x5, .ref b1, x7])), (al, .inr (4, [.int mc, .ref (zk 0), .int 0])), (el, .inr (5, [.int 4, .int 4, .ref e1, .ref e2, .ref e3, .int 0]))] := hD
  refine lv_aload_n hx hb dX1_addRow_0 rfl (lv_at hl 1 rfl) ?_
  refine lv_aload_n hx hb dX1_addRow_1 rfl (lv_at hl 0 rfl) ?_
  refine va_get (D := (dC, dI)) (ci := 6) (v := .ref al) (C := RX1) (T := TX1) (N := 8) hx hb hts hi_X1_addRow_X1 hown hK hP 0 rfl rfl 0 (by decide) (hts (.fieldLink RX1 12 "Deeprows" "rows" "Ljava/util/ArrayList;") (List.mem_cons_of_mem _ zw_171)) (fun _ h9 => h9) rfl dX1_addRow_2 ?_
  have hPc := hP.sub (ws' := [(al, .inr (4, [.int mc, .ref (zk 0), .int 0]))]) [1] rfl
  have hDc := hD.sub (ws' := [(al, .inr (4, [.int mc, .ref (zk 0), .int 0]))]) [1] (by decide) rfl
  have hFc := va_free (wc := [(al, .inr (4, [.int mc, .ref (zk 0), .int 0]))]) hD hS hA [1] rfl
  have hDv := hDc.self (sz := s.heap.size)
  have hpre := zpre (xs' := []) (av := [.ref al]) hPc hK (hDc.weaken (fun _ _ _ h => h)) hZ hS hFc (fun r hr => by cases hr)
  refine va_calli (va_runV (As := []) (rest := [.ref el]) ⟨hx, hb, hml, hown, hts⟩ (k_size l dC dI cI cB cR cO zk al (zk 0) 0 (.int mc) s.heap.size ) (cwV 0 hts gX1_addRow_Jx4a65c_size_8abf5 rfl rfl rfl (by decide +kernel) ⟨Nat.le_of_ble_eq_true rfl, Nat.le_of_ble_eq_true rfl⟩) ⟨zblind, (zrecv_4 hK hPc (q0 := 0) rfl), hpre⟩ rfl rfl hl.1 rfl (lv_room (Nat.le_of_ble_eq_true rfl)) dX1_addRow_5 ⟨Nat.le_of_ble_eq_true rfl, Nat.le_of_ble_eq_true rfl⟩) hS (fun q _ h => hFc q h) hFc (fun r2 u t H1 locs ht hvm hw hB hz1 hk1 hS => ?_)
  obtain rfl : 0 = r2 := (show r2 = 0 from hw).symm
  obtain ⟨hP1, hK1, hD1, hz2⟩ := hB
  rw [ht] at hP1 hz2
  have hPD9 := va_join (wr := [(xo, .inr (6, [.ref al, x1, x2, x3, x4, x5, .ref b1, x7])), (el, .inr (5, [.int 4, .int 4, .ref e1, .ref e2, .ref e3, .int 0]))]) (w1 := [(al, .inr (4, [.int mc, .ref (zk 0), .int 0]))]) hP hD [1] [0, 2] rfl rfl (by decide) (by decide) hk1 hFc hP1 hD1
  clear hPc hDc hFc hDv hpre hP hD hP1 hK1 hD1
  obtain ⟨hP, hD⟩ := hPD9
  replace hz : s.heap.size + 0 ≤ H1.size := by omega
  clear hz2
  replace hP : va_P (dC, dI) vwCl [(xo, .inr (6, [.ref al, x1, x2, x3, x4, x5, .ref b1, x7])), (el, .inr (5, [.int 4, .int 4, .ref e1, .ref e2, .ref e3, .int 0])), (al, .inr (4, [.int mc, .ref (zk 0), .int 0]))] H1 := hP
  replace hD : va_D A [(xo, .inr (6, [.ref al, x1, x2, x3, x4, x5, .ref b1, x7])), (el, .inr (5, [.int 4, .int 4, .ref e1, .ref e2, .ref e3, .int 0])), (al, .inr (4, [.int mc, .ref (zk 0), .int 0]))] := hD
  refine W.widen (k := 0) (n := 0) (by omega) (by omega) ?_
  refine va_putN (D := (dC, dI)) (ci := 5) (v := .int 0) (ty := .int) (C := RX0) (T := TX0) (N := 6) hx hb hts hi_X1_addRow_X0 tyX0 tyX0_ok nmX0 hown hK hP hD (zS0 hS) 1 rfl rfl 5 (by decide) (zn5 hZ) (fun _ h9 => h9) rfl (by decide +kernel) rfl rfl (Nat.le_of_ble_eq_true rfl) dX1_addRow_8 (fun H3 locs hP hD hS1 => ?_)
  have hz : s.heap.size + 0 ≤ H3.size := Nat.le_trans hz hS1.1
  have hS := zSS hS hS1
  replace hP : va_P (dC, dI) vwCl [(xo, .inr (6, [.ref al, x1, x2, x3, x4, x5, .ref b1, x7])), (el, .inr (5, [.int 4, .int 4, .ref e1, .ref e2, .ref e3, .int 0])), (al, .inr (4, [.int mc, .ref (zk 0), .int 0]))] H3 := hP
  replace hD : va_D A [(xo, .inr (6, [.ref al, x1, x2, x3, x4, x5, .ref b1, x7])), (el, .inr (5, [.int 4, .int 4, .ref e1, .ref e2, .ref e3, .int 0])), (al, .inr (4, [.int mc, .ref (zk 0), .int 0]))] := hD
  refine lv_aload_n hx hb dX1_addRow_11 rfl (lv_at hl 0 rfl) ?_
  refine va_get (D := (dC, dI)) (ci := 6) (v := .ref al) (C := RX1) (T := TX1) (N := 8) hx hb hts hi_X1_addRow_X1 hown hK hP 0 rfl rfl 0 (by decide) (hts (.fieldLink RX1 12 "Deeprows" "rows" "Ljava/util/ArrayList;") (List.mem_cons_of_mem _ zw_171)) (fun _ h9 => h9) rfl dX1_addRow_12 ?_
  refine lv_aload_n hx hb dX1_addRow_15 rfl (lv_at hl 1 rfl) ?_
  have hPc := hP.sub (ws' := [(al, .inr (4, [.int mc, .ref (zk 0), .int 0])), (el, .inr (5, [.int 4, .int 4, .ref e1, .ref e2, .ref e3, .int 0]))]) [2, 1] rfl
  have hDc := hD.sub (ws' := [(al, .inr (4, [.int mc, .ref (zk 0), .int 0])), (el, .inr (5, [.int 4, .int 4, .ref e1, .ref e2, .ref e3, .int 0]))]) [2, 1] (by decide) rfl
  have hFc := va_free (wc := [(al, .inr (4, [.int mc, .ref (zk 0), .int 0])), (el, .inr (5, [.int 4, .int 4, .ref e1, .ref e2, .ref e3, .int 0]))]) hD hS hA [2, 1] rfl
  have hDv := hDc.self (sz := H3.size)
  have hpre := zpre (xs' := []) (av := [.ref al, .ref el]) hPc hK (hDc.weaken (fun _ _ _ h => h)) hZ hS hFc (fun r hr => by cases hr)
  refine va_calli (va_runV (As := [.ref el]) (rest := []) ⟨hx, hb, hml, hown, hts⟩ (k_addAX0 l dC dI cI cB cR cO zk al el mc e1 e2 e3 0 H3.size ) (cwV 1 hts gX1_addRow_Jx4a65c_add_9ea2d rfl rfl rfl (by decide +kernel) ⟨Nat.le_of_ble_eq_true rfl, Nat.le_of_ble_eq_true rfl⟩) ⟨zblind, (zrecv_4 hK hPc (q0 := 0) rfl), hpre⟩ rfl rfl hl.1 rfl (lv_room (Nat.le_of_ble_eq_true rfl)) dX1_addRow_16 ⟨Nat.le_of_ble_eq_true rfl, Nat.le_of_ble_eq_true rfl⟩) hS (fun q _ h => hFc q h) hFc (fun r5 u t H4 locs ht hvm hw hB hz1 hk1 hS => ?_)
  obtain rfl : 1 = r5 := (show r5 = 1 from hw).symm
  obtain ⟨ed6, mc7, ⟨hP1, hK1, hD1, hz2⟩⟩ := hB
  rw [ht] at hP1 hz2
  have hPD9 := va_join (wr := [(xo, .inr (6, [.ref al, x1, x2, x3, x4, x5, .ref b1, x7]))]) (w1 := [(al, .inr (4, [.int mc7, .ref ed6, .int 1])), (ed6, .inl (cO, 10, .inr (.inr (.inr (.inr (va_up (fun _ => none) 0 (some el))))))), (el, .inr (5, [.int 4, .int 4, .ref e1, .ref e2, .ref e3, .int 0]))]) hP hD [2, 1] [0] rfl rfl (by decide) (by decide) hk1 hFc hP1 hD1
  clear hPc hDc hFc hDv hpre hP hD hP1 hK1 hD1
  obtain ⟨hP, hD⟩ := hPD9
  replace hz : s.heap.size + 1 ≤ H4.size := by omega
  clear hz2
  replace hP : va_P (dC, dI) vwCl [(xo, .inr (6, [.ref al, x1, x2, x3, x4, x5, .ref b1, x7])), (al, .inr (4, [.int mc7, .ref ed6, .int 1])), (ed6, .inl (cO, 10, .inr (.inr (.inr (.inr (va_up (fun _ => none) 0 (some el))))))), (el, .inr (5, [.int 4, .int 4, .ref e1, .ref e2, .ref e3, .int 0]))] H4 := hP
  replace hD : va_D A [(xo, .inr (6, [.ref al, x1, x2, x3, x4, x5, .ref b1, x7])), (al, .inr (4, [.int mc7, .ref ed6, .int 1])), (ed6, .inl (cO, 10, .inr (.inr (.inr (.inr (va_up (fun _ => none) 0 (some el))))))), (el, .inr (5, [.int 4, .int 4, .ref e1, .ref e2, .ref e3, .int 0]))] := hD
  refine W.widen (k := 1) (n := 10) (by omega) (by omega) ?_
  refine lv_pop hx hb dX1_addRow_19 rfl ?_
  refine lv_aload_n hx hb dX1_addRow_20 rfl (lv_at hl 1 rfl) ?_
  have hP9 := hP.sub (ws' := [(xo, .inr (6, [.ref al, x1, x2, x3, x4, x5, .ref b1, x7])), (al, .inr (4, [.int mc7, .ref ed6, .int 1])), (ed6, .inl (cO, 10, .inr (.inr (.inr (.inr (va_up (fun _ => none) 0 (some el))))))), (el, .inr (5, [.int 4, .int 4, .ref e1, .ref e2, .ref e3, .int 0]))]) [0, 1, 2, 3] rfl
  have hD9 := hD.sub (ws' := [(xo, .inr (6, [.ref al, x1, x2, x3, x4, x5, .ref b1, x7])), (al, .inr (4, [.int mc7, .ref ed6, .int 1])), (ed6, .inl (cO, 10, .inr (.inr (.inr (.inr (va_up (fun _ => none) 0 (some el))))))), (el, .inr (5, [.int 4, .int 4, .ref e1, .ref e2, .ref e3, .int 0]))]) [0, 1, 2, 3] (by decide) rfl
  exact W.aret hx hb hr (by first | exact Or.inl ⟨_, rfl⟩ | exact Or.inr ⟨_, rfl⟩) (Or.inr ⟨_, rfl⟩) (fun t ht hW => ⟨⟨(), _, rfl, trivial, ⟨_, _, ⟨by rw [ht]; exact hP9, va_K.moved hW.alike hK, hD9, by rw [ht]; exact hz⟩, rfl⟩⟩, hS.F ht⟩) hS.2.2 dX1_addRow_21

theorem hi_X1_make_X0 : ∀ w ∈ u_ws RX0 TX0 6, w ∈ wsX1_make := fun w h => List.mem_cons_of_mem _ (zhi_X0 w h)
set_option maxHeartbeats 4000000 in
set_option maxRecDepth 100000 in
theorem k_mkX0 (l : Launch) (dC : Nat → ClassId) (dI : Nat → Nat → Nat) (cI cB cR cO : ClassId) (zk : Nat → Nat) (xo al b1 : Nat) (x1 x2 x3 x4 x5 x7 : Value) (ed : Nat) (ee : Nat → Option Nat) (mc : Int32) (sz : Nat)  : Met l yX1_make wsX1_make ({ frames := 6, cells := 5, slots := 28, locals := 148 }) (va_Pc [.ref xo, .int 4, .int 4] (zPre (dC, dI) (zT cI cB cR cO) zk [] [(xo, .inr (6, [.ref al, x1, x2, x3, x4, x5, .ref b1, x7])), (al, .inr (4, [.int mc, .ref (zk 0), .int 0]))] sz)) (va_Qi (fun r (_ : Unit) => True) (fun _ t => ∃ ed2, ∃ (mc2 : Int32), ∃ y, ∃ yw, ∃ yv, ∃ yh, ∃ (gw : Nat → Int32), ∃ (gv : Nat → Int32), ∃ (gh : Nat → Option Nat), zEnd (dC, dI) (zT cI cB cR cO) (va_A [(xo, .inr (6, [.ref al, x1, x2, x3, x4, x5, .ref b1, x7])), (al, .inr (4, [.int mc, .ref (zk 0), .int 0]))] sz) [(xo, .inr (6, [.ref al, x1, x2, x3, x4, x5, .ref b1, x7])), (al, .inr (4, [.int mc2, .ref ed2, .int 1])), (ed2, .inl (cO, 10, .inr (.inr (.inr (.inr (va_up (fun _ => none) 0 (some y))))))), (y, .inr (5, [.int 4, .int 4, .ref yw, .ref yv, .ref yh, .int 0])), (yw, .inl (cI, 4, .inl gw)), (yv, .inl (cI, 4, .inl gv)), (yh, .inl (cR, 4, .inr (.inr (.inr (.inr gh)))))] sz 5 t ∧ (∀ i, i < 4 → gw i = 0) ∧ (∀ i, i < 4 → gh i = none)) (va_A [(xo, .inr (6, [.ref al, x1, x2, x3, x4, x5, .ref b1, x7])), (al, .inr (4, [.int mc, .ref (zk 0), .int 0]))] sz)) 5 28 (va_A [(xo, .inr (6, [.ref al, x1, x2, x3, x4, x5, .ref b1, x7])), (al, .inr (4, [.int mc, .ref (zk 0), .int 0]))] sz) := by
  refine Met.ofW (cc := cX1_make) (maxL := 3) (ret := (some .int)) (by decide) rfl ?_
  intro p e s mY args below meth c s₁ B hml hv
  obtain ⟨rfl, hsz, hP, hK, hD0, hZ⟩ := hv
  have hx := B.exec
  have hb := B.bytes
  have hr := B.returns
  have hts := atoms_spec (ws := wsX1_make) B.pre
  have hown : s.vm.findClass RX1 = some mY.cls := findClass_of_methodNamed B.named
  have hlocks := B.notSynchronized
  subst hsz
  have hD := hD0.self (sz := s.heap.size)
  generalize hAe : va_A [(xo, .inr (6, [.ref al, x1, x2, x3, x4, x5, .ref b1, x7])), (al, .inr (4, [.int mc, .ref (zk 0), .int 0]))] s.heap.size = A at hD hZ ⊢
  have hA : ∀ q : Nat, s.heap.size ≤ q → A q := fun q h => by rw [← hAe]; exact Or.inr h
  have hS : va_S A s.heap s.heap [] := va_S.rf
  have hz : s.heap.size + 0 ≤ s.heap.size := Nat.le_refl _
  have hl := lv_entry ([.ref xo, .int 4, .int 4]) (n := 3) (Nat.le_of_ble_eq_true rfl)
  rw [lg_entry_eq]
  generalize (lg_sl ([.ref xo, .int 4, .int 4]) ++ List.replicate (3 - (lg_sl ([.ref xo, .int 4, .int 4])).length) Slot.unset).toArray = ls at hl ⊢
  have hl : lv_has ls 3 [(0, .ref xo), (1, .int 4), (2, .int 4)] := hl
  have hP : va_P (dC, dI) vwCl [(xo, .inr (6, [.ref al, x1, x2, x3, x4, x5, .ref b1, x7])), (al, .inr (4, [.int mc, .ref (zk 0), .int 0]))] s.heap := hP
  have hD : va_D A [(xo, .inr (6, [.ref al, x1, x2, x3, x4, x5, .ref b1, x7])), (al, .inr (4, [.int mc, .ref (zk 0), .int 0]))] := hD
  refine lv_iload_n hx hb dX1_make_0 rfl (lv_at hl 1 rfl) ?_
  refine lv_if_lt (tgt := 9) hx hb dX1_make_1 (by decide) (fun c9 => ?_) (fun c9 => ?_)
  · exact absurd c9 (by decide)
  refine lv_iload_n hx hb dX1_make_4 rfl (lv_at hl 1 rfl) ?_
  refine lv_iconst (v := 4) hx hb dX1_make_5 (by decide) ?_
  refine lv_icmp_le (tgt := 19) hx hb dX1_make_6 (by decide) (fun c9 => ?_) (fun c9 => ?_)
  rotate_left
  · exact absurd (by decide) c9
  refine lv_iload_n hx hb dX1_make_19 rfl (lv_at hl 2 rfl) ?_
  have hPc := hP.sub (ws' := []) [] rfl
  have hDc := hD.sub (ws' := []) [] (by decide) rfl
  have hFc := va_free (wc := []) hD hS hA [] rfl
  have hDv := hDc.self (sz := s.heap.size)
  have hpre := zpre (xs' := []) (av := [.int 4]) hPc hK (hDc.weaken (fun _ _ _ h => h)) hZ hS hFc (fun r hr => by cases hr)
  refine va_callv (va_runS (As := [.int 4]) (rest := []) ⟨hx, hb, hml, hown, hts⟩ (k_rqL l dC dI cI cB cR cO zk  s.heap.size ) (va_cwS 1 hts gX1_make_X1_requireLength rfl rfl rfl (by decide +kernel) ⟨Nat.le_of_ble_eq_true rfl, Nat.le_of_ble_eq_true rfl⟩) ⟨zblind, hpre⟩ rfl rfl hl.1 rfl (lv_room (Nat.le_of_ble_eq_true rfl)) dX1_make_20 ⟨Nat.le_of_ble_eq_true rfl, Nat.le_of_ble_eq_true rfl⟩) hS (fun q _ h => hFc q h) hFc (fun u t H1 locs ht hvm hw hB hz1 hk1 hS => ?_)
  obtain ⟨hP1, hK1, hD1, hz2⟩ := hB
  rw [ht] at hP1 hz2
  have hPD9 := va_join (wr := [(xo, .inr (6, [.ref al, x1, x2, x3, x4, x5, .ref b1, x7])), (al, .inr (4, [.int mc, .ref (zk 0), .int 0]))]) (w1 := []) hP hD [] [0, 1] rfl rfl (by decide) (by decide) hk1 hFc hP1 hD1
  clear hPc hDc hFc hDv hpre hP hD hP1 hK1 hD1
  obtain ⟨hP, hD⟩ := hPD9
  replace hz : s.heap.size + 0 ≤ H1.size := by omega
  clear hz2
  replace hP : va_P (dC, dI) vwCl [(xo, .inr (6, [.ref al, x1, x2, x3, x4, x5, .ref b1, x7])), (al, .inr (4, [.int mc, .ref (zk 0), .int 0]))] H1 := hP
  replace hD : va_D A [(xo, .inr (6, [.ref al, x1, x2, x3, x4, x5, .ref b1, x7])), (al, .inr (4, [.int mc, .ref (zk 0), .int 0]))] := hD
  refine W.widen (k := 0) (n := 0) (by omega) (by omega) ?_
  refine lv_aload_n hx hb dX1_make_23 rfl (lv_at hl 0 rfl) ?_
  refine lv_iconst (v := 1) hx hb dX1_make_24 (by decide) ?_
  have hPc := hP.sub (ws' := [(xo, .inr (6, [.ref al, x1, x2, x3, x4, x5, .ref b1, x7])), (al, .inr (4, [.int mc, .ref (zk 0), .int 0]))]) [0, 1] rfl
  have hDc := hD.sub (ws' := [(xo, .inr (6, [.ref al, x1, x2, x3, x4, x5, .ref b1, x7])), (al, .inr (4, [.int mc, .ref (zk 0), .int 0]))]) [0, 1] (by decide) rfl
  have hFc := va_free (wc := [(xo, .inr (6, [.ref al, x1, x2, x3, x4, x5, .ref b1, x7])), (al, .inr (4, [.int mc, .ref (zk 0), .int 0]))]) hD hS hA [0, 1] rfl
  have hDv := hDc.self (sz := H1.size)
  have hpre := zpre (xs' := []) (av := [.ref xo, .int 1]) hPc hK (hDc.weaken (fun _ _ _ h => h)) hZ hS hFc (fun r hr => by cases hr)
  refine va_callv (va_runV (As := [.int 1]) (rest := []) ⟨hx, hb, hml, hown, hts⟩ (k_rqR0 l dC dI cI cB cR cO zk xo al b1 x1 x2 x3 x4 x5 x7 (zk 0) mc H1.size ) (cwV 1 hts gX1_make_X1_requireRoom rfl rfl rfl (by decide +kernel) ⟨Nat.le_of_ble_eq_true rfl, Nat.le_of_ble_eq_true rfl⟩) ⟨zblind, (zrecv_6 hK hPc (q0 := 0) rfl), hpre⟩ rfl rfl hl.1 rfl (lv_room (Nat.le_of_ble_eq_true rfl)) dX1_make_25 ⟨Nat.le_of_ble_eq_true rfl, Nat.le_of_ble_eq_true rfl⟩) hS (fun q _ h => hFc q h) hFc (fun u t H3 locs ht hvm hw hB hz1 hk1 hS => ?_)
  obtain ⟨hP1, hK1, hD1, hz2⟩ := hB
  rw [ht] at hP1 hz2
  have hPD9 := va_join (wr := []) (w1 := [(xo, .inr (6, [.ref al, x1, x2, x3, x4, x5, .ref b1, x7])), (al, .inr (4, [.int mc, .ref (zk 0), .int 0]))]) hP hD [0, 1] [] rfl rfl (by decide) (by decide) hk1 hFc hP1 hD1
  clear hPc hDc hFc hDv hpre hP hD hP1 hK1 hD1
  obtain ⟨hP, hD⟩ := hPD9
  replace hz : s.heap.size + 0 ≤ H3.size := by omega
  clear hz2
  replace hP : va_P (dC, dI) vwCl [(xo, .inr (6, [.ref al, x1, x2, x3, x4, x5, .ref b1, x7])), (al, .inr (4, [.int mc, .ref (zk 0), .int 0]))] H3 := hP
  replace hD : va_D A [(xo, .inr (6, [.ref al, x1, x2, x3, x4, x5, .ref b1, x7])), (al, .inr (4, [.int mc, .ref (zk 0), .int 0]))] := hD
  refine W.widen (k := 0) (n := 0) (by omega) (by omega) ?_
  refine lv_aload_n hx hb dX1_make_28 rfl (lv_at hl 0 rfl) ?_
  refine zw_new (ci := 5) (fs := [.int 0, .int 0, .null, .null, .null, .int 0]) (C := RX0) (T := TX0) (N := 6) hx hb hts hi_X1_make_X0 tyX0 tyX0_ok hown (hts (.classLink RX1 26 "Deeprows$Row") (List.mem_cons_of_mem _ zw_105)) (hts (.instantiable RX0 6) (List.mem_cons_of_mem _ zw_106)) (hts (.initialized RX0) (List.mem_cons_of_mem _ zw_45)) hK hP hD hS hA rfl (fun j hj => by rcases (show j = 0 ∨ j = 1 ∨ j = 2 ∨ j = 3 ∨ j = 4 ∨ j = 5 by omega) with rfl | rfl | rfl | rfl | rfl | rfl <;> rfl) (Nat.le_of_ble_eq_true rfl) (Nat.le_of_ble_eq_true rfl) dX1_make_29 hz (fun q5 H6 hP hD hS hz => ?_)
  replace hP : va_P (dC, dI) vwCl [(xo, .inr (6, [.ref al, x1, x2, x3, x4, x5, .ref b1, x7])), (al, .inr (4, [.int mc, .ref (zk 0), .int 0])), (q5, .inr (5, [.int 0, .int 0, .null, .null, .null, .int 0]))] H6 := hP
  replace hD : va_D A [(xo, .inr (6, [.ref al, x1, x2, x3, x4, x5, .ref b1, x7])), (al, .inr (4, [.int mc, .ref (zk 0), .int 0])), (q5, .inr (5, [.int 0, .int 0, .null, .null, .null, .int 0]))] := hD
  refine W.widen (k := 1) (n := 6) (by omega) (by omega) ?_
  refine lv_dup hx hb dX1_make_32 rfl ?_
  refine lv_iload_n hx hb dX1_make_33 rfl (lv_at hl 1 rfl) ?_
  refine lv_iload_n hx hb dX1_make_34 rfl (lv_at hl 2 rfl) ?_
  have hPc := hP.sub (ws' := [(q5, .inr (5, [.int 0, .int 0, .null, .null, .null, .int 0]))]) [2] rfl
  have hDc := hD.sub (ws' := [(q5, .inr (5, [.int 0, .int 0, .null, .null, .null, .int 0]))]) [2] (by decide) rfl
  have hFc := va_free (wc := [(q5, .inr (5, [.int 0, .int 0, .null, .null, .null, .int 0]))]) hD hS hA [2] rfl
  have hDv := hDc.self (sz := H6.size)
  have hpre := zpre (xs' := []) (av := [.ref q5, .int 4, .int 4]) hPc hK (hDc.weaken (fun _ _ _ h => h)) hZ hS hFc (fun r hr => by cases hr)
  refine va_callv (va_runI (As := [.int 4, .int 4]) (rest := [.ref q5, .ref xo]) ⟨hx, hb, hml, hown, hts⟩ (k_rin4 l dC dI cI cB cR cO zk q5 H6.size ) (cwI 2 hts gX1_make_X0_init rfl rfl rfl (hts (.initialized RX0) (List.mem_cons_of_mem _ zw_45)) (hts (.methodLink RX1 28 yX0_init) (List.mem_cons_of_mem _ zw_107)) (hts (.instanceMethod yX0_init) (List.mem_cons_of_mem _ zw_108)) rfl (by decide +kernel) ⟨Nat.le_of_ble_eq_true rfl, Nat.le_of_ble_eq_true rfl⟩) ⟨zblind, hpre⟩ rfl rfl hl.1 rfl (lv_room (Nat.le_of_ble_eq_true rfl)) dX1_make_35 ⟨Nat.le_of_ble_eq_true rfl, Nat.le_of_ble_eq_true rfl⟩) hS (fun q _ h => hFc q h) hFc (fun u t H7 locs ht hvm hw hB hz1 hk1 hS => ?_)
  obtain ⟨w9, v10, h11, gw12, gv13, gh14, ⟨hP1, hK1, hD1, hz2⟩, hwgw12, hhgh14⟩ := hB
  rw [ht] at hP1 hz2
  have hPD9 := va_join (wr := [(xo, .inr (6, [.ref al, x1, x2, x3, x4, x5, .ref b1, x7])), (al, .inr (4, [.int mc, .ref (zk 0), .int 0]))]) (w1 := [(q5, .inr (5, [.int 4, .int 4, .ref w9, .ref v10, .ref h11, .int 0])), (w9, .inl (cI, 4, .inl gw12)), (v10, .inl (cI, 4, .inl gv13)), (h11, .inl (cR, 4, .inr (.inr (.inr (.inr gh14)))))]) hP hD [2] [0, 1] rfl rfl (by decide) (by decide) hk1 hFc hP1 hD1
  clear hPc hDc hFc hDv hpre hP hD hP1 hK1 hD1
  obtain ⟨hP, hD⟩ := hPD9
  replace hz : s.heap.size + 4 ≤ H7.size := by omega
  clear hz2
  replace hP : va_P (dC, dI) vwCl [(xo, .inr (6, [.ref al, x1, x2, x3, x4, x5, .ref b1, x7])), (al, .inr (4, [.int mc, .ref (zk 0), .int 0])), (q5, .inr (5, [.int 4, .int 4, .ref w9, .ref v10, .ref h11, .int 0])), (w9, .inl (cI, 4, .inl gw12)), (v10, .inl (cI, 4, .inl gv13)), (h11, .inl (cR, 4, .inr (.inr (.inr (.inr gh14)))))] H7 := hP
  replace hD : va_D A [(xo, .inr (6, [.ref al, x1, x2, x3, x4, x5, .ref b1, x7])), (al, .inr (4, [.int mc, .ref (zk 0), .int 0])), (q5, .inr (5, [.int 4, .int 4, .ref w9, .ref v10, .ref h11, .int 0])), (w9, .inl (cI, 4, .inl gw12)), (v10, .inl (cI, 4, .inl gv13)), (h11, .inl (cR, 4, .inr (.inr (.inr (.inr gh14)))))] := hD
  refine W.widen (k := 4) (n := 18) (by omega) (by omega) ?_
  have hPc := hP.sub (ws' := [(xo, .inr (6, [.ref al, x1, x2, x3, x4, x5, .ref b1, x7])), (al, .inr (4, [.int mc, .ref (zk 0), .int 0])), (q5, .inr (5, [.int 4, .int 4, .ref w9, .ref v10, .ref h11, .int 0]))]) [0, 1, 2] rfl
  have hDc := hD.sub (ws' := [(xo, .inr (6, [.ref al, x1, x2, x3, x4, x5, .ref b1, x7])), (al, .inr (4, [.int mc, .ref (zk 0), .int 0])), (q5, .inr (5, [.int 4, .int 4, .ref w9, .ref v10, .ref h11, .int 0]))]) [0, 1, 2] (by decide) rfl
  have hFc := va_free (wc := [(xo, .inr (6, [.ref al, x1, x2, x3, x4, x5, .ref b1, x7])), (al, .inr (4, [.int mc, .ref (zk 0), .int 0])), (q5, .inr (5, [.int 4, .int 4, .ref w9, .ref v10, .ref h11, .int 0]))]) hD hS hA [0, 1, 2] rfl
  have hDv := hDc.self (sz := H7.size)
  have hpre := zpre (xs' := []) (av := [.ref xo, .ref q5]) hPc hK (hDc.weaken (fun _ _ _ h => h)) hZ hS hFc (fun r hr => by cases hr)
  refine va_callr (va_runV (As := [.ref q5]) (rest := []) ⟨hx, hb, hml, hown, hts⟩ (k_adR0 l dC dI cI cB cR cO zk xo al b1 x1 x2 x3 x4 x5 x7 (zk 0) q5 w9 v10 h11 (fun _ => none) mc H7.size ) (cwV 1 hts gX1_make_X1_addRow rfl rfl rfl (by decide +kernel) ⟨Nat.le_of_ble_eq_true rfl, Nat.le_of_ble_eq_true rfl⟩) ⟨zblind, (zrecv_6 hK hPc (q0 := 0) rfl), hpre⟩ rfl rfl hl.1 rfl (lv_room (Nat.le_of_ble_eq_true rfl)) dX1_make_38 ⟨Nat.le_of_ble_eq_true rfl, Nat.le_of_ble_eq_true rfl⟩) hS (fun q _ h => hFc q h) hFc (fun u r16 t H15 locs ht hvm hw hB hz1 hk1 hS => ?_)
  obtain ⟨ed18, mc17, ⟨hP1, hK1, hD1, hz2⟩, her16⟩ := hB
  rw [ht] at hP1 hz2
  have hPD9 := va_join (wr := [(w9, .inl (cI, 4, .inl gw12)), (v10, .inl (cI, 4, .inl gv13)), (h11, .inl (cR, 4, .inr (.inr (.inr (.inr gh14)))))]) (w1 := [(xo, .inr (6, [.ref al, x1, x2, x3, x4, x5, .ref b1, x7])), (al, .inr (4, [.int mc17, .ref ed18, .int 1])), (ed18, .inl (cO, 10, .inr (.inr (.inr (.inr (va_up (fun _ => none) 0 (some q5))))))), (q5, .inr (5, [.int 4, .int 4, .ref w9, .ref v10, .ref h11, .int 0]))]) hP hD [0, 1, 2] [3, 4, 5] rfl rfl (by decide) (by decide) hk1 hFc hP1 hD1
  clear hPc hDc hFc hDv hpre hP hD hP1 hK1 hD1
  obtain ⟨hP, hD⟩ := hPD9
  replace hz : s.heap.size + 5 ≤ H15.size := by omega
  clear hz2
  replace hP : va_P (dC, dI) vwCl [(w9, .inl (cI, 4, .inl gw12)), (v10, .inl (cI, 4, .inl gv13)), (h11, .inl (cR, 4, .inr (.inr (.inr (.inr gh14))))), (xo, .inr (6, [.ref al, x1, x2, x3, x4, x5, .ref b1, x7])), (al, .inr (4, [.int mc17, .ref ed18, .int 1])), (ed18, .inl (cO, 10, .inr (.inr (.inr (.inr (va_up (fun _ => none) 0 (some q5))))))), (q5, .inr (5, [.int 4, .int 4, .ref w9, .ref v10, .ref h11, .int 0]))] H15 := hP
  replace hD : va_D A [(w9, .inl (cI, 4, .inl gw12)), (v10, .inl (cI, 4, .inl gv13)), (h11, .inl (cR, 4, .inr (.inr (.inr (.inr gh14))))), (xo, .inr (6, [.ref al, x1, x2, x3, x4, x5, .ref b1, x7])), (al, .inr (4, [.int mc17, .ref ed18, .int 1])), (ed18, .inl (cO, 10, .inr (.inr (.inr (.inr (va_up (fun _ => none) 0 (some q5))))))), (q5, .inr (5, [.int 4, .int 4, .ref w9, .ref v10, .ref h11, .int 0]))] := hD
  refine W.widen (k := 5) (n := 28) (by omega) (by omega) ?_
  obtain rfl := her16.symm
  refine va_getN (D := (dC, dI)) (ci := 5) (v := .int 0) (C := RX0) (T := TX0) (N := 6) hx hb hts hi_X1_make_X0 hown hK hP 6 rfl rfl 5 (by decide) (zn5 hZ) (fun _ h9 => h9) rfl dX1_make_41 ?_
  have hP9 := hP.sub (ws' := [(xo, .inr (6, [.ref al, x1, x2, x3, x4, x5, .ref b1, x7])), (al, .inr (4, [.int mc17, .ref ed18, .int 1])), (ed18, .inl (cO, 10, .inr (.inr (.inr (.inr (va_up (fun _ => none) 0 (some q5))))))), (q5, .inr (5, [.int 4, .int 4, .ref w9, .ref v10, .ref h11, .int 0])), (w9, .inl (cI, 4, .inl gw12)), (v10, .inl (cI, 4, .inl gv13)), (h11, .inl (cR, 4, .inr (.inr (.inr (.inr gh14)))))]) [3, 4, 5, 6, 0, 1, 2] rfl
  have hD9 := hD.sub (ws' := [(xo, .inr (6, [.ref al, x1, x2, x3, x4, x5, .ref b1, x7])), (al, .inr (4, [.int mc17, .ref ed18, .int 1])), (ed18, .inl (cO, 10, .inr (.inr (.inr (.inr (va_up (fun _ => none) 0 (some q5))))))), (q5, .inr (5, [.int 4, .int 4, .ref w9, .ref v10, .ref h11, .int 0])), (w9, .inl (cI, 4, .inl gw12)), (v10, .inl (cI, 4, .inl gv13)), (h11, .inl (cR, 4, .inr (.inr (.inr (.inr gh14)))))]) [3, 4, 5, 6, 0, 1, 2] (by decide) rfl
  exact W.iret (v := 0) hx hb hr (fun t ht hW => ⟨⟨_, (), rfl, trivial, ⟨_, _, _, _, _, _, _, _, _, ⟨by rw [ht]; exact hP9, va_K.moved hW.alike hK, hD9, by rw [ht]; exact hz⟩, hwgw12, hhgh14⟩⟩, hS.F ht⟩) hS.2.2 dX1_make_44

set_option maxHeartbeats 4000000 in
set_option maxRecDepth 100000 in
theorem k_rqR1 (l : Launch) (dC : Nat → ClassId) (dI : Nat → Nat → Nat) (cI cB cR cO : ClassId) (zk : Nat → Nat) (xo al b1 : Nat) (x1 x2 x3 x4 x5 x7 : Value) (ed : Nat) (mc : Int32) (sz : Nat)  : Met l yX1_requireRoom wsX1_requireRoom ({ frames := 1, cells := 0, slots := 0, locals := 20 }) (va_Pc [.ref xo, .int 1] (zPre (dC, dI) (zT cI cB cR cO) zk [] [(xo, .inr (6, [.ref al, x1, x2, x3, x4, x5, .ref b1, x7])), (al, .inr (4, [.int mc, .ref ed, .int 1]))] sz)) (va_Qv (fun _ : Unit => True) (fun _ t => zEnd (dC, dI) (zT cI cB cR cO) (va_A [(xo, .inr (6, [.ref al, x1, x2, x3, x4, x5, .ref b1, x7])), (al, .inr (4, [.int mc, .ref ed, .int 1]))] sz) [(xo, .inr (6, [.ref al, x1, x2, x3, x4, x5, .ref b1, x7])), (al, .inr (4, [.int mc, .ref ed, .int 1]))] sz 0 t) (va_A [(xo, .inr (6, [.ref al, x1, x2, x3, x4, x5, .ref b1, x7])), (al, .inr (4, [.int mc, .ref ed, .int 1]))] sz)) 0 0 (va_A [(xo, .inr (6, [.ref al, x1, x2, x3, x4, x5, .ref b1, x7])), (al, .inr (4, [.int mc, .ref ed, .int 1]))] sz) := by
  refine Met.ofW (cc := cX1_requireRoom) (maxL := 2) (ret := none) (by decide) rfl ?_
  intro p e s mY args below meth c s₁ B hml hv
  obtain ⟨rfl, hsz, hP, hK, hD0, hZ⟩ := hv
  have hx := B.exec
  have hb := B.bytes
  have hr := B.returns
  have hts := atoms_spec (ws := wsX1_requireRoom) B.pre
  have hown : s.vm.findClass RX1 = some mY.cls := findClass_of_methodNamed B.named
  have hlocks := B.notSynchronized
  subst hsz
  have hD := hD0.self (sz := s.heap.size)
  generalize hAe : va_A [(xo, .inr (6, [.ref al, x1, x2, x3, x4, x5, .ref b1, x7])), (al, .inr (4, [.int mc, .ref ed, .int 1]))] s.heap.size = A at hD hZ ⊢
  have hA : ∀ q : Nat, s.heap.size ≤ q → A q := fun q h => by rw [← hAe]; exact Or.inr h
  have hS : va_S A s.heap s.heap [] := va_S.rf
  have hz : s.heap.size + 0 ≤ s.heap.size := Nat.le_refl _
  have hl := lv_entry ([.ref xo, .int 1]) (n := 2) (Nat.le_of_ble_eq_true rfl)
  rw [lg_entry_eq]
  generalize (lg_sl ([.ref xo, .int 1]) ++ List.replicate (2 - (lg_sl ([.ref xo, .int 1])).length) Slot.unset).toArray = ls at hl ⊢
  have hl : lv_has ls 2 [(0, .ref xo), (1, .int 1)] := hl
  have hP : va_P (dC, dI) vwCl [(xo, .inr (6, [.ref al, x1, x2, x3, x4, x5, .ref b1, x7])), (al, .inr (4, [.int mc, .ref ed, .int 1]))] s.heap := hP
  have hD : va_D A [(xo, .inr (6, [.ref al, x1, x2, x3, x4, x5, .ref b1, x7])), (al, .inr (4, [.int mc, .ref ed, .int 1]))] := hD
  refine lv_aload_n hx hb dX1_requireRoom_0 rfl (lv_at hl 0 rfl) ?_
  refine va_get (D := (dC, dI)) (ci := 6) (v := .ref al) (C := RX1) (T := TX1) (N := 8) hx hb hts hi_X1_requireRoom_X1 hown hK hP 0 rfl rfl 0 (by decide) (hts (.fieldLink RX1 12 "Deeprows" "rows" "Ljava/util/ArrayList;") (List.mem_cons_of_mem _ zw_171)) (fun _ h9 => h9) rfl dX1_requireRoom_1 ?_
  have hPc := hP.sub (ws' := [(al, .inr (4, [.int mc, .ref ed, .int 1]))]) [1] rfl
  have hDc := hD.sub (ws' := [(al, .inr (4, [.int mc, .ref ed, .int 1]))]) [1] (by decide) rfl
  have hFc := va_free (wc := [(al, .inr (4, [.int mc, .ref ed, .int 1]))]) hD hS hA [1] rfl
  have hDv := hDc.self (sz := s.heap.size)
  have hpre := zpre (xs' := []) (av := [.ref al]) hPc hK (hDc.weaken (fun _ _ _ h => h)) hZ hS hFc (fun r hr => by cases hr)
  refine va_calli (va_runV (As := []) (rest := []) ⟨hx, hb, hml, hown, hts⟩ (k_size l dC dI cI cB cR cO zk al ed 1 (.int mc) s.heap.size ) (cwV 0 hts gX1_requireRoom_Jx4a65c_size_8abf5 rfl rfl rfl (by decide +kernel) ⟨Nat.le_of_ble_eq_true rfl, Nat.le_of_ble_eq_true rfl⟩) ⟨zblind, (zrecv_4 hK hPc (q0 := 0) rfl), hpre⟩ rfl rfl hl.1 rfl (lv_room (Nat.le_of_ble_eq_true rfl)) dX1_requireRoom_4 ⟨Nat.le_of_ble_eq_true rfl, Nat.le_of_ble_eq_true rfl⟩) hS (fun q _ h => hFc q h) hFc (fun r2 u t H1 locs ht hvm hw hB hz1 hk1 hS => ?_)
  obtain rfl : 1 = r2 := (show r2 = 1 from hw).symm
  obtain ⟨hP1, hK1, hD1, hz2⟩ := hB
  rw [ht] at hP1 hz2
  have hPD9 := va_join (wr := [(xo, .inr (6, [.ref al, x1, x2, x3, x4, x5, .ref b1, x7]))]) (w1 := [(al, .inr (4, [.int mc, .ref ed, .int 1]))]) hP hD [1] [0] rfl rfl (by decide) (by decide) hk1 hFc hP1 hD1
  clear hPc hDc hFc hDv hpre hP hD hP1 hK1 hD1
  obtain ⟨hP, hD⟩ := hPD9
  replace hz : s.heap.size + 0 ≤ H1.size := by omega
  clear hz2
  replace hP : va_P (dC, dI) vwCl [(xo, .inr (6, [.ref al, x1, x2, x3, x4, x5, .ref b1, x7])), (al, .inr (4, [.int mc, .ref ed, .int 1]))] H1 := hP
  replace hD : va_D A [(xo, .inr (6, [.ref al, x1, x2, x3, x4, x5, .ref b1, x7])), (al, .inr (4, [.int mc, .ref ed, .int 1]))] := hD
  refine W.widen (k := 0) (n := 0) (by omega) (by omega) ?_
  refine lv_iload_n hx hb dX1_requireRoom_7 rfl (lv_at hl 1 rfl) ?_
  refine lv_iadd hx hb dX1_requireRoom_8 ?_
  refine lv_topi (fun v3 ev3 => ?_)
  obtain rfl : v3 = 2 := ev3.trans (by decide)
  refine lv_bipush (v := 12) hx hb dX1_requireRoom_9 (by decide) ?_
  refine lv_icmp_le (tgt := 25) hx hb dX1_requireRoom_11 (by decide) (fun c9 => ?_) (fun c9 => ?_)
  rotate_left
  · exact absurd (by decide) c9
  have hP9 := hP.sub (ws' := [(xo, .inr (6, [.ref al, x1, x2, x3, x4, x5, .ref b1, x7])), (al, .inr (4, [.int mc, .ref ed, .int 1]))]) [0, 1] rfl
  have hD9 := hD.sub (ws' := [(xo, .inr (6, [.ref al, x1, x2, x3, x4, x5, .ref b1, x7])), (al, .inr (4, [.int mc, .ref ed, .int 1]))]) [0, 1] (by decide) rfl
  exact W.vret hx hb hr (fun t ht hW => ⟨⟨(), rfl, trivial, ⟨by rw [ht]; exact hP9, va_K.moved hW.alike hK, hD9, by rw [ht]; exact hz⟩⟩, hS.F ht⟩) hS.2.2 dX1_requireRoom_25

set_option maxHeartbeats 4000000 in
set_option maxRecDepth 100000 in
theorem k_adR1 (l : Launch) (dC : Nat → ClassId) (dI : Nat → Nat → Nat) (cI cB cR cO : ClassId) (zk : Nat → Nat) (xo al b1 : Nat) (x1 x2 x3 x4 x5 x7 : Value) (ed el e1 e2 e3 : Nat) (ee : Nat → Option Nat) (mc : Int32) (sz : Nat)  : Met l yX1_addRow wsX1_addRow ({ frames := 2, cells := 0, slots := 0, locals := 44 }) (va_Pc [.ref xo, .ref el] (zPre (dC, dI) (zT cI cB cR cO) zk [] [(xo, .inr (6, [.ref al, x1, x2, x3, x4, x5, .ref b1, x7])), (al, .inr (4, [.int mc, .ref ed, .int 1])), (ed, .inl (cO, 10, .inr (.inr (.inr (.inr ee))))), (el, .inr (5, [.int 4, .int 4, .ref e1, .ref e2, .ref e3, .int 0]))] sz)) (va_Qr (fun _ : Unit => True) (fun _ ra t => ∃ (mc2 : Int32), zEnd (dC, dI) (zT cI cB cR cO) (va_A [(xo, .inr (6, [.ref al, x1, x2, x3, x4, x5, .ref b1, x7])), (al, .inr (4, [.int mc, .ref ed, .int 1])), (ed, .inl (cO, 10, .inr (.inr (.inr (.inr ee))))), (el, .inr (5, [.int 4, .int 4, .ref e1, .ref e2, .ref e3, .int 0]))] sz) [(xo, .inr (6, [.ref al, x1, x2, x3, x4, x5, .ref b1, x7])), (al, .inr (4, [.int mc2, .ref ed, .int 2])), (ed, .inl (cO, 10, .inr (.inr (.inr (.inr (va_up ee 1 (some el))))))), (el, .inr (5, [.int 4, .int 4, .ref e1, .ref e2, .ref e3, .int 1]))] sz 0 t ∧ ra = el) (va_A [(xo, .inr (6, [.ref al, x1, x2, x3, x4, x5, .ref b1, x7])), (al, .inr (4, [.int mc, .ref ed, .int 1])), (ed, .inl (cO, 10, .inr (.inr (.inr (.inr ee))))), (el, .inr (5, [.int 4, .int 4, .ref e1, .ref e2, .ref e3, .int 0]))] sz)) 0 0 (va_A [(xo, .inr (6, [.ref al, x1, x2, x3, x4, x5, .ref b1, x7])), (al, .inr (4, [.int mc, .ref ed, .int 1])), (ed, .inl (cO, 10, .inr (.inr (.inr (.inr ee))))), (el, .inr (5, [.int 4, .int 4, .ref e1, .ref e2, .ref e3, .int 0]))] sz) := by
  refine Met.ofW (cc := cX1_addRow) (maxL := 2) (ret := (some (.object "Deeprows$Row"))) (by decide) rfl ?_
  intro p e s mY args below meth c s₁ B hml hv
  obtain ⟨rfl, hsz, hP, hK, hD0, hZ⟩ := hv
  have hx := B.exec
  have hb := B.bytes
  have hr := B.returns
  have hts := atoms_spec (ws := wsX1_addRow) B.pre
  have hown : s.vm.findClass RX1 = some mY.cls := findClass_of_methodNamed B.named
  have hlocks := B.notSynchronized
  subst hsz
  have hD := hD0.self (sz := s.heap.size)
  generalize hAe : va_A [(xo, .inr (6, [.ref al, x1, x2, x3, x4, x5, .ref b1, x7])), (al, .inr (4, [.int mc, .ref ed, .int 1])), (ed, .inl (cO, 10, .inr (.inr (.inr (.inr ee))))), (el, .inr (5, [.int 4, .int 4, .ref e1, .ref e2, .ref e3, .int 0]))] s.heap.size = A at hD hZ ⊢
  have hA : ∀ q : Nat, s.heap.size ≤ q → A q := fun q h => by rw [← hAe]; exact Or.inr h
  have hS : va_S A s.heap s.heap [] := va_S.rf
  have hz : s.heap.size + 0 ≤ s.heap.size := Nat.le_refl _
  have hl := lv_entry ([.ref xo, .ref el]) (n := 2) (Nat.le_of_ble_eq_true rfl)
  rw [lg_entry_eq]
  generalize (lg_sl ([.ref xo, .ref el]) ++ List.replicate (2 - (lg_sl ([.ref xo, .ref el])).length) Slot.unset).toArray = ls at hl ⊢
  have hl : lv_has ls 2 [(0, .ref xo), (1, .ref el)] := hl
  have hP : va_P (dC, dI) vwCl [(xo, .inr (6, [.ref al, x1, x2, x3, x4, x5, .ref b1, x7])), (al, .inr (4, [.int mc, .ref ed, .int 1])), (ed, .inl (cO, 10, .inr (.inr (.inr (.inr ee))))), (el, .inr (5, [.int 4, .int 4, .ref e1, .ref e2, .ref e3, .int 0]))] s.heap := hP
  have hD : va_D A [(xo, .inr (6, [.ref al, x1, x2, x3, x4, x5, .ref b1, x7])), (al, .inr (4, [.int mc, .ref ed, .int 1])), (ed, .inl (cO, 10, .inr (.inr (.inr (.inr ee))))), (el, .inr (5, [.int 4, .int 4, .ref e1, .ref e2, .ref e3, .int 0]))] := hD
  refine lv_aload_n hx hb dX1_addRow_0 rfl (lv_at hl 1 rfl) ?_
  refine lv_aload_n hx hb dX1_addRow_1 rfl (lv_at hl 0 rfl) ?_
  refine va_get (D := (dC, dI)) (ci := 6) (v := .ref al) (C := RX1) (T := TX1) (N := 8) hx hb hts hi_X1_addRow_X1 hown hK hP 0 rfl rfl 0 (by decide) (hts (.fieldLink RX1 12 "Deeprows" "rows" "Ljava/util/ArrayList;") (List.mem_cons_of_mem _ zw_171)) (fun _ h9 => h9) rfl dX1_addRow_2 ?_
  have hPc := hP.sub (ws' := [(al, .inr (4, [.int mc, .ref ed, .int 1]))]) [1] rfl
  have hDc := hD.sub (ws' := [(al, .inr (4, [.int mc, .ref ed, .int 1]))]) [1] (by decide) rfl
  have hFc := va_free (wc := [(al, .inr (4, [.int mc, .ref ed, .int 1]))]) hD hS hA [1] rfl
  have hDv := hDc.self (sz := s.heap.size)
  have hpre := zpre (xs' := []) (av := [.ref al]) hPc hK (hDc.weaken (fun _ _ _ h => h)) hZ hS hFc (fun r hr => by cases hr)
  refine va_calli (va_runV (As := []) (rest := [.ref el]) ⟨hx, hb, hml, hown, hts⟩ (k_size l dC dI cI cB cR cO zk al ed 1 (.int mc) s.heap.size ) (cwV 0 hts gX1_addRow_Jx4a65c_size_8abf5 rfl rfl rfl (by decide +kernel) ⟨Nat.le_of_ble_eq_true rfl, Nat.le_of_ble_eq_true rfl⟩) ⟨zblind, (zrecv_4 hK hPc (q0 := 0) rfl), hpre⟩ rfl rfl hl.1 rfl (lv_room (Nat.le_of_ble_eq_true rfl)) dX1_addRow_5 ⟨Nat.le_of_ble_eq_true rfl, Nat.le_of_ble_eq_true rfl⟩) hS (fun q _ h => hFc q h) hFc (fun r2 u t H1 locs ht hvm hw hB hz1 hk1 hS => ?_)
  obtain rfl : 1 = r2 := (show r2 = 1 from hw).symm
  obtain ⟨hP1, hK1, hD1, hz2⟩ := hB
  rw [ht] at hP1 hz2
  have hPD9 := va_join (wr := [(xo, .inr (6, [.ref al, x1, x2, x3, x4, x5, .ref b1, x7])), (ed, .inl (cO, 10, .inr (.inr (.inr (.inr ee))))), (el, .inr (5, [.int 4, .int 4, .ref e1, .ref e2, .ref e3, .int 0]))]) (w1 := [(al, .inr (4, [.int mc, .ref ed, .int 1]))]) hP hD [1] [0, 2, 3] rfl rfl (by decide) (by decide) hk1 hFc hP1 hD1
  clear hPc hDc hFc hDv hpre hP hD hP1 hK1 hD1
  obtain ⟨hP, hD⟩ := hPD9
  replace hz : s.heap.size + 0 ≤ H1.size := by omega
  clear hz2
  replace hP : va_P (dC, dI) vwCl [(xo, .inr (6, [.ref al, x1, x2, x3, x4, x5, .ref b1, x7])), (ed, .inl (cO, 10, .inr (.inr (.inr (.inr ee))))), (el, .inr (5, [.int 4, .int 4, .ref e1, .ref e2, .ref e3, .int 0])), (al, .inr (4, [.int mc, .ref ed, .int 1]))] H1 := hP
  replace hD : va_D A [(xo, .inr (6, [.ref al, x1, x2, x3, x4, x5, .ref b1, x7])), (ed, .inl (cO, 10, .inr (.inr (.inr (.inr ee))))), (el, .inr (5, [.int 4, .int 4, .ref e1, .ref e2, .ref e3, .int 0])), (al, .inr (4, [.int mc, .ref ed, .int 1]))] := hD
  refine W.widen (k := 0) (n := 0) (by omega) (by omega) ?_
  refine va_putN (D := (dC, dI)) (ci := 5) (v := .int 1) (ty := .int) (C := RX0) (T := TX0) (N := 6) hx hb hts hi_X1_addRow_X0 tyX0 tyX0_ok nmX0 hown hK hP hD (zS0 hS) 2 rfl rfl 5 (by decide) (zn5 hZ) (fun _ h9 => h9) rfl (by decide +kernel) rfl rfl (Nat.le_of_ble_eq_true rfl) dX1_addRow_8 (fun H3 locs hP hD hS1 => ?_)
  have hz : s.heap.size + 0 ≤ H3.size := Nat.le_trans hz hS1.1
  have hS := zSS hS hS1
  replace hP : va_P (dC, dI) vwCl [(xo, .inr (6, [.ref al, x1, x2, x3, x4, x5, .ref b1, x7])), (ed, .inl (cO, 10, .inr (.inr (.inr (.inr ee))))), (el, .inr (5, [.int 4, .int 4, .ref e1, .ref e2, .ref e3, .int 1])), (al, .inr (4, [.int mc, .ref ed, .int 1]))] H3 := hP
  replace hD : va_D A [(xo, .inr (6, [.ref al, x1, x2, x3, x4, x5, .ref b1, x7])), (ed, .inl (cO, 10, .inr (.inr (.inr (.inr ee))))), (el, .inr (5, [.int 4, .int 4, .ref e1, .ref e2, .ref e3, .int 1])), (al, .inr (4, [.int mc, .ref ed, .int 1]))] := hD
  refine lv_aload_n hx hb dX1_addRow_11 rfl (lv_at hl 0 rfl) ?_
  refine va_get (D := (dC, dI)) (ci := 6) (v := .ref al) (C := RX1) (T := TX1) (N := 8) hx hb hts hi_X1_addRow_X1 hown hK hP 0 rfl rfl 0 (by decide) (hts (.fieldLink RX1 12 "Deeprows" "rows" "Ljava/util/ArrayList;") (List.mem_cons_of_mem _ zw_171)) (fun _ h9 => h9) rfl dX1_addRow_12 ?_
  refine lv_aload_n hx hb dX1_addRow_15 rfl (lv_at hl 1 rfl) ?_
  have hPc := hP.sub (ws' := [(al, .inr (4, [.int mc, .ref ed, .int 1])), (ed, .inl (cO, 10, .inr (.inr (.inr (.inr ee))))), (el, .inr (5, [.int 4, .int 4, .ref e1, .ref e2, .ref e3, .int 1]))]) [3, 1, 2] rfl
  have hDc := hD.sub (ws' := [(al, .inr (4, [.int mc, .ref ed, .int 1])), (ed, .inl (cO, 10, .inr (.inr (.inr (.inr ee))))), (el, .inr (5, [.int 4, .int 4, .ref e1, .ref e2, .ref e3, .int 1]))]) [3, 1, 2] (by decide) rfl
  have hFc := va_free (wc := [(al, .inr (4, [.int mc, .ref ed, .int 1])), (ed, .inl (cO, 10, .inr (.inr (.inr (.inr ee))))), (el, .inr (5, [.int 4, .int 4, .ref e1, .ref e2, .ref e3, .int 1]))]) hD hS hA [3, 1, 2] rfl
  have hDv := hDc.self (sz := H3.size)
  have hpre := zpre (xs' := []) (av := [.ref al, .ref el]) hPc hK (hDc.weaken (fun _ _ _ h => h)) hZ hS hFc (fun r hr => by cases hr)
  refine va_calli (va_runV (As := [.ref el]) (rest := []) ⟨hx, hb, hml, hown, hts⟩ (k_addBX0 l dC dI cI cB cR cO zk al el ed 1 ee mc e1 e2 e3 1 H3.size (by decide)) (cwV 1 hts gX1_addRow_Jx4a65c_add_9ea2d rfl rfl rfl (by decide +kernel) ⟨Nat.le_of_ble_eq_true rfl, Nat.le_of_ble_eq_true rfl⟩) ⟨zblind, (zrecv_4 hK hPc (q0 := 0) rfl), hpre⟩ rfl rfl hl.1 rfl (lv_room (Nat.le_of_ble_eq_true rfl)) dX1_addRow_16 ⟨Nat.le_of_ble_eq_true rfl, Nat.le_of_ble_eq_true rfl⟩) hS (fun q _ h => hFc q h) hFc (fun r5 u t H4 locs ht hvm hw hB hz1 hk1 hS => ?_)
  obtain rfl : 1 = r5 := (show r5 = 1 from hw).symm
  obtain ⟨mc6, ⟨hP1, hK1, hD1, hz2⟩⟩ := hB
  rw [ht] at hP1 hz2
  have hPD9 := va_join (wr := [(xo, .inr (6, [.ref al, x1, x2, x3, x4, x5, .ref b1, x7]))]) (w1 := [(al, .inr (4, [.int mc6, .ref ed, .int 2])), (ed, .inl (cO, 10, .inr (.inr (.inr (.inr (va_up ee 1 (some el))))))), (el, .inr (5, [.int 4, .int 4, .ref e1, .ref e2, .ref e3, .int 1]))]) hP hD [3, 1, 2] [0] rfl rfl (by decide) (by decide) hk1 hFc hP1 hD1
  clear hPc hDc hFc hDv hpre hP hD hP1 hK1 hD1
  obtain ⟨hP, hD⟩ := hPD9
  replace hz : s.heap.size + 0 ≤ H4.size := by omega
  clear hz2
  replace hP : va_P (dC, dI) vwCl [(xo, .inr (6, [.ref al, x1, x2, x3, x4, x5, .ref b1, x7])), (al, .inr (4, [.int mc6, .ref ed, .int 2])), (ed, .inl (cO, 10, .inr (.inr (.inr (.inr (va_up ee 1 (some el))))))), (el, .inr (5, [.int 4, .int 4, .ref e1, .ref e2, .ref e3, .int 1]))] H4 := hP
  replace hD : va_D A [(xo, .inr (6, [.ref al, x1, x2, x3, x4, x5, .ref b1, x7])), (al, .inr (4, [.int mc6, .ref ed, .int 2])), (ed, .inl (cO, 10, .inr (.inr (.inr (.inr (va_up ee 1 (some el))))))), (el, .inr (5, [.int 4, .int 4, .ref e1, .ref e2, .ref e3, .int 1]))] := hD
  refine W.widen (k := 0) (n := 0) (by omega) (by omega) ?_
  refine lv_pop hx hb dX1_addRow_19 rfl ?_
  refine lv_aload_n hx hb dX1_addRow_20 rfl (lv_at hl 1 rfl) ?_
  have hP9 := hP.sub (ws' := [(xo, .inr (6, [.ref al, x1, x2, x3, x4, x5, .ref b1, x7])), (al, .inr (4, [.int mc6, .ref ed, .int 2])), (ed, .inl (cO, 10, .inr (.inr (.inr (.inr (va_up ee 1 (some el))))))), (el, .inr (5, [.int 4, .int 4, .ref e1, .ref e2, .ref e3, .int 1]))]) [0, 1, 2, 3] rfl
  have hD9 := hD.sub (ws' := [(xo, .inr (6, [.ref al, x1, x2, x3, x4, x5, .ref b1, x7])), (al, .inr (4, [.int mc6, .ref ed, .int 2])), (ed, .inl (cO, 10, .inr (.inr (.inr (.inr (va_up ee 1 (some el))))))), (el, .inr (5, [.int 4, .int 4, .ref e1, .ref e2, .ref e3, .int 1]))]) [0, 1, 2, 3] (by decide) rfl
  exact W.aret hx hb hr (by first | exact Or.inl ⟨_, rfl⟩ | exact Or.inr ⟨_, rfl⟩) (Or.inr ⟨_, rfl⟩) (fun t ht hW => ⟨⟨(), _, rfl, trivial, ⟨_, ⟨by rw [ht]; exact hP9, va_K.moved hW.alike hK, hD9, by rw [ht]; exact hz⟩, rfl⟩⟩, hS.F ht⟩) hS.2.2 dX1_addRow_21

set_option maxHeartbeats 4000000 in
set_option maxRecDepth 100000 in
theorem k_mkX1 (l : Launch) (dC : Nat → ClassId) (dI : Nat → Nat → Nat) (cI cB cR cO : ClassId) (zk : Nat → Nat) (xo al b1 : Nat) (x1 x2 x3 x4 x5 x7 : Value) (ed : Nat) (ee : Nat → Option Nat) (mc : Int32) (sz : Nat)  : Met l yX1_make wsX1_make ({ frames := 3, cells := 4, slots := 18, locals := 83 }) (va_Pc [.ref xo, .int 4, .int 4] (zPre (dC, dI) (zT cI cB cR cO) zk [] [(xo, .inr (6, [.ref al, x1, x2, x3, x4, x5, .ref b1, x7])), (al, .inr (4, [.int mc, .ref ed, .int 1])), (ed, .inl (cO, 10, .inr (.inr (.inr (.inr ee)))))] sz)) (va_Qi (fun r (_ : Unit) => True) (fun _ t => ∃ (mc2 : Int32), ∃ y, ∃ yw, ∃ yv, ∃ yh, ∃ (gw : Nat → Int32), ∃ (gv : Nat → Int32), ∃ (gh : Nat → Option Nat), zEnd (dC, dI) (zT cI cB cR cO) (va_A [(xo, .inr (6, [.ref al, x1, x2, x3, x4, x5, .ref b1, x7])), (al, .inr (4, [.int mc, .ref ed, .int 1])), (ed, .inl (cO, 10, .inr (.inr (.inr (.inr ee)))))] sz) [(xo, .inr (6, [.ref al, x1, x2, x3, x4, x5, .ref b1, x7])), (al, .inr (4, [.int mc2, .ref ed, .int 2])), (ed, .inl (cO, 10, .inr (.inr (.inr (.inr (va_up ee 1 (some y))))))), (y, .inr (5, [.int 4, .int 4, .ref yw, .ref yv, .ref yh, .int 1])), (yw, .inl (cI, 4, .inl gw)), (yv, .inl (cI, 4, .inl gv)), (yh, .inl (cR, 4, .inr (.inr (.inr (.inr gh)))))] sz 4 t ∧ (∀ i, i < 4 → gw i = 0) ∧ (∀ i, i < 4 → gh i = none)) (va_A [(xo, .inr (6, [.ref al, x1, x2, x3, x4, x5, .ref b1, x7])), (al, .inr (4, [.int mc, .ref ed, .int 1])), (ed, .inl (cO, 10, .inr (.inr (.inr (.inr ee)))))] sz)) 4 18 (va_A [(xo, .inr (6, [.ref al, x1, x2, x3, x4, x5, .ref b1, x7])), (al, .inr (4, [.int mc, .ref ed, .int 1])), (ed, .inl (cO, 10, .inr (.inr (.inr (.inr ee)))))] sz) := by
  refine Met.ofW (cc := cX1_make) (maxL := 3) (ret := (some .int)) (by decide) rfl ?_
  intro p e s mY args below meth c s₁ B hml hv
  obtain ⟨rfl, hsz, hP, hK, hD0, hZ⟩ := hv
  have hx := B.exec
  have hb := B.bytes
  have hr := B.returns
  have hts := atoms_spec (ws := wsX1_make) B.pre
  have hown : s.vm.findClass RX1 = some mY.cls := findClass_of_methodNamed B.named
  have hlocks := B.notSynchronized
  subst hsz
  have hD := hD0.self (sz := s.heap.size)
  generalize hAe : va_A [(xo, .inr (6, [.ref al, x1, x2, x3, x4, x5, .ref b1, x7])), (al, .inr (4, [.int mc, .ref ed, .int 1])), (ed, .inl (cO, 10, .inr (.inr (.inr (.inr ee)))))] s.heap.size = A at hD hZ ⊢
  have hA : ∀ q : Nat, s.heap.size ≤ q → A q := fun q h => by rw [← hAe]; exact Or.inr h
  have hS : va_S A s.heap s.heap [] := va_S.rf
  have hz : s.heap.size + 0 ≤ s.heap.size := Nat.le_refl _
  have hl := lv_entry ([.ref xo, .int 4, .int 4]) (n := 3) (Nat.le_of_ble_eq_true rfl)
  rw [lg_entry_eq]
  generalize (lg_sl ([.ref xo, .int 4, .int 4]) ++ List.replicate (3 - (lg_sl ([.ref xo, .int 4, .int 4])).length) Slot.unset).toArray = ls at hl ⊢
  have hl : lv_has ls 3 [(0, .ref xo), (1, .int 4), (2, .int 4)] := hl
  have hP : va_P (dC, dI) vwCl [(xo, .inr (6, [.ref al, x1, x2, x3, x4, x5, .ref b1, x7])), (al, .inr (4, [.int mc, .ref ed, .int 1])), (ed, .inl (cO, 10, .inr (.inr (.inr (.inr ee)))))] s.heap := hP
  have hD : va_D A [(xo, .inr (6, [.ref al, x1, x2, x3, x4, x5, .ref b1, x7])), (al, .inr (4, [.int mc, .ref ed, .int 1])), (ed, .inl (cO, 10, .inr (.inr (.inr (.inr ee)))))] := hD
  refine lv_iload_n hx hb dX1_make_0 rfl (lv_at hl 1 rfl) ?_
  refine lv_if_lt (tgt := 9) hx hb dX1_make_1 (by decide) (fun c9 => ?_) (fun c9 => ?_)
  · exact absurd c9 (by decide)
  refine lv_iload_n hx hb dX1_make_4 rfl (lv_at hl 1 rfl) ?_
  refine lv_iconst (v := 4) hx hb dX1_make_5 (by decide) ?_
  refine lv_icmp_le (tgt := 19) hx hb dX1_make_6 (by decide) (fun c9 => ?_) (fun c9 => ?_)
  rotate_left
  · exact absurd (by decide) c9
  refine lv_iload_n hx hb dX1_make_19 rfl (lv_at hl 2 rfl) ?_
  have hPc := hP.sub (ws' := []) [] rfl
  have hDc := hD.sub (ws' := []) [] (by decide) rfl
  have hFc := va_free (wc := []) hD hS hA [] rfl
  have hDv := hDc.self (sz := s.heap.size)
  have hpre := zpre (xs' := []) (av := [.int 4]) hPc hK (hDc.weaken (fun _ _ _ h => h)) hZ hS hFc (fun r hr => by cases hr)
  refine va_callv (va_runS (As := [.int 4]) (rest := []) ⟨hx, hb, hml, hown, hts⟩ (k_rqL l dC dI cI cB cR cO zk  s.heap.size ) (va_cwS 1 hts gX1_make_X1_requireLength rfl rfl rfl (by decide +kernel) ⟨Nat.le_of_ble_eq_true rfl, Nat.le_of_ble_eq_true rfl⟩) ⟨zblind, hpre⟩ rfl rfl hl.1 rfl (lv_room (Nat.le_of_ble_eq_true rfl)) dX1_make_20 ⟨Nat.le_of_ble_eq_true rfl, Nat.le_of_ble_eq_true rfl⟩) hS (fun q _ h => hFc q h) hFc (fun u t H1 locs ht hvm hw hB hz1 hk1 hS => ?_)
  obtain ⟨hP1, hK1, hD1, hz2⟩ := hB
  rw [ht] at hP1 hz2
  have hPD9 := va_join (wr := [(xo, .inr (6, [.ref al, x1, x2, x3, x4, x5, .ref b1, x7])), (al, .inr (4, [.int mc, .ref ed, .int 1])), (ed, .inl (cO, 10, .inr (.inr (.inr (.inr ee)))))]) (w1 := []) hP hD [] [0, 1, 2] rfl rfl (by decide) (by decide) hk1 hFc hP1 hD1
  clear hPc hDc hFc hDv hpre hP hD hP1 hK1 hD1
  obtain ⟨hP, hD⟩ := hPD9
  replace hz : s.heap.size + 0 ≤ H1.size := by omega
  clear hz2
  replace hP : va_P (dC, dI) vwCl [(xo, .inr (6, [.ref al, x1, x2, x3, x4, x5, .ref b1, x7])), (al, .inr (4, [.int mc, .ref ed, .int 1])), (ed, .inl (cO, 10, .inr (.inr (.inr (.inr ee)))))] H1 := hP
  replace hD : va_D A [(xo, .inr (6, [.ref al, x1, x2, x3, x4, x5, .ref b1, x7])), (al, .inr (4, [.int mc, .ref ed, .int 1])), (ed, .inl (cO, 10, .inr (.inr (.inr (.inr ee)))))] := hD
  refine W.widen (k := 0) (n := 0) (by omega) (by omega) ?_
  refine lv_aload_n hx hb dX1_make_23 rfl (lv_at hl 0 rfl) ?_
  refine lv_iconst (v := 1) hx hb dX1_make_24 (by decide) ?_
  have hPc := hP.sub (ws' := [(xo, .inr (6, [.ref al, x1, x2, x3, x4, x5, .ref b1, x7])), (al, .inr (4, [.int mc, .ref ed, .int 1]))]) [0, 1] rfl
  have hDc := hD.sub (ws' := [(xo, .inr (6, [.ref al, x1, x2, x3, x4, x5, .ref b1, x7])), (al, .inr (4, [.int mc, .ref ed, .int 1]))]) [0, 1] (by decide) rfl
  have hFc := va_free (wc := [(xo, .inr (6, [.ref al, x1, x2, x3, x4, x5, .ref b1, x7])), (al, .inr (4, [.int mc, .ref ed, .int 1]))]) hD hS hA [0, 1] rfl
  have hDv := hDc.self (sz := H1.size)
  have hpre := zpre (xs' := []) (av := [.ref xo, .int 1]) hPc hK (hDc.weaken (fun _ _ _ h => h)) hZ hS hFc (fun r hr => by cases hr)
  refine va_callv (va_runV (As := [.int 1]) (rest := []) ⟨hx, hb, hml, hown, hts⟩ (k_rqR1 l dC dI cI cB cR cO zk xo al b1 x1 x2 x3 x4 x5 x7 ed mc H1.size ) (cwV 1 hts gX1_make_X1_requireRoom rfl rfl rfl (by decide +kernel) ⟨Nat.le_of_ble_eq_true rfl, Nat.le_of_ble_eq_true rfl⟩) ⟨zblind, (zrecv_6 hK hPc (q0 := 0) rfl), hpre⟩ rfl rfl hl.1 rfl (lv_room (Nat.le_of_ble_eq_true rfl)) dX1_make_25 ⟨Nat.le_of_ble_eq_true rfl, Nat.le_of_ble_eq_true rfl⟩) hS (fun q _ h => hFc q h) hFc (fun u t H3 locs ht hvm hw hB hz1 hk1 hS => ?_)
  obtain ⟨hP1, hK1, hD1, hz2⟩ := hB
  rw [ht] at hP1 hz2
  have hPD9 := va_join (wr := [(ed, .inl (cO, 10, .inr (.inr (.inr (.inr ee)))))]) (w1 := [(xo, .inr (6, [.ref al, x1, x2, x3, x4, x5, .ref b1, x7])), (al, .inr (4, [.int mc, .ref ed, .int 1]))]) hP hD [0, 1] [2] rfl rfl (by decide) (by decide) hk1 hFc hP1 hD1
  clear hPc hDc hFc hDv hpre hP hD hP1 hK1 hD1
  obtain ⟨hP, hD⟩ := hPD9
  replace hz : s.heap.size + 0 ≤ H3.size := by omega
  clear hz2
  replace hP : va_P (dC, dI) vwCl [(ed, .inl (cO, 10, .inr (.inr (.inr (.inr ee))))), (xo, .inr (6, [.ref al, x1, x2, x3, x4, x5, .ref b1, x7])), (al, .inr (4, [.int mc, .ref ed, .int 1]))] H3 := hP
  replace hD : va_D A [(ed, .inl (cO, 10, .inr (.inr (.inr (.inr ee))))), (xo, .inr (6, [.ref al, x1, x2, x3, x4, x5, .ref b1, x7])), (al, .inr (4, [.int mc, .ref ed, .int 1]))] := hD
  refine W.widen (k := 0) (n := 0) (by omega) (by omega) ?_
  refine lv_aload_n hx hb dX1_make_28 rfl (lv_at hl 0 rfl) ?_
  refine zw_new (ci := 5) (fs := [.int 0, .int 0, .null, .null, .null, .int 0]) (C := RX0) (T := TX0) (N := 6) hx hb hts hi_X1_make_X0 tyX0 tyX0_ok hown (hts (.classLink RX1 26 "Deeprows$Row") (List.mem_cons_of_mem _ zw_105)) (hts (.instantiable RX0 6) (List.mem_cons_of_mem _ zw_106)) (hts (.initialized RX0) (List.mem_cons_of_mem _ zw_45)) hK hP hD hS hA rfl (fun j hj => by rcases (show j = 0 ∨ j = 1 ∨ j = 2 ∨ j = 3 ∨ j = 4 ∨ j = 5 by omega) with rfl | rfl | rfl | rfl | rfl | rfl <;> rfl) (Nat.le_of_ble_eq_true rfl) (Nat.le_of_ble_eq_true rfl) dX1_make_29 hz (fun q5 H6 hP hD hS hz => ?_)
  replace hP : va_P (dC, dI) vwCl [(ed, .inl (cO, 10, .inr (.inr (.inr (.inr ee))))), (xo, .inr (6, [.ref al, x1, x2, x3, x4, x5, .ref b1, x7])), (al, .inr (4, [.int mc, .ref ed, .int 1])), (q5, .inr (5, [.int 0, .int 0, .null, .null, .null, .int 0]))] H6 := hP
  replace hD : va_D A [(ed, .inl (cO, 10, .inr (.inr (.inr (.inr ee))))), (xo, .inr (6, [.ref al, x1, x2, x3, x4, x5, .ref b1, x7])), (al, .inr (4, [.int mc, .ref ed, .int 1])), (q5, .inr (5, [.int 0, .int 0, .null, .null, .null, .int 0]))] := hD
  refine W.widen (k := 1) (n := 6) (by omega) (by omega) ?_
  refine lv_dup hx hb dX1_make_32 rfl ?_
  refine lv_iload_n hx hb dX1_make_33 rfl (lv_at hl 1 rfl) ?_
  refine lv_iload_n hx hb dX1_make_34 rfl (lv_at hl 2 rfl) ?_
  have hPc := hP.sub (ws' := [(q5, .inr (5, [.int 0, .int 0, .null, .null, .null, .int 0]))]) [3] rfl
  have hDc := hD.sub (ws' := [(q5, .inr (5, [.int 0, .int 0, .null, .null, .null, .int 0]))]) [3] (by decide) rfl
  have hFc := va_free (wc := [(q5, .inr (5, [.int 0, .int 0, .null, .null, .null, .int 0]))]) hD hS hA [3] rfl
  have hDv := hDc.self (sz := H6.size)
  have hpre := zpre (xs' := []) (av := [.ref q5, .int 4, .int 4]) hPc hK (hDc.weaken (fun _ _ _ h => h)) hZ hS hFc (fun r hr => by cases hr)
  refine va_callv (va_runI (As := [.int 4, .int 4]) (rest := [.ref q5, .ref xo]) ⟨hx, hb, hml, hown, hts⟩ (k_rin4 l dC dI cI cB cR cO zk q5 H6.size ) (cwI 2 hts gX1_make_X0_init rfl rfl rfl (hts (.initialized RX0) (List.mem_cons_of_mem _ zw_45)) (hts (.methodLink RX1 28 yX0_init) (List.mem_cons_of_mem _ zw_107)) (hts (.instanceMethod yX0_init) (List.mem_cons_of_mem _ zw_108)) rfl (by decide +kernel) ⟨Nat.le_of_ble_eq_true rfl, Nat.le_of_ble_eq_true rfl⟩) ⟨zblind, hpre⟩ rfl rfl hl.1 rfl (lv_room (Nat.le_of_ble_eq_true rfl)) dX1_make_35 ⟨Nat.le_of_ble_eq_true rfl, Nat.le_of_ble_eq_true rfl⟩) hS (fun q _ h => hFc q h) hFc (fun u t H7 locs ht hvm hw hB hz1 hk1 hS => ?_)
  obtain ⟨w9, v10, h11, gw12, gv13, gh14, ⟨hP1, hK1, hD1, hz2⟩, hwgw12, hhgh14⟩ := hB
  rw [ht] at hP1 hz2
  have hPD9 := va_join (wr := [(ed, .inl (cO, 10, .inr (.inr (.inr (.inr ee))))), (xo, .inr (6, [.ref al, x1, x2, x3, x4, x5, .ref b1, x7])), (al, .inr (4, [.int mc, .ref ed, .int 1]))]) (w1 := [(q5, .inr (5, [.int 4, .int 4, .ref w9, .ref v10, .ref h11, .int 0])), (w9, .inl (cI, 4, .inl gw12)), (v10, .inl (cI, 4, .inl gv13)), (h11, .inl (cR, 4, .inr (.inr (.inr (.inr gh14)))))]) hP hD [3] [0, 1, 2] rfl rfl (by decide) (by decide) hk1 hFc hP1 hD1
  clear hPc hDc hFc hDv hpre hP hD hP1 hK1 hD1
  obtain ⟨hP, hD⟩ := hPD9
  replace hz : s.heap.size + 4 ≤ H7.size := by omega
  clear hz2
  replace hP : va_P (dC, dI) vwCl [(ed, .inl (cO, 10, .inr (.inr (.inr (.inr ee))))), (xo, .inr (6, [.ref al, x1, x2, x3, x4, x5, .ref b1, x7])), (al, .inr (4, [.int mc, .ref ed, .int 1])), (q5, .inr (5, [.int 4, .int 4, .ref w9, .ref v10, .ref h11, .int 0])), (w9, .inl (cI, 4, .inl gw12)), (v10, .inl (cI, 4, .inl gv13)), (h11, .inl (cR, 4, .inr (.inr (.inr (.inr gh14)))))] H7 := hP
  replace hD : va_D A [(ed, .inl (cO, 10, .inr (.inr (.inr (.inr ee))))), (xo, .inr (6, [.ref al, x1, x2, x3, x4, x5, .ref b1, x7])), (al, .inr (4, [.int mc, .ref ed, .int 1])), (q5, .inr (5, [.int 4, .int 4, .ref w9, .ref v10, .ref h11, .int 0])), (w9, .inl (cI, 4, .inl gw12)), (v10, .inl (cI, 4, .inl gv13)), (h11, .inl (cR, 4, .inr (.inr (.inr (.inr gh14)))))] := hD
  refine W.widen (k := 4) (n := 18) (by omega) (by omega) ?_
  have hPc := hP.sub (ws' := [(xo, .inr (6, [.ref al, x1, x2, x3, x4, x5, .ref b1, x7])), (al, .inr (4, [.int mc, .ref ed, .int 1])), (ed, .inl (cO, 10, .inr (.inr (.inr (.inr ee))))), (q5, .inr (5, [.int 4, .int 4, .ref w9, .ref v10, .ref h11, .int 0]))]) [1, 2, 0, 3] rfl
  have hDc := hD.sub (ws' := [(xo, .inr (6, [.ref al, x1, x2, x3, x4, x5, .ref b1, x7])), (al, .inr (4, [.int mc, .ref ed, .int 1])), (ed, .inl (cO, 10, .inr (.inr (.inr (.inr ee))))), (q5, .inr (5, [.int 4, .int 4, .ref w9, .ref v10, .ref h11, .int 0]))]) [1, 2, 0, 3] (by decide) rfl
  have hFc := va_free (wc := [(xo, .inr (6, [.ref al, x1, x2, x3, x4, x5, .ref b1, x7])), (al, .inr (4, [.int mc, .ref ed, .int 1])), (ed, .inl (cO, 10, .inr (.inr (.inr (.inr ee))))), (q5, .inr (5, [.int 4, .int 4, .ref w9, .ref v10, .ref h11, .int 0]))]) hD hS hA [1, 2, 0, 3] rfl
  have hDv := hDc.self (sz := H7.size)
  have hpre := zpre (xs' := []) (av := [.ref xo, .ref q5]) hPc hK (hDc.weaken (fun _ _ _ h => h)) hZ hS hFc (fun r hr => by cases hr)
  refine va_callr (va_runV (As := [.ref q5]) (rest := []) ⟨hx, hb, hml, hown, hts⟩ (k_adR1 l dC dI cI cB cR cO zk xo al b1 x1 x2 x3 x4 x5 x7 ed q5 w9 v10 h11 ee mc H7.size ) (cwV 1 hts gX1_make_X1_addRow rfl rfl rfl (by decide +kernel) ⟨Nat.le_of_ble_eq_true rfl, Nat.le_of_ble_eq_true rfl⟩) ⟨zblind, (zrecv_6 hK hPc (q0 := 0) rfl), hpre⟩ rfl rfl hl.1 rfl (lv_room (Nat.le_of_ble_eq_true rfl)) dX1_make_38 ⟨Nat.le_of_ble_eq_true rfl, Nat.le_of_ble_eq_true rfl⟩) hS (fun q _ h => hFc q h) hFc (fun u r16 t H15 locs ht hvm hw hB hz1 hk1 hS => ?_)
  obtain ⟨mc17, ⟨hP1, hK1, hD1, hz2⟩, her16⟩ := hB
  rw [ht] at hP1 hz2
  have hPD9 := va_join (wr := [(w9, .inl (cI, 4, .inl gw12)), (v10, .inl (cI, 4, .inl gv13)), (h11, .inl (cR, 4, .inr (.inr (.inr (.inr gh14)))))]) (w1 := [(xo, .inr (6, [.ref al, x1, x2, x3, x4, x5, .ref b1, x7])), (al, .inr (4, [.int mc17, .ref ed, .int 2])), (ed, .inl (cO, 10, .inr (.inr (.inr (.inr (va_up ee 1 (some q5))))))), (q5, .inr (5, [.int 4, .int 4, .ref w9, .ref v10, .ref h11, .int 1]))]) hP hD [1, 2, 0, 3] [4, 5, 6] rfl rfl (by decide) (by decide) hk1 hFc hP1 hD1
  clear hPc hDc hFc hDv hpre hP hD hP1 hK1 hD1
  obtain ⟨hP, hD⟩ := hPD9
  replace hz : s.heap.size + 4 ≤ H15.size := by omega
  clear hz2
  replace hP : va_P (dC, dI) vwCl [(w9, .inl (cI, 4, .inl gw12)), (v10, .inl (cI, 4, .inl gv13)), (h11, .inl (cR, 4, .inr (.inr (.inr (.inr gh14))))), (xo, .inr (6, [.ref al, x1, x2, x3, x4, x5, .ref b1, x7])), (al, .inr (4, [.int mc17, .ref ed, .int 2])), (ed, .inl (cO, 10, .inr (.inr (.inr (.inr (va_up ee 1 (some q5))))))), (q5, .inr (5, [.int 4, .int 4, .ref w9, .ref v10, .ref h11, .int 1]))] H15 := hP
  replace hD : va_D A [(w9, .inl (cI, 4, .inl gw12)), (v10, .inl (cI, 4, .inl gv13)), (h11, .inl (cR, 4, .inr (.inr (.inr (.inr gh14))))), (xo, .inr (6, [.ref al, x1, x2, x3, x4, x5, .ref b1, x7])), (al, .inr (4, [.int mc17, .ref ed, .int 2])), (ed, .inl (cO, 10, .inr (.inr (.inr (.inr (va_up ee 1 (some q5))))))), (q5, .inr (5, [.int 4, .int 4, .ref w9, .ref v10, .ref h11, .int 1]))] := hD
  refine W.widen (k := 4) (n := 18) (by omega) (by omega) ?_
  obtain rfl := her16.symm
  refine va_getN (D := (dC, dI)) (ci := 5) (v := .int 1) (C := RX0) (T := TX0) (N := 6) hx hb hts hi_X1_make_X0 hown hK hP 6 rfl rfl 5 (by decide) (zn5 hZ) (fun _ h9 => h9) rfl dX1_make_41 ?_
  have hP9 := hP.sub (ws' := [(xo, .inr (6, [.ref al, x1, x2, x3, x4, x5, .ref b1, x7])), (al, .inr (4, [.int mc17, .ref ed, .int 2])), (ed, .inl (cO, 10, .inr (.inr (.inr (.inr (va_up ee 1 (some q5))))))), (q5, .inr (5, [.int 4, .int 4, .ref w9, .ref v10, .ref h11, .int 1])), (w9, .inl (cI, 4, .inl gw12)), (v10, .inl (cI, 4, .inl gv13)), (h11, .inl (cR, 4, .inr (.inr (.inr (.inr gh14)))))]) [3, 4, 5, 6, 0, 1, 2] rfl
  have hD9 := hD.sub (ws' := [(xo, .inr (6, [.ref al, x1, x2, x3, x4, x5, .ref b1, x7])), (al, .inr (4, [.int mc17, .ref ed, .int 2])), (ed, .inl (cO, 10, .inr (.inr (.inr (.inr (va_up ee 1 (some q5))))))), (q5, .inr (5, [.int 4, .int 4, .ref w9, .ref v10, .ref h11, .int 1])), (w9, .inl (cI, 4, .inl gw12)), (v10, .inl (cI, 4, .inl gv13)), (h11, .inl (cR, 4, .inr (.inr (.inr (.inr gh14)))))]) [3, 4, 5, 6, 0, 1, 2] (by decide) rfl
  exact W.iret (v := 1) hx hb hr (fun t ht hW => ⟨⟨_, (), rfl, trivial, ⟨_, _, _, _, _, _, _, _, ⟨by rw [ht]; exact hP9, va_K.moved hW.alike hK, hD9, by rw [ht]; exact hz⟩, hwgw12, hhgh14⟩⟩, hS.F ht⟩) hS.2.2 dX1_make_44

set_option maxHeartbeats 4000000 in
set_option maxRecDepth 100000 in
theorem k_rqR2 (l : Launch) (dC : Nat → ClassId) (dI : Nat → Nat → Nat) (cI cB cR cO : ClassId) (zk : Nat → Nat) (xo al b1 : Nat) (x1 x2 x3 x4 x5 x7 : Value) (ed : Nat) (mc : Int32) (sz : Nat)  : Met l yX1_requireRoom wsX1_requireRoom ({ frames := 1, cells := 0, slots := 0, locals := 20 }) (va_Pc [.ref xo, .int 1] (zPre (dC, dI) (zT cI cB cR cO) zk [] [(xo, .inr (6, [.ref al, x1, x2, x3, x4, x5, .ref b1, x7])), (al, .inr (4, [.int mc, .ref ed, .int 2]))] sz)) (va_Qv (fun _ : Unit => True) (fun _ t => zEnd (dC, dI) (zT cI cB cR cO) (va_A [(xo, .inr (6, [.ref al, x1, x2, x3, x4, x5, .ref b1, x7])), (al, .inr (4, [.int mc, .ref ed, .int 2]))] sz) [(xo, .inr (6, [.ref al, x1, x2, x3, x4, x5, .ref b1, x7])), (al, .inr (4, [.int mc, .ref ed, .int 2]))] sz 0 t) (va_A [(xo, .inr (6, [.ref al, x1, x2, x3, x4, x5, .ref b1, x7])), (al, .inr (4, [.int mc, .ref ed, .int 2]))] sz)) 0 0 (va_A [(xo, .inr (6, [.ref al, x1, x2, x3, x4, x5, .ref b1, x7])), (al, .inr (4, [.int mc, .ref ed, .int 2]))] sz) := by
  refine Met.ofW (cc := cX1_requireRoom) (maxL := 2) (ret := none) (by decide) rfl ?_
  intro p e s mY args below meth c s₁ B hml hv
  obtain ⟨rfl, hsz, hP, hK, hD0, hZ⟩ := hv
  have hx := B.exec
  have hb := B.bytes
  have hr := B.returns
  have hts := atoms_spec (ws := wsX1_requireRoom) B.pre
  have hown : s.vm.findClass RX1 = some mY.cls := findClass_of_methodNamed B.named
  have hlocks := B.notSynchronized
  subst hsz
  have hD := hD0.self (sz := s.heap.size)
  generalize hAe : va_A [(xo, .inr (6, [.ref al, x1, x2, x3, x4, x5, .ref b1, x7])), (al, .inr (4, [.int mc, .ref ed, .int 2]))] s.heap.size = A at hD hZ ⊢
  have hA : ∀ q : Nat, s.heap.size ≤ q → A q := fun q h => by rw [← hAe]; exact Or.inr h
  have hS : va_S A s.heap s.heap [] := va_S.rf
  have hz : s.heap.size + 0 ≤ s.heap.size := Nat.le_refl _
  have hl := lv_entry ([.ref xo, .int 1]) (n := 2) (Nat.le_of_ble_eq_true rfl)
  rw [lg_entry_eq]
  generalize (lg_sl ([.ref xo, .int 1]) ++ List.replicate (2 - (lg_sl ([.ref xo, .int 1])).length) Slot.unset).toArray = ls at hl ⊢
  have hl : lv_has ls 2 [(0, .ref xo), (1, .int 1)] := hl
  have hP : va_P (dC, dI) vwCl [(xo, .inr (6, [.ref al, x1, x2, x3, x4, x5, .ref b1, x7])), (al, .inr (4, [.int mc, .ref ed, .int 2]))] s.heap := hP
  have hD : va_D A [(xo, .inr (6, [.ref al, x1, x2, x3, x4, x5, .ref b1, x7])), (al, .inr (4, [.int mc, .ref ed, .int 2]))] := hD
  refine lv_aload_n hx hb dX1_requireRoom_0 rfl (lv_at hl 0 rfl) ?_
  refine va_get (D := (dC, dI)) (ci := 6) (v := .ref al) (C := RX1) (T := TX1) (N := 8) hx hb hts hi_X1_requireRoom_X1 hown hK hP 0 rfl rfl 0 (by decide) (hts (.fieldLink RX1 12 "Deeprows" "rows" "Ljava/util/ArrayList;") (List.mem_cons_of_mem _ zw_171)) (fun _ h9 => h9) rfl dX1_requireRoom_1 ?_
  have hPc := hP.sub (ws' := [(al, .inr (4, [.int mc, .ref ed, .int 2]))]) [1] rfl
  have hDc := hD.sub (ws' := [(al, .inr (4, [.int mc, .ref ed, .int 2]))]) [1] (by decide) rfl
  have hFc := va_free (wc := [(al, .inr (4, [.int mc, .ref ed, .int 2]))]) hD hS hA [1] rfl
  have hDv := hDc.self (sz := s.heap.size)
  have hpre := zpre (xs' := []) (av := [.ref al]) hPc hK (hDc.weaken (fun _ _ _ h => h)) hZ hS hFc (fun r hr => by cases hr)
  refine va_calli (va_runV (As := []) (rest := []) ⟨hx, hb, hml, hown, hts⟩ (k_size l dC dI cI cB cR cO zk al ed 2 (.int mc) s.heap.size ) (cwV 0 hts gX1_requireRoom_Jx4a65c_size_8abf5 rfl rfl rfl (by decide +kernel) ⟨Nat.le_of_ble_eq_true rfl, Nat.le_of_ble_eq_true rfl⟩) ⟨zblind, (zrecv_4 hK hPc (q0 := 0) rfl), hpre⟩ rfl rfl hl.1 rfl (lv_room (Nat.le_of_ble_eq_true rfl)) dX1_requireRoom_4 ⟨Nat.le_of_ble_eq_true rfl, Nat.le_of_ble_eq_true rfl⟩) hS (fun q _ h => hFc q h) hFc (fun r2 u t H1 locs ht hvm hw hB hz1 hk1 hS => ?_)
  obtain rfl : 2 = r2 := (show r2 = 2 from hw).symm
  obtain ⟨hP1, hK1, hD1, hz2⟩ := hB
  rw [ht] at hP1 hz2
  have hPD9 := va_join (wr := [(xo, .inr (6, [.ref al, x1, x2, x3, x4, x5, .ref b1, x7]))]) (w1 := [(al, .inr (4, [.int mc, .ref ed, .int 2]))]) hP hD [1] [0] rfl rfl (by decide) (by decide) hk1 hFc hP1 hD1
  clear hPc hDc hFc hDv hpre hP hD hP1 hK1 hD1
  obtain ⟨hP, hD⟩ := hPD9
  replace hz : s.heap.size + 0 ≤ H1.size := by omega
  clear hz2
  replace hP : va_P (dC, dI) vwCl [(xo, .inr (6, [.ref al, x1, x2, x3, x4, x5, .ref b1, x7])), (al, .inr (4, [.int mc, .ref ed, .int 2]))] H1 := hP
  replace hD : va_D A [(xo, .inr (6, [.ref al, x1, x2, x3, x4, x5, .ref b1, x7])), (al, .inr (4, [.int mc, .ref ed, .int 2]))] := hD
  refine W.widen (k := 0) (n := 0) (by omega) (by omega) ?_
  refine lv_iload_n hx hb dX1_requireRoom_7 rfl (lv_at hl 1 rfl) ?_
  refine lv_iadd hx hb dX1_requireRoom_8 ?_
  refine lv_topi (fun v3 ev3 => ?_)
  obtain rfl : v3 = 3 := ev3.trans (by decide)
  refine lv_bipush (v := 12) hx hb dX1_requireRoom_9 (by decide) ?_
  refine lv_icmp_le (tgt := 25) hx hb dX1_requireRoom_11 (by decide) (fun c9 => ?_) (fun c9 => ?_)
  rotate_left
  · exact absurd (by decide) c9
  have hP9 := hP.sub (ws' := [(xo, .inr (6, [.ref al, x1, x2, x3, x4, x5, .ref b1, x7])), (al, .inr (4, [.int mc, .ref ed, .int 2]))]) [0, 1] rfl
  have hD9 := hD.sub (ws' := [(xo, .inr (6, [.ref al, x1, x2, x3, x4, x5, .ref b1, x7])), (al, .inr (4, [.int mc, .ref ed, .int 2]))]) [0, 1] (by decide) rfl
  exact W.vret hx hb hr (fun t ht hW => ⟨⟨(), rfl, trivial, ⟨by rw [ht]; exact hP9, va_K.moved hW.alike hK, hD9, by rw [ht]; exact hz⟩⟩, hS.F ht⟩) hS.2.2 dX1_requireRoom_25

set_option maxHeartbeats 4000000 in
set_option maxRecDepth 100000 in
theorem k_adR2 (l : Launch) (dC : Nat → ClassId) (dI : Nat → Nat → Nat) (cI cB cR cO : ClassId) (zk : Nat → Nat) (xo al b1 : Nat) (x1 x2 x3 x4 x5 x7 : Value) (ed el e1 e2 e3 : Nat) (ee : Nat → Option Nat) (mc : Int32) (sz : Nat)  : Met l yX1_addRow wsX1_addRow ({ frames := 2, cells := 0, slots := 0, locals := 44 }) (va_Pc [.ref xo, .ref el] (zPre (dC, dI) (zT cI cB cR cO) zk [] [(xo, .inr (6, [.ref al, x1, x2, x3, x4, x5, .ref b1, x7])), (al, .inr (4, [.int mc, .ref ed, .int 2])), (ed, .inl (cO, 10, .inr (.inr (.inr (.inr ee))))), (el, .inr (5, [.int 4, .int 4, .ref e1, .ref e2, .ref e3, .int 0]))] sz)) (va_Qr (fun _ : Unit => True) (fun _ ra t => ∃ (mc2 : Int32), zEnd (dC, dI) (zT cI cB cR cO) (va_A [(xo, .inr (6, [.ref al, x1, x2, x3, x4, x5, .ref b1, x7])), (al, .inr (4, [.int mc, .ref ed, .int 2])), (ed, .inl (cO, 10, .inr (.inr (.inr (.inr ee))))), (el, .inr (5, [.int 4, .int 4, .ref e1, .ref e2, .ref e3, .int 0]))] sz) [(xo, .inr (6, [.ref al, x1, x2, x3, x4, x5, .ref b1, x7])), (al, .inr (4, [.int mc2, .ref ed, .int 3])), (ed, .inl (cO, 10, .inr (.inr (.inr (.inr (va_up ee 2 (some el))))))), (el, .inr (5, [.int 4, .int 4, .ref e1, .ref e2, .ref e3, .int 2]))] sz 0 t ∧ ra = el) (va_A [(xo, .inr (6, [.ref al, x1, x2, x3, x4, x5, .ref b1, x7])), (al, .inr (4, [.int mc, .ref ed, .int 2])), (ed, .inl (cO, 10, .inr (.inr (.inr (.inr ee))))), (el, .inr (5, [.int 4, .int 4, .ref e1, .ref e2, .ref e3, .int 0]))] sz)) 0 0 (va_A [(xo, .inr (6, [.ref al, x1, x2, x3, x4, x5, .ref b1, x7])), (al, .inr (4, [.int mc, .ref ed, .int 2])), (ed, .inl (cO, 10, .inr (.inr (.inr (.inr ee))))), (el, .inr (5, [.int 4, .int 4, .ref e1, .ref e2, .ref e3, .int 0]))] sz) := by
  refine Met.ofW (cc := cX1_addRow) (maxL := 2) (ret := (some (.object "Deeprows$Row"))) (by decide) rfl ?_
  intro p e s mY args below meth c s₁ B hml hv
  obtain ⟨rfl, hsz, hP, hK, hD0, hZ⟩ := hv
  have hx := B.exec
  have hb := B.bytes
  have hr := B.returns
  have hts := atoms_spec (ws := wsX1_addRow) B.pre
  have hown : s.vm.findClass RX1 = some mY.cls := findClass_of_methodNamed B.named
  have hlocks := B.notSynchronized
  subst hsz
  have hD := hD0.self (sz := s.heap.size)
  generalize hAe : va_A [(xo, .inr (6, [.ref al, x1, x2, x3, x4, x5, .ref b1, x7])), (al, .inr (4, [.int mc, .ref ed, .int 2])), (ed, .inl (cO, 10, .inr (.inr (.inr (.inr ee))))), (el, .inr (5, [.int 4, .int 4, .ref e1, .ref e2, .ref e3, .int 0]))] s.heap.size = A at hD hZ ⊢
  have hA : ∀ q : Nat, s.heap.size ≤ q → A q := fun q h => by rw [← hAe]; exact Or.inr h
  have hS : va_S A s.heap s.heap [] := va_S.rf
  have hz : s.heap.size + 0 ≤ s.heap.size := Nat.le_refl _
  have hl := lv_entry ([.ref xo, .ref el]) (n := 2) (Nat.le_of_ble_eq_true rfl)
  rw [lg_entry_eq]
  generalize (lg_sl ([.ref xo, .ref el]) ++ List.replicate (2 - (lg_sl ([.ref xo, .ref el])).length) Slot.unset).toArray = ls at hl ⊢
  have hl : lv_has ls 2 [(0, .ref xo), (1, .ref el)] := hl
  have hP : va_P (dC, dI) vwCl [(xo, .inr (6, [.ref al, x1, x2, x3, x4, x5, .ref b1, x7])), (al, .inr (4, [.int mc, .ref ed, .int 2])), (ed, .inl (cO, 10, .inr (.inr (.inr (.inr ee))))), (el, .inr (5, [.int 4, .int 4, .ref e1, .ref e2, .ref e3, .int 0]))] s.heap := hP
  have hD : va_D A [(xo, .inr (6, [.ref al, x1, x2, x3, x4, x5, .ref b1, x7])), (al, .inr (4, [.int mc, .ref ed, .int 2])), (ed, .inl (cO, 10, .inr (.inr (.inr (.inr ee))))), (el, .inr (5, [.int 4, .int 4, .ref e1, .ref e2, .ref e3, .int 0]))] := hD
  refine lv_aload_n hx hb dX1_addRow_0 rfl (lv_at hl 1 rfl) ?_
  refine lv_aload_n hx hb dX1_addRow_1 rfl (lv_at hl 0 rfl) ?_
  refine va_get (D := (dC, dI)) (ci := 6) (v := .ref al) (C := RX1) (T := TX1) (N := 8) hx hb hts hi_X1_addRow_X1 hown hK hP 0 rfl rfl 0 (by decide) (hts (.fieldLink RX1 12 "Deeprows" "rows" "Ljava/util/ArrayList;") (List.mem_cons_of_mem _ zw_171)) (fun _ h9 => h9) rfl dX1_addRow_2 ?_
  have hPc := hP.sub (ws' := [(al, .inr (4, [.int mc, .ref ed, .int 2]))]) [1] rfl
  have hDc := hD.sub (ws' := [(al, .inr (4, [.int mc, .ref ed, .int 2]))]) [1] (by decide) rfl
  have hFc := va_free (wc := [(al, .inr (4, [.int mc, .ref ed, .int 2]))]) hD hS hA [1] rfl
  have hDv := hDc.self (sz := s.heap.size)
  have hpre := zpre (xs' := []) (av := [.ref al]) hPc hK (hDc.weaken (fun _ _ _ h => h)) hZ hS hFc (fun r hr => by cases hr)
  refine va_calli (va_runV (As := []) (rest := [.ref el]) ⟨hx, hb, hml, hown, hts⟩ (k_size l dC dI cI cB cR cO zk al ed 2 (.int mc) s.heap.size ) (cwV 0 hts gX1_addRow_Jx4a65c_size_8abf5 rfl rfl rfl (by decide +kernel) ⟨Nat.le_of_ble_eq_true rfl, Nat.le_of_ble_eq_true rfl⟩) ⟨zblind, (zrecv_4 hK hPc (q0 := 0) rfl), hpre⟩ rfl rfl hl.1 rfl (lv_room (Nat.le_of_ble_eq_true rfl)) dX1_addRow_5 ⟨Nat.le_of_ble_eq_true rfl, Nat.le_of_ble_eq_true rfl⟩) hS (fun q _ h => hFc q h) hFc (fun r2 u t H1 locs ht hvm hw hB hz1 hk1 hS => ?_)
  obtain rfl : 2 = r2 := (show r2 = 2 from hw).symm
  obtain ⟨hP1, hK1, hD1, hz2⟩ := hB
  rw [ht] at hP1 hz2
  have hPD9 := va_join (wr := [(xo, .inr (6, [.ref al, x1, x2, x3, x4, x5, .ref b1, x7])), (ed, .inl (cO, 10, .inr (.inr (.inr (.inr ee))))), (el, .inr (5, [.int 4, .int 4, .ref e1, .ref e2, .ref e3, .int 0]))]) (w1 := [(al, .inr (4, [.int mc, .ref ed, .int 2]))]) hP hD [1] [0, 2, 3] rfl rfl (by decide) (by decide) hk1 hFc hP1 hD1
  clear hPc hDc hFc hDv hpre hP hD hP1 hK1 hD1
  obtain ⟨hP, hD⟩ := hPD9
  replace hz : s.heap.size + 0 ≤ H1.size := by omega
  clear hz2
  replace hP : va_P (dC, dI) vwCl [(xo, .inr (6, [.ref al, x1, x2, x3, x4, x5, .ref b1, x7])), (ed, .inl (cO, 10, .inr (.inr (.inr (.inr ee))))), (el, .inr (5, [.int 4, .int 4, .ref e1, .ref e2, .ref e3, .int 0])), (al, .inr (4, [.int mc, .ref ed, .int 2]))] H1 := hP
  replace hD : va_D A [(xo, .inr (6, [.ref al, x1, x2, x3, x4, x5, .ref b1, x7])), (ed, .inl (cO, 10, .inr (.inr (.inr (.inr ee))))), (el, .inr (5, [.int 4, .int 4, .ref e1, .ref e2, .ref e3, .int 0])), (al, .inr (4, [.int mc, .ref ed, .int 2]))] := hD
  refine W.widen (k := 0) (n := 0) (by omega) (by omega) ?_
  refine va_putN (D := (dC, dI)) (ci := 5) (v := .int 2) (ty := .int) (C := RX0) (T := TX0) (N := 6) hx hb hts hi_X1_addRow_X0 tyX0 tyX0_ok nmX0 hown hK hP hD (zS0 hS) 2 rfl rfl 5 (by decide) (zn5 hZ) (fun _ h9 => h9) rfl (by decide +kernel) rfl rfl (Nat.le_of_ble_eq_true rfl) dX1_addRow_8 (fun H3 locs hP hD hS1 => ?_)
  have hz : s.heap.size + 0 ≤ H3.size := Nat.le_trans hz hS1.1
  have hS := zSS hS hS1
  replace hP : va_P (dC, dI) vwCl [(xo, .inr (6, [.ref al, x1, x2, x3, x4, x5, .ref b1, x7])), (ed, .inl (cO, 10, .inr (.inr (.inr (.inr ee))))), (el, .inr (5, [.int 4, .int 4, .ref e1, .ref e2, .ref e3, .int 2])), (al, .inr (4, [.int mc, .ref ed, .int 2]))] H3 := hP
  replace hD : va_D A [(xo, .inr (6, [.ref al, x1, x2, x3, x4, x5, .ref b1, x7])), (ed, .inl (cO, 10, .inr (.inr (.inr (.inr ee))))), (el, .inr (5, [.int 4, .int 4, .ref e1, .ref e2, .ref e3, .int 2])), (al, .inr (4, [.int mc, .ref ed, .int 2]))] := hD
  refine lv_aload_n hx hb dX1_addRow_11 rfl (lv_at hl 0 rfl) ?_
  refine va_get (D := (dC, dI)) (ci := 6) (v := .ref al) (C := RX1) (T := TX1) (N := 8) hx hb hts hi_X1_addRow_X1 hown hK hP 0 rfl rfl 0 (by decide) (hts (.fieldLink RX1 12 "Deeprows" "rows" "Ljava/util/ArrayList;") (List.mem_cons_of_mem _ zw_171)) (fun _ h9 => h9) rfl dX1_addRow_12 ?_
  refine lv_aload_n hx hb dX1_addRow_15 rfl (lv_at hl 1 rfl) ?_
  have hPc := hP.sub (ws' := [(al, .inr (4, [.int mc, .ref ed, .int 2])), (ed, .inl (cO, 10, .inr (.inr (.inr (.inr ee))))), (el, .inr (5, [.int 4, .int 4, .ref e1, .ref e2, .ref e3, .int 2]))]) [3, 1, 2] rfl
  have hDc := hD.sub (ws' := [(al, .inr (4, [.int mc, .ref ed, .int 2])), (ed, .inl (cO, 10, .inr (.inr (.inr (.inr ee))))), (el, .inr (5, [.int 4, .int 4, .ref e1, .ref e2, .ref e3, .int 2]))]) [3, 1, 2] (by decide) rfl
  have hFc := va_free (wc := [(al, .inr (4, [.int mc, .ref ed, .int 2])), (ed, .inl (cO, 10, .inr (.inr (.inr (.inr ee))))), (el, .inr (5, [.int 4, .int 4, .ref e1, .ref e2, .ref e3, .int 2]))]) hD hS hA [3, 1, 2] rfl
  have hDv := hDc.self (sz := H3.size)
  have hpre := zpre (xs' := []) (av := [.ref al, .ref el]) hPc hK (hDc.weaken (fun _ _ _ h => h)) hZ hS hFc (fun r hr => by cases hr)
  refine va_calli (va_runV (As := [.ref el]) (rest := []) ⟨hx, hb, hml, hown, hts⟩ (k_addBX0 l dC dI cI cB cR cO zk al el ed 2 ee mc e1 e2 e3 2 H3.size (by decide)) (cwV 1 hts gX1_addRow_Jx4a65c_add_9ea2d rfl rfl rfl (by decide +kernel) ⟨Nat.le_of_ble_eq_true rfl, Nat.le_of_ble_eq_true rfl⟩) ⟨zblind, (zrecv_4 hK hPc (q0 := 0) rfl), hpre⟩ rfl rfl hl.1 rfl (lv_room (Nat.le_of_ble_eq_true rfl)) dX1_addRow_16 ⟨Nat.le_of_ble_eq_true rfl, Nat.le_of_ble_eq_true rfl⟩) hS (fun q _ h => hFc q h) hFc (fun r5 u t H4 locs ht hvm hw hB hz1 hk1 hS => ?_)
  obtain rfl : 1 = r5 := (show r5 = 1 from hw).symm
  obtain ⟨mc6, ⟨hP1, hK1, hD1, hz2⟩⟩ := hB
  rw [ht] at hP1 hz2
  have hPD9 := va_join (wr := [(xo, .inr (6, [.ref al, x1, x2, x3, x4, x5, .ref b1, x7]))]) (w1 := [(al, .inr (4, [.int mc6, .ref ed, .int 3])), (ed, .inl (cO, 10, .inr (.inr (.inr (.inr (va_up ee 2 (some el))))))), (el, .inr (5, [.int 4, .int 4, .ref e1, .ref e2, .ref e3, .int 2]))]) hP hD [3, 1, 2] [0] rfl rfl (by decide) (by decide) hk1 hFc hP1 hD1
  clear hPc hDc hFc hDv hpre hP hD hP1 hK1 hD1
  obtain ⟨hP, hD⟩ := hPD9
  replace hz : s.heap.size + 0 ≤ H4.size := by omega
  clear hz2
  replace hP : va_P (dC, dI) vwCl [(xo, .inr (6, [.ref al, x1, x2, x3, x4, x5, .ref b1, x7])), (al, .inr (4, [.int mc6, .ref ed, .int 3])), (ed, .inl (cO, 10, .inr (.inr (.inr (.inr (va_up ee 2 (some el))))))), (el, .inr (5, [.int 4, .int 4, .ref e1, .ref e2, .ref e3, .int 2]))] H4 := hP
  replace hD : va_D A [(xo, .inr (6, [.ref al, x1, x2, x3, x4, x5, .ref b1, x7])), (al, .inr (4, [.int mc6, .ref ed, .int 3])), (ed, .inl (cO, 10, .inr (.inr (.inr (.inr (va_up ee 2 (some el))))))), (el, .inr (5, [.int 4, .int 4, .ref e1, .ref e2, .ref e3, .int 2]))] := hD
  refine W.widen (k := 0) (n := 0) (by omega) (by omega) ?_
  refine lv_pop hx hb dX1_addRow_19 rfl ?_
  refine lv_aload_n hx hb dX1_addRow_20 rfl (lv_at hl 1 rfl) ?_
  have hP9 := hP.sub (ws' := [(xo, .inr (6, [.ref al, x1, x2, x3, x4, x5, .ref b1, x7])), (al, .inr (4, [.int mc6, .ref ed, .int 3])), (ed, .inl (cO, 10, .inr (.inr (.inr (.inr (va_up ee 2 (some el))))))), (el, .inr (5, [.int 4, .int 4, .ref e1, .ref e2, .ref e3, .int 2]))]) [0, 1, 2, 3] rfl
  have hD9 := hD.sub (ws' := [(xo, .inr (6, [.ref al, x1, x2, x3, x4, x5, .ref b1, x7])), (al, .inr (4, [.int mc6, .ref ed, .int 3])), (ed, .inl (cO, 10, .inr (.inr (.inr (.inr (va_up ee 2 (some el))))))), (el, .inr (5, [.int 4, .int 4, .ref e1, .ref e2, .ref e3, .int 2]))]) [0, 1, 2, 3] (by decide) rfl
  exact W.aret hx hb hr (by first | exact Or.inl ⟨_, rfl⟩ | exact Or.inr ⟨_, rfl⟩) (Or.inr ⟨_, rfl⟩) (fun t ht hW => ⟨⟨(), _, rfl, trivial, ⟨_, ⟨by rw [ht]; exact hP9, va_K.moved hW.alike hK, hD9, by rw [ht]; exact hz⟩, rfl⟩⟩, hS.F ht⟩) hS.2.2 dX1_addRow_21

set_option maxHeartbeats 4000000 in
set_option maxRecDepth 100000 in
theorem k_mkX2 (l : Launch) (dC : Nat → ClassId) (dI : Nat → Nat → Nat) (cI cB cR cO : ClassId) (zk : Nat → Nat) (xo al b1 : Nat) (x1 x2 x3 x4 x5 x7 : Value) (ed : Nat) (ee : Nat → Option Nat) (mc : Int32) (sz : Nat)  : Met l yX1_make wsX1_make ({ frames := 3, cells := 4, slots := 18, locals := 83 }) (va_Pc [.ref xo, .int 4, .int 4] (zPre (dC, dI) (zT cI cB cR cO) zk [] [(xo, .inr (6, [.ref al, x1, x2, x3, x4, x5, .ref b1, x7])), (al, .inr (4, [.int mc, .ref ed, .int 2])), (ed, .inl (cO, 10, .inr (.inr (.inr (.inr ee)))))] sz)) (va_Qi (fun r (_ : Unit) => True) (fun _ t => ∃ (mc2 : Int32), ∃ y, ∃ yw, ∃ yv, ∃ yh, ∃ (gw : Nat → Int32), ∃ (gv : Nat → Int32), ∃ (gh : Nat → Option Nat), zEnd (dC, dI) (zT cI cB cR cO) (va_A [(xo, .inr (6, [.ref al, x1, x2, x3, x4, x5, .ref b1, x7])), (al, .inr (4, [.int mc, .ref ed, .int 2])), (ed, .inl (cO, 10, .inr (.inr (.inr (.inr ee)))))] sz) [(xo, .inr (6, [.ref al, x1, x2, x3, x4, x5, .ref b1, x7])), (al, .inr (4, [.int mc2, .ref ed, .int 3])), (ed, .inl (cO, 10, .inr (.inr (.inr (.inr (va_up ee 2 (some y))))))), (y, .inr (5, [.int 4, .int 4, .ref yw, .ref yv, .ref yh, .int 2])), (yw, .inl (cI, 4, .inl gw)), (yv, .inl (cI, 4, .inl gv)), (yh, .inl (cR, 4, .inr (.inr (.inr (.inr gh)))))] sz 4 t ∧ (∀ i, i < 4 → gw i = 0) ∧ (∀ i, i < 4 → gh i = none)) (va_A [(xo, .inr (6, [.ref al, x1, x2, x3, x4, x5, .ref b1, x7])), (al, .inr (4, [.int mc, .ref ed, .int 2])), (ed, .inl (cO, 10, .inr (.inr (.inr (.inr ee)))))] sz)) 4 18 (va_A [(xo, .inr (6, [.ref al, x1, x2, x3, x4, x5, .ref b1, x7])), (al, .inr (4, [.int mc, .ref ed, .int 2])), (ed, .inl (cO, 10, .inr (.inr (.inr (.inr ee)))))] sz) := by
  refine Met.ofW (cc := cX1_make) (maxL := 3) (ret := (some .int)) (by decide) rfl ?_
  intro p e s mY args below meth c s₁ B hml hv
  obtain ⟨rfl, hsz, hP, hK, hD0, hZ⟩ := hv
  have hx := B.exec
  have hb := B.bytes
  have hr := B.returns
  have hts := atoms_spec (ws := wsX1_make) B.pre
  have hown : s.vm.findClass RX1 = some mY.cls := findClass_of_methodNamed B.named
  have hlocks := B.notSynchronized
  subst hsz
  have hD := hD0.self (sz := s.heap.size)
  generalize hAe : va_A [(xo, .inr (6, [.ref al, x1, x2, x3, x4, x5, .ref b1, x7])), (al, .inr (4, [.int mc, .ref ed, .int 2])), (ed, .inl (cO, 10, .inr (.inr (.inr (.inr ee)))))] s.heap.size = A at hD hZ ⊢
  have hA : ∀ q : Nat, s.heap.size ≤ q → A q := fun q h => by rw [← hAe]; exact Or.inr h
  have hS : va_S A s.heap s.heap [] := va_S.rf
  have hz : s.heap.size + 0 ≤ s.heap.size := Nat.le_refl _
  have hl := lv_entry ([.ref xo, .int 4, .int 4]) (n := 3) (Nat.le_of_ble_eq_true rfl)
  rw [lg_entry_eq]
  generalize (lg_sl ([.ref xo, .int 4, .int 4]) ++ List.replicate (3 - (lg_sl ([.ref xo, .int 4, .int 4])).length) Slot.unset).toArray = ls at hl ⊢
  have hl : lv_has ls 3 [(0, .ref xo), (1, .int 4), (2, .int 4)] := hl
  have hP : va_P (dC, dI) vwCl [(xo, .inr (6, [.ref al, x1, x2, x3, x4, x5, .ref b1, x7])), (al, .inr (4, [.int mc, .ref ed, .int 2])), (ed, .inl (cO, 10, .inr (.inr (.inr (.inr ee)))))] s.heap := hP
  have hD : va_D A [(xo, .inr (6, [.ref al, x1, x2, x3, x4, x5, .ref b1, x7])), (al, .inr (4, [.int mc, .ref ed, .int 2])), (ed, .inl (cO, 10, .inr (.inr (.inr (.inr ee)))))] := hD
  refine lv_iload_n hx hb dX1_make_0 rfl (lv_at hl 1 rfl) ?_
  refine lv_if_lt (tgt := 9) hx hb dX1_make_1 (by decide) (fun c9 => ?_) (fun c9 => ?_)
  · exact absurd c9 (by decide)
  refine lv_iload_n hx hb dX1_make_4 rfl (lv_at hl 1 rfl) ?_
  refine lv_iconst (v := 4) hx hb dX1_make_5 (by decide) ?_
  refine lv_icmp_le (tgt := 19) hx hb dX1_make_6 (by decide) (fun c9 => ?_) (fun c9 => ?_)
  rotate_left
  · exact absurd (by decide) c9
  refine lv_iload_n hx hb dX1_make_19 rfl (lv_at hl 2 rfl) ?_
  have hPc := hP.sub (ws' := []) [] rfl
  have hDc := hD.sub (ws' := []) [] (by decide) rfl
  have hFc := va_free (wc := []) hD hS hA [] rfl
  have hDv := hDc.self (sz := s.heap.size)
  have hpre := zpre (xs' := []) (av := [.int 4]) hPc hK (hDc.weaken (fun _ _ _ h => h)) hZ hS hFc (fun r hr => by cases hr)
  refine va_callv (va_runS (As := [.int 4]) (rest := []) ⟨hx, hb, hml, hown, hts⟩ (k_rqL l dC dI cI cB cR cO zk  s.heap.size ) (va_cwS 1 hts gX1_make_X1_requireLength rfl rfl rfl (by decide +kernel) ⟨Nat.le_of_ble_eq_true rfl, Nat.le_of_ble_eq_true rfl⟩) ⟨zblind, hpre⟩ rfl rfl hl.1 rfl (lv_room (Nat.le_of_ble_eq_true rfl)) dX1_make_20 ⟨Nat.le_of_ble_eq_true rfl, Nat.le_of_ble_eq_true rfl⟩) hS (fun q _ h => hFc q h) hFc (fun u t H1 locs ht hvm hw hB hz1 hk1 hS => ?_)
  obtain ⟨hP1, hK1, hD1, hz2⟩ := hB
  rw [ht] at hP1 hz2
  have hPD9 := va_join (wr := [(xo, .inr (6, [.ref al, x1, x2, x3, x4, x5, .ref b1, x7])), (al, .inr (4, [.int mc, .ref ed, .int 2])), (ed, .inl (cO, 10, .inr (.inr (.inr (.inr ee)))))]) (w1 := []) hP hD [] [0, 1, 2] rfl rfl (by decide) (by decide) hk1 hFc hP1 hD1
  clear hPc hDc hFc hDv hpre hP hD hP1 hK1 hD1
  obtain ⟨hP, hD⟩ := hPD9
  replace hz : s.heap.size + 0 ≤ H1.size := by omega
  clear hz2
  replace hP : va_P (dC, dI) vwCl [(xo, .inr (6, [.ref al, x1, x2, x3, x4, x5, .ref b1, x7])), (al, .inr (4, [.int mc, .ref ed, .int 2])), (ed, .inl (cO, 10, .inr (.inr (.inr (.inr ee)))))] H1 := hP
  replace hD : va_D A [(xo, .inr (6, [.ref al, x1, x2, x3, x4, x5, .ref b1, x7])), (al, .inr (4, [.int mc, .ref ed, .int 2])), (ed, .inl (cO, 10, .inr (.inr (.inr (.inr ee)))))] := hD
  refine W.widen (k := 0) (n := 0) (by omega) (by omega) ?_
  refine lv_aload_n hx hb dX1_make_23 rfl (lv_at hl 0 rfl) ?_
  refine lv_iconst (v := 1) hx hb dX1_make_24 (by decide) ?_
  have hPc := hP.sub (ws' := [(xo, .inr (6, [.ref al, x1, x2, x3, x4, x5, .ref b1, x7])), (al, .inr (4, [.int mc, .ref ed, .int 2]))]) [0, 1] rfl
  have hDc := hD.sub (ws' := [(xo, .inr (6, [.ref al, x1, x2, x3, x4, x5, .ref b1, x7])), (al, .inr (4, [.int mc, .ref ed, .int 2]))]) [0, 1] (by decide) rfl
  have hFc := va_free (wc := [(xo, .inr (6, [.ref al, x1, x2, x3, x4, x5, .ref b1, x7])), (al, .inr (4, [.int mc, .ref ed, .int 2]))]) hD hS hA [0, 1] rfl
  have hDv := hDc.self (sz := H1.size)
  have hpre := zpre (xs' := []) (av := [.ref xo, .int 1]) hPc hK (hDc.weaken (fun _ _ _ h => h)) hZ hS hFc (fun r hr => by cases hr)
  refine va_callv (va_runV (As := [.int 1]) (rest := []) ⟨hx, hb, hml, hown, hts⟩ (k_rqR2 l dC dI cI cB cR cO zk xo al b1 x1 x2 x3 x4 x5 x7 ed mc H1.size ) (cwV 1 hts gX1_make_X1_requireRoom rfl rfl rfl (by decide +kernel) ⟨Nat.le_of_ble_eq_true rfl, Nat.le_of_ble_eq_true rfl⟩) ⟨zblind, (zrecv_6 hK hPc (q0 := 0) rfl), hpre⟩ rfl rfl hl.1 rfl (lv_room (Nat.le_of_ble_eq_true rfl)) dX1_make_25 ⟨Nat.le_of_ble_eq_true rfl, Nat.le_of_ble_eq_true rfl⟩) hS (fun q _ h => hFc q h) hFc (fun u t H3 locs ht hvm hw hB hz1 hk1 hS => ?_)
  obtain ⟨hP1, hK1, hD1, hz2⟩ := hB
  rw [ht] at hP1 hz2
  have hPD9 := va_join (wr := [(ed, .inl (cO, 10, .inr (.inr (.inr (.inr ee)))))]) (w1 := [(xo, .inr (6, [.ref al, x1, x2, x3, x4, x5, .ref b1, x7])), (al, .inr (4, [.int mc, .ref ed, .int 2]))]) hP hD [0, 1] [2] rfl rfl (by decide) (by decide) hk1 hFc hP1 hD1
  clear hPc hDc hFc hDv hpre hP hD hP1 hK1 hD1
  obtain ⟨hP, hD⟩ := hPD9
  replace hz : s.heap.size + 0 ≤ H3.size := by omega
  clear hz2
  replace hP : va_P (dC, dI) vwCl [(ed, .inl (cO, 10, .inr (.inr (.inr (.inr ee))))), (xo, .inr (6, [.ref al, x1, x2, x3, x4, x5, .ref b1, x7])), (al, .inr (4, [.int mc, .ref ed, .int 2]))] H3 := hP
  replace hD : va_D A [(ed, .inl (cO, 10, .inr (.inr (.inr (.inr ee))))), (xo, .inr (6, [.ref al, x1, x2, x3, x4, x5, .ref b1, x7])), (al, .inr (4, [.int mc, .ref ed, .int 2]))] := hD
  refine W.widen (k := 0) (n := 0) (by omega) (by omega) ?_
  refine lv_aload_n hx hb dX1_make_28 rfl (lv_at hl 0 rfl) ?_
  refine zw_new (ci := 5) (fs := [.int 0, .int 0, .null, .null, .null, .int 0]) (C := RX0) (T := TX0) (N := 6) hx hb hts hi_X1_make_X0 tyX0 tyX0_ok hown (hts (.classLink RX1 26 "Deeprows$Row") (List.mem_cons_of_mem _ zw_105)) (hts (.instantiable RX0 6) (List.mem_cons_of_mem _ zw_106)) (hts (.initialized RX0) (List.mem_cons_of_mem _ zw_45)) hK hP hD hS hA rfl (fun j hj => by rcases (show j = 0 ∨ j = 1 ∨ j = 2 ∨ j = 3 ∨ j = 4 ∨ j = 5 by omega) with rfl | rfl | rfl | rfl | rfl | rfl <;> rfl) (Nat.le_of_ble_eq_true rfl) (Nat.le_of_ble_eq_true rfl) dX1_make_29 hz (fun q5 H6 hP hD hS hz => ?_)
  replace hP : va_P (dC, dI) vwCl [(ed, .inl (cO, 10, .inr (.inr (.inr (.inr ee))))), (xo, .inr (6, [.ref al, x1, x2, x3, x4, x5, .ref b1, x7])), (al, .inr (4, [.int mc, .ref ed, .int 2])), (q5, .inr (5, [.int 0, .int 0, .null, .null, .null, .int 0]))] H6 := hP
  replace hD : va_D A [(ed, .inl (cO, 10, .inr (.inr (.inr (.inr ee))))), (xo, .inr (6, [.ref al, x1, x2, x3, x4, x5, .ref b1, x7])), (al, .inr (4, [.int mc, .ref ed, .int 2])), (q5, .inr (5, [.int 0, .int 0, .null, .null, .null, .int 0]))] := hD
  refine W.widen (k := 1) (n := 6) (by omega) (by omega) ?_
  refine lv_dup hx hb dX1_make_32 rfl ?_
  refine lv_iload_n hx hb dX1_make_33 rfl (lv_at hl 1 rfl) ?_
  refine lv_iload_n hx hb dX1_make_34 rfl (lv_at hl 2 rfl) ?_
  have hPc := hP.sub (ws' := [(q5, .inr (5, [.int 0, .int 0, .null, .null, .null, .int 0]))]) [3] rfl
  have hDc := hD.sub (ws' := [(q5, .inr (5, [.int 0, .int 0, .null, .null, .null, .int 0]))]) [3] (by decide) rfl
  have hFc := va_free (wc := [(q5, .inr (5, [.int 0, .int 0, .null, .null, .null, .int 0]))]) hD hS hA [3] rfl
  have hDv := hDc.self (sz := H6.size)
  have hpre := zpre (xs' := []) (av := [.ref q5, .int 4, .int 4]) hPc hK (hDc.weaken (fun _ _ _ h => h)) hZ hS hFc (fun r hr => by cases hr)
  refine va_callv (va_runI (As := [.int 4, .int 4]) (rest := [.ref q5, .ref xo]) ⟨hx, hb, hml, hown, hts⟩ (k_rin4 l dC dI cI cB cR cO zk q5 H6.size ) (cwI 2 hts gX1_make_X0_init rfl rfl rfl (hts (.initialized RX0) (List.mem_cons_of_mem _ zw_45)) (hts (.methodLink RX1 28 yX0_init) (List.mem_cons_of_mem _ zw_107)) (hts (.instanceMethod yX0_init) (List.mem_cons_of_mem _ zw_108)) rfl (by decide +kernel) ⟨Nat.le_of_ble_eq_true rfl, Nat.le_of_ble_eq_true rfl⟩) ⟨zblind, hpre⟩ rfl rfl hl.1 rfl (lv_room (Nat.le_of_ble_eq_true rfl)) dX1_make_35 ⟨Nat.le_of_ble_eq_true rfl, Nat.le_of_ble_eq_true rfl⟩) hS (fun q _ h => hFc q h) hFc (fun u t H7 locs ht hvm hw hB hz1 hk1 hS => ?_)
  obtain ⟨w9, v10, h11, gw12, gv13, gh14, ⟨hP1, hK1, hD1, hz2⟩, hwgw12, hhgh14⟩ := hB
  rw [ht] at hP1 hz2
  have hPD9 := va_join (wr := [(ed, .inl (cO, 10, .inr (.inr (.inr (.inr ee))))), (xo, .inr (6, [.ref al, x1, x2, x3, x4, x5, .ref b1, x7])), (al, .inr (4, [.int mc, .ref ed, .int 2]))]) (w1 := [(q5, .inr (5, [.int 4, .int 4, .ref w9, .ref v10, .ref h11, .int 0])), (w9, .inl (cI, 4, .inl gw12)), (v10, .inl (cI, 4, .inl gv13)), (h11, .inl (cR, 4, .inr (.inr (.inr (.inr gh14)))))]) hP hD [3] [0, 1, 2] rfl rfl (by decide) (by decide) hk1 hFc hP1 hD1
  clear hPc hDc hFc hDv hpre hP hD hP1 hK1 hD1
  obtain ⟨hP, hD⟩ := hPD9
  replace hz : s.heap.size + 4 ≤ H7.size := by omega
  clear hz2
  replace hP : va_P (dC, dI) vwCl [(ed, .inl (cO, 10, .inr (.inr (.inr (.inr ee))))), (xo, .inr (6, [.ref al, x1, x2, x3, x4, x5, .ref b1, x7])), (al, .inr (4, [.int mc, .ref ed, .int 2])), (q5, .inr (5, [.int 4, .int 4, .ref w9, .ref v10, .ref h11, .int 0])), (w9, .inl (cI, 4, .inl gw12)), (v10, .inl (cI, 4, .inl gv13)), (h11, .inl (cR, 4, .inr (.inr (.inr (.inr gh14)))))] H7 := hP
  replace hD : va_D A [(ed, .inl (cO, 10, .inr (.inr (.inr (.inr ee))))), (xo, .inr (6, [.ref al, x1, x2, x3, x4, x5, .ref b1, x7])), (al, .inr (4, [.int mc, .ref ed, .int 2])), (q5, .inr (5, [.int 4, .int 4, .ref w9, .ref v10, .ref h11, .int 0])), (w9, .inl (cI, 4, .inl gw12)), (v10, .inl (cI, 4, .inl gv13)), (h11, .inl (cR, 4, .inr (.inr (.inr (.inr gh14)))))] := hD
  refine W.widen (k := 4) (n := 18) (by omega) (by omega) ?_
  have hPc := hP.sub (ws' := [(xo, .inr (6, [.ref al, x1, x2, x3, x4, x5, .ref b1, x7])), (al, .inr (4, [.int mc, .ref ed, .int 2])), (ed, .inl (cO, 10, .inr (.inr (.inr (.inr ee))))), (q5, .inr (5, [.int 4, .int 4, .ref w9, .ref v10, .ref h11, .int 0]))]) [1, 2, 0, 3] rfl
  have hDc := hD.sub (ws' := [(xo, .inr (6, [.ref al, x1, x2, x3, x4, x5, .ref b1, x7])), (al, .inr (4, [.int mc, .ref ed, .int 2])), (ed, .inl (cO, 10, .inr (.inr (.inr (.inr ee))))), (q5, .inr (5, [.int 4, .int 4, .ref w9, .ref v10, .ref h11, .int 0]))]) [1, 2, 0, 3] (by decide) rfl
  have hFc := va_free (wc := [(xo, .inr (6, [.ref al, x1, x2, x3, x4, x5, .ref b1, x7])), (al, .inr (4, [.int mc, .ref ed, .int 2])), (ed, .inl (cO, 10, .inr (.inr (.inr (.inr ee))))), (q5, .inr (5, [.int 4, .int 4, .ref w9, .ref v10, .ref h11, .int 0]))]) hD hS hA [1, 2, 0, 3] rfl
  have hDv := hDc.self (sz := H7.size)
  have hpre := zpre (xs' := []) (av := [.ref xo, .ref q5]) hPc hK (hDc.weaken (fun _ _ _ h => h)) hZ hS hFc (fun r hr => by cases hr)
  refine va_callr (va_runV (As := [.ref q5]) (rest := []) ⟨hx, hb, hml, hown, hts⟩ (k_adR2 l dC dI cI cB cR cO zk xo al b1 x1 x2 x3 x4 x5 x7 ed q5 w9 v10 h11 ee mc H7.size ) (cwV 1 hts gX1_make_X1_addRow rfl rfl rfl (by decide +kernel) ⟨Nat.le_of_ble_eq_true rfl, Nat.le_of_ble_eq_true rfl⟩) ⟨zblind, (zrecv_6 hK hPc (q0 := 0) rfl), hpre⟩ rfl rfl hl.1 rfl (lv_room (Nat.le_of_ble_eq_true rfl)) dX1_make_38 ⟨Nat.le_of_ble_eq_true rfl, Nat.le_of_ble_eq_true rfl⟩) hS (fun q _ h => hFc q h) hFc (fun u r16 t H15 locs ht hvm hw hB hz1 hk1 hS => ?_)
  obtain ⟨mc17, ⟨hP1, hK1, hD1, hz2⟩, her16⟩ := hB
  rw [ht] at hP1 hz2
  have hPD9 := va_join (wr := [(w9, .inl (cI, 4, .inl gw12)), (v10, .inl (cI, 4, .inl gv13)), (h11, .inl (cR, 4, .inr (.inr (.inr (.inr gh14)))))]) (w1 := [(xo, .inr (6, [.ref al, x1, x2, x3, x4, x5, .ref b1, x7])), (al, .inr (4, [.int mc17, .ref ed, .int 3])), (ed, .inl (cO, 10, .inr (.inr (.inr (.inr (va_up ee 2 (some q5))))))), (q5, .inr (5, [.int 4, .int 4, .ref w9, .ref v10, .ref h11, .int 2]))]) hP hD [1, 2, 0, 3] [4, 5, 6] rfl rfl (by decide) (by decide) hk1 hFc hP1 hD1
  clear hPc hDc hFc hDv hpre hP hD hP1 hK1 hD1
  obtain ⟨hP, hD⟩ := hPD9
  replace hz : s.heap.size + 4 ≤ H15.size := by omega
  clear hz2
  replace hP : va_P (dC, dI) vwCl [(w9, .inl (cI, 4, .inl gw12)), (v10, .inl (cI, 4, .inl gv13)), (h11, .inl (cR, 4, .inr (.inr (.inr (.inr gh14))))), (xo, .inr (6, [.ref al, x1, x2, x3, x4, x5, .ref b1, x7])), (al, .inr (4, [.int mc17, .ref ed, .int 3])), (ed, .inl (cO, 10, .inr (.inr (.inr (.inr (va_up ee 2 (some q5))))))), (q5, .inr (5, [.int 4, .int 4, .ref w9, .ref v10, .ref h11, .int 2]))] H15 := hP
  replace hD : va_D A [(w9, .inl (cI, 4, .inl gw12)), (v10, .inl (cI, 4, .inl gv13)), (h11, .inl (cR, 4, .inr (.inr (.inr (.inr gh14))))), (xo, .inr (6, [.ref al, x1, x2, x3, x4, x5, .ref b1, x7])), (al, .inr (4, [.int mc17, .ref ed, .int 3])), (ed, .inl (cO, 10, .inr (.inr (.inr (.inr (va_up ee 2 (some q5))))))), (q5, .inr (5, [.int 4, .int 4, .ref w9, .ref v10, .ref h11, .int 2]))] := hD
  refine W.widen (k := 4) (n := 18) (by omega) (by omega) ?_
  obtain rfl := her16.symm
  refine va_getN (D := (dC, dI)) (ci := 5) (v := .int 2) (C := RX0) (T := TX0) (N := 6) hx hb hts hi_X1_make_X0 hown hK hP 6 rfl rfl 5 (by decide) (zn5 hZ) (fun _ h9 => h9) rfl dX1_make_41 ?_
  have hP9 := hP.sub (ws' := [(xo, .inr (6, [.ref al, x1, x2, x3, x4, x5, .ref b1, x7])), (al, .inr (4, [.int mc17, .ref ed, .int 3])), (ed, .inl (cO, 10, .inr (.inr (.inr (.inr (va_up ee 2 (some q5))))))), (q5, .inr (5, [.int 4, .int 4, .ref w9, .ref v10, .ref h11, .int 2])), (w9, .inl (cI, 4, .inl gw12)), (v10, .inl (cI, 4, .inl gv13)), (h11, .inl (cR, 4, .inr (.inr (.inr (.inr gh14)))))]) [3, 4, 5, 6, 0, 1, 2] rfl
  have hD9 := hD.sub (ws' := [(xo, .inr (6, [.ref al, x1, x2, x3, x4, x5, .ref b1, x7])), (al, .inr (4, [.int mc17, .ref ed, .int 3])), (ed, .inl (cO, 10, .inr (.inr (.inr (.inr (va_up ee 2 (some q5))))))), (q5, .inr (5, [.int 4, .int 4, .ref w9, .ref v10, .ref h11, .int 2])), (w9, .inl (cI, 4, .inl gw12)), (v10, .inl (cI, 4, .inl gv13)), (h11, .inl (cR, 4, .inr (.inr (.inr (.inr gh14)))))]) [3, 4, 5, 6, 0, 1, 2] (by decide) rfl
  exact W.iret (v := 2) hx hb hr (fun t ht hW => ⟨⟨_, (), rfl, trivial, ⟨_, _, _, _, _, _, _, _, ⟨by rw [ht]; exact hP9, va_K.moved hW.alike hK, hD9, by rw [ht]; exact hz⟩, hwgw12, hhgh14⟩⟩, hS.F ht⟩) hS.2.2 dX1_make_44

set_option maxHeartbeats 4000000 in
set_option maxRecDepth 100000 in
theorem k_rqR3 (l : Launch) (dC : Nat → ClassId) (dI : Nat → Nat → Nat) (cI cB cR cO : ClassId) (zk : Nat → Nat) (xo al b1 : Nat) (x1 x2 x3 x4 x5 x7 : Value) (ed : Nat) (mc : Int32) (sz : Nat)  : Met l yX1_requireRoom wsX1_requireRoom ({ frames := 1, cells := 0, slots := 0, locals := 20 }) (va_Pc [.ref xo, .int 1] (zPre (dC, dI) (zT cI cB cR cO) zk [] [(xo, .inr (6, [.ref al, x1, x2, x3, x4, x5, .ref b1, x7])), (al, .inr (4, [.int mc, .ref ed, .int 3]))] sz)) (va_Qv (fun _ : Unit => True) (fun _ t => zEnd (dC, dI) (zT cI cB cR cO) (va_A [(xo, .inr (6, [.ref al, x1, x2, x3, x4, x5, .ref b1, x7])), (al, .inr (4, [.int mc, .ref ed, .int 3]))] sz) [(xo, .inr (6, [.ref al, x1, x2, x3, x4, x5, .ref b1, x7])), (al, .inr (4, [.int mc, .ref ed, .int 3]))] sz 0 t) (va_A [(xo, .inr (6, [.ref al, x1, x2, x3, x4, x5, .ref b1, x7])), (al, .inr (4, [.int mc, .ref ed, .int 3]))] sz)) 0 0 (va_A [(xo, .inr (6, [.ref al, x1, x2, x3, x4, x5, .ref b1, x7])), (al, .inr (4, [.int mc, .ref ed, .int 3]))] sz) := by
  refine Met.ofW (cc := cX1_requireRoom) (maxL := 2) (ret := none) (by decide) rfl ?_
  intro p e s mY args below meth c s₁ B hml hv
  obtain ⟨rfl, hsz, hP, hK, hD0, hZ⟩ := hv
  have hx := B.exec
  have hb := B.bytes
  have hr := B.returns
  have hts := atoms_spec (ws := wsX1_requireRoom) B.pre
  have hown : s.vm.findClass RX1 = some mY.cls := findClass_of_methodNamed B.named
  have hlocks := B.notSynchronized
  subst hsz
  have hD := hD0.self (sz := s.heap.size)
  generalize hAe : va_A [(xo, .inr (6, [.ref al, x1, x2, x3, x4, x5, .ref b1, x7])), (al, .inr (4, [.int mc, .ref ed, .int 3]))] s.heap.size = A at hD hZ ⊢
  have hA : ∀ q : Nat, s.heap.size ≤ q → A q := fun q h => by rw [← hAe]; exact Or.inr h
  have hS : va_S A s.heap s.heap [] := va_S.rf
  have hz : s.heap.size + 0 ≤ s.heap.size := Nat.le_refl _
  have hl := lv_entry ([.ref xo, .int 1]) (n := 2) (Nat.le_of_ble_eq_true rfl)
  rw [lg_entry_eq]
  generalize (lg_sl ([.ref xo, .int 1]) ++ List.replicate (2 - (lg_sl ([.ref xo, .int 1])).length) Slot.unset).toArray = ls at hl ⊢
  have hl : lv_has ls 2 [(0, .ref xo), (1, .int 1)] := hl
  have hP : va_P (dC, dI) vwCl [(xo, .inr (6, [.ref al, x1, x2, x3, x4, x5, .ref b1, x7])), (al, .inr (4, [.int mc, .ref ed, .int 3]))] s.heap := hP
  have hD : va_D A [(xo, .inr (6, [.ref al, x1, x2, x3, x4, x5, .ref b1, x7])), (al, .inr (4, [.int mc, .ref ed, .int 3]))] := hD
  refine lv_aload_n hx hb dX1_requireRoom_0 rfl (lv_at hl 0 rfl) ?_
  refine va_get (D := (dC, dI)) (ci := 6) (v := .ref al) (C := RX1) (T := TX1) (N := 8) hx hb hts hi_X1_requireRoom_X1 hown hK hP 0 rfl rfl 0 (by decide) (hts (.fieldLink RX1 12 "Deeprows" "rows" "Ljava/util/ArrayList;") (List.mem_cons_of_mem _ zw_171)) (fun _ h9 => h9) rfl dX1_requireRoom_1 ?_
  have hPc := hP.sub (ws' := [(al, .inr (4, [.int mc, .ref ed, .int 3]))]) [1] rfl
  have hDc := hD.sub (ws' := [(al, .inr (4, [.int mc, .ref ed, .int 3]))]) [1] (by decide) rfl
  have hFc := va_free (wc := [(al, .inr (4, [.int mc, .ref ed, .int 3]))]) hD hS hA [1] rfl
  have hDv := hDc.self (sz := s.heap.size)
  have hpre := zpre (xs' := []) (av := [.ref al]) hPc hK (hDc.weaken (fun _ _ _ h => h)) hZ hS hFc (fun r hr => by cases hr)
  refine va_calli (va_runV (As := []) (rest := []) ⟨hx, hb, hml, hown, hts⟩ (k_size l dC dI cI cB cR cO zk al ed 3 (.int mc) s.heap.size ) (cwV 0 hts gX1_requireRoom_Jx4a65c_size_8abf5 rfl rfl rfl (by decide +kernel) ⟨Nat.le_of_ble_eq_true rfl, Nat.le_of_ble_eq_true rfl⟩) ⟨zblind, (zrecv_4 hK hPc (q0 := 0) rfl), hpre⟩ rfl rfl hl.1 rfl (lv_room (Nat.le_of_ble_eq_true rfl)) dX1_requireRoom_4 ⟨Nat.le_of_ble_eq_true rfl, Nat.le_of_ble_eq_true rfl⟩) hS (fun q _ h => hFc q h) hFc (fun r2 u t H1 locs ht hvm hw hB hz1 hk1 hS => ?_)
  obtain rfl : 3 = r2 := (show r2 = 3 from hw).symm
  obtain ⟨hP1, hK1, hD1, hz2⟩ := hB
  rw [ht] at hP1 hz2
  have hPD9 := va_join (wr := [(xo, .inr (6, [.ref al, x1, x2, x3, x4, x5, .ref b1, x7]))]) (w1 := [(al, .inr (4, [.int mc, .ref ed, .int 3]))]) hP hD [1] [0] rfl rfl (by decide) (by decide) hk1 hFc hP1 hD1
  clear hPc hDc hFc hDv hpre hP hD hP1 hK1 hD1
  obtain ⟨hP, hD⟩ := hPD9
  replace hz : s.heap.size + 0 ≤ H1.size := by omega
  clear hz2
  replace hP : va_P (dC, dI) vwCl [(xo, .inr (6, [.ref al, x1, x2, x3, x4, x5, .ref b1, x7])), (al, .inr (4, [.int mc, .ref ed, .int 3]))] H1 := hP
  replace hD : va_D A [(xo, .inr (6, [.ref al, x1, x2, x3, x4, x5, .ref b1, x7])), (al, .inr (4, [.int mc, .ref ed, .int 3]))] := hD
  refine W.widen (k := 0) (n := 0) (by omega) (by omega) ?_
  refine lv_iload_n hx hb dX1_requireRoom_7 rfl (lv_at hl 1 rfl) ?_
  refine lv_iadd hx hb dX1_requireRoom_8 ?_
  refine lv_topi (fun v3 ev3 => ?_)
  obtain rfl : v3 = 4 := ev3.trans (by decide)
  refine lv_bipush (v := 12) hx hb dX1_requireRoom_9 (by decide) ?_
  refine lv_icmp_le (tgt := 25) hx hb dX1_requireRoom_11 (by decide) (fun c9 => ?_) (fun c9 => ?_)
  rotate_left
  · exact absurd (by decide) c9
  have hP9 := hP.sub (ws' := [(xo, .inr (6, [.ref al, x1, x2, x3, x4, x5, .ref b1, x7])), (al, .inr (4, [.int mc, .ref ed, .int 3]))]) [0, 1] rfl
  have hD9 := hD.sub (ws' := [(xo, .inr (6, [.ref al, x1, x2, x3, x4, x5, .ref b1, x7])), (al, .inr (4, [.int mc, .ref ed, .int 3]))]) [0, 1] (by decide) rfl
  exact W.vret hx hb hr (fun t ht hW => ⟨⟨(), rfl, trivial, ⟨by rw [ht]; exact hP9, va_K.moved hW.alike hK, hD9, by rw [ht]; exact hz⟩⟩, hS.F ht⟩) hS.2.2 dX1_requireRoom_25

set_option maxHeartbeats 4000000 in
set_option maxRecDepth 100000 in
theorem k_adR3 (l : Launch) (dC : Nat → ClassId) (dI : Nat → Nat → Nat) (cI cB cR cO : ClassId) (zk : Nat → Nat) (xo al b1 : Nat) (x1 x2 x3 x4 x5 x7 : Value) (ed el e1 e2 e3 : Nat) (ee : Nat → Option Nat) (mc : Int32) (sz : Nat)  : Met l yX1_addRow wsX1_addRow ({ frames := 2, cells := 0, slots := 0, locals := 44 }) (va_Pc [.ref xo, .ref el] (zPre (dC, dI) (zT cI cB cR cO) zk [] [(xo, .inr (6, [.ref al, x1, x2, x3, x4, x5, .ref b1, x7])), (al, .inr (4, [.int mc, .ref ed, .int 3])), (ed, .inl (cO, 10, .inr (.inr (.inr (.inr ee))))), (el, .inr (5, [.int 4, .int 4, .ref e1, .ref e2, .ref e3, .int 0]))] sz)) (va_Qr (fun _ : Unit => True) (fun _ ra t => ∃ (mc2 : Int32), zEnd (dC, dI) (zT cI cB cR cO) (va_A [(xo, .inr (6, [.ref al, x1, x2, x3, x4, x5, .ref b1, x7])), (al, .inr (4, [.int mc, .ref ed, .int 3])), (ed, .inl (cO, 10, .inr (.inr (.inr (.inr ee))))), (el, .inr (5, [.int 4, .int 4, .ref e1, .ref e2, .ref e3, .int 0]))] sz) [(xo, .inr (6, [.ref al, x1, x2, x3, x4, x5, .ref b1, x7])), (al, .inr (4, [.int mc2, .ref ed, .int 4])), (ed, .inl (cO, 10, .inr (.inr (.inr (.inr (va_up ee 3 (some el))))))), (el, .inr (5, [.int 4, .int 4, .ref e1, .ref e2, .ref e3, .int 3]))] sz 0 t ∧ ra = el) (va_A [(xo, .inr (6, [.ref al, x1, x2, x3, x4, x5, .ref b1, x7])), (al, .inr (4, [.int mc, .ref ed, .int 3])), (ed, .inl (cO, 10, .inr (.inr (.inr (.inr ee))))), (el, .inr (5, [.int 4, .int 4, .ref e1, .ref e2, .ref e3, .int 0]))] sz)) 0 0 (va_A [(xo, .inr (6, [.ref al, x1, x2, x3, x4, x5, .ref b1, x7])), (al, .inr (4, [.int mc, .ref ed, .int 3])), (ed, .inl (cO, 10, .inr (.inr (.inr (.inr ee))))), (el, .inr (5, [.int 4, .int 4, .ref e1, .ref e2, .ref e3, .int 0]))] sz) := by
  refine Met.ofW (cc := cX1_addRow) (maxL := 2) (ret := (some (.object "Deeprows$Row"))) (by decide) rfl ?_
  intro p e s mY args below meth c s₁ B hml hv
  obtain ⟨rfl, hsz, hP, hK, hD0, hZ⟩ := hv
  have hx := B.exec
  have hb := B.bytes
  have hr := B.returns
  have hts := atoms_spec (ws := wsX1_addRow) B.pre
  have hown : s.vm.findClass RX1 = some mY.cls := findClass_of_methodNamed B.named
  have hlocks := B.notSynchronized
  subst hsz
  have hD := hD0.self (sz := s.heap.size)
  generalize hAe : va_A [(xo, .inr (6, [.ref al, x1, x2, x3, x4, x5, .ref b1, x7])), (al, .inr (4, [.int mc, .ref ed, .int 3])), (ed, .inl (cO, 10, .inr (.inr (.inr (.inr ee))))), (el, .inr (5, [.int 4, .int 4, .ref e1, .ref e2, .ref e3, .int 0]))] s.heap.size = A at hD hZ ⊢
  have hA : ∀ q : Nat, s.heap.size ≤ q → A q := fun q h => by rw [← hAe]; exact Or.inr h
  have hS : va_S A s.heap s.heap [] := va_S.rf
  have hz : s.heap.size + 0 ≤ s.heap.size := Nat.le_refl _
  have hl := lv_entry ([.ref xo, .ref el]) (n := 2) (Nat.le_of_ble_eq_true rfl)
  rw [lg_entry_eq]
  generalize (lg_sl ([.ref xo, .ref el]) ++ List.replicate (2 - (lg_sl ([.ref xo, .ref el])).length) Slot.unset).toArray = ls at hl ⊢
  have hl : lv_has ls 2 [(0, .ref xo), (1, .ref el)] := hl
  have hP : va_P (dC, dI) vwCl [(xo, .inr (6, [.ref al, x1, x2, x3, x4, x5, .ref b1, x7])), (al, .inr (4, [.int mc, .ref ed, .int 3])), (ed, .inl (cO, 10, .inr (.inr (.inr (.inr ee))))), (el, .inr (5, [.int 4, .int 4, .ref e1, .ref e2, .ref e3, .int 0]))] s.heap := hP
  have hD : va_D A [(xo, .inr (6, [.ref al, x1, x2, x3, x4, x5, .ref b1, x7])), (al, .inr (4, [.int mc, .ref ed, .int 3])), (ed, .inl (cO, 10, .inr (.inr (.inr (.inr ee))))), (el, .inr (5, [.int 4, .int 4, .ref e1, .ref e2, .ref e3, .int 0]))] := hD
  refine lv_aload_n hx hb dX1_addRow_0 rfl (lv_at hl 1 rfl) ?_
  refine lv_aload_n hx hb dX1_addRow_1 rfl (lv_at hl 0 rfl) ?_
  refine va_get (D := (dC, dI)) (ci := 6) (v := .ref al) (C := RX1) (T := TX1) (N := 8) hx hb hts hi_X1_addRow_X1 hown hK hP 0 rfl rfl 0 (by decide) (hts (.fieldLink RX1 12 "Deeprows" "rows" "Ljava/util/ArrayList;") (List.mem_cons_of_mem _ zw_171)) (fun _ h9 => h9) rfl dX1_addRow_2 ?_
  have hPc := hP.sub (ws' := [(al, .inr (4, [.int mc, .ref ed, .int 3]))]) [1] rfl
  have hDc := hD.sub (ws' := [(al, .inr (4, [.int mc, .ref ed, .int 3]))]) [1] (by decide) rfl
  have hFc := va_free (wc := [(al, .inr (4, [.int mc, .ref ed, .int 3]))]) hD hS hA [1] rfl
  have hDv := hDc.self (sz := s.heap.size)
  have hpre := zpre (xs' := []) (av := [.ref al]) hPc hK (hDc.weaken (fun _ _ _ h => h)) hZ hS hFc (fun r hr => by cases hr)
  refine va_calli (va_runV (As := []) (rest := [.ref el]) ⟨hx, hb, hml, hown, hts⟩ (k_size l dC dI cI cB cR cO zk al ed 3 (.int mc) s.heap.size ) (cwV 0 hts gX1_addRow_Jx4a65c_size_8abf5 rfl rfl rfl (by decide +kernel) ⟨Nat.le_of_ble_eq_true rfl, Nat.le_of_ble_eq_true rfl⟩) ⟨zblind, (zrecv_4 hK hPc (q0 := 0) rfl), hpre⟩ rfl rfl hl.1 rfl (lv_room (Nat.le_of_ble_eq_true rfl)) dX1_addRow_5 ⟨Nat.le_of_ble_eq_true rfl, Nat.le_of_ble_eq_true rfl⟩) hS (fun q _ h => hFc q h) hFc (fun r2 u t H1 locs ht hvm hw hB hz1 hk1 hS => ?_)
  obtain rfl : 3 = r2 := (show r2 = 3 from hw).symm
  obtain ⟨hP1, hK1, hD1, hz2⟩ := hB
  rw [ht] at hP1 hz2
  have hPD9 := va_join (wr := [(xo, .inr (6, [.ref al, x1, x2, x3, x4, x5, .ref b1, x7])), (ed, .inl (cO, 10, .inr (.inr (.inr (.inr ee))))), (el, .inr (5, [.int 4, .int 4, .ref e1, .ref e2, .ref e3, .int 0]))]) (w1 := [(al, .inr (4, [.int mc, .ref ed, .int 3]))]) hP hD [1] [0, 2, 3] rfl rfl (by decide) (by decide) hk1 hFc hP1 hD1
  clear hPc hDc hFc hDv hpre hP hD hP1 hK1 hD1
  obtain ⟨hP, hD⟩ := hPD9
  replace hz : s.heap.size + 0 ≤ H1.size := by omega
  clear hz2
  replace hP : va_P (dC, dI) vwCl [(xo, .inr (6, [.ref al, x1, x2, x3, x4, x5, .ref b1, x7])), (ed, .inl (cO, 10, .inr (.inr (.inr (.inr ee))))), (el, .inr (5, [.int 4, .int 4, .ref e1, .ref e2, .ref e3, .int 0])), (al, .inr (4, [.int mc, .ref ed, .int 3]))] H1 := hP
  replace hD : va_D A [(xo, .inr (6, [.ref al, x1, x2, x3, x4, x5, .ref b1, x7])), (ed, .inl (cO, 10, .inr (.inr (.inr (.inr ee))))), (el, .inr (5, [.int 4, .int 4, .ref e1, .ref e2, .ref e3, .int 0])), (al, .inr (4, [.int mc, .ref ed, .int 3]))] := hD
  refine W.widen (k := 0) (n := 0) (by omega) (by omega) ?_
  refine va_putN (D := (dC, dI)) (ci := 5) (v := .int 3) (ty := .int) (C := RX0) (T := TX0) (N := 6) hx hb hts hi_X1_addRow_X0 tyX0 tyX0_ok nmX0 hown hK hP hD (zS0 hS) 2 rfl rfl 5 (by decide) (zn5 hZ) (fun _ h9 => h9) rfl (by decide +kernel) rfl rfl (Nat.le_of_ble_eq_true rfl) dX1_addRow_8 (fun H3 locs hP hD hS1 => ?_)
  have hz : s.heap.size + 0 ≤ H3.size := Nat.le_trans hz hS1.1
  have hS := zSS hS hS1
  replace hP : va_P (dC, dI) vwCl [(xo, .inr (6, [.ref al, x1, x2, x3, x4, x5, .ref b1, x7])), (ed, .inl (cO, 10, .inr (.inr (.inr (.inr ee))))), (el, .inr (5, [.int 4, .int 4, .ref e1, .ref e2, .ref e3, .int 3])), (al, .inr (4, [.int mc, .ref ed, .int 3]))] H3 := hP
  replace hD : va_D A [(xo, .inr (6, [.ref al, x1, x2, x3, x4, x5, .ref b1, x7])), (ed, .inl (cO, 10, .inr (.inr (.inr (.inr ee))))), (el, .inr (5, [.int 4, .int 4, .ref e1, .ref e2, .ref e3, .int 3])), (al, .inr (4, [.int mc, .ref ed, .int 3]))] := hD
  refine lv_aload_n hx hb dX1_addRow_11 rfl (lv_at hl 0 rfl) ?_
  refine va_get (D := (dC, dI)) (ci := 6) (v := .ref al) (C := RX1) (T := TX1) (N := 8) hx hb hts hi_X1_addRow_X1 hown hK hP 0 rfl rfl 0 (by decide) (hts (.fieldLink RX1 12 "Deeprows" "rows" "Ljava/util/ArrayList;") (List.mem_cons_of_mem _ zw_171)) (fun _ h9 => h9) rfl dX1_addRow_12 ?_
  refine lv_aload_n hx hb dX1_addRow_15 rfl (lv_at hl 1 rfl) ?_
  have hPc := hP.sub (ws' := [(al, .inr (4, [.int mc, .ref ed, .int 3])), (ed, .inl (cO, 10, .inr (.inr (.inr (.inr ee))))), (el, .inr (5, [.int 4, .int 4, .ref e1, .ref e2, .ref e3, .int 3]))]) [3, 1, 2] rfl
  have hDc := hD.sub (ws' := [(al, .inr (4, [.int mc, .ref ed, .int 3])), (ed, .inl (cO, 10, .inr (.inr (.inr (.inr ee))))), (el, .inr (5, [.int 4, .int 4, .ref e1, .ref e2, .ref e3, .int 3]))]) [3, 1, 2] (by decide) rfl
  have hFc := va_free (wc := [(al, .inr (4, [.int mc, .ref ed, .int 3])), (ed, .inl (cO, 10, .inr (.inr (.inr (.inr ee))))), (el, .inr (5, [.int 4, .int 4, .ref e1, .ref e2, .ref e3, .int 3]))]) hD hS hA [3, 1, 2] rfl
  have hDv := hDc.self (sz := H3.size)
  have hpre := zpre (xs' := []) (av := [.ref al, .ref el]) hPc hK (hDc.weaken (fun _ _ _ h => h)) hZ hS hFc (fun r hr => by cases hr)
  refine va_calli (va_runV (As := [.ref el]) (rest := []) ⟨hx, hb, hml, hown, hts⟩ (k_addBX0 l dC dI cI cB cR cO zk al el ed 3 ee mc e1 e2 e3 3 H3.size (by decide)) (cwV 1 hts gX1_addRow_Jx4a65c_add_9ea2d rfl rfl rfl (by decide +kernel) ⟨Nat.le_of_ble_eq_true rfl, Nat.le_of_ble_eq_true rfl⟩) ⟨zblind, (zrecv_4 hK hPc (q0 := 0) rfl), hpre⟩ rfl rfl hl.1 rfl (lv_room (Nat.le_of_ble_eq_true rfl)) dX1_addRow_16 ⟨Nat.le_of_ble_eq_true rfl, Nat.le_of_ble_eq_true rfl⟩) hS (fun q _ h => hFc q h) hFc (fun r5 u t H4 locs ht hvm hw hB hz1 hk1 hS => ?_)
  obtain rfl : 1 = r5 := (show r5 = 1 from hw).symm
  obtain ⟨mc6, ⟨hP1, hK1, hD1, hz2⟩⟩ := hB
  rw [ht] at hP1 hz2
  have hPD9 := va_join (wr := [(xo, .inr (6, [.ref al, x1, x2, x3, x4, x5, .ref b1, x7]))]) (w1 := [(al, .inr (4, [.int mc6, .ref ed, .int 4])), (ed, .inl (cO, 10, .inr (.inr (.inr (.inr (va_up ee 3 (some el))))))), (el, .inr (5, [.int 4, .int 4, .ref e1, .ref e2, .ref e3, .int 3]))]) hP hD [3, 1, 2] [0] rfl rfl (by decide) (by decide) hk1 hFc hP1 hD1
  clear hPc hDc hFc hDv hpre hP hD hP1 hK1 hD1
  obtain ⟨hP, hD⟩ := hPD9
  replace hz : s.heap.size + 0 ≤ H4.size := by omega
  clear hz2
  replace hP : va_P (dC, dI) vwCl [(xo, .inr (6, [.ref al, x1, x2, x3, x4, x5, .ref b1, x7])), (al, .inr (4, [.int mc6, .ref ed, .int 4])), (ed, .inl (cO, 10, .inr (.inr (.inr (.inr (va_up ee 3 (some el))))))), (el, .inr (5, [.int 4, .int 4, .ref e1, .ref e2, .ref e3, .int 3]))] H4 := hP
  replace hD : va_D A [(xo, .inr (6, [.ref al, x1, x2, x3, x4, x5, .ref b1, x7])), (al, .inr (4, [.int mc6, .ref ed, .int 4])), (ed, .inl (cO, 10, .inr (.inr (.inr (.inr (va_up ee 3 (some el))))))), (el, .inr (5, [.int 4, .int 4, .ref e1, .ref e2, .ref e3, .int 3]))] := hD
  refine W.widen (k := 0) (n := 0) (by omega) (by omega) ?_
  refine lv_pop hx hb dX1_addRow_19 rfl ?_
  refine lv_aload_n hx hb dX1_addRow_20 rfl (lv_at hl 1 rfl) ?_
  have hP9 := hP.sub (ws' := [(xo, .inr (6, [.ref al, x1, x2, x3, x4, x5, .ref b1, x7])), (al, .inr (4, [.int mc6, .ref ed, .int 4])), (ed, .inl (cO, 10, .inr (.inr (.inr (.inr (va_up ee 3 (some el))))))), (el, .inr (5, [.int 4, .int 4, .ref e1, .ref e2, .ref e3, .int 3]))]) [0, 1, 2, 3] rfl
  have hD9 := hD.sub (ws' := [(xo, .inr (6, [.ref al, x1, x2, x3, x4, x5, .ref b1, x7])), (al, .inr (4, [.int mc6, .ref ed, .int 4])), (ed, .inl (cO, 10, .inr (.inr (.inr (.inr (va_up ee 3 (some el))))))), (el, .inr (5, [.int 4, .int 4, .ref e1, .ref e2, .ref e3, .int 3]))]) [0, 1, 2, 3] (by decide) rfl
  exact W.aret hx hb hr (by first | exact Or.inl ⟨_, rfl⟩ | exact Or.inr ⟨_, rfl⟩) (Or.inr ⟨_, rfl⟩) (fun t ht hW => ⟨⟨(), _, rfl, trivial, ⟨_, ⟨by rw [ht]; exact hP9, va_K.moved hW.alike hK, hD9, by rw [ht]; exact hz⟩, rfl⟩⟩, hS.F ht⟩) hS.2.2 dX1_addRow_21

set_option maxHeartbeats 4000000 in
set_option maxRecDepth 100000 in
theorem k_mkX3 (l : Launch) (dC : Nat → ClassId) (dI : Nat → Nat → Nat) (cI cB cR cO : ClassId) (zk : Nat → Nat) (xo al b1 : Nat) (x1 x2 x3 x4 x5 x7 : Value) (ed : Nat) (ee : Nat → Option Nat) (mc : Int32) (sz : Nat)  : Met l yX1_make wsX1_make ({ frames := 3, cells := 4, slots := 18, locals := 83 }) (va_Pc [.ref xo, .int 4, .int 4] (zPre (dC, dI) (zT cI cB cR cO) zk [] [(xo, .inr (6, [.ref al, x1, x2, x3, x4, x5, .ref b1, x7])), (al, .inr (4, [.int mc, .ref ed, .int 3])), (ed, .inl (cO, 10, .inr (.inr (.inr (.inr ee)))))] sz)) (va_Qi (fun r (_ : Unit) => True) (fun _ t => ∃ (mc2 : Int32), ∃ y, ∃ yw, ∃ yv, ∃ yh, ∃ (gw : Nat → Int32), ∃ (gv : Nat → Int32), ∃ (gh : Nat → Option Nat), zEnd (dC, dI) (zT cI cB cR cO) (va_A [(xo, .inr (6, [.ref al, x1, x2, x3, x4, x5, .ref b1, x7])), (al, .inr (4, [.int mc, .ref ed, .int 3])), (ed, .inl (cO, 10, .inr (.inr (.inr (.inr ee)))))] sz) [(xo, .inr (6, [.ref al, x1, x2, x3, x4, x5, .ref b1, x7])), (al, .inr (4, [.int mc2, .ref ed, .int 4])), (ed, .inl (cO, 10, .inr (.inr (.inr (.inr (va_up ee 3 (some y))))))), (y, .inr (5, [.int 4, .int 4, .ref yw, .ref yv, .ref yh, .int 3])), (yw, .inl (cI, 4, .inl gw)), (yv, .inl (cI, 4, .inl gv)), (yh, .inl (cR, 4, .inr (.inr (.inr (.inr gh)))))] sz 4 t ∧ (∀ i, i < 4 → gw i = 0) ∧ (∀ i, i < 4 → gh i = none)) (va_A [(xo, .inr (6, [.ref al, x1, x2, x3, x4, x5, .ref b1, x7])), (al, .inr (4, [.int mc, .ref ed, .int 3])), (ed, .inl (cO, 10, .inr (.inr (.inr (.inr ee)))))] sz)) 4 18 (va_A [(xo, .inr (6, [.ref al, x1, x2, x3, x4, x5, .ref b1, x7])), (al, .inr (4, [.int mc, .ref ed, .int 3])), (ed, .inl (cO, 10, .inr (.inr (.inr (.inr ee)))))] sz) := by
  refine Met.ofW (cc := cX1_make) (maxL := 3) (ret := (some .int)) (by decide) rfl ?_
  intro p e s mY args below meth c s₁ B hml hv
  obtain ⟨rfl, hsz, hP, hK, hD0, hZ⟩ := hv
  have hx := B.exec
  have hb := B.bytes
  have hr := B.returns
  have hts := atoms_spec (ws := wsX1_make) B.pre
  have hown : s.vm.findClass RX1 = some mY.cls := findClass_of_methodNamed B.named
  have hlocks := B.notSynchronized
  subst hsz
  have hD := hD0.self (sz := s.heap.size)
  generalize hAe : va_A [(xo, .inr (6, [.ref al, x1, x2, x3, x4, x5, .ref b1, x7])), (al, .inr (4, [.int mc, .ref ed, .int 3])), (ed, .inl (cO, 10, .inr (.inr (.inr (.inr ee)))))] s.heap.size = A at hD hZ ⊢
  have hA : ∀ q : Nat, s.heap.size ≤ q → A q := fun q h => by rw [← hAe]; exact Or.inr h
  have hS : va_S A s.heap s.heap [] := va_S.rf
  have hz : s.heap.size + 0 ≤ s.heap.size := Nat.le_refl _
  have hl := lv_entry ([.ref xo, .int 4, .int 4]) (n := 3) (Nat.le_of_ble_eq_true rfl)
  rw [lg_entry_eq]
  generalize (lg_sl ([.ref xo, .int 4, .int 4]) ++ List.replicate (3 - (lg_sl ([.ref xo, .int 4, .int 4])).length) Slot.unset).toArray = ls at hl ⊢
  have hl : lv_has ls 3 [(0, .ref xo), (1, .int 4), (2, .int 4)] := hl
  have hP : va_P (dC, dI) vwCl [(xo, .inr (6, [.ref al, x1, x2, x3, x4, x5, .ref b1, x7])), (al, .inr (4, [.int mc, .ref ed, .int 3])), (ed, .inl (cO, 10, .inr (.inr (.inr (.inr ee)))))] s.heap := hP
  have hD : va_D A [(xo, .inr (6, [.ref al, x1, x2, x3, x4, x5, .ref b1, x7])), (al, .inr (4, [.int mc, .ref ed, .int 3])), (ed, .inl (cO, 10, .inr (.inr (.inr (.inr ee)))))] := hD
  refine lv_iload_n hx hb dX1_make_0 rfl (lv_at hl 1 rfl) ?_
  refine lv_if_lt (tgt := 9) hx hb dX1_make_1 (by decide) (fun c9 => ?_) (fun c9 => ?_)
  · exact absurd c9 (by decide)
  refine lv_iload_n hx hb dX1_make_4 rfl (lv_at hl 1 rfl) ?_
  refine lv_iconst (v := 4) hx hb dX1_make_5 (by decide) ?_
  refine lv_icmp_le (tgt := 19) hx hb dX1_make_6 (by decide) (fun c9 => ?_) (fun c9 => ?_)
  rotate_left
  · exact absurd (by decide) c9
  refine lv_iload_n hx hb dX1_make_19 rfl (lv_at hl 2 rfl) ?_
  have hPc := hP.sub (ws' := []) [] rfl
  have hDc := hD.sub (ws' := []) [] (by decide) rfl
  have hFc := va_free (wc := []) hD hS hA [] rfl
  have hDv := hDc.self (sz := s.heap.size)
  have hpre := zpre (xs' := []) (av := [.int 4]) hPc hK (hDc.weaken (fun _ _ _ h => h)) hZ hS hFc (fun r hr => by cases hr)
  refine va_callv (va_runS (As := [.int 4]) (rest := []) ⟨hx, hb, hml, hown, hts⟩ (k_rqL l dC dI cI cB cR cO zk  s.heap.size ) (va_cwS 1 hts gX1_make_X1_requireLength rfl rfl rfl (by decide +kernel) ⟨Nat.le_of_ble_eq_true rfl, Nat.le_of_ble_eq_true rfl⟩) ⟨zblind, hpre⟩ rfl rfl hl.1 rfl (lv_room (Nat.le_of_ble_eq_true rfl)) dX1_make_20 ⟨Nat.le_of_ble_eq_true rfl, Nat.le_of_ble_eq_true rfl⟩) hS (fun q _ h => hFc q h) hFc (fun u t H1 locs ht hvm hw hB hz1 hk1 hS => ?_)
  obtain ⟨hP1, hK1, hD1, hz2⟩ := hB
  rw [ht] at hP1 hz2
  have hPD9 := va_join (wr := [(xo, .inr (6, [.ref al, x1, x2, x3, x4, x5, .ref b1, x7])), (al, .inr (4, [.int mc, .ref ed, .int 3])), (ed, .inl (cO, 10, .inr (.inr (.inr (.inr ee)))))]) (w1 := []) hP hD [] [0, 1, 2] rfl rfl (by decide) (by decide) hk1 hFc hP1 hD1
  clear hPc hDc hFc hDv hpre hP hD hP1 hK1 hD1
  obtain ⟨hP, hD⟩ := hPD9
  replace hz : s.heap.size + 0 ≤ H1.size := by omega
  clear hz2
  replace hP : va_P (dC, dI) vwCl [(xo, .inr (6, [.ref al, x1, x2, x3, x4, x5, .ref b1, x7])), (al, .inr (4, [.int mc, .ref ed, .int 3])), (ed, .inl (cO, 10, .inr (.inr (.inr (.inr ee)))))] H1 := hP
  replace hD : va_D A [(xo, .inr (6, [.ref al, x1, x2, x3, x4, x5, .ref b1, x7])), (al, .inr (4, [.int mc, .ref ed, .int 3])), (ed, .inl (cO, 10, .inr (.inr (.inr (.inr ee)))))] := hD
  refine W.widen (k := 0) (n := 0) (by omega) (by omega) ?_
  refine lv_aload_n hx hb dX1_make_23 rfl (lv_at hl 0 rfl) ?_
  refine lv_iconst (v := 1) hx hb dX1_make_24 (by decide) ?_
  have hPc := hP.sub (ws' := [(xo, .inr (6, [.ref al, x1, x2, x3, x4, x5, .ref b1, x7])), (al, .inr (4, [.int mc, .ref ed, .int 3]))]) [0, 1] rfl
  have hDc := hD.sub (ws' := [(xo, .inr (6, [.ref al, x1, x2, x3, x4, x5, .ref b1, x7])), (al, .inr (4, [.int mc, .ref ed, .int 3]))]) [0, 1] (by decide) rfl
  have hFc := va_free (wc := [(xo, .inr (6, [.ref al, x1, x2, x3, x4, x5, .ref b1, x7])), (al, .inr (4, [.int mc, .ref ed, .int 3]))]) hD hS hA [0, 1] rfl
  have hDv := hDc.self (sz := H1.size)
  have hpre := zpre (xs' := []) (av := [.ref xo, .int 1]) hPc hK (hDc.weaken (fun _ _ _ h => h)) hZ hS hFc (fun r hr => by cases hr)
  refine va_callv (va_runV (As := [.int 1]) (rest := []) ⟨hx, hb, hml, hown, hts⟩ (k_rqR3 l dC dI cI cB cR cO zk xo al b1 x1 x2 x3 x4 x5 x7 ed mc H1.size ) (cwV 1 hts gX1_make_X1_requireRoom rfl rfl rfl (by decide +kernel) ⟨Nat.le_of_ble_eq_true rfl, Nat.le_of_ble_eq_true rfl⟩) ⟨zblind, (zrecv_6 hK hPc (q0 := 0) rfl), hpre⟩ rfl rfl hl.1 rfl (lv_room (Nat.le_of_ble_eq_true rfl)) dX1_make_25 ⟨Nat.le_of_ble_eq_true rfl, Nat.le_of_ble_eq_true rfl⟩) hS (fun q _ h => hFc q h) hFc (fun u t H3 locs ht hvm hw hB hz1 hk1 hS => ?_)
  obtain ⟨hP1, hK1, hD1, hz2⟩ := hB
  rw [ht] at hP1 hz2
  have hPD9 := va_join (wr := [(ed, .inl (cO, 10, .inr (.inr (.inr (.inr ee)))))]) (w1 := [(xo, .inr (6, [.ref al, x1, x2, x3, x4, x5, .ref b1, x7])), (al, .inr (4, [.int mc, .ref ed, .int 3]))]) hP hD [0, 1] [2] rfl rfl (by decide) (by decide) hk1 hFc hP1 hD1
  clear hPc hDc hFc hDv hpre hP hD hP1 hK1 hD1
  obtain ⟨hP, hD⟩ := hPD9
  replace hz : s.heap.size + 0 ≤ H3.size := by omega
  clear hz2
  replace hP : va_P (dC, dI) vwCl [(ed, .inl (cO, 10, .inr (.inr (.inr (.inr ee))))), (xo, .inr (6, [.ref al, x1, x2, x3, x4, x5, .ref b1, x7])), (al, .inr (4, [.int mc, .ref ed, .int 3]))] H3 := hP
  replace hD : va_D A [(ed, .inl (cO, 10, .inr (.inr (.inr (.inr ee))))), (xo, .inr (6, [.ref al, x1, x2, x3, x4, x5, .ref b1, x7])), (al, .inr (4, [.int mc, .ref ed, .int 3]))] := hD
  refine W.widen (k := 0) (n := 0) (by omega) (by omega) ?_
  refine lv_aload_n hx hb dX1_make_28 rfl (lv_at hl 0 rfl) ?_
  refine zw_new (ci := 5) (fs := [.int 0, .int 0, .null, .null, .null, .int 0]) (C := RX0) (T := TX0) (N := 6) hx hb hts hi_X1_make_X0 tyX0 tyX0_ok hown (hts (.classLink RX1 26 "Deeprows$Row") (List.mem_cons_of_mem _ zw_105)) (hts (.instantiable RX0 6) (List.mem_cons_of_mem _ zw_106)) (hts (.initialized RX0) (List.mem_cons_of_mem _ zw_45)) hK hP hD hS hA rfl (fun j hj => by rcases (show j = 0 ∨ j = 1 ∨ j = 2 ∨ j = 3 ∨ j = 4 ∨ j = 5 by omega) with rfl | rfl | rfl | rfl | rfl | rfl <;> rfl) (Nat.le_of_ble_eq_true rfl) (Nat.le_of_ble_eq_true rfl) dX1_make_29 hz (fun q5 H6 hP hD hS hz => ?_)
  replace hP : va_P (dC, dI) vwCl [(ed, .inl (cO, 10, .inr (.inr (.inr (.inr ee))))), (xo, .inr (6, [.ref al, x1, x2, x3, x4, x5, .ref b1, x7])), (al, .inr (4, [.int mc, .ref ed, .int 3])), (q5, .inr (5, [.int 0, .int 0, .null, .null, .null, .int 0]))] H6 := hP
  replace hD : va_D A [(ed, .inl (cO, 10, .inr (.inr (.inr (.inr ee))))), (xo, .inr (6, [.ref al, x1, x2, x3, x4, x5, .ref b1, x7])), (al, .inr (4, [.int mc, .ref ed, .int 3])), (q5, .inr (5, [.int 0, .int 0, .null, .null, .null, .int 0]))] := hD
  refine W.widen (k := 1) (n := 6) (by omega) (by omega) ?_
  refine lv_dup hx hb dX1_make_32 rfl ?_
  refine lv_iload_n hx hb dX1_make_33 rfl (lv_at hl 1 rfl) ?_
  refine lv_iload_n hx hb dX1_make_34 rfl (lv_at hl 2 rfl) ?_
  have hPc := hP.sub (ws' := [(q5, .inr (5, [.int 0, .int 0, .null, .null, .null, .int 0]))]) [3] rfl
  have hDc := hD.sub (ws' := [(q5, .inr (5, [.int 0, .int 0, .null, .null, .null, .int 0]))]) [3] (by decide) rfl
  have hFc := va_free (wc := [(q5, .inr (5, [.int 0, .int 0, .null, .null, .null, .int 0]))]) hD hS hA [3] rfl
  have hDv := hDc.self (sz := H6.size)
  have hpre := zpre (xs' := []) (av := [.ref q5, .int 4, .int 4]) hPc hK (hDc.weaken (fun _ _ _ h => h)) hZ hS hFc (fun r hr => by cases hr)
  refine va_callv (va_runI (As := [.int 4, .int 4]) (rest := [.ref q5, .ref xo]) ⟨hx, hb, hml, hown, hts⟩ (k_rin4 l dC dI cI cB cR cO zk q5 H6.size ) (cwI 2 hts gX1_make_X0_init rfl rfl rfl (hts (.initialized RX0) (List.mem_cons_of_mem _ zw_45)) (hts (.methodLink RX1 28 yX0_init) (List.mem_cons_of_mem _ zw_107)) (hts (.instanceMethod yX0_init) (List.mem_cons_of_mem _ zw_108)) rfl (by decide +kernel) ⟨Nat.le_of_ble_eq_true rfl, Nat.le_of_ble_eq_true rfl⟩) ⟨zblind, hpre⟩ rfl rfl hl.1 rfl (lv_room (Nat.le_of_ble_eq_true rfl)) dX1_make_35 ⟨Nat.le_of_ble_eq_true rfl, Nat.le_of_ble_eq_true rfl⟩) hS (fun q _ h => hFc q h) hFc (fun u t H7 locs ht hvm hw hB hz1 hk1 hS => ?_)
  obtain ⟨w9, v10, h11, gw12, gv13, gh14, ⟨hP1, hK1, hD1, hz2⟩, hwgw12, hhgh14⟩ := hB
  rw [ht] at hP1 hz2
  have hPD9 := va_join (wr := [(ed, .inl (cO, 10, .inr (.inr (.inr (.inr ee))))), (xo, .inr (6, [.ref al, x1, x2, x3, x4, x5, .ref b1, x7])), (al, .inr (4, [.int mc, .ref ed, .int 3]))]) (w1 := [(q5, .inr (5, [.int 4, .int 4, .ref w9, .ref v10, .ref h11, .int 0])), (w9, .inl (cI, 4, .inl gw12)), (v10, .inl (cI, 4, .inl gv13)), (h11, .inl (cR, 4, .inr (.inr (.inr (.inr gh14)))))]) hP hD [3] [0, 1, 2] rfl rfl (by decide) (by decide) hk1 hFc hP1 hD1
  clear hPc hDc hFc hDv hpre hP hD hP1 hK1 hD1
  obtain ⟨hP, hD⟩ := hPD9
  replace hz : s.heap.size + 4 ≤ H7.size := by omega
  clear hz2
  replace hP : va_P (dC, dI) vwCl [(ed, .inl (cO, 10, .inr (.inr (.inr (.inr ee))))), (xo, .inr (6, [.ref al, x1, x2, x3, x4, x5, .ref b1, x7])), (al, .inr (4, [.int mc, .ref ed, .int 3])), (q5, .inr (5, [.int 4, .int 4, .ref w9, .ref v10, .ref h11, .int 0])), (w9, .inl (cI, 4, .inl gw12)), (v10, .inl (cI, 4, .inl gv13)), (h11, .inl (cR, 4, .inr (.inr (.inr (.inr gh14)))))] H7 := hP
  replace hD : va_D A [(ed, .inl (cO, 10, .inr (.inr (.inr (.inr ee))))), (xo, .inr (6, [.ref al, x1, x2, x3, x4, x5, .ref b1, x7])), (al, .inr (4, [.int mc, .ref ed, .int 3])), (q5, .inr (5, [.int 4, .int 4, .ref w9, .ref v10, .ref h11, .int 0])), (w9, .inl (cI, 4, .inl gw12)), (v10, .inl (cI, 4, .inl gv13)), (h11, .inl (cR, 4, .inr (.inr (.inr (.inr gh14)))))] := hD
  refine W.widen (k := 4) (n := 18) (by omega) (by omega) ?_
  have hPc := hP.sub (ws' := [(xo, .inr (6, [.ref al, x1, x2, x3, x4, x5, .ref b1, x7])), (al, .inr (4, [.int mc, .ref ed, .int 3])), (ed, .inl (cO, 10, .inr (.inr (.inr (.inr ee))))), (q5, .inr (5, [.int 4, .int 4, .ref w9, .ref v10, .ref h11, .int 0]))]) [1, 2, 0, 3] rfl
  have hDc := hD.sub (ws' := [(xo, .inr (6, [.ref al, x1, x2, x3, x4, x5, .ref b1, x7])), (al, .inr (4, [.int mc, .ref ed, .int 3])), (ed, .inl (cO, 10, .inr (.inr (.inr (.inr ee))))), (q5, .inr (5, [.int 4, .int 4, .ref w9, .ref v10, .ref h11, .int 0]))]) [1, 2, 0, 3] (by decide) rfl
  have hFc := va_free (wc := [(xo, .inr (6, [.ref al, x1, x2, x3, x4, x5, .ref b1, x7])), (al, .inr (4, [.int mc, .ref ed, .int 3])), (ed, .inl (cO, 10, .inr (.inr (.inr (.inr ee))))), (q5, .inr (5, [.int 4, .int 4, .ref w9, .ref v10, .ref h11, .int 0]))]) hD hS hA [1, 2, 0, 3] rfl
  have hDv := hDc.self (sz := H7.size)
  have hpre := zpre (xs' := []) (av := [.ref xo, .ref q5]) hPc hK (hDc.weaken (fun _ _ _ h => h)) hZ hS hFc (fun r hr => by cases hr)
  refine va_callr (va_runV (As := [.ref q5]) (rest := []) ⟨hx, hb, hml, hown, hts⟩ (k_adR3 l dC dI cI cB cR cO zk xo al b1 x1 x2 x3 x4 x5 x7 ed q5 w9 v10 h11 ee mc H7.size ) (cwV 1 hts gX1_make_X1_addRow rfl rfl rfl (by decide +kernel) ⟨Nat.le_of_ble_eq_true rfl, Nat.le_of_ble_eq_true rfl⟩) ⟨zblind, (zrecv_6 hK hPc (q0 := 0) rfl), hpre⟩ rfl rfl hl.1 rfl (lv_room (Nat.le_of_ble_eq_true rfl)) dX1_make_38 ⟨Nat.le_of_ble_eq_true rfl, Nat.le_of_ble_eq_true rfl⟩) hS (fun q _ h => hFc q h) hFc (fun u r16 t H15 locs ht hvm hw hB hz1 hk1 hS => ?_)
  obtain ⟨mc17, ⟨hP1, hK1, hD1, hz2⟩, her16⟩ := hB
  rw [ht] at hP1 hz2
  have hPD9 := va_join (wr := [(w9, .inl (cI, 4, .inl gw12)), (v10, .inl (cI, 4, .inl gv13)), (h11, .inl (cR, 4, .inr (.inr (.inr (.inr gh14)))))]) (w1 := [(xo, .inr (6, [.ref al, x1, x2, x3, x4, x5, .ref b1, x7])), (al, .inr (4, [.int mc17, .ref ed, .int 4])), (ed, .inl (cO, 10, .inr (.inr (.inr (.inr (va_up ee 3 (some q5))))))), (q5, .inr (5, [.int 4, .int 4, .ref w9, .ref v10, .ref h11, .int 3]))]) hP hD [1, 2, 0, 3] [4, 5, 6] rfl rfl (by decide) (by decide) hk1 hFc hP1 hD1
  clear hPc hDc hFc hDv hpre hP hD hP1 hK1 hD1
  obtain ⟨hP, hD⟩ := hPD9
  replace hz : s.heap.size + 4 ≤ H15.size := by omega
  clear hz2
  replace hP : va_P (dC, dI) vwCl [(w9, .inl (cI, 4, .inl gw12)), (v10, .inl (cI, 4, .inl gv13)), (h11, .inl (cR, 4, .inr (.inr (.inr (.inr gh14))))), (xo, .inr (6, [.ref al, x1, x2, x3, x4, x5, .ref b1, x7])), (al, .inr (4, [.int mc17, .ref ed, .int 4])), (ed, .inl (cO, 10, .inr (.inr (.inr (.inr (va_up ee 3 (some q5))))))), (q5, .inr (5, [.int 4, .int 4, .ref w9, .ref v10, .ref h11, .int 3]))] H15 := hP
  replace hD : va_D A [(w9, .inl (cI, 4, .inl gw12)), (v10, .inl (cI, 4, .inl gv13)), (h11, .inl (cR, 4, .inr (.inr (.inr (.inr gh14))))), (xo, .inr (6, [.ref al, x1, x2, x3, x4, x5, .ref b1, x7])), (al, .inr (4, [.int mc17, .ref ed, .int 4])), (ed, .inl (cO, 10, .inr (.inr (.inr (.inr (va_up ee 3 (some q5))))))), (q5, .inr (5, [.int 4, .int 4, .ref w9, .ref v10, .ref h11, .int 3]))] := hD
  refine W.widen (k := 4) (n := 18) (by omega) (by omega) ?_
  obtain rfl := her16.symm
  refine va_getN (D := (dC, dI)) (ci := 5) (v := .int 3) (C := RX0) (T := TX0) (N := 6) hx hb hts hi_X1_make_X0 hown hK hP 6 rfl rfl 5 (by decide) (zn5 hZ) (fun _ h9 => h9) rfl dX1_make_41 ?_
  have hP9 := hP.sub (ws' := [(xo, .inr (6, [.ref al, x1, x2, x3, x4, x5, .ref b1, x7])), (al, .inr (4, [.int mc17, .ref ed, .int 4])), (ed, .inl (cO, 10, .inr (.inr (.inr (.inr (va_up ee 3 (some q5))))))), (q5, .inr (5, [.int 4, .int 4, .ref w9, .ref v10, .ref h11, .int 3])), (w9, .inl (cI, 4, .inl gw12)), (v10, .inl (cI, 4, .inl gv13)), (h11, .inl (cR, 4, .inr (.inr (.inr (.inr gh14)))))]) [3, 4, 5, 6, 0, 1, 2] rfl
  have hD9 := hD.sub (ws' := [(xo, .inr (6, [.ref al, x1, x2, x3, x4, x5, .ref b1, x7])), (al, .inr (4, [.int mc17, .ref ed, .int 4])), (ed, .inl (cO, 10, .inr (.inr (.inr (.inr (va_up ee 3 (some q5))))))), (q5, .inr (5, [.int 4, .int 4, .ref w9, .ref v10, .ref h11, .int 3])), (w9, .inl (cI, 4, .inl gw12)), (v10, .inl (cI, 4, .inl gv13)), (h11, .inl (cR, 4, .inr (.inr (.inr (.inr gh14)))))]) [3, 4, 5, 6, 0, 1, 2] (by decide) rfl
  exact W.iret (v := 3) hx hb hr (fun t ht hW => ⟨⟨_, (), rfl, trivial, ⟨_, _, _, _, _, _, _, _, ⟨by rw [ht]; exact hP9, va_K.moved hW.alike hK, hD9, by rw [ht]; exact hz⟩, hwgw12, hhgh14⟩⟩, hS.F ht⟩) hS.2.2 dX1_make_44
