theorem hi_X1_rowOf_X1 : ∀ w ∈ u_ws RX1 TX1 8, w ∈ wsX1_rowOf := fun w h => List.mem_cons_of_mem _ (zhi_X1 w h)
set_option maxHeartbeats 4000000 in
set_option maxRecDepth 100000 in
theorem k_rowX (l : Launch) (dC : Nat → ClassId) (dI : Nat → Nat → Nat) (cI cB cR cO : ClassId) (zk : Nat → Nat) (hfl : l.stackTraces = false) (xo al b1 : Nat) (x1 x2 x3 x4 x5 x7 : Value) (mc : Int32) (p0 : Int32) (sz : Nat)  : vx_Met l yX1_rowOf wsX1_rowOf ({ frames := 6, cells := 1, slots := 6, locals := 90 }) (va_Pc [.ref xo, .int p0] (zPre (dC, dI) (zT cI cB cR cO) zk [] [(xo, .inr (6, [.ref al, x1, x2, x3, x4, x5, .ref b1, x7])), (al, .inr (4, [.int mc, .ref (zk 0), .int 0]))] sz)) (va_Qq (fun (_ : Option Nat) (_ : Unit) => False) (fun _ _ => True) (va_A [(xo, .inr (6, [.ref al, x1, x2, x3, x4, x5, .ref b1, x7])), (al, .inr (4, [.int mc, .ref (zk 0), .int 0]))] sz)) (vx_X (fun _ : Unit => True) (fun E9 _ t => E9 = "java/lang/IndexOutOfBoundsException" ∧ zEnd (dC, dI) (zT cI cB cR cO) (va_A [(xo, .inr (6, [.ref al, x1, x2, x3, x4, x5, .ref b1, x7])), (al, .inr (4, [.int mc, .ref (zk 0), .int 0]))] sz) [(xo, .inr (6, [.ref al, x1, x2, x3, x4, x5, .ref b1, x7])), (al, .inr (4, [.int mc, .ref (zk 0), .int 0]))] sz 0 t) (va_A [(xo, .inr (6, [.ref al, x1, x2, x3, x4, x5, .ref b1, x7])), (al, .inr (4, [.int mc, .ref (zk 0), .int 0]))] sz)) 1 6 (va_A [(xo, .inr (6, [.ref al, x1, x2, x3, x4, x5, .ref b1, x7])), (al, .inr (4, [.int mc, .ref (zk 0), .int 0]))] sz) := by
  refine vx_ofW (cc := cX1_rowOf) (maxL := 2) (ret := (some (.object "Deeprows$Row"))) (by decide) rfl ?_
  intro p e s mY args below meth c s₁ B hml hntab hv
  obtain ⟨rfl, hsz, hP, hK, hD0, hZ⟩ := hv
  have hx := B.exec
  have hb := B.bytes
  have hr := B.returns
  have hts := atoms_spec (ws := wsX1_rowOf) B.pre
  have hown : s.vm.findClass RX1 = some mY.cls := findClass_of_methodNamed B.named
  have hlocks := B.notSynchronized
  subst hsz
  have hD := hD0.self (sz := s.heap.size)
  generalize hAe : va_A [(xo, .inr (6, [.ref al, x1, x2, x3, x4, x5, .ref b1, x7])), (al, .inr (4, [.int mc, .ref (zk 0), .int 0]))] s.heap.size = A at hD hZ ⊢
  have hA : ∀ q : Nat, s.heap.size ≤ q → A q := fun q h => by rw [← hAe]; exact Or.inr h
  have hS : va_S A s.heap s.heap [] := va_S.rf
  have hz : s.heap.size + 0 ≤ s.heap.size := Nat.le_refl _
  have hl := lv_entry ([.ref xo, .int p0]) (n := 2) (Nat.le_of_ble_eq_true rfl)
  rw [lg_entry_eq]
  generalize (lg_sl ([.ref xo, .int p0]) ++ List.replicate (2 - (lg_sl ([.ref xo, .int p0])).length) Slot.unset).toArray = ls at hl ⊢
  have hl : lv_has ls 2 [(0, .ref xo), (1, .int p0)] := hl
  have hP : va_P (dC, dI) vwCl [(xo, .inr (6, [.ref al, x1, x2, x3, x4, x5, .ref b1, x7])), (al, .inr (4, [.int mc, .ref (zk 0), .int 0]))] s.heap := hP
  have hD : va_D A [(xo, .inr (6, [.ref al, x1, x2, x3, x4, x5, .ref b1, x7])), (al, .inr (4, [.int mc, .ref (zk 0), .int 0]))] := hD
  refine lv_iload_n hx hb dX1_rowOf_0 rfl (lv_at hl 1 rfl) ?_
  refine lv_if_lt (tgt := 15) hx hb dX1_rowOf_1 (by decide) (fun c9 => ?_) (fun c8 => ?_)
  · have hP9 := hP.sub (ws' := [(xo, .inr (6, [.ref al, x1, x2, x3, x4, x5, .ref b1, x7])), (al, .inr (4, [.int mc, .ref (zk 0), .int 0]))]) [0, 1] rfl
    have hD9 := hD.sub (ws' := [(xo, .inr (6, [.ref al, x1, x2, x3, x4, x5, .ref b1, x7])), (al, .inr (4, [.int mc, .ref (zk 0), .int 0]))]) [0, 1] (by decide) rfl
    exact vx_throwSW (text := "no such row") (names := ["java/lang/RuntimeException", "java/lang/Exception"]) hx hb hfl hown rfl (by decide) (hts (.classLink RX1 261 "java/lang/IndexOutOfBoundsException") (List.mem_cons_of_mem _ zw_734)) (hts (.initialized "java/lang/IndexOutOfBoundsException") (List.mem_cons_of_mem _ zw_58)) (zl0 hZ) (zat0 hts (fun w hw => List.mem_cons_of_mem _ hw) hZ) zgd0 hZ.1.2.1 hZ.1.2.2.2.2.1 hS (hl.1.trans hml.symm) dX1_rowOf_15 dX1_rowOf_18 dX1_rowOf_19 dX1_rowOf_22 dX1_rowOf_25 (fun x hx9 => (hntab x hx9).elim) (Nat.le_of_ble_eq_true rfl) (Nat.le_of_ble_eq_true rfl) (Nat.le_of_ble_eq_true rfl) (Nat.le_of_ble_eq_true rfl) hlocks (fun t hal hs9 hq9 => ⟨(), trivial, ⟨rfl, hP9.kept (fun k9 x9 h9 => hq9 x9.1 (hP9 k9 x9 h9).lt), va_K.moved hal hK, hD9, Nat.le_trans hz hs9⟩, zF hS hs9 hq9⟩) hS.2.2 (Nat.le_of_ble_eq_true rfl) (Nat.le_of_ble_eq_true rfl)
  · refine lv_iload_n hx hb dX1_rowOf_4 rfl (lv_at hl 1 rfl) ?_
    refine lv_aload_n hx hb dX1_rowOf_5 rfl (lv_at hl 0 rfl) ?_
    refine va_get (D := (dC, dI)) (ci := 6) (v := .ref al) (C := RX1) (T := TX1) (N := 8) hx hb hts hi_X1_rowOf_X1 hown hK hP 0 rfl rfl 0 (by decide) (hts (.fieldLink RX1 12 "Deeprows" "rows" "Ljava/util/ArrayList;") (List.mem_cons_of_mem _ zw_165)) (fun _ h9 => h9) rfl dX1_rowOf_6 ?_
    have hPc := hP.sub (ws' := [(al, .inr (4, [.int mc, .ref (zk 0), .int 0]))]) [1] rfl
    have hDc := hD.sub (ws' := [(al, .inr (4, [.int mc, .ref (zk 0), .int 0]))]) [1] (by decide) rfl
    have hFc := va_free (wc := [(al, .inr (4, [.int mc, .ref (zk 0), .int 0]))]) hD hS hA [1] rfl
    have hDv := hDc.self (sz := s.heap.size)
    have hpre := zpre (xs' := []) (av := [.ref al]) hPc hK (hDc.weaken (fun _ _ _ h => h)) hZ hS hFc (fun r hr => by cases hr)
    refine va_calli (va_runV (As := []) (rest := [.int p0]) ⟨hx, hb, hml, hown, hts⟩ (k_size l dC dI cI cB cR cO zk al (zk 0) 0 (.int mc) s.heap.size ) (cwV 0 hts gX1_rowOf_Jx4a65c_size_8abf5 rfl rfl rfl (by decide +kernel) ⟨Nat.le_of_ble_eq_true rfl, Nat.le_of_ble_eq_true rfl⟩) ⟨zblind, (zrecv_4 hK hPc (q0 := 0) rfl), hpre⟩ rfl rfl hl.1 rfl (lv_room (Nat.le_of_ble_eq_true rfl)) dX1_rowOf_9 ⟨Nat.le_of_ble_eq_true rfl, Nat.le_of_ble_eq_true rfl⟩) hS (fun q _ h => hFc q h) hFc (fun r202 u t H201 locs ht hvm hw hB hz1 hk1 hS => ?_)
    obtain rfl : 0 = r202 := (show r202 = 0 from hw).symm
    obtain ⟨hP1, hK1, hD1, hz2⟩ := hB
    rw [ht] at hP1 hz2
    obtain ⟨hP, hD⟩ := va_join (wr := [(xo, .inr (6, [.ref al, x1, x2, x3, x4, x5, .ref b1, x7]))]) (w1 := [(al, .inr (4, [.int mc, .ref (zk 0), .int 0]))]) hP hD [1] [0] rfl rfl (by decide) (by decide) hk1 hFc hP1 hD1
    have hz : s.heap.size + 0 ≤ H201.size := by omega
    have hP : va_P (dC, dI) vwCl [(xo, .inr (6, [.ref al, x1, x2, x3, x4, x5, .ref b1, x7])), (al, .inr (4, [.int mc, .ref (zk 0), .int 0]))] H201 := hP
    have hD : va_D A [(xo, .inr (6, [.ref al, x1, x2, x3, x4, x5, .ref b1, x7])), (al, .inr (4, [.int mc, .ref (zk 0), .int 0]))] := hD
    refine W.widen (k := 0) (n := 0) (by omega) (by omega) ?_
    refine lv_icmp_lt (tgt := 26) hx hb dX1_rowOf_12 (by decide) (fun c9 => ?_) (fun c9 => ?_)
    · exact absurd c9 (c8)
    have hP9 := hP.sub (ws' := [(xo, .inr (6, [.ref al, x1, x2, x3, x4, x5, .ref b1, x7])), (al, .inr (4, [.int mc, .ref (zk 0), .int 0]))]) [0, 1] rfl
    have hD9 := hD.sub (ws' := [(xo, .inr (6, [.ref al, x1, x2, x3, x4, x5, .ref b1, x7])), (al, .inr (4, [.int mc, .ref (zk 0), .int 0]))]) [0, 1] (by decide) rfl
    exact vx_throwSW (text := "no such row") (names := ["java/lang/RuntimeException", "java/lang/Exception"]) hx hb hfl hown rfl (by decide) (hts (.classLink RX1 261 "java/lang/IndexOutOfBoundsException") (List.mem_cons_of_mem _ zw_734)) (hts (.initialized "java/lang/IndexOutOfBoundsException") (List.mem_cons_of_mem _ zw_58)) (zl0 hZ) (zat0 hts (fun w hw => List.mem_cons_of_mem _ hw) hZ) zgd0 hZ.1.2.1 hZ.1.2.2.2.2.1 hS (hl.1.trans hml.symm) dX1_rowOf_15 dX1_rowOf_18 dX1_rowOf_19 dX1_rowOf_22 dX1_rowOf_25 (fun x hx9 => (hntab x hx9).elim) (Nat.le_of_ble_eq_true rfl) (Nat.le_of_ble_eq_true rfl) (Nat.le_of_ble_eq_true rfl) (Nat.le_of_ble_eq_true rfl) hlocks (fun t hal hs9 hq9 => ⟨(), trivial, ⟨rfl, hP9.kept (fun k9 x9 h9 => hq9 x9.1 (hP9 k9 x9 h9).lt), va_K.moved hal hK, hD9, Nat.le_trans hz hs9⟩, zF hS hs9 hq9⟩) hS.2.2 (Nat.le_of_ble_eq_true rfl) (Nat.le_of_ble_eq_true rfl)
