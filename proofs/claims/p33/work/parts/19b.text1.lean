set_option maxHeartbeats 4000000 in
set_option maxRecDepth 100000 in
theorem k_tAt1_0 (l : Launch) (dC : Nat → ClassId) (dI : Nat → Nat → Nat) (cI cB cR cO : ClassId) (zk : Nat → Nat) (mo al ed cc : Nat) (ee : Nat → Option Nat) (th md rf kn mc : Value) (a0 wa0 na0 a1 wa1 na1 : Nat) (fw0 fn0 fw1 fn1 : Nat → Int32) (sz : Nat) (hcc : 1 < cc) (hcc2 : cc ≤ 10) (hw0 : ∀ i, i < 4 → fw0 i = 0) (hn0 : ∀ i, i < 4 → fn0 i = (-1)) (he0 : ee 0 = some a0) (hw1 : ∀ i, i < 4 → fw1 i = 3) (hn1 : ∀ i, i < 4 → fn1 i = 0) (he1 : ee 1 = some a1) : Met l yX4_textAt wsX4_textAt ({ frames := 7, cells := 23, slots := 524408, locals := 235 }) (va_Pc [.ref mo, .ref a1, .int 0] (zPre (dC, dI) (zT cI cB cR cO) zk [] [(mo, .inr (9, [th, .ref al, md, rf, kn])), (al, .inr (4, [mc, .ref ed, .int (nI cc)])), (ed, .inl (cO, 10, .inr (.inr (.inr (.inr ee))))), (a0, .inr (8, [.int 4, .ref wa0, .ref na0])), (wa0, .inl (cI, 4, .inl fw0)), (na0, .inl (cI, 4, .inl fn0)), (a1, .inr (8, [.int 4, .ref wa1, .ref na1])), (wa1, .inl (cI, 4, .inl fw1)), (na1, .inl (cI, 4, .inl fn1))] sz)) (va_Qr (fun _ : Unit => True) (fun _ ra t => ∃ b0, ∃ (g0 : Nat → Int32), zEnd (dC, dI) (zT cI cB cR cO) (va_A [(mo, .inr (9, [th, .ref al, md, rf, kn])), (al, .inr (4, [mc, .ref ed, .int (nI cc)])), (ed, .inl (cO, 10, .inr (.inr (.inr (.inr ee))))), (a0, .inr (8, [.int 4, .ref wa0, .ref na0])), (wa0, .inl (cI, 4, .inl fw0)), (na0, .inl (cI, 4, .inl fn0)), (a1, .inr (8, [.int 4, .ref wa1, .ref na1])), (wa1, .inl (cI, 4, .inl fw1)), (na1, .inl (cI, 4, .inl fn1))] sz) [(ra, .inr (0, [.ref b0, .int 0, .int 0, .int 0])), (b0, .inl (cB, 24, .inl g0)), (mo, .inr (9, [th, .ref al, md, rf, kn])), (al, .inr (4, [mc, .ref ed, .int (nI cc)])), (ed, .inl (cO, 10, .inr (.inr (.inr (.inr ee))))), (a0, .inr (8, [.int 4, .ref wa0, .ref na0])), (wa0, .inl (cI, 4, .inl fw0)), (na0, .inl (cI, 4, .inl fn0)), (a1, .inr (8, [.int 4, .ref wa1, .ref na1])), (wa1, .inl (cI, 4, .inl fw1)), (na1, .inl (cI, 4, .inl fn1))] sz 20 t ∧ sb_Fit g0) (va_A [(mo, .inr (9, [th, .ref al, md, rf, kn])), (al, .inr (4, [mc, .ref ed, .int (nI cc)])), (ed, .inl (cO, 10, .inr (.inr (.inr (.inr ee))))), (a0, .inr (8, [.int 4, .ref wa0, .ref na0])), (wa0, .inl (cI, 4, .inl fw0)), (na0, .inl (cI, 4, .inl fn0)), (a1, .inr (8, [.int 4, .ref wa1, .ref na1])), (wa1, .inl (cI, 4, .inl fw1)), (na1, .inl (cI, 4, .inl fn1))] sz)) 23 524408 (va_A [(mo, .inr (9, [th, .ref al, md, rf, kn])), (al, .inr (4, [mc, .ref ed, .int (nI cc)])), (ed, .inl (cO, 10, .inr (.inr (.inr (.inr ee))))), (a0, .inr (8, [.int 4, .ref wa0, .ref na0])), (wa0, .inl (cI, 4, .inl fw0)), (na0, .inl (cI, 4, .inl fn0)), (a1, .inr (8, [.int 4, .ref wa1, .ref na1])), (wa1, .inl (cI, 4, .inl fw1)), (na1, .inl (cI, 4, .inl fn1))] sz) := by
  refine Met.ofW (cc := cX4_textAt) (maxL := 4) (ret := (some (.object "java/lang/String"))) (by decide) rfl ?_
  intro p e s mY args below meth c s₁ B hml hv
  obtain ⟨rfl, hsz, hP, hK, hD0, hZ⟩ := hv
  have hx := B.exec
  have hb := B.bytes
  have hr := B.returns
  have hts := atoms_spec (ws := wsX4_textAt) B.pre
  have hown : s.vm.findClass RX4 = some mY.cls := findClass_of_methodNamed B.named
  have hlocks := B.notSynchronized
  subst hsz
  have hD := hD0.self (sz := s.heap.size)
  generalize hAe : va_A [(mo, .inr (9, [th, .ref al, md, rf, kn])), (al, .inr (4, [mc, .ref ed, .int (nI cc)])), (ed, .inl (cO, 10, .inr (.inr (.inr (.inr ee))))), (a0, .inr (8, [.int 4, .ref wa0, .ref na0])), (wa0, .inl (cI, 4, .inl fw0)), (na0, .inl (cI, 4, .inl fn0)), (a1, .inr (8, [.int 4, .ref wa1, .ref na1])), (wa1, .inl (cI, 4, .inl fw1)), (na1, .inl (cI, 4, .inl fn1))] s.heap.size = A at hD hZ ⊢
  have hA : ∀ q : Nat, s.heap.size ≤ q → A q := fun q h => by rw [← hAe]; exact Or.inr h
  have hS : va_S A s.heap s.heap [] := va_S.rf
  have hz : s.heap.size + 0 ≤ s.heap.size := Nat.le_refl _
  have hl := lv_entry ([.ref mo, .ref a1, .int 0]) (n := 4) (Nat.le_of_ble_eq_true rfl)
  rw [lg_entry_eq]
  generalize (lg_sl ([.ref mo, .ref a1, .int 0]) ++ List.replicate (4 - (lg_sl ([.ref mo, .ref a1, .int 0])).length) Slot.unset).toArray = ls at hl ⊢
  have hl : lv_has ls 4 [(0, .ref mo), (1, .ref a1), (2, .int 0)] := hl
  have hP : va_P (dC, dI) vwCl [(mo, .inr (9, [th, .ref al, md, rf, kn])), (al, .inr (4, [mc, .ref ed, .int (nI cc)])), (ed, .inl (cO, 10, .inr (.inr (.inr (.inr ee))))), (a0, .inr (8, [.int 4, .ref wa0, .ref na0])), (wa0, .inl (cI, 4, .inl fw0)), (na0, .inl (cI, 4, .inl fn0)), (a1, .inr (8, [.int 4, .ref wa1, .ref na1])), (wa1, .inl (cI, 4, .inl fw1)), (na1, .inl (cI, 4, .inl fn1))] s.heap := hP
  have hD : va_D A [(mo, .inr (9, [th, .ref al, md, rf, kn])), (al, .inr (4, [mc, .ref ed, .int (nI cc)])), (ed, .inl (cO, 10, .inr (.inr (.inr (.inr ee))))), (a0, .inr (8, [.int 4, .ref wa0, .ref na0])), (wa0, .inl (cI, 4, .inl fw0)), (na0, .inl (cI, 4, .inl fn0)), (a1, .inr (8, [.int 4, .ref wa1, .ref na1])), (wa1, .inl (cI, 4, .inl fw1)), (na1, .inl (cI, 4, .inl fn1))] := hD
  refine lv_aload_n hx hb dX4_textAt_0 rfl (lv_at hl 1 rfl) ?_
  refine va_get (D := (dC, dI)) (ci := 8) (v := .ref na1) (C := RX3) (T := TX3) (N := 3) hx hb hts hi_X4_textAt_X3 hown hK hP 6 rfl rfl 2 (by decide) (hts (.fieldLink RX4 48 "DeeprowsModel$Row" "numbers" "[I") (List.mem_cons_of_mem _ zw_1180)) (fun _ h9 => h9) rfl dX4_textAt_1 ?_
  refine lv_iload_n hx hb dX4_textAt_4 rfl (lv_at hl 2 rfl) ?_
  refine va_iald (D := (dC, dI)) (cl := vwCl) hx hb hK hP 8 0 rfl rfl (by unfold vp_in; decide) dX4_textAt_5 ?_
  refine lv_topi (fun v1 ev1 => ?_)
  obtain rfl : v1 = 0 := ev1.trans (hn1 0 (by decide))
  refine lv_istore_n (lv' := [(3, .int 0), (0, .ref mo), (1, .ref a1), (2, .int 0)]) hx hb dX4_textAt_6 rfl hl (by decide) rfl (fun ls hl => ?_)
  refine lv_aload_n hx hb dX4_textAt_7 rfl (lv_at hl 2 rfl) ?_
  refine va_get (D := (dC, dI)) (ci := 8) (v := .int 4) (C := RX3) (T := TX3) (N := 3) hx hb hts hi_X4_textAt_X3 hown hK hP 6 rfl rfl 0 (by decide) (hts (.fieldLink RX4 103 "DeeprowsModel$Row" "kind" "I") (List.mem_cons_of_mem _ zw_1176)) (fun _ h9 => h9) rfl dX4_textAt_8 ?_
  refine lv_tableOut (tgt := 122) hx hb dX4_textAt_11 (by decide) (by decide) ?_
  refine lv_aload_n hx hb dX4_textAt_122 rfl (lv_at hl 2 rfl) ?_
  refine va_get (D := (dC, dI)) (ci := 8) (v := .ref wa1) (C := RX3) (T := TX3) (N := 3) hx hb hts hi_X4_textAt_X3 hown hK hP 6 rfl rfl 1 (by decide) (hts (.fieldLink RX4 70 "DeeprowsModel$Row" "whats" "[I") (List.mem_cons_of_mem _ zw_1178)) (fun _ h9 => h9) rfl dX4_textAt_123 ?_
  refine lv_iload_n hx hb dX4_textAt_126 rfl (lv_at hl 3 rfl) ?_
  refine va_iald (D := (dC, dI)) (cl := vwCl) hx hb hK hP 7 0 rfl rfl (by unfold vp_in; decide) dX4_textAt_127 ?_
  refine lv_topi (fun v2 ev2 => ?_)
  obtain rfl : v2 = 3 := ev2.trans (hw1 0 (by decide))
  refine lv_if_ne (tgt := 136) hx hb dX4_textAt_128 (by decide) (fun c9 => ?_) (fun c9 => ?_)
  rotate_left
  · exact absurd c9 (by decide)
  refine lv_aload_n hx hb dX4_textAt_136 rfl (lv_at hl 2 rfl) ?_
  refine va_get (D := (dC, dI)) (ci := 8) (v := .ref wa1) (C := RX3) (T := TX3) (N := 3) hx hb hts hi_X4_textAt_X3 hown hK hP 6 rfl rfl 1 (by decide) (hts (.fieldLink RX4 70 "DeeprowsModel$Row" "whats" "[I") (List.mem_cons_of_mem _ zw_1178)) (fun _ h9 => h9) rfl dX4_textAt_137 ?_
  refine lv_iload_n hx hb dX4_textAt_140 rfl (lv_at hl 3 rfl) ?_
  refine va_iald (D := (dC, dI)) (cl := vwCl) hx hb hK hP 7 0 rfl rfl (by unfold vp_in; decide) dX4_textAt_141 ?_
  refine lv_topi (fun v3 ev3 => ?_)
  obtain rfl : v3 = 3 := ev3.trans (hw1 0 (by decide))
  refine lv_iconst (v := 1) hx hb dX4_textAt_142 (by decide) ?_
  refine lv_icmp_ne (tgt := 168) hx hb dX4_textAt_143 (by decide) (fun c9 => ?_) (fun c9 => ?_)
  rotate_left
  · exact absurd c9 (by decide)
  refine lv_aload_n hx hb dX4_textAt_168 rfl (lv_at hl 2 rfl) ?_
  refine va_get (D := (dC, dI)) (ci := 8) (v := .ref wa1) (C := RX3) (T := TX3) (N := 3) hx hb hts hi_X4_textAt_X3 hown hK hP 6 rfl rfl 1 (by decide) (hts (.fieldLink RX4 70 "DeeprowsModel$Row" "whats" "[I") (List.mem_cons_of_mem _ zw_1178)) (fun _ h9 => h9) rfl dX4_textAt_169 ?_
  refine lv_iload_n hx hb dX4_textAt_172 rfl (lv_at hl 3 rfl) ?_
  refine va_iald (D := (dC, dI)) (cl := vwCl) hx hb hK hP 7 0 rfl rfl (by unfold vp_in; decide) dX4_textAt_173 ?_
  refine lv_topi (fun v4 ev4 => ?_)
  obtain rfl : v4 = 3 := ev4.trans (hw1 0 (by decide))
  refine lv_iconst (v := 2) hx hb dX4_textAt_174 (by decide) ?_
  refine lv_icmp_ne (tgt := 186) hx hb dX4_textAt_175 (by decide) (fun c9 => ?_) (fun c9 => ?_)
  rotate_left
  · exact absurd c9 (by decide)
  refine lv_aload_n hx hb dX4_textAt_186 rfl (lv_at hl 1 rfl) ?_
  refine lv_iload_n hx hb dX4_textAt_187 rfl (lv_at hl 0 rfl) ?_
  have hPc := hP.sub (ws' := [(mo, .inr (9, [th, .ref al, md, rf, kn])), (al, .inr (4, [mc, .ref ed, .int (nI cc)])), (ed, .inl (cO, 10, .inr (.inr (.inr (.inr ee))))), (a0, .inr (8, [.int 4, .ref wa0, .ref na0])), (wa0, .inl (cI, 4, .inl fw0)), (na0, .inl (cI, 4, .inl fn0))]) [0, 1, 2, 3, 4, 5] rfl
  have hDc := hD.sub (ws' := [(mo, .inr (9, [th, .ref al, md, rf, kn])), (al, .inr (4, [mc, .ref ed, .int (nI cc)])), (ed, .inl (cO, 10, .inr (.inr (.inr (.inr ee))))), (a0, .inr (8, [.int 4, .ref wa0, .ref na0])), (wa0, .inl (cI, 4, .inl fw0)), (na0, .inl (cI, 4, .inl fn0))]) [0, 1, 2, 3, 4, 5] (by decide) rfl
  have hFc := va_free (wc := [(mo, .inr (9, [th, .ref al, md, rf, kn])), (al, .inr (4, [mc, .ref ed, .int (nI cc)])), (ed, .inl (cO, 10, .inr (.inr (.inr (.inr ee))))), (a0, .inr (8, [.int 4, .ref wa0, .ref na0])), (wa0, .inl (cI, 4, .inl fw0)), (na0, .inl (cI, 4, .inl fn0))]) hD hS hA [0, 1, 2, 3, 4, 5] rfl
  have hDv := hDc.self (sz := s.heap.size)
  have hpre := zpre (xs' := []) (av := [.ref mo, .int 0]) hPc hK (hDc.weaken (fun _ _ _ h => h)) hZ hS hFc (fun r hr => by cases hr)
  refine va_callr (va_runV (As := [.int 0]) (rest := []) ⟨hx, hb, hml, hown, hts⟩ (k_tOf0 l dC dI cI cB cR cO zk mo al ed cc ee th md rf kn mc a0 wa0 na0 fw0 fn0 s.heap.size (by omega) hcc2 hw0 hn0 he0) (cwV 1 hts gX4_textAt_X4_textOf rfl rfl rfl (by decide +kernel) ⟨Nat.le_of_ble_eq_true rfl, Nat.le_of_ble_eq_true rfl⟩) ⟨zblind, (zrecv_9 hK hPc (q0 := 0) rfl), hpre⟩ rfl rfl hl.1 rfl (lv_room (Nat.le_of_ble_eq_true rfl)) dX4_textAt_188 ⟨Nat.le_of_ble_eq_true rfl, Nat.le_of_ble_eq_true rfl⟩) hS (fun q _ h => hFc q h) hFc (fun u r6 t H5 locs ht hvm hw hB hz1 hk1 hS => ?_)
  obtain ⟨b7, g8, ⟨hP1, hK1, hD1, hz2⟩, hfg8⟩ := hB
  rw [ht] at hP1 hz2
  have hPD9 := va_join (wr := [(a1, .inr (8, [.int 4, .ref wa1, .ref na1])), (wa1, .inl (cI, 4, .inl fw1)), (na1, .inl (cI, 4, .inl fn1))]) (w1 := [(r6, .inr (0, [.ref b7, .int 0, .int 0, .int 0])), (b7, .inl (cB, 24, .inl g8)), (mo, .inr (9, [th, .ref al, md, rf, kn])), (al, .inr (4, [mc, .ref ed, .int (nI cc)])), (ed, .inl (cO, 10, .inr (.inr (.inr (.inr ee))))), (a0, .inr (8, [.int 4, .ref wa0, .ref na0])), (wa0, .inl (cI, 4, .inl fw0)), (na0, .inl (cI, 4, .inl fn0))]) hP hD [0, 1, 2, 3, 4, 5] [6, 7, 8] rfl rfl (by decide) (by decide) hk1 hFc hP1 hD1
  clear hPc hDc hFc hDv hpre hP hD hP1 hK1 hD1
  obtain ⟨hP, hD⟩ := hPD9
  replace hz : s.heap.size + 20 ≤ H5.size := by omega
  clear hz2
  replace hP : va_P (dC, dI) vwCl [(a1, .inr (8, [.int 4, .ref wa1, .ref na1])), (wa1, .inl (cI, 4, .inl fw1)), (na1, .inl (cI, 4, .inl fn1)), (r6, .inr (0, [.ref b7, .int 0, .int 0, .int 0])), (b7, .inl (cB, 24, .inl g8)), (mo, .inr (9, [th, .ref al, md, rf, kn])), (al, .inr (4, [mc, .ref ed, .int (nI cc)])), (ed, .inl (cO, 10, .inr (.inr (.inr (.inr ee))))), (a0, .inr (8, [.int 4, .ref wa0, .ref na0])), (wa0, .inl (cI, 4, .inl fw0)), (na0, .inl (cI, 4, .inl fn0))] H5 := hP
  replace hD : va_D A [(a1, .inr (8, [.int 4, .ref wa1, .ref na1])), (wa1, .inl (cI, 4, .inl fw1)), (na1, .inl (cI, 4, .inl fn1)), (r6, .inr (0, [.ref b7, .int 0, .int 0, .int 0])), (b7, .inl (cB, 24, .inl g8)), (mo, .inr (9, [th, .ref al, md, rf, kn])), (al, .inr (4, [mc, .ref ed, .int (nI cc)])), (ed, .inl (cO, 10, .inr (.inr (.inr (.inr ee))))), (a0, .inr (8, [.int 4, .ref wa0, .ref na0])), (wa0, .inl (cI, 4, .inl fw0)), (na0, .inl (cI, 4, .inl fn0))] := hD
  refine W.widen (k := 23) (n := 524408) (by omega) (by omega) ?_
  have hP9 := hP.sub (ws' := [(r6, .inr (0, [.ref b7, .int 0, .int 0, .int 0])), (b7, .inl (cB, 24, .inl g8)), (mo, .inr (9, [th, .ref al, md, rf, kn])), (al, .inr (4, [mc, .ref ed, .int (nI cc)])), (ed, .inl (cO, 10, .inr (.inr (.inr (.inr ee))))), (a0, .inr (8, [.int 4, .ref wa0, .ref na0])), (wa0, .inl (cI, 4, .inl fw0)), (na0, .inl (cI, 4, .inl fn0)), (a1, .inr (8, [.int 4, .ref wa1, .ref na1])), (wa1, .inl (cI, 4, .inl fw1)), (na1, .inl (cI, 4, .inl fn1))]) [3, 4, 5, 6, 7, 8, 9, 10, 0, 1, 2] rfl
  have hD9 := hD.sub (ws' := [(r6, .inr (0, [.ref b7, .int 0, .int 0, .int 0])), (b7, .inl (cB, 24, .inl g8)), (mo, .inr (9, [th, .ref al, md, rf, kn])), (al, .inr (4, [mc, .ref ed, .int (nI cc)])), (ed, .inl (cO, 10, .inr (.inr (.inr (.inr ee))))), (a0, .inr (8, [.int 4, .ref wa0, .ref na0])), (wa0, .inl (cI, 4, .inl fw0)), (na0, .inl (cI, 4, .inl fn0)), (a1, .inr (8, [.int 4, .ref wa1, .ref na1])), (wa1, .inl (cI, 4, .inl fw1)), (na1, .inl (cI, 4, .inl fn1))]) [3, 4, 5, 6, 7, 8, 9, 10, 0, 1, 2] (by decide) rfl
  exact W.aret hx hb hr (by first | exact Or.inl ⟨_, rfl⟩ | exact Or.inr ⟨_, rfl⟩) (Or.inr ⟨_, rfl⟩) (fun t ht hW => ⟨⟨(), _, rfl, trivial, ⟨_, _, ⟨by rw [ht]; exact hP9, va_K.moved hW.alike hK, hD9, by rw [ht]; exact hz⟩, hfg8⟩⟩, hS.F ht⟩) hS.2.2 dX4_textAt_191

set_option maxHeartbeats 4000000 in
set_option maxRecDepth 100000 in
theorem k_tAt1_1 (l : Launch) (dC : Nat → ClassId) (dI : Nat → Nat → Nat) (cI cB cR cO : ClassId) (zk : Nat → Nat) (mo al ed cc : Nat) (ee : Nat → Option Nat) (th md rf kn mc : Value) (a0 wa0 na0 a1 wa1 na1 : Nat) (fw0 fn0 fw1 fn1 : Nat → Int32) (sz : Nat) (hcc : 1 < cc) (hcc2 : cc ≤ 10) (hw0 : ∀ i, i < 4 → fw0 i = 0) (hn0 : ∀ i, i < 4 → fn0 i = (-1)) (he0 : ee 0 = some a0) (hw1 : ∀ i, i < 4 → fw1 i = 3) (hn1 : ∀ i, i < 4 → fn1 i = 0) (he1 : ee 1 = some a1) : Met l yX4_textAt wsX4_textAt ({ frames := 7, cells := 23, slots := 524408, locals := 235 }) (va_Pc [.ref mo, .ref a1, .int 1] (zPre (dC, dI) (zT cI cB cR cO) zk [] [(mo, .inr (9, [th, .ref al, md, rf, kn])), (al, .inr (4, [mc, .ref ed, .int (nI cc)])), (ed, .inl (cO, 10, .inr (.inr (.inr (.inr ee))))), (a0, .inr (8, [.int 4, .ref wa0, .ref na0])), (wa0, .inl (cI, 4, .inl fw0)), (na0, .inl (cI, 4, .inl fn0)), (a1, .inr (8, [.int 4, .ref wa1, .ref na1])), (wa1, .inl (cI, 4, .inl fw1)), (na1, .inl (cI, 4, .inl fn1))] sz)) (va_Qr (fun _ : Unit => True) (fun _ ra t => ∃ b0, ∃ (g0 : Nat → Int32), zEnd (dC, dI) (zT cI cB cR cO) (va_A [(mo, .inr (9, [th, .ref al, md, rf, kn])), (al, .inr (4, [mc, .ref ed, .int (nI cc)])), (ed, .inl (cO, 10, .inr (.inr (.inr (.inr ee))))), (a0, .inr (8, [.int 4, .ref wa0, .ref na0])), (wa0, .inl (cI, 4, .inl fw0)), (na0, .inl (cI, 4, .inl fn0)), (a1, .inr (8, [.int 4, .ref wa1, .ref na1])), (wa1, .inl (cI, 4, .inl fw1)), (na1, .inl (cI, 4, .inl fn1))] sz) [(ra, .inr (0, [.ref b0, .int 0, .int 0, .int 0])), (b0, .inl (cB, 24, .inl g0)), (mo, .inr (9, [th, .ref al, md, rf, kn])), (al, .inr (4, [mc, .ref ed, .int (nI cc)])), (ed, .inl (cO, 10, .inr (.inr (.inr (.inr ee))))), (a0, .inr (8, [.int 4, .ref wa0, .ref na0])), (wa0, .inl (cI, 4, .inl fw0)), (na0, .inl (cI, 4, .inl fn0)), (a1, .inr (8, [.int 4, .ref wa1, .ref na1])), (wa1, .inl (cI, 4, .inl fw1)), (na1, .inl (cI, 4, .inl fn1))] sz 20 t ∧ sb_Fit g0) (va_A [(mo, .inr (9, [th, .ref al, md, rf, kn])), (al, .inr (4, [mc, .ref ed, .int (nI cc)])), (ed, .inl (cO, 10, .inr (.inr (.inr (.inr ee))))), (a0, .inr (8, [.int 4, .ref wa0, .ref na0])), (wa0, .inl (cI, 4, .inl fw0)), (na0, .inl (cI, 4, .inl fn0)), (a1, .inr (8, [.int 4, .ref wa1, .ref na1])), (wa1, .inl (cI, 4, .inl fw1)), (na1, .inl (cI, 4, .inl fn1))] sz)) 23 524408 (va_A [(mo, .inr (9, [th, .ref al, md, rf, kn])), (al, .inr (4, [mc, .ref ed, .int (nI cc)])), (ed, .inl (cO, 10, .inr (.inr (.inr (.inr ee))))), (a0, .inr (8, [.int 4, .ref wa0, .ref na0])), (wa0, .inl (cI, 4, .inl fw0)), (na0, .inl (cI, 4, .inl fn0)), (a1, .inr (8, [.int 4, .ref wa1, .ref na1])), (wa1, .inl (cI, 4, .inl fw1)), (na1, .inl (cI, 4, .inl fn1))] sz) := by
  refine Met.ofW (cc := cX4_textAt) (maxL := 4) (ret := (some (.object "java/lang/String"))) (by decide) rfl ?_
  intro p e s mY args below meth c s₁ B hml hv
  obtain ⟨rfl, hsz, hP, hK, hD0, hZ⟩ := hv
  have hx := B.exec
  have hb := B.bytes
  have hr := B.returns
  have hts := atoms_spec (ws := wsX4_textAt) B.pre
  have hown : s.vm.findClass RX4 = some mY.cls := findClass_of_methodNamed B.named
  have hlocks := B.notSynchronized
  subst hsz
  have hD := hD0.self (sz := s.heap.size)
  generalize hAe : va_A [(mo, .inr (9, [th, .ref al, md, rf, kn])), (al, .inr (4, [mc, .ref ed, .int (nI cc)])), (ed, .inl (cO, 10, .inr (.inr (.inr (.inr ee))))), (a0, .inr (8, [.int 4, .ref wa0, .ref na0])), (wa0, .inl (cI, 4, .inl fw0)), (na0, .inl (cI, 4, .inl fn0)), (a1, .inr (8, [.int 4, .ref wa1, .ref na1])), (wa1, .inl (cI, 4, .inl fw1)), (na1, .inl (cI, 4, .inl fn1))] s.heap.size = A at hD hZ ⊢
  have hA : ∀ q : Nat, s.heap.size ≤ q → A q := fun q h => by rw [← hAe]; exact Or.inr h
  have hS : va_S A s.heap s.heap [] := va_S.rf
  have hz : s.heap.size + 0 ≤ s.heap.size := Nat.le_refl _
  have hl := lv_entry ([.ref mo, .ref a1, .int 1]) (n := 4) (Nat.le_of_ble_eq_true rfl)
  rw [lg_entry_eq]
  generalize (lg_sl ([.ref mo, .ref a1, .int 1]) ++ List.replicate (4 - (lg_sl ([.ref mo, .ref a1, .int 1])).length) Slot.unset).toArray = ls at hl ⊢
  have hl : lv_has ls 4 [(0, .ref mo), (1, .ref a1), (2, .int 1)] := hl
  have hP : va_P (dC, dI) vwCl [(mo, .inr (9, [th, .ref al, md, rf, kn])), (al, .inr (4, [mc, .ref ed, .int (nI cc)])), (ed, .inl (cO, 10, .inr (.inr (.inr (.inr ee))))), (a0, .inr (8, [.int 4, .ref wa0, .ref na0])), (wa0, .inl (cI, 4, .inl fw0)), (na0, .inl (cI, 4, .inl fn0)), (a1, .inr (8, [.int 4, .ref wa1, .ref na1])), (wa1, .inl (cI, 4, .inl fw1)), (na1, .inl (cI, 4, .inl fn1))] s.heap := hP
  have hD : va_D A [(mo, .inr (9, [th, .ref al, md, rf, kn])), (al, .inr (4, [mc, .ref ed, .int (nI cc)])), (ed, .inl (cO, 10, .inr (.inr (.inr (.inr ee))))), (a0, .inr (8, [.int 4, .ref wa0, .ref na0])), (wa0, .inl (cI, 4, .inl fw0)), (na0, .inl (cI, 4, .inl fn0)), (a1, .inr (8, [.int 4, .ref wa1, .ref na1])), (wa1, .inl (cI, 4, .inl fw1)), (na1, .inl (cI, 4, .inl fn1))] := hD
  refine lv_aload_n hx hb dX4_textAt_0 rfl (lv_at hl 1 rfl) ?_
  refine va_get (D := (dC, dI)) (ci := 8) (v := .ref na1) (C := RX3) (T := TX3) (N := 3) hx hb hts hi_X4_textAt_X3 hown hK hP 6 rfl rfl 2 (by decide) (hts (.fieldLink RX4 48 "DeeprowsModel$Row" "numbers" "[I") (List.mem_cons_of_mem _ zw_1180)) (fun _ h9 => h9) rfl dX4_textAt_1 ?_
  refine lv_iload_n hx hb dX4_textAt_4 rfl (lv_at hl 2 rfl) ?_
  refine va_iald (D := (dC, dI)) (cl := vwCl) hx hb hK hP 8 0 rfl rfl (by unfold vp_in; decide) dX4_textAt_5 ?_
  refine lv_topi (fun v1 ev1 => ?_)
  obtain rfl : v1 = 0 := ev1.trans (hn1 1 (by decide))
  refine lv_istore_n (lv' := [(3, .int 0), (0, .ref mo), (1, .ref a1), (2, .int 1)]) hx hb dX4_textAt_6 rfl hl (by decide) rfl (fun ls hl => ?_)
  refine lv_aload_n hx hb dX4_textAt_7 rfl (lv_at hl 2 rfl) ?_
  refine va_get (D := (dC, dI)) (ci := 8) (v := .int 4) (C := RX3) (T := TX3) (N := 3) hx hb hts hi_X4_textAt_X3 hown hK hP 6 rfl rfl 0 (by decide) (hts (.fieldLink RX4 103 "DeeprowsModel$Row" "kind" "I") (List.mem_cons_of_mem _ zw_1176)) (fun _ h9 => h9) rfl dX4_textAt_8 ?_
  refine lv_tableOut (tgt := 122) hx hb dX4_textAt_11 (by decide) (by decide) ?_
  refine lv_aload_n hx hb dX4_textAt_122 rfl (lv_at hl 2 rfl) ?_
  refine va_get (D := (dC, dI)) (ci := 8) (v := .ref wa1) (C := RX3) (T := TX3) (N := 3) hx hb hts hi_X4_textAt_X3 hown hK hP 6 rfl rfl 1 (by decide) (hts (.fieldLink RX4 70 "DeeprowsModel$Row" "whats" "[I") (List.mem_cons_of_mem _ zw_1178)) (fun _ h9 => h9) rfl dX4_textAt_123 ?_
  refine lv_iload_n hx hb dX4_textAt_126 rfl (lv_at hl 3 rfl) ?_
  refine va_iald (D := (dC, dI)) (cl := vwCl) hx hb hK hP 7 0 rfl rfl (by unfold vp_in; decide) dX4_textAt_127 ?_
  refine lv_topi (fun v2 ev2 => ?_)
  obtain rfl : v2 = 3 := ev2.trans (hw1 1 (by decide))
  refine lv_if_ne (tgt := 136) hx hb dX4_textAt_128 (by decide) (fun c9 => ?_) (fun c9 => ?_)
  rotate_left
  · exact absurd c9 (by decide)
  refine lv_aload_n hx hb dX4_textAt_136 rfl (lv_at hl 2 rfl) ?_
  refine va_get (D := (dC, dI)) (ci := 8) (v := .ref wa1) (C := RX3) (T := TX3) (N := 3) hx hb hts hi_X4_textAt_X3 hown hK hP 6 rfl rfl 1 (by decide) (hts (.fieldLink RX4 70 "DeeprowsModel$Row" "whats" "[I") (List.mem_cons_of_mem _ zw_1178)) (fun _ h9 => h9) rfl dX4_textAt_137 ?_
  refine lv_iload_n hx hb dX4_textAt_140 rfl (lv_at hl 3 rfl) ?_
  refine va_iald (D := (dC, dI)) (cl := vwCl) hx hb hK hP 7 0 rfl rfl (by unfold vp_in; decide) dX4_textAt_141 ?_
  refine lv_topi (fun v3 ev3 => ?_)
  obtain rfl : v3 = 3 := ev3.trans (hw1 1 (by decide))
  refine lv_iconst (v := 1) hx hb dX4_textAt_142 (by decide) ?_
  refine lv_icmp_ne (tgt := 168) hx hb dX4_textAt_143 (by decide) (fun c9 => ?_) (fun c9 => ?_)
  rotate_left
  · exact absurd c9 (by decide)
  refine lv_aload_n hx hb dX4_textAt_168 rfl (lv_at hl 2 rfl) ?_
  refine va_get (D := (dC, dI)) (ci := 8) (v := .ref wa1) (C := RX3) (T := TX3) (N := 3) hx hb hts hi_X4_textAt_X3 hown hK hP 6 rfl rfl 1 (by decide) (hts (.fieldLink RX4 70 "DeeprowsModel$Row" "whats" "[I") (List.mem_cons_of_mem _ zw_1178)) (fun _ h9 => h9) rfl dX4_textAt_169 ?_
  refine lv_iload_n hx hb dX4_textAt_172 rfl (lv_at hl 3 rfl) ?_
  refine va_iald (D := (dC, dI)) (cl := vwCl) hx hb hK hP 7 0 rfl rfl (by unfold vp_in; decide) dX4_textAt_173 ?_
  refine lv_topi (fun v4 ev4 => ?_)
  obtain rfl : v4 = 3 := ev4.trans (hw1 1 (by decide))
  refine lv_iconst (v := 2) hx hb dX4_textAt_174 (by decide) ?_
  refine lv_icmp_ne (tgt := 186) hx hb dX4_textAt_175 (by decide) (fun c9 => ?_) (fun c9 => ?_)
  rotate_left
  · exact absurd c9 (by decide)
  refine lv_aload_n hx hb dX4_textAt_186 rfl (lv_at hl 1 rfl) ?_
  refine lv_iload_n hx hb dX4_textAt_187 rfl (lv_at hl 0 rfl) ?_
  have hPc := hP.sub (ws' := [(mo, .inr (9, [th, .ref al, md, rf, kn])), (al, .inr (4, [mc, .ref ed, .int (nI cc)])), (ed, .inl (cO, 10, .inr (.inr (.inr (.inr ee))))), (a0, .inr (8, [.int 4, .ref wa0, .ref na0])), (wa0, .inl (cI, 4, .inl fw0)), (na0, .inl (cI, 4, .inl fn0))]) [0, 1, 2, 3, 4, 5] rfl
  have hDc := hD.sub (ws' := [(mo, .inr (9, [th, .ref al, md, rf, kn])), (al, .inr (4, [mc, .ref ed, .int (nI cc)])), (ed, .inl (cO, 10, .inr (.inr (.inr (.inr ee))))), (a0, .inr (8, [.int 4, .ref wa0, .ref na0])), (wa0, .inl (cI, 4, .inl fw0)), (na0, .inl (cI, 4, .inl fn0))]) [0, 1, 2, 3, 4, 5] (by decide) rfl
  have hFc := va_free (wc := [(mo, .inr (9, [th, .ref al, md, rf, kn])), (al, .inr (4, [mc, .ref ed, .int (nI cc)])), (ed, .inl (cO, 10, .inr (.inr (.inr (.inr ee))))), (a0, .inr (8, [.int 4, .ref wa0, .ref na0])), (wa0, .inl (cI, 4, .inl fw0)), (na0, .inl (cI, 4, .inl fn0))]) hD hS hA [0, 1, 2, 3, 4, 5] rfl
  have hDv := hDc.self (sz := s.heap.size)
  have hpre := zpre (xs' := []) (av := [.ref mo, .int 0]) hPc hK (hDc.weaken (fun _ _ _ h => h)) hZ hS hFc (fun r hr => by cases hr)
  refine va_callr (va_runV (As := [.int 0]) (rest := []) ⟨hx, hb, hml, hown, hts⟩ (k_tOf0 l dC dI cI cB cR cO zk mo al ed cc ee th md rf kn mc a0 wa0 na0 fw0 fn0 s.heap.size (by omega) hcc2 hw0 hn0 he0) (cwV 1 hts gX4_textAt_X4_textOf rfl rfl rfl (by decide +kernel) ⟨Nat.le_of_ble_eq_true rfl, Nat.le_of_ble_eq_true rfl⟩) ⟨zblind, (zrecv_9 hK hPc (q0 := 0) rfl), hpre⟩ rfl rfl hl.1 rfl (lv_room (Nat.le_of_ble_eq_true rfl)) dX4_textAt_188 ⟨Nat.le_of_ble_eq_true rfl, Nat.le_of_ble_eq_true rfl⟩) hS (fun q _ h => hFc q h) hFc (fun u r6 t H5 locs ht hvm hw hB hz1 hk1 hS => ?_)
  obtain ⟨b7, g8, ⟨hP1, hK1, hD1, hz2⟩, hfg8⟩ := hB
  rw [ht] at hP1 hz2
  have hPD9 := va_join (wr := [(a1, .inr (8, [.int 4, .ref wa1, .ref na1])), (wa1, .inl (cI, 4, .inl fw1)), (na1, .inl (cI, 4, .inl fn1))]) (w1 := [(r6, .inr (0, [.ref b7, .int 0, .int 0, .int 0])), (b7, .inl (cB, 24, .inl g8)), (mo, .inr (9, [th, .ref al, md, rf, kn])), (al, .inr (4, [mc, .ref ed, .int (nI cc)])), (ed, .inl (cO, 10, .inr (.inr (.inr (.inr ee))))), (a0, .inr (8, [.int 4, .ref wa0, .ref na0])), (wa0, .inl (cI, 4, .inl fw0)), (na0, .inl (cI, 4, .inl fn0))]) hP hD [0, 1, 2, 3, 4, 5] [6, 7, 8] rfl rfl (by decide) (by decide) hk1 hFc hP1 hD1
  clear hPc hDc hFc hDv hpre hP hD hP1 hK1 hD1
  obtain ⟨hP, hD⟩ := hPD9
  replace hz : s.heap.size + 20 ≤ H5.size := by omega
  clear hz2
  replace hP : va_P (dC, dI) vwCl [(a1, .inr (8, [.int 4, .ref wa1, .ref na1])), (wa1, .inl (cI, 4, .inl fw1)), (na1, .inl (cI, 4, .inl fn1)), (r6, .inr (0, [.ref b7, .int 0, .int 0, .int 0])), (b7, .inl (cB, 24, .inl g8)), (mo, .inr (9, [th, .ref al, md, rf, kn])), (al, .inr (4, [mc, .ref ed, .int (nI cc)])), (ed, .inl (cO, 10, .inr (.inr (.inr (.inr ee))))), (a0, .inr (8, [.int 4, .ref wa0, .ref na0])), (wa0, .inl (cI, 4, .inl fw0)), (na0, .inl (cI, 4, .inl fn0))] H5 := hP
  replace hD : va_D A [(a1, .inr (8, [.int 4, .ref wa1, .ref na1])), (wa1, .inl (cI, 4, .inl fw1)), (na1, .inl (cI, 4, .inl fn1)), (r6, .inr (0, [.ref b7, .int 0, .int 0, .int 0])), (b7, .inl (cB, 24, .inl g8)), (mo, .inr (9, [th, .ref al, md, rf, kn])), (al, .inr (4, [mc, .ref ed, .int (nI cc)])), (ed, .inl (cO, 10, .inr (.inr (.inr (.inr ee))))), (a0, .inr (8, [.int 4, .ref wa0, .ref na0])), (wa0, .inl (cI, 4, .inl fw0)), (na0, .inl (cI, 4, .inl fn0))] := hD
  refine W.widen (k := 23) (n := 524408) (by omega) (by omega) ?_
  have hP9 := hP.sub (ws' := [(r6, .inr (0, [.ref b7, .int 0, .int 0, .int 0])), (b7, .inl (cB, 24, .inl g8)), (mo, .inr (9, [th, .ref al, md, rf, kn])), (al, .inr (4, [mc, .ref ed, .int (nI cc)])), (ed, .inl (cO, 10, .inr (.inr (.inr (.inr ee))))), (a0, .inr (8, [.int 4, .ref wa0, .ref na0])), (wa0, .inl (cI, 4, .inl fw0)), (na0, .inl (cI, 4, .inl fn0)), (a1, .inr (8, [.int 4, .ref wa1, .ref na1])), (wa1, .inl (cI, 4, .inl fw1)), (na1, .inl (cI, 4, .inl fn1))]) [3, 4, 5, 6, 7, 8, 9, 10, 0, 1, 2] rfl
  have hD9 := hD.sub (ws' := [(r6, .inr (0, [.ref b7, .int 0, .int 0, .int 0])), (b7, .inl (cB, 24, .inl g8)), (mo, .inr (9, [th, .ref al, md, rf, kn])), (al, .inr (4, [mc, .ref ed, .int (nI cc)])), (ed, .inl (cO, 10, .inr (.inr (.inr (.inr ee))))), (a0, .inr (8, [.int 4, .ref wa0, .ref na0])), (wa0, .inl (cI, 4, .inl fw0)), (na0, .inl (cI, 4, .inl fn0)), (a1, .inr (8, [.int 4, .ref wa1, .ref na1])), (wa1, .inl (cI, 4, .inl fw1)), (na1, .inl (cI, 4, .inl fn1))]) [3, 4, 5, 6, 7, 8, 9, 10, 0, 1, 2] (by decide) rfl
  exact W.aret hx hb hr (by first | exact Or.inl ⟨_, rfl⟩ | exact Or.inr ⟨_, rfl⟩) (Or.inr ⟨_, rfl⟩) (fun t ht hW => ⟨⟨(), _, rfl, trivial, ⟨_, _, ⟨by rw [ht]; exact hP9, va_K.moved hW.alike hK, hD9, by rw [ht]; exact hz⟩, hfg8⟩⟩, hS.F ht⟩) hS.2.2 dX4_textAt_191

set_option maxHeartbeats 4000000 in
set_option maxRecDepth 100000 in
theorem k_tAt1_2 (l : Launch) (dC : Nat → ClassId) (dI : Nat → Nat → Nat) (cI cB cR cO : ClassId) (zk : Nat → Nat) (mo al ed cc : Nat) (ee : Nat → Option Nat) (th md rf kn mc : Value) (a0 wa0 na0 a1 wa1 na1 : Nat) (fw0 fn0 fw1 fn1 : Nat → Int32) (sz : Nat) (hcc : 1 < cc) (hcc2 : cc ≤ 10) (hw0 : ∀ i, i < 4 → fw0 i = 0) (hn0 : ∀ i, i < 4 → fn0 i = (-1)) (he0 : ee 0 = some a0) (hw1 : ∀ i, i < 4 → fw1 i = 3) (hn1 : ∀ i, i < 4 → fn1 i = 0) (he1 : ee 1 = some a1) : Met l yX4_textAt wsX4_textAt ({ frames := 7, cells := 23, slots := 524408, locals := 235 }) (va_Pc [.ref mo, .ref a1, .int 2] (zPre (dC, dI) (zT cI cB cR cO) zk [] [(mo, .inr (9, [th, .ref al, md, rf, kn])), (al, .inr (4, [mc, .ref ed, .int (nI cc)])), (ed, .inl (cO, 10, .inr (.inr (.inr (.inr ee))))), (a0, .inr (8, [.int 4, .ref wa0, .ref na0])), (wa0, .inl (cI, 4, .inl fw0)), (na0, .inl (cI, 4, .inl fn0)), (a1, .inr (8, [.int 4, .ref wa1, .ref na1])), (wa1, .inl (cI, 4, .inl fw1)), (na1, .inl (cI, 4, .inl fn1))] sz)) (va_Qr (fun _ : Unit => True) (fun _ ra t => ∃ b0, ∃ (g0 : Nat → Int32), zEnd (dC, dI) (zT cI cB cR cO) (va_A [(mo, .inr (9, [th, .ref al, md, rf, kn])), (al, .inr (4, [mc, .ref ed, .int (nI cc)])), (ed, .inl (cO, 10, .inr (.inr (.inr (.inr ee))))), (a0, .inr (8, [.int 4, .ref wa0, .ref na0])), (wa0, .inl (cI, 4, .inl fw0)), (na0, .inl (cI, 4, .inl fn0)), (a1, .inr (8, [.int 4, .ref wa1, .ref na1])), (wa1, .inl (cI, 4, .inl fw1)), (na1, .inl (cI, 4, .inl fn1))] sz) [(ra, .inr (0, [.ref b0, .int 0, .int 0, .int 0])), (b0, .inl (cB, 24, .inl g0)), (mo, .inr (9, [th, .ref al, md, rf, kn])), (al, .inr (4, [mc, .ref ed, .int (nI cc)])), (ed, .inl (cO, 10, .inr (.inr (.inr (.inr ee))))), (a0, .inr (8, [.int 4, .ref wa0, .ref na0])), (wa0, .inl (cI, 4, .inl fw0)), (na0, .inl (cI, 4, .inl fn0)), (a1, .inr (8, [.int 4, .ref wa1, .ref na1])), (wa1, .inl (cI, 4, .inl fw1)), (na1, .inl (cI, 4, .inl fn1))] sz 20 t ∧ sb_Fit g0) (va_A [(mo, .inr (9, [th, .ref al, md, rf, kn])), (al, .inr (4, [mc, .ref ed, .int (nI cc)])), (ed, .inl (cO, 10, .inr (.inr (.inr (.inr ee))))), (a0, .inr (8, [.int 4, .ref wa0, .ref na0])), (wa0, .inl (cI, 4, .inl fw0)), (na0, .inl (cI, 4, .inl fn0)), (a1, .inr (8, [.int 4, .ref wa1, .ref na1])), (wa1, .inl (cI, 4, .inl fw1)), (na1, .inl (cI, 4, .inl fn1))] sz)) 23 524408 (va_A [(mo, .inr (9, [th, .ref al, md, rf, kn])), (al, .inr (4, [mc, .ref ed, .int (nI cc)])), (ed, .inl (cO, 10, .inr (.inr (.inr (.inr ee))))), (a0, .inr (8, [.int 4, .ref wa0, .ref na0])), (wa0, .inl (cI, 4, .inl fw0)), (na0, .inl (cI, 4, .inl fn0)), (a1, .inr (8, [.int 4, .ref wa1, .ref na1])), (wa1, .inl (cI, 4, .inl fw1)), (na1, .inl (cI, 4, .inl fn1))] sz) := by
  refine Met.ofW (cc := cX4_textAt) (maxL := 4) (ret := (some (.object "java/lang/String"))) (by decide) rfl ?_
  intro p e s mY args below meth c s₁ B hml hv
  obtain ⟨rfl, hsz, hP, hK, hD0, hZ⟩ := hv
  have hx := B.exec
  have hb := B.bytes
  have hr := B.returns
  have hts := atoms_spec (ws := wsX4_textAt) B.pre
  have hown : s.vm.findClass RX4 = some mY.cls := findClass_of_methodNamed B.named
  have hlocks := B.notSynchronized
  subst hsz
  have hD := hD0.self (sz := s.heap.size)
  generalize hAe : va_A [(mo, .inr (9, [th, .ref al, md, rf, kn])), (al, .inr (4, [mc, .ref ed, .int (nI cc)])), (ed, .inl (cO, 10, .inr (.inr (.inr (.inr ee))))), (a0, .inr (8, [.int 4, .ref wa0, .ref na0])), (wa0, .inl (cI, 4, .inl fw0)), (na0, .inl (cI, 4, .inl fn0)), (a1, .inr (8, [.int 4, .ref wa1, .ref na1])), (wa1, .inl (cI, 4, .inl fw1)), (na1, .inl (cI, 4, .inl fn1))] s.heap.size = A at hD hZ ⊢
  have hA : ∀ q : Nat, s.heap.size ≤ q → A q := fun q h => by rw [← hAe]; exact Or.inr h
  have hS : va_S A s.heap s.heap [] := va_S.rf
  have hz : s.heap.size + 0 ≤ s.heap.size := Nat.le_refl _
  have hl := lv_entry ([.ref mo, .ref a1, .int 2]) (n := 4) (Nat.le_of_ble_eq_true rfl)
  rw [lg_entry_eq]
  generalize (lg_sl ([.ref mo, .ref a1, .int 2]) ++ List.replicate (4 - (lg_sl ([.ref mo, .ref a1, .int 2])).length) Slot.unset).toArray = ls at hl ⊢
  have hl : lv_has ls 4 [(0, .ref mo), (1, .ref a1), (2, .int 2)] := hl
  have hP : va_P (dC, dI) vwCl [(mo, .inr (9, [th, .ref al, md, rf, kn])), (al, .inr (4, [mc, .ref ed, .int (nI cc)])), (ed, .inl (cO, 10, .inr (.inr (.inr (.inr ee))))), (a0, .inr (8, [.int 4, .ref wa0, .ref na0])), (wa0, .inl (cI, 4, .inl fw0)), (na0, .inl (cI, 4, .inl fn0)), (a1, .inr (8, [.int 4, .ref wa1, .ref na1])), (wa1, .inl (cI, 4, .inl fw1)), (na1, .inl (cI, 4, .inl fn1))] s.heap := hP
  have hD : va_D A [(mo, .inr (9, [th, .ref al, md, rf, kn])), (al, .inr (4, [mc, .ref ed, .int (nI cc)])), (ed, .inl (cO, 10, .inr (.inr (.inr (.inr ee))))), (a0, .inr (8, [.int 4, .ref wa0, .ref na0])), (wa0, .inl (cI, 4, .inl fw0)), (na0, .inl (cI, 4, .inl fn0)), (a1, .inr (8, [.int 4, .ref wa1, .ref na1])), (wa1, .inl (cI, 4, .inl fw1)), (na1, .inl (cI, 4, .inl fn1))] := hD
  refine lv_aload_n hx hb dX4_textAt_0 rfl (lv_at hl 1 rfl) ?_
  refine va_get (D := (dC, dI)) (ci := 8) (v := .ref na1) (C := RX3) (T := TX3) (N := 3) hx hb hts hi_X4_textAt_X3 hown hK hP 6 rfl rfl 2 (by decide) (hts (.fieldLink RX4 48 "DeeprowsModel$Row" "numbers" "[I") (List.mem_cons_of_mem _ zw_1180)) (fun _ h9 => h9) rfl dX4_textAt_1 ?_
  refine lv_iload_n hx hb dX4_textAt_4 rfl (lv_at hl 2 rfl) ?_
  refine va_iald (D := (dC, dI)) (cl := vwCl) hx hb hK hP 8 0 rfl rfl (by unfold vp_in; decide) dX4_textAt_5 ?_
  refine lv_topi (fun v1 ev1 => ?_)
  obtain rfl : v1 = 0 := ev1.trans (hn1 2 (by decide))
  refine lv_istore_n (lv' := [(3, .int 0), (0, .ref mo), (1, .ref a1), (2, .int 2)]) hx hb dX4_textAt_6 rfl hl (by decide) rfl (fun ls hl => ?_)
  refine lv_aload_n hx hb dX4_textAt_7 rfl (lv_at hl 2 rfl) ?_
  refine va_get (D := (dC, dI)) (ci := 8) (v := .int 4) (C := RX3) (T := TX3) (N := 3) hx hb hts hi_X4_textAt_X3 hown hK hP 6 rfl rfl 0 (by decide) (hts (.fieldLink RX4 103 "DeeprowsModel$Row" "kind" "I") (List.mem_cons_of_mem _ zw_1176)) (fun _ h9 => h9) rfl dX4_textAt_8 ?_
  refine lv_tableOut (tgt := 122) hx hb dX4_textAt_11 (by decide) (by decide) ?_
  refine lv_aload_n hx hb dX4_textAt_122 rfl (lv_at hl 2 rfl) ?_
  refine va_get (D := (dC, dI)) (ci := 8) (v := .ref wa1) (C := RX3) (T := TX3) (N := 3) hx hb hts hi_X4_textAt_X3 hown hK hP 6 rfl rfl 1 (by decide) (hts (.fieldLink RX4 70 "DeeprowsModel$Row" "whats" "[I") (List.mem_cons_of_mem _ zw_1178)) (fun _ h9 => h9) rfl dX4_textAt_123 ?_
  refine lv_iload_n hx hb dX4_textAt_126 rfl (lv_at hl 3 rfl) ?_
  refine va_iald (D := (dC, dI)) (cl := vwCl) hx hb hK hP 7 0 rfl rfl (by unfold vp_in; decide) dX4_textAt_127 ?_
  refine lv_topi (fun v2 ev2 => ?_)
  obtain rfl : v2 = 3 := ev2.trans (hw1 2 (by decide))
  refine lv_if_ne (tgt := 136) hx hb dX4_textAt_128 (by decide) (fun c9 => ?_) (fun c9 => ?_)
  rotate_left
  · exact absurd c9 (by decide)
  refine lv_aload_n hx hb dX4_textAt_136 rfl (lv_at hl 2 rfl) ?_
  refine va_get (D := (dC, dI)) (ci := 8) (v := .ref wa1) (C := RX3) (T := TX3) (N := 3) hx hb hts hi_X4_textAt_X3 hown hK hP 6 rfl rfl 1 (by decide) (hts (.fieldLink RX4 70 "DeeprowsModel$Row" "whats" "[I") (List.mem_cons_of_mem _ zw_1178)) (fun _ h9 => h9) rfl dX4_textAt_137 ?_
  refine lv_iload_n hx hb dX4_textAt_140 rfl (lv_at hl 3 rfl) ?_
  refine va_iald (D := (dC, dI)) (cl := vwCl) hx hb hK hP 7 0 rfl rfl (by unfold vp_in; decide) dX4_textAt_141 ?_
  refine lv_topi (fun v3 ev3 => ?_)
  obtain rfl : v3 = 3 := ev3.trans (hw1 2 (by decide))
  refine lv_iconst (v := 1) hx hb dX4_textAt_142 (by decide) ?_
  refine lv_icmp_ne (tgt := 168) hx hb dX4_textAt_143 (by decide) (fun c9 => ?_) (fun c9 => ?_)
  rotate_left
  · exact absurd c9 (by decide)
  refine lv_aload_n hx hb dX4_textAt_168 rfl (lv_at hl 2 rfl) ?_
  refine va_get (D := (dC, dI)) (ci := 8) (v := .ref wa1) (C := RX3) (T := TX3) (N := 3) hx hb hts hi_X4_textAt_X3 hown hK hP 6 rfl rfl 1 (by decide) (hts (.fieldLink RX4 70 "DeeprowsModel$Row" "whats" "[I") (List.mem_cons_of_mem _ zw_1178)) (fun _ h9 => h9) rfl dX4_textAt_169 ?_
  refine lv_iload_n hx hb dX4_textAt_172 rfl (lv_at hl 3 rfl) ?_
  refine va_iald (D := (dC, dI)) (cl := vwCl) hx hb hK hP 7 0 rfl rfl (by unfold vp_in; decide) dX4_textAt_173 ?_
  refine lv_topi (fun v4 ev4 => ?_)
  obtain rfl : v4 = 3 := ev4.trans (hw1 2 (by decide))
  refine lv_iconst (v := 2) hx hb dX4_textAt_174 (by decide) ?_
  refine lv_icmp_ne (tgt := 186) hx hb dX4_textAt_175 (by decide) (fun c9 => ?_) (fun c9 => ?_)
  rotate_left
  · exact absurd c9 (by decide)
  refine lv_aload_n hx hb dX4_textAt_186 rfl (lv_at hl 1 rfl) ?_
  refine lv_iload_n hx hb dX4_textAt_187 rfl (lv_at hl 0 rfl) ?_
  have hPc := hP.sub (ws' := [(mo, .inr (9, [th, .ref al, md, rf, kn])), (al, .inr (4, [mc, .ref ed, .int (nI cc)])), (ed, .inl (cO, 10, .inr (.inr (.inr (.inr ee))))), (a0, .inr (8, [.int 4, .ref wa0, .ref na0])), (wa0, .inl (cI, 4, .inl fw0)), (na0, .inl (cI, 4, .inl fn0))]) [0, 1, 2, 3, 4, 5] rfl
  have hDc := hD.sub (ws' := [(mo, .inr (9, [th, .ref al, md, rf, kn])), (al, .inr (4, [mc, .ref ed, .int (nI cc)])), (ed, .inl (cO, 10, .inr (.inr (.inr (.inr ee))))), (a0, .inr (8, [.int 4, .ref wa0, .ref na0])), (wa0, .inl (cI, 4, .inl fw0)), (na0, .inl (cI, 4, .inl fn0))]) [0, 1, 2, 3, 4, 5] (by decide) rfl
  have hFc := va_free (wc := [(mo, .inr (9, [th, .ref al, md, rf, kn])), (al, .inr (4, [mc, .ref ed, .int (nI cc)])), (ed, .inl (cO, 10, .inr (.inr (.inr (.inr ee))))), (a0, .inr (8, [.int 4, .ref wa0, .ref na0])), (wa0, .inl (cI, 4, .inl fw0)), (na0, .inl (cI, 4, .inl fn0))]) hD hS hA [0, 1, 2, 3, 4, 5] rfl
  have hDv := hDc.self (sz := s.heap.size)
  have hpre := zpre (xs' := []) (av := [.ref mo, .int 0]) hPc hK (hDc.weaken (fun _ _ _ h => h)) hZ hS hFc (fun r hr => by cases hr)
  refine va_callr (va_runV (As := [.int 0]) (rest := []) ⟨hx, hb, hml, hown, hts⟩ (k_tOf0 l dC dI cI cB cR cO zk mo al ed cc ee th md rf kn mc a0 wa0 na0 fw0 fn0 s.heap.size (by omega) hcc2 hw0 hn0 he0) (cwV 1 hts gX4_textAt_X4_textOf rfl rfl rfl (by decide +kernel) ⟨Nat.le_of_ble_eq_true rfl, Nat.le_of_ble_eq_true rfl⟩) ⟨zblind, (zrecv_9 hK hPc (q0 := 0) rfl), hpre⟩ rfl rfl hl.1 rfl (lv_room (Nat.le_of_ble_eq_true rfl)) dX4_textAt_188 ⟨Nat.le_of_ble_eq_true rfl, Nat.le_of_ble_eq_true rfl⟩) hS (fun q _ h => hFc q h) hFc (fun u r6 t H5 locs ht hvm hw hB hz1 hk1 hS => ?_)
  obtain ⟨b7, g8, ⟨hP1, hK1, hD1, hz2⟩, hfg8⟩ := hB
  rw [ht] at hP1 hz2
  have hPD9 := va_join (wr := [(a1, .inr (8, [.int 4, .ref wa1, .ref na1])), (wa1, .inl (cI, 4, .inl fw1)), (na1, .inl (cI, 4, .inl fn1))]) (w1 := [(r6, .inr (0, [.ref b7, .int 0, .int 0, .int 0])), (b7, .inl (cB, 24, .inl g8)), (mo, .inr (9, [th, .ref al, md, rf, kn])), (al, .inr (4, [mc, .ref ed, .int (nI cc)])), (ed, .inl (cO, 10, .inr (.inr (.inr (.inr ee))))), (a0, .inr (8, [.int 4, .ref wa0, .ref na0])), (wa0, .inl (cI, 4, .inl fw0)), (na0, .inl (cI, 4, .inl fn0))]) hP hD [0, 1, 2, 3, 4, 5] [6, 7, 8] rfl rfl (by decide) (by decide) hk1 hFc hP1 hD1
  clear hPc hDc hFc hDv hpre hP hD hP1 hK1 hD1
  obtain ⟨hP, hD⟩ := hPD9
  replace hz : s.heap.size + 20 ≤ H5.size := by omega
  clear hz2
  replace hP : va_P (dC, dI) vwCl [(a1, .inr (8, [.int 4, .ref wa1, .ref na1])), (wa1, .inl (cI, 4, .inl fw1)), (na1, .inl (cI, 4, .inl fn1)), (r6, .inr (0, [.ref b7, .int 0, .int 0, .int 0])), (b7, .inl (cB, 24, .inl g8)), (mo, .inr (9, [th, .ref al, md, rf, kn])), (al, .inr (4, [mc, .ref ed, .int (nI cc)])), (ed, .inl (cO, 10, .inr (.inr (.inr (.inr ee))))), (a0, .inr (8, [.int 4, .ref wa0, .ref na0])), (wa0, .inl (cI, 4, .inl fw0)), (na0, .inl (cI, 4, .inl fn0))] H5 := hP
  replace hD : va_D A [(a1, .inr (8, [.int 4, .ref wa1, .ref na1])), (wa1, .inl (cI, 4, .inl fw1)), (na1, .inl (cI, 4, .inl fn1)), (r6, .inr (0, [.ref b7, .int 0, .int 0, .int 0])), (b7, .inl (cB, 24, .inl g8)), (mo, .inr (9, [th, .ref al, md, rf, kn])), (al, .inr (4, [mc, .ref ed, .int (nI cc)])), (ed, .inl (cO, 10, .inr (.inr (.inr (.inr ee))))), (a0, .inr (8, [.int 4, .ref wa0, .ref na0])), (wa0, .inl (cI, 4, .inl fw0)), (na0, .inl (cI, 4, .inl fn0))] := hD
  refine W.widen (k := 23) (n := 524408) (by omega) (by omega) ?_
  have hP9 := hP.sub (ws' := [(r6, .inr (0, [.ref b7, .int 0, .int 0, .int 0])), (b7, .inl (cB, 24, .inl g8)), (mo, .inr (9, [th, .ref al, md, rf, kn])), (al, .inr (4, [mc, .ref ed, .int (nI cc)])), (ed, .inl (cO, 10, .inr (.inr (.inr (.inr ee))))), (a0, .inr (8, [.int 4, .ref wa0, .ref na0])), (wa0, .inl (cI, 4, .inl fw0)), (na0, .inl (cI, 4, .inl fn0)), (a1, .inr (8, [.int 4, .ref wa1, .ref na1])), (wa1, .inl (cI, 4, .inl fw1)), (na1, .inl (cI, 4, .inl fn1))]) [3, 4, 5, 6, 7, 8, 9, 10, 0, 1, 2] rfl
  have hD9 := hD.sub (ws' := [(r6, .inr (0, [.ref b7, .int 0, .int 0, .int 0])), (b7, .inl (cB, 24, .inl g8)), (mo, .inr (9, [th, .ref al, md, rf, kn])), (al, .inr (4, [mc, .ref ed, .int (nI cc)])), (ed, .inl (cO, 10, .inr (.inr (.inr (.inr ee))))), (a0, .inr (8, [.int 4, .ref wa0, .ref na0])), (wa0, .inl (cI, 4, .inl fw0)), (na0, .inl (cI, 4, .inl fn0)), (a1, .inr (8, [.int 4, .ref wa1, .ref na1])), (wa1, .inl (cI, 4, .inl fw1)), (na1, .inl (cI, 4, .inl fn1))]) [3, 4, 5, 6, 7, 8, 9, 10, 0, 1, 2] (by decide) rfl
  exact W.aret hx hb hr (by first | exact Or.inl ⟨_, rfl⟩ | exact Or.inr ⟨_, rfl⟩) (Or.inr ⟨_, rfl⟩) (fun t ht hW => ⟨⟨(), _, rfl, trivial, ⟨_, _, ⟨by rw [ht]; exact hP9, va_K.moved hW.alike hK, hD9, by rw [ht]; exact hz⟩, hfg8⟩⟩, hS.F ht⟩) hS.2.2 dX4_textAt_191

set_option maxHeartbeats 4000000 in
set_option maxRecDepth 100000 in
theorem k_tAt1_3 (l : Launch) (dC : Nat → ClassId) (dI : Nat → Nat → Nat) (cI cB cR cO : ClassId) (zk : Nat → Nat) (mo al ed cc : Nat) (ee : Nat → Option Nat) (th md rf kn mc : Value) (a0 wa0 na0 a1 wa1 na1 : Nat) (fw0 fn0 fw1 fn1 : Nat → Int32) (sz : Nat) (hcc : 1 < cc) (hcc2 : cc ≤ 10) (hw0 : ∀ i, i < 4 → fw0 i = 0) (hn0 : ∀ i, i < 4 → fn0 i = (-1)) (he0 : ee 0 = some a0) (hw1 : ∀ i, i < 4 → fw1 i = 3) (hn1 : ∀ i, i < 4 → fn1 i = 0) (he1 : ee 1 = some a1) : Met l yX4_textAt wsX4_textAt ({ frames := 7, cells := 23, slots := 524408, locals := 235 }) (va_Pc [.ref mo, .ref a1, .int 3] (zPre (dC, dI) (zT cI cB cR cO) zk [] [(mo, .inr (9, [th, .ref al, md, rf, kn])), (al, .inr (4, [mc, .ref ed, .int (nI cc)])), (ed, .inl (cO, 10, .inr (.inr (.inr (.inr ee))))), (a0, .inr (8, [.int 4, .ref wa0, .ref na0])), (wa0, .inl (cI, 4, .inl fw0)), (na0, .inl (cI, 4, .inl fn0)), (a1, .inr (8, [.int 4, .ref wa1, .ref na1])), (wa1, .inl (cI, 4, .inl fw1)), (na1, .inl (cI, 4, .inl fn1))] sz)) (va_Qr (fun _ : Unit => True) (fun _ ra t => ∃ b0, ∃ (g0 : Nat → Int32), zEnd (dC, dI) (zT cI cB cR cO) (va_A [(mo, .inr (9, [th, .ref al, md, rf, kn])), (al, .inr (4, [mc, .ref ed, .int (nI cc)])), (ed, .inl (cO, 10, .inr (.inr (.inr (.inr ee))))), (a0, .inr (8, [.int 4, .ref wa0, .ref na0])), (wa0, .inl (cI, 4, .inl fw0)), (na0, .inl (cI, 4, .inl fn0)), (a1, .inr (8, [.int 4, .ref wa1, .ref na1])), (wa1, .inl (cI, 4, .inl fw1)), (na1, .inl (cI, 4, .inl fn1))] sz) [(ra, .inr (0, [.ref b0, .int 0, .int 0, .int 0])), (b0, .inl (cB, 24, .inl g0)), (mo, .inr (9, [th, .ref al, md, rf, kn])), (al, .inr (4, [mc, .ref ed, .int (nI cc)])), (ed, .inl (cO, 10, .inr (.inr (.inr (.inr ee))))), (a0, .inr (8, [.int 4, .ref wa0, .ref na0])), (wa0, .inl (cI, 4, .inl fw0)), (na0, .inl (cI, 4, .inl fn0)), (a1, .inr (8, [.int 4, .ref wa1, .ref na1])), (wa1, .inl (cI, 4, .inl fw1)), (na1, .inl (cI, 4, .inl fn1))] sz 20 t ∧ sb_Fit g0) (va_A [(mo, .inr (9, [th, .ref al, md, rf, kn])), (al, .inr (4, [mc, .ref ed, .int (nI cc)])), (ed, .inl (cO, 10, .inr (.inr (.inr (.inr ee))))), (a0, .inr (8, [.int 4, .ref wa0, .ref na0])), (wa0, .inl (cI, 4, .inl fw0)), (na0, .inl (cI, 4, .inl fn0)), (a1, .inr (8, [.int 4, .ref wa1, .ref na1])), (wa1, .inl (cI, 4, .inl fw1)), (na1, .inl (cI, 4, .inl fn1))] sz)) 23 524408 (va_A [(mo, .inr (9, [th, .ref al, md, rf, kn])), (al, .inr (4, [mc, .ref ed, .int (nI cc)])), (ed, .inl (cO, 10, .inr (.inr (.inr (.inr ee))))), (a0, .inr (8, [.int 4, .ref wa0, .ref na0])), (wa0, .inl (cI, 4, .inl fw0)), (na0, .inl (cI, 4, .inl fn0)), (a1, .inr (8, [.int 4, .ref wa1, .ref na1])), (wa1, .inl (cI, 4, .inl fw1)), (na1, .inl (cI, 4, .inl fn1))] sz) := by
  refine Met.ofW (cc := cX4_textAt) (maxL := 4) (ret := (some (.object "java/lang/String"))) (by decide) rfl ?_
  intro p e s mY args below meth c s₁ B hml hv
  obtain ⟨rfl, hsz, hP, hK, hD0, hZ⟩ := hv
  have hx := B.exec
  have hb := B.bytes
  have hr := B.returns
  have hts := atoms_spec (ws := wsX4_textAt) B.pre
  have hown : s.vm.findClass RX4 = some mY.cls := findClass_of_methodNamed B.named
  have hlocks := B.notSynchronized
  subst hsz
  have hD := hD0.self (sz := s.heap.size)
  generalize hAe : va_A [(mo, .inr (9, [th, .ref al, md, rf, kn])), (al, .inr (4, [mc, .ref ed, .int (nI cc)])), (ed, .inl (cO, 10, .inr (.inr (.inr (.inr ee))))), (a0, .inr (8, [.int 4, .ref wa0, .ref na0])), (wa0, .inl (cI, 4, .inl fw0)), (na0, .inl (cI, 4, .inl fn0)), (a1, .inr (8, [.int 4, .ref wa1, .ref na1])), (wa1, .inl (cI, 4, .inl fw1)), (na1, .inl (cI, 4, .inl fn1))] s.heap.size = A at hD hZ ⊢
  have hA : ∀ q : Nat, s.heap.size ≤ q → A q := fun q h => by rw [← hAe]; exact Or.inr h
  have hS : va_S A s.heap s.heap [] := va_S.rf
  have hz : s.heap.size + 0 ≤ s.heap.size := Nat.le_refl _
  have hl := lv_entry ([.ref mo, .ref a1, .int 3]) (n := 4) (Nat.le_of_ble_eq_true rfl)
  rw [lg_entry_eq]
  generalize (lg_sl ([.ref mo, .ref a1, .int 3]) ++ List.replicate (4 - (lg_sl ([.ref mo, .ref a1, .int 3])).length) Slot.unset).toArray = ls at hl ⊢
  have hl : lv_has ls 4 [(0, .ref mo), (1, .ref a1), (2, .int 3)] := hl
  have hP : va_P (dC, dI) vwCl [(mo, .inr (9, [th, .ref al, md, rf, kn])), (al, .inr (4, [mc, .ref ed, .int (nI cc)])), (ed, .inl (cO, 10, .inr (.inr (.inr (.inr ee))))), (a0, .inr (8, [.int 4, .ref wa0, .ref na0])), (wa0, .inl (cI, 4, .inl fw0)), (na0, .inl (cI, 4, .inl fn0)), (a1, .inr (8, [.int 4, .ref wa1, .ref na1])), (wa1, .inl (cI, 4, .inl fw1)), (na1, .inl (cI, 4, .inl fn1))] s.heap := hP
  have hD : va_D A [(mo, .inr (9, [th, .ref al, md, rf, kn])), (al, .inr (4, [mc, .ref ed, .int (nI cc)])), (ed, .inl (cO, 10, .inr (.inr (.inr (.inr ee))))), (a0, .inr (8, [.int 4, .ref wa0, .ref na0])), (wa0, .inl (cI, 4, .inl fw0)), (na0, .inl (cI, 4, .inl fn0)), (a1, .inr (8, [.int 4, .ref wa1, .ref na1])), (wa1, .inl (cI, 4, .inl fw1)), (na1, .inl (cI, 4, .inl fn1))] := hD
  refine lv_aload_n hx hb dX4_textAt_0 rfl (lv_at hl 1 rfl) ?_
  refine va_get (D := (dC, dI)) (ci := 8) (v := .ref na1) (C := RX3) (T := TX3) (N := 3) hx hb hts hi_X4_textAt_X3 hown hK hP 6 rfl rfl 2 (by decide) (hts (.fieldLink RX4 48 "DeeprowsModel$Row" "numbers" "[I") (List.mem_cons_of_mem _ zw_1180)) (fun _ h9 => h9) rfl dX4_textAt_1 ?_
  refine lv_iload_n hx hb dX4_textAt_4 rfl (lv_at hl 2 rfl) ?_
  refine va_iald (D := (dC, dI)) (cl := vwCl) hx hb hK hP 8 0 rfl rfl (by unfold vp_in; decide) dX4_textAt_5 ?_
  refine lv_topi (fun v1 ev1 => ?_)
  obtain rfl : v1 = 0 := ev1.trans (hn1 3 (by decide))
  refine lv_istore_n (lv' := [(3, .int 0), (0, .ref mo), (1, .ref a1), (2, .int 3)]) hx hb dX4_textAt_6 rfl hl (by decide) rfl (fun ls hl => ?_)
  refine lv_aload_n hx hb dX4_textAt_7 rfl (lv_at hl 2 rfl) ?_
  refine va_get (D := (dC, dI)) (ci := 8) (v := .int 4) (C := RX3) (T := TX3) (N := 3) hx hb hts hi_X4_textAt_X3 hown hK hP 6 rfl rfl 0 (by decide) (hts (.fieldLink RX4 103 "DeeprowsModel$Row" "kind" "I") (List.mem_cons_of_mem _ zw_1176)) (fun _ h9 => h9) rfl dX4_textAt_8 ?_
  refine lv_tableOut (tgt := 122) hx hb dX4_textAt_11 (by decide) (by decide) ?_
  refine lv_aload_n hx hb dX4_textAt_122 rfl (lv_at hl 2 rfl) ?_
  refine va_get (D := (dC, dI)) (ci := 8) (v := .ref wa1) (C := RX3) (T := TX3) (N := 3) hx hb hts hi_X4_textAt_X3 hown hK hP 6 rfl rfl 1 (by decide) (hts (.fieldLink RX4 70 "DeeprowsModel$Row" "whats" "[I") (List.mem_cons_of_mem _ zw_1178)) (fun _ h9 => h9) rfl dX4_textAt_123 ?_
  refine lv_iload_n hx hb dX4_textAt_126 rfl (lv_at hl 3 rfl) ?_
  refine va_iald (D := (dC, dI)) (cl := vwCl) hx hb hK hP 7 0 rfl rfl (by unfold vp_in; decide) dX4_textAt_127 ?_
  refine lv_topi (fun v2 ev2 => ?_)
  obtain rfl : v2 = 3 := ev2.trans (hw1 3 (by decide))
  refine lv_if_ne (tgt := 136) hx hb dX4_textAt_128 (by decide) (fun c9 => ?_) (fun c9 => ?_)
  rotate_left
  · exact absurd c9 (by decide)
  refine lv_aload_n hx hb dX4_textAt_136 rfl (lv_at hl 2 rfl) ?_
  refine va_get (D := (dC, dI)) (ci := 8) (v := .ref wa1) (C := RX3) (T := TX3) (N := 3) hx hb hts hi_X4_textAt_X3 hown hK hP 6 rfl rfl 1 (by decide) (hts (.fieldLink RX4 70 "DeeprowsModel$Row" "whats" "[I") (List.mem_cons_of_mem _ zw_1178)) (fun _ h9 => h9) rfl dX4_textAt_137 ?_
  refine lv_iload_n hx hb dX4_textAt_140 rfl (lv_at hl 3 rfl) ?_
  refine va_iald (D := (dC, dI)) (cl := vwCl) hx hb hK hP 7 0 rfl rfl (by unfold vp_in; decide) dX4_textAt_141 ?_
  refine lv_topi (fun v3 ev3 => ?_)
  obtain rfl : v3 = 3 := ev3.trans (hw1 3 (by decide))
  refine lv_iconst (v := 1) hx hb dX4_textAt_142 (by decide) ?_
  refine lv_icmp_ne (tgt := 168) hx hb dX4_textAt_143 (by decide) (fun c9 => ?_) (fun c9 => ?_)
  rotate_left
  · exact absurd c9 (by decide)
  refine lv_aload_n hx hb dX4_textAt_168 rfl (lv_at hl 2 rfl) ?_
  refine va_get (D := (dC, dI)) (ci := 8) (v := .ref wa1) (C := RX3) (T := TX3) (N := 3) hx hb hts hi_X4_textAt_X3 hown hK hP 6 rfl rfl 1 (by decide) (hts (.fieldLink RX4 70 "DeeprowsModel$Row" "whats" "[I") (List.mem_cons_of_mem _ zw_1178)) (fun _ h9 => h9) rfl dX4_textAt_169 ?_
  refine lv_iload_n hx hb dX4_textAt_172 rfl (lv_at hl 3 rfl) ?_
  refine va_iald (D := (dC, dI)) (cl := vwCl) hx hb hK hP 7 0 rfl rfl (by unfold vp_in; decide) dX4_textAt_173 ?_
  refine lv_topi (fun v4 ev4 => ?_)
  obtain rfl : v4 = 3 := ev4.trans (hw1 3 (by decide))
  refine lv_iconst (v := 2) hx hb dX4_textAt_174 (by decide) ?_
  refine lv_icmp_ne (tgt := 186) hx hb dX4_textAt_175 (by decide) (fun c9 => ?_) (fun c9 => ?_)
  rotate_left
  · exact absurd c9 (by decide)
  refine lv_aload_n hx hb dX4_textAt_186 rfl (lv_at hl 1 rfl) ?_
  refine lv_iload_n hx hb dX4_textAt_187 rfl (lv_at hl 0 rfl) ?_
  have hPc := hP.sub (ws' := [(mo, .inr (9, [th, .ref al, md, rf, kn])), (al, .inr (4, [mc, .ref ed, .int (nI cc)])), (ed, .inl (cO, 10, .inr (.inr (.inr (.inr ee))))), (a0, .inr (8, [.int 4, .ref wa0, .ref na0])), (wa0, .inl (cI, 4, .inl fw0)), (na0, .inl (cI, 4, .inl fn0))]) [0, 1, 2, 3, 4, 5] rfl
  have hDc := hD.sub (ws' := [(mo, .inr (9, [th, .ref al, md, rf, kn])), (al, .inr (4, [mc, .ref ed, .int (nI cc)])), (ed, .inl (cO, 10, .inr (.inr (.inr (.inr ee))))), (a0, .inr (8, [.int 4, .ref wa0, .ref na0])), (wa0, .inl (cI, 4, .inl fw0)), (na0, .inl (cI, 4, .inl fn0))]) [0, 1, 2, 3, 4, 5] (by decide) rfl
  have hFc := va_free (wc := [(mo, .inr (9, [th, .ref al, md, rf, kn])), (al, .inr (4, [mc, .ref ed, .int (nI cc)])), (ed, .inl (cO, 10, .inr (.inr (.inr (.inr ee))))), (a0, .inr (8, [.int 4, .ref wa0, .ref na0])), (wa0, .inl (cI, 4, .inl fw0)), (na0, .inl (cI, 4, .inl fn0))]) hD hS hA [0, 1, 2, 3, 4, 5] rfl
  have hDv := hDc.self (sz := s.heap.size)
  have hpre := zpre (xs' := []) (av := [.ref mo, .int 0]) hPc hK (hDc.weaken (fun _ _ _ h => h)) hZ hS hFc (fun r hr => by cases hr)
  refine va_callr (va_runV (As := [.int 0]) (rest := []) ⟨hx, hb, hml, hown, hts⟩ (k_tOf0 l dC dI cI cB cR cO zk mo al ed cc ee th md rf kn mc a0 wa0 na0 fw0 fn0 s.heap.size (by omega) hcc2 hw0 hn0 he0) (cwV 1 hts gX4_textAt_X4_textOf rfl rfl rfl (by decide +kernel) ⟨Nat.le_of_ble_eq_true rfl, Nat.le_of_ble_eq_true rfl⟩) ⟨zblind, (zrecv_9 hK hPc (q0 := 0) rfl), hpre⟩ rfl rfl hl.1 rfl (lv_room (Nat.le_of_ble_eq_true rfl)) dX4_textAt_188 ⟨Nat.le_of_ble_eq_true rfl, Nat.le_of_ble_eq_true rfl⟩) hS (fun q _ h => hFc q h) hFc (fun u r6 t H5 locs ht hvm hw hB hz1 hk1 hS => ?_)
  obtain ⟨b7, g8, ⟨hP1, hK1, hD1, hz2⟩, hfg8⟩ := hB
  rw [ht] at hP1 hz2
  have hPD9 := va_join (wr := [(a1, .inr (8, [.int 4, .ref wa1, .ref na1])), (wa1, .inl (cI, 4, .inl fw1)), (na1, .inl (cI, 4, .inl fn1))]) (w1 := [(r6, .inr (0, [.ref b7, .int 0, .int 0, .int 0])), (b7, .inl (cB, 24, .inl g8)), (mo, .inr (9, [th, .ref al, md, rf, kn])), (al, .inr (4, [mc, .ref ed, .int (nI cc)])), (ed, .inl (cO, 10, .inr (.inr (.inr (.inr ee))))), (a0, .inr (8, [.int 4, .ref wa0, .ref na0])), (wa0, .inl (cI, 4, .inl fw0)), (na0, .inl (cI, 4, .inl fn0))]) hP hD [0, 1, 2, 3, 4, 5] [6, 7, 8] rfl rfl (by decide) (by decide) hk1 hFc hP1 hD1
  clear hPc hDc hFc hDv hpre hP hD hP1 hK1 hD1
  obtain ⟨hP, hD⟩ := hPD9
  replace hz : s.heap.size + 20 ≤ H5.size := by omega
  clear hz2
  replace hP : va_P (dC, dI) vwCl [(a1, .inr (8, [.int 4, .ref wa1, .ref na1])), (wa1, .inl (cI, 4, .inl fw1)), (na1, .inl (cI, 4, .inl fn1)), (r6, .inr (0, [.ref b7, .int 0, .int 0, .int 0])), (b7, .inl (cB, 24, .inl g8)), (mo, .inr (9, [th, .ref al, md, rf, kn])), (al, .inr (4, [mc, .ref ed, .int (nI cc)])), (ed, .inl (cO, 10, .inr (.inr (.inr (.inr ee))))), (a0, .inr (8, [.int 4, .ref wa0, .ref na0])), (wa0, .inl (cI, 4, .inl fw0)), (na0, .inl (cI, 4, .inl fn0))] H5 := hP
  replace hD : va_D A [(a1, .inr (8, [.int 4, .ref wa1, .ref na1])), (wa1, .inl (cI, 4, .inl fw1)), (na1, .inl (cI, 4, .inl fn1)), (r6, .inr (0, [.ref b7, .int 0, .int 0, .int 0])), (b7, .inl (cB, 24, .inl g8)), (mo, .inr (9, [th, .ref al, md, rf, kn])), (al, .inr (4, [mc, .ref ed, .int (nI cc)])), (ed, .inl (cO, 10, .inr (.inr (.inr (.inr ee))))), (a0, .inr (8, [.int 4, .ref wa0, .ref na0])), (wa0, .inl (cI, 4, .inl fw0)), (na0, .inl (cI, 4, .inl fn0))] := hD
  refine W.widen (k := 23) (n := 524408) (by omega) (by omega) ?_
  have hP9 := hP.sub (ws' := [(r6, .inr (0, [.ref b7, .int 0, .int 0, .int 0])), (b7, .inl (cB, 24, .inl g8)), (mo, .inr (9, [th, .ref al, md, rf, kn])), (al, .inr (4, [mc, .ref ed, .int (nI cc)])), (ed, .inl (cO, 10, .inr (.inr (.inr (.inr ee))))), (a0, .inr (8, [.int 4, .ref wa0, .ref na0])), (wa0, .inl (cI, 4, .inl fw0)), (na0, .inl (cI, 4, .inl fn0)), (a1, .inr (8, [.int 4, .ref wa1, .ref na1])), (wa1, .inl (cI, 4, .inl fw1)), (na1, .inl (cI, 4, .inl fn1))]) [3, 4, 5, 6, 7, 8, 9, 10, 0, 1, 2] rfl
  have hD9 := hD.sub (ws' := [(r6, .inr (0, [.ref b7, .int 0, .int 0, .int 0])), (b7, .inl (cB, 24, .inl g8)), (mo, .inr (9, [th, .ref al, md, rf, kn])), (al, .inr (4, [mc, .ref ed, .int (nI cc)])), (ed, .inl (cO, 10, .inr (.inr (.inr (.inr ee))))), (a0, .inr (8, [.int 4, .ref wa0, .ref na0])), (wa0, .inl (cI, 4, .inl fw0)), (na0, .inl (cI, 4, .inl fn0)), (a1, .inr (8, [.int 4, .ref wa1, .ref na1])), (wa1, .inl (cI, 4, .inl fw1)), (na1, .inl (cI, 4, .inl fn1))]) [3, 4, 5, 6, 7, 8, 9, 10, 0, 1, 2] (by decide) rfl
  exact W.aret hx hb hr (by first | exact Or.inl ⟨_, rfl⟩ | exact Or.inr ⟨_, rfl⟩) (Or.inr ⟨_, rfl⟩) (fun t ht hW => ⟨⟨(), _, rfl, trivial, ⟨_, _, ⟨by rw [ht]; exact hP9, va_K.moved hW.alike hK, hD9, by rw [ht]; exact hz⟩, hfg8⟩⟩, hS.F ht⟩) hS.2.2 dX4_textAt_191

set_option maxHeartbeats 4000000 in
set_option maxRecDepth 100000 in
theorem k_tOf1 (l : Launch) (dC : Nat → ClassId) (dI : Nat → Nat → Nat) (cI cB cR cO : ClassId) (zk : Nat → Nat) (mo al ed cc : Nat) (ee : Nat → Option Nat) (th md rf kn mc : Value) (a0 wa0 na0 a1 wa1 na1 : Nat) (fw0 fn0 fw1 fn1 : Nat → Int32) (sz : Nat) (hcc : 1 < cc) (hcc2 : cc ≤ 10) (hw0 : ∀ i, i < 4 → fw0 i = 0) (hn0 : ∀ i, i < 4 → fn0 i = (-1)) (he0 : ee 0 = some a0) (hw1 : ∀ i, i < 4 → fw1 i = 3) (hn1 : ∀ i, i < 4 → fn1 i = 0) (he1 : ee 1 = some a1) : Met l yX4_textOf wsX4_textOf ({ frames := 8, cells := 121, slots := 3015256, locals := 258 }) (va_Pc [.ref mo, .int 1] (zPre (dC, dI) (zT cI cB cR cO) zk [] [(mo, .inr (9, [th, .ref al, md, rf, kn])), (al, .inr (4, [mc, .ref ed, .int (nI cc)])), (ed, .inl (cO, 10, .inr (.inr (.inr (.inr ee))))), (a0, .inr (8, [.int 4, .ref wa0, .ref na0])), (wa0, .inl (cI, 4, .inl fw0)), (na0, .inl (cI, 4, .inl fn0)), (a1, .inr (8, [.int 4, .ref wa1, .ref na1])), (wa1, .inl (cI, 4, .inl fw1)), (na1, .inl (cI, 4, .inl fn1))] sz)) (va_Qr (fun _ : Unit => True) (fun _ ra t => ∃ b0, ∃ (g0 : Nat → Int32), zEnd (dC, dI) (zT cI cB cR cO) (va_A [(mo, .inr (9, [th, .ref al, md, rf, kn])), (al, .inr (4, [mc, .ref ed, .int (nI cc)])), (ed, .inl (cO, 10, .inr (.inr (.inr (.inr ee))))), (a0, .inr (8, [.int 4, .ref wa0, .ref na0])), (wa0, .inl (cI, 4, .inl fw0)), (na0, .inl (cI, 4, .inl fn0)), (a1, .inr (8, [.int 4, .ref wa1, .ref na1])), (wa1, .inl (cI, 4, .inl fw1)), (na1, .inl (cI, 4, .inl fn1))] sz) [(ra, .inr (0, [.ref b0, .int 0, .int 0, .int 0])), (b0, .inl (cB, 104, .inl g0)), (mo, .inr (9, [th, .ref al, md, rf, kn])), (al, .inr (4, [mc, .ref ed, .int (nI cc)])), (ed, .inl (cO, 10, .inr (.inr (.inr (.inr ee))))), (a0, .inr (8, [.int 4, .ref wa0, .ref na0])), (wa0, .inl (cI, 4, .inl fw0)), (na0, .inl (cI, 4, .inl fn0)), (a1, .inr (8, [.int 4, .ref wa1, .ref na1])), (wa1, .inl (cI, 4, .inl fw1)), (na1, .inl (cI, 4, .inl fn1))] sz 100 t ∧ sb_Fit g0) (va_A [(mo, .inr (9, [th, .ref al, md, rf, kn])), (al, .inr (4, [mc, .ref ed, .int (nI cc)])), (ed, .inl (cO, 10, .inr (.inr (.inr (.inr ee))))), (a0, .inr (8, [.int 4, .ref wa0, .ref na0])), (wa0, .inl (cI, 4, .inl fw0)), (na0, .inl (cI, 4, .inl fn0)), (a1, .inr (8, [.int 4, .ref wa1, .ref na1])), (wa1, .inl (cI, 4, .inl fw1)), (na1, .inl (cI, 4, .inl fn1))] sz)) 121 3015256 (va_A [(mo, .inr (9, [th, .ref al, md, rf, kn])), (al, .inr (4, [mc, .ref ed, .int (nI cc)])), (ed, .inl (cO, 10, .inr (.inr (.inr (.inr ee))))), (a0, .inr (8, [.int 4, .ref wa0, .ref na0])), (wa0, .inl (cI, 4, .inl fw0)), (na0, .inl (cI, 4, .inl fn0)), (a1, .inr (8, [.int 4, .ref wa1, .ref na1])), (wa1, .inl (cI, 4, .inl fw1)), (na1, .inl (cI, 4, .inl fn1))] sz) := by
  refine Met.ofW (cc := cX4_textOf) (maxL := 5) (ret := (some (.object "java/lang/String"))) (by decide) rfl ?_
  intro p e s mY args below meth c s₁ B hml hv
  obtain ⟨rfl, hsz, hP, hK, hD0, hZ⟩ := hv
  have hx := B.exec
  have hb := B.bytes
  have hr := B.returns
  have hts := atoms_spec (ws := wsX4_textOf) B.pre
  have hown : s.vm.findClass RX4 = some mY.cls := findClass_of_methodNamed B.named
  have hlocks := B.notSynchronized
  subst hsz
  have hD := hD0.self (sz := s.heap.size)
  generalize hAe : va_A [(mo, .inr (9, [th, .ref al, md, rf, kn])), (al, .inr (4, [mc, .ref ed, .int (nI cc)])), (ed, .inl (cO, 10, .inr (.inr (.inr (.inr ee))))), (a0, .inr (8, [.int 4, .ref wa0, .ref na0])), (wa0, .inl (cI, 4, .inl fw0)), (na0, .inl (cI, 4, .inl fn0)), (a1, .inr (8, [.int 4, .ref wa1, .ref na1])), (wa1, .inl (cI, 4, .inl fw1)), (na1, .inl (cI, 4, .inl fn1))] s.heap.size = A at hD hZ ⊢
  have hA : ∀ q : Nat, s.heap.size ≤ q → A q := fun q h => by rw [← hAe]; exact Or.inr h
  have hS : va_S A s.heap s.heap [] := va_S.rf
  have hz : s.heap.size + 0 ≤ s.heap.size := Nat.le_refl _
  have hl := lv_entry ([.ref mo, .int 1]) (n := 5) (Nat.le_of_ble_eq_true rfl)
  rw [lg_entry_eq]
  generalize (lg_sl ([.ref mo, .int 1]) ++ List.replicate (5 - (lg_sl ([.ref mo, .int 1])).length) Slot.unset).toArray = ls at hl ⊢
  have hl : lv_has ls 5 [(0, .ref mo), (1, .int 1)] := hl
  have hP : va_P (dC, dI) vwCl [(mo, .inr (9, [th, .ref al, md, rf, kn])), (al, .inr (4, [mc, .ref ed, .int (nI cc)])), (ed, .inl (cO, 10, .inr (.inr (.inr (.inr ee))))), (a0, .inr (8, [.int 4, .ref wa0, .ref na0])), (wa0, .inl (cI, 4, .inl fw0)), (na0, .inl (cI, 4, .inl fn0)), (a1, .inr (8, [.int 4, .ref wa1, .ref na1])), (wa1, .inl (cI, 4, .inl fw1)), (na1, .inl (cI, 4, .inl fn1))] s.heap := hP
  have hD : va_D A [(mo, .inr (9, [th, .ref al, md, rf, kn])), (al, .inr (4, [mc, .ref ed, .int (nI cc)])), (ed, .inl (cO, 10, .inr (.inr (.inr (.inr ee))))), (a0, .inr (8, [.int 4, .ref wa0, .ref na0])), (wa0, .inl (cI, 4, .inl fw0)), (na0, .inl (cI, 4, .inl fn0)), (a1, .inr (8, [.int 4, .ref wa1, .ref na1])), (wa1, .inl (cI, 4, .inl fw1)), (na1, .inl (cI, 4, .inl fn1))] := hD
  refine lv_aload_n hx hb dX4_textOf_0 rfl (lv_at hl 0 rfl) ?_
  refine va_get (D := (dC, dI)) (ci := 9) (v := .ref al) (C := RX4) (T := TX4) (N := 5) hx hb hts hi_X4_textOf_X4 hown hK hP 0 rfl rfl 1 (by decide) (hts (.fieldLink RX4 10 "DeeprowsModel" "rows" "Ljava/util/ArrayList;") (List.mem_cons_of_mem _ zw_1134)) (fun _ h9 => h9) rfl dX4_textOf_1 ?_
  refine lv_iload_n hx hb dX4_textOf_4 rfl (lv_at hl 1 rfl) ?_
  have hPc := hP.sub (ws' := [(al, .inr (4, [mc, .ref ed, .int (nI cc)])), (ed, .inl (cO, 10, .inr (.inr (.inr (.inr ee)))))]) [1, 2] rfl
  have hDc := hD.sub (ws' := [(al, .inr (4, [mc, .ref ed, .int (nI cc)])), (ed, .inl (cO, 10, .inr (.inr (.inr (.inr ee)))))]) [1, 2] (by decide) rfl
  have hFc := va_free (wc := [(al, .inr (4, [mc, .ref ed, .int (nI cc)])), (ed, .inl (cO, 10, .inr (.inr (.inr (.inr ee)))))]) hD hS hA [1, 2] rfl
  have hDv := hDc.self (sz := s.heap.size)
  have hpre := zpre (xs' := []) (av := [.ref al, .int 1]) hPc hK (hDc.weaken (fun _ _ _ h => h)) hZ hS hFc (fun r hr => by cases hr)
  refine va_callr (va_runV (As := [.int 1]) (rest := []) ⟨hx, hb, hml, hown, hts⟩ (k_get l dC dI cI cB cR cO zk al ed 1 cc 10 a1 ee mc s.heap.size hcc hcc2 (by decide) he1) (cwV 1 hts gX4_textOf_Jx4a65c_get_915e3 rfl rfl rfl (by decide +kernel) ⟨Nat.le_of_ble_eq_true rfl, Nat.le_of_ble_eq_true rfl⟩) ⟨zblind, (zrecv_4 hK hPc (q0 := 0) rfl), hpre⟩ rfl rfl hl.1 rfl (lv_room (Nat.le_of_ble_eq_true rfl)) dX4_textOf_5 ⟨Nat.le_of_ble_eq_true rfl, Nat.le_of_ble_eq_true rfl⟩) hS (fun q _ h => hFc q h) hFc (fun u r2 t H1 locs ht hvm hw hB hz1 hk1 hS => ?_)
  obtain ⟨⟨hP1, hK1, hD1, hz2⟩, her2⟩ := hB
  rw [ht] at hP1 hz2
  have hPD9 := va_join (wr := [(mo, .inr (9, [th, .ref al, md, rf, kn])), (a0, .inr (8, [.int 4, .ref wa0, .ref na0])), (wa0, .inl (cI, 4, .inl fw0)), (na0, .inl (cI, 4, .inl fn0)), (a1, .inr (8, [.int 4, .ref wa1, .ref na1])), (wa1, .inl (cI, 4, .inl fw1)), (na1, .inl (cI, 4, .inl fn1))]) (w1 := [(al, .inr (4, [mc, .ref ed, .int (nI cc)])), (ed, .inl (cO, 10, .inr (.inr (.inr (.inr ee)))))]) hP hD [1, 2] [0, 3, 4, 5, 6, 7, 8] rfl rfl (by decide) (by decide) hk1 hFc hP1 hD1
  clear hPc hDc hFc hDv hpre hP hD hP1 hK1 hD1
  obtain ⟨hP, hD⟩ := hPD9
  replace hz : s.heap.size + 0 ≤ H1.size := by omega
  clear hz2
  replace hP : va_P (dC, dI) vwCl [(mo, .inr (9, [th, .ref al, md, rf, kn])), (a0, .inr (8, [.int 4, .ref wa0, .ref na0])), (wa0, .inl (cI, 4, .inl fw0)), (na0, .inl (cI, 4, .inl fn0)), (a1, .inr (8, [.int 4, .ref wa1, .ref na1])), (wa1, .inl (cI, 4, .inl fw1)), (na1, .inl (cI, 4, .inl fn1)), (al, .inr (4, [mc, .ref ed, .int (nI cc)])), (ed, .inl (cO, 10, .inr (.inr (.inr (.inr ee)))))] H1 := hP
  replace hD : va_D A [(mo, .inr (9, [th, .ref al, md, rf, kn])), (a0, .inr (8, [.int 4, .ref wa0, .ref na0])), (wa0, .inl (cI, 4, .inl fw0)), (na0, .inl (cI, 4, .inl fn0)), (a1, .inr (8, [.int 4, .ref wa1, .ref na1])), (wa1, .inl (cI, 4, .inl fw1)), (na1, .inl (cI, 4, .inl fn1)), (al, .inr (4, [mc, .ref ed, .int (nI cc)])), (ed, .inl (cO, 10, .inr (.inr (.inr (.inr ee)))))] := hD
  refine W.widen (k := 0) (n := 0) (by omega) (by omega) ?_
  obtain rfl := her2.symm
  refine va_castE hx hb hown (hts (.classLink RX4 40 "DeeprowsModel$Row") (List.mem_cons_of_mem _ zw_1165)) (zrecv_8 hK hP (q0 := 4) rfl) dX4_textOf_8 ?_
  refine lv_astore_n (lv' := [(2, .ref a1), (0, .ref mo), (1, .int 1)]) hx hb dX4_textOf_11 rfl hl (by decide) rfl (fun ls hl => ?_)
  refine va_ldcS (own := RX4) (tx := "[") (q := zk 1) hx hb hown (zl0 hZ) dX4_textOf_12 ?_
  refine lv_astore_n (lv' := [(3, .ref (zk 1)), (2, .ref a1), (0, .ref mo), (1, .int 1)]) hx hb dX4_textOf_14 rfl hl (by decide) rfl (fun ls hl => ?_)
  refine lv_iconst (v := 0) hx hb dX4_textOf_15 (by decide) ?_
  refine lv_istore (lv' := [(4, .int 0), (3, .ref (zk 1)), (2, .ref a1), (0, .ref mo), (1, .int 1)]) hx hb dX4_textOf_16 hl (by decide) rfl (fun ls hl => ?_)
  refine lv_iload hx hb dX4_textOf_18 (lv_at hl 0 rfl) ?_
  refine lv_aload_n hx hb dX4_textOf_20 rfl (lv_at hl 2 rfl) ?_
  have hPc := hP.sub (ws' := [(a1, .inr (8, [.int 4, .ref wa1, .ref na1])), (wa1, .inl (cI, 4, .inl fw1))]) [4, 5] rfl
  have hDc := hD.sub (ws' := [(a1, .inr (8, [.int 4, .ref wa1, .ref na1])), (wa1, .inl (cI, 4, .inl fw1))]) [4, 5] (by decide) rfl
  have hFc := va_free (wc := [(a1, .inr (8, [.int 4, .ref wa1, .ref na1])), (wa1, .inl (cI, 4, .inl fw1))]) hD hS hA [4, 5] rfl
  have hDv := hDc.self (sz := H1.size)
  have hpre := zpre (xs' := []) (av := [.ref a1]) hPc hK (hDc.weaken (fun _ _ _ h => h)) hZ hS hFc (fun r hr => by cases hr)
  refine va_calli (va_runV (As := []) (rest := [.int 0]) ⟨hx, hb, hml, hown, hts⟩ (k_rlen l dC dI cI cB cR cO zk a1 wa1 na1 fw1 H1.size ) (cwV 0 hts gX4_textOf_X3_length rfl rfl rfl (by decide +kernel) ⟨Nat.le_of_ble_eq_true rfl, Nat.le_of_ble_eq_true rfl⟩) ⟨zblind, (zrecv_8 hK hPc (q0 := 0) rfl), hpre⟩ rfl rfl hl.1 rfl (lv_room (Nat.le_of_ble_eq_true rfl)) dX4_textOf_21 ⟨Nat.le_of_ble_eq_true rfl, Nat.le_of_ble_eq_true rfl⟩) hS (fun q _ h => hFc q h) hFc (fun r4 u t H3 locs ht hvm hw hB hz1 hk1 hS => ?_)
  obtain rfl : 4 = r4 := (show r4 = 4 from hw).symm
  obtain ⟨hP1, hK1, hD1, hz2⟩ := hB
  rw [ht] at hP1 hz2
  have hPD9 := va_join (wr := [(mo, .inr (9, [th, .ref al, md, rf, kn])), (a0, .inr (8, [.int 4, .ref wa0, .ref na0])), (wa0, .inl (cI, 4, .inl fw0)), (na0, .inl (cI, 4, .inl fn0)), (na1, .inl (cI, 4, .inl fn1)), (al, .inr (4, [mc, .ref ed, .int (nI cc)])), (ed, .inl (cO, 10, .inr (.inr (.inr (.inr ee)))))]) (w1 := [(a1, .inr (8, [.int 4, .ref wa1, .ref na1])), (wa1, .inl (cI, 4, .inl fw1))]) hP hD [4, 5] [0, 1, 2, 3, 6, 7, 8] rfl rfl (by decide) (by decide) hk1 hFc hP1 hD1
  clear hPc hDc hFc hDv hpre hP hD hP1 hK1 hD1
  obtain ⟨hP, hD⟩ := hPD9
  replace hz : s.heap.size + 0 ≤ H3.size := by omega
  clear hz2
  replace hP : va_P (dC, dI) vwCl [(mo, .inr (9, [th, .ref al, md, rf, kn])), (a0, .inr (8, [.int 4, .ref wa0, .ref na0])), (wa0, .inl (cI, 4, .inl fw0)), (na0, .inl (cI, 4, .inl fn0)), (na1, .inl (cI, 4, .inl fn1)), (al, .inr (4, [mc, .ref ed, .int (nI cc)])), (ed, .inl (cO, 10, .inr (.inr (.inr (.inr ee))))), (a1, .inr (8, [.int 4, .ref wa1, .ref na1])), (wa1, .inl (cI, 4, .inl fw1))] H3 := hP
  replace hD : va_D A [(mo, .inr (9, [th, .ref al, md, rf, kn])), (a0, .inr (8, [.int 4, .ref wa0, .ref na0])), (wa0, .inl (cI, 4, .inl fw0)), (na0, .inl (cI, 4, .inl fn0)), (na1, .inl (cI, 4, .inl fn1)), (al, .inr (4, [mc, .ref ed, .int (nI cc)])), (ed, .inl (cO, 10, .inr (.inr (.inr (.inr ee))))), (a1, .inr (8, [.int 4, .ref wa1, .ref na1])), (wa1, .inl (cI, 4, .inl fw1))] := hD
  refine W.widen (k := 0) (n := 0) (by omega) (by omega) ?_
  refine lv_icmp_ge (tgt := 73) hx hb dX4_textOf_24 (by decide) (fun c9 => ?_) (fun c9 => ?_)
  · exact absurd c9 (by decide)
  refine zw_new (ci := 1) (fs := [.null, .int 0, .int 0, .int 0]) (C := RJ4) (T := TJ4) (N := 4) hx hb hts hi_X4_textOf_J4 tyJ4 tyJ4_ok hown (hts (.classLink RX4 165 RJ4) (List.mem_cons_of_mem _ zw_1388)) (hts (.instantiable RJ4 4) (List.mem_cons_of_mem _ zw_139)) (hts (.initialized RJ4) (List.mem_cons_of_mem _ zw_47)) hK hP hD hS hA rfl (fun j hj => by rcases (show j = 0 ∨ j = 1 ∨ j = 2 ∨ j = 3 by omega) with rfl | rfl | rfl | rfl <;> rfl) (Nat.le_of_ble_eq_true rfl) (Nat.le_of_ble_eq_true rfl) dX4_textOf_27 hz (fun q5 H6 hP hD hS hz => ?_)
  replace hP : va_P (dC, dI) vwCl [(mo, .inr (9, [th, .ref al, md, rf, kn])), (a0, .inr (8, [.int 4, .ref wa0, .ref na0])), (wa0, .inl (cI, 4, .inl fw0)), (na0, .inl (cI, 4, .inl fn0)), (na1, .inl (cI, 4, .inl fn1)), (al, .inr (4, [mc, .ref ed, .int (nI cc)])), (ed, .inl (cO, 10, .inr (.inr (.inr (.inr ee))))), (a1, .inr (8, [.int 4, .ref wa1, .ref na1])), (wa1, .inl (cI, 4, .inl fw1)), (q5, .inr (1, [.null, .int 0, .int 0, .int 0]))] H6 := hP
  replace hD : va_D A [(mo, .inr (9, [th, .ref al, md, rf, kn])), (a0, .inr (8, [.int 4, .ref wa0, .ref na0])), (wa0, .inl (cI, 4, .inl fw0)), (na0, .inl (cI, 4, .inl fn0)), (na1, .inl (cI, 4, .inl fn1)), (al, .inr (4, [mc, .ref ed, .int (nI cc)])), (ed, .inl (cO, 10, .inr (.inr (.inr (.inr ee))))), (a1, .inr (8, [.int 4, .ref wa1, .ref na1])), (wa1, .inl (cI, 4, .inl fw1)), (q5, .inr (1, [.null, .int 0, .int 0, .int 0]))] := hD
  refine W.widen (k := 1) (n := 4) (by omega) (by omega) ?_
  refine lv_dup hx hb dX4_textOf_30 rfl ?_
  have hPc := hP.sub (ws' := [(q5, .inr (1, [.null, .int 0, .int 0, .int 0]))]) [9] rfl
  have hDc := hD.sub (ws' := [(q5, .inr (1, [.null, .int 0, .int 0, .int 0]))]) [9] (by decide) rfl
  have hFc := va_free (wc := [(q5, .inr (1, [.null, .int 0, .int 0, .int 0]))]) hD hS hA [9] rfl
  have hDv := hDc.self (sz := H6.size)
  have hpre := zpre (xs' := []) (av := [.ref q5]) hPc hK (hDc.weaken (fun _ _ _ h => h)) hZ hS hFc (fun r hr => by cases hr)
  refine va_callv (va_runI (As := []) (rest := [.ref q5]) ⟨hx, hb, hml, hown, hts⟩ (k_init4 l dC dI cI cB cR cO zk q5 H6.size ) (cwI 0 hts gX4_textOf_J4_init_da8c8 rfl rfl rfl (hts (.initialized RJ4) (List.mem_cons_of_mem _ zw_47)) (hts (.methodLink RX4 167 yJ4_init_da8c8) (List.mem_cons_of_mem _ zw_1389)) (hts (.instanceMethod yJ4_init_da8c8) (List.mem_cons_of_mem _ zw_141)) rfl (by decide +kernel) ⟨Nat.le_of_ble_eq_true rfl, Nat.le_of_ble_eq_true rfl⟩) ⟨zblind, hpre⟩ rfl rfl hl.1 rfl (lv_room (Nat.le_of_ble_eq_true rfl)) dX4_textOf_31 ⟨Nat.le_of_ble_eq_true rfl, Nat.le_of_ble_eq_true rfl⟩) hS (fun q _ h => hFc q h) hFc (fun u t H7 locs ht hvm hw hB hz1 hk1 hS => ?_)
  obtain ⟨w9, ⟨hP1, hK1, hD1, hz2⟩⟩ := hB
  rw [ht] at hP1 hz2
  have hPD9 := va_join (wr := [(mo, .inr (9, [th, .ref al, md, rf, kn])), (a0, .inr (8, [.int 4, .ref wa0, .ref na0])), (wa0, .inl (cI, 4, .inl fw0)), (na0, .inl (cI, 4, .inl fn0)), (na1, .inl (cI, 4, .inl fn1)), (al, .inr (4, [mc, .ref ed, .int (nI cc)])), (ed, .inl (cO, 10, .inr (.inr (.inr (.inr ee))))), (a1, .inr (8, [.int 4, .ref wa1, .ref na1])), (wa1, .inl (cI, 4, .inl fw1))]) (w1 := [(q5, .inr (1, [.ref w9, .int 0, .int 0, .int 0])), (w9, .inl (cB, 16, .inl (fun _ => 0)))]) hP hD [9] [0, 1, 2, 3, 4, 5, 6, 7, 8] rfl rfl (by decide) (by decide) hk1 hFc hP1 hD1
  clear hPc hDc hFc hDv hpre hP hD hP1 hK1 hD1
  obtain ⟨hP, hD⟩ := hPD9
  replace hz : s.heap.size + 2 ≤ H7.size := by omega
  clear hz2
  replace hP : va_P (dC, dI) vwCl [(mo, .inr (9, [th, .ref al, md, rf, kn])), (a0, .inr (8, [.int 4, .ref wa0, .ref na0])), (wa0, .inl (cI, 4, .inl fw0)), (na0, .inl (cI, 4, .inl fn0)), (na1, .inl (cI, 4, .inl fn1)), (al, .inr (4, [mc, .ref ed, .int (nI cc)])), (ed, .inl (cO, 10, .inr (.inr (.inr (.inr ee))))), (a1, .inr (8, [.int 4, .ref wa1, .ref na1])), (wa1, .inl (cI, 4, .inl fw1)), (q5, .inr (1, [.ref w9, .int 0, .int 0, .int 0])), (w9, .inl (cB, 16, .inl (fun _ => 0)))] H7 := hP
  replace hD : va_D A [(mo, .inr (9, [th, .ref al, md, rf, kn])), (a0, .inr (8, [.int 4, .ref wa0, .ref na0])), (wa0, .inl (cI, 4, .inl fw0)), (na0, .inl (cI, 4, .inl fn0)), (na1, .inl (cI, 4, .inl fn1)), (al, .inr (4, [mc, .ref ed, .int (nI cc)])), (ed, .inl (cO, 10, .inr (.inr (.inr (.inr ee))))), (a1, .inr (8, [.int 4, .ref wa1, .ref na1])), (wa1, .inl (cI, 4, .inl fw1)), (q5, .inr (1, [.ref w9, .int 0, .int 0, .int 0])), (w9, .inl (cB, 16, .inl (fun _ => 0)))] := hD
  refine W.widen (k := 2) (n := 20) (by omega) (by omega) ?_
  refine lv_aload_n hx hb dX4_textOf_34 rfl (lv_at hl 1 rfl) ?_
  have hPc := hP.sub (ws' := [(q5, .inr (1, [.ref w9, .int 0, .int 0, .int 0])), (w9, .inl (cB, 16, .inl (fun _ => 0)))]) [9, 10] rfl
  have hDc := hD.sub (ws' := [(q5, .inr (1, [.ref w9, .int 0, .int 0, .int 0])), (w9, .inl (cB, 16, .inl (fun _ => 0)))]) [9, 10] (by decide) rfl
  have hFc := va_free (wc := [(q5, .inr (1, [.ref w9, .int 0, .int 0, .int 0])), (w9, .inl (cB, 16, .inl (fun _ => 0)))]) hD hS hA [9, 10] rfl
  have hDv := hDc.self (sz := H7.size)
  have hx0 : zS ((zk 1), (zk 11), 1, (fun j => (zByt.getD 0 []).getD j 0)) (va_A [(q5, .inr (1, [.ref w9, .int 0, .int 0, .int 0])), (w9, .inl (cB, 16, .inl (fun _ => 0)))] H7.size) s H7 := zc0 hZ hS hFc
  have hpre := zpre (xs' := [((zk 1), (zk 11), 1, (fun j => (zByt.getD 0 []).getD j 0))]) (av := [.ref q5, .ref (zk 1)]) hPc hK (hDc.weaken (fun _ _ _ h => h)) hZ hS hFc (fun r hr => by cases hr with | head => exact hx0 | tail _ h => cases h)
  refine va_callr (va_runV (As := [.ref (zk 1)]) (rest := []) ⟨hx, hb, hml, hown, hts⟩ (k_apA l dC dI cI cB cR cO zk q5 w9 (zk 1) (zk 11) 1 16 0 (fun j => (zByt.getD 0 []).getD j 0) (fun _ => 0) (.int 0) H7.size (by decide) (by decide) (by decide) sb_fit0 (by decide)) (cwV 1 hts gX4_textOf_J4_append_15ec4 rfl rfl rfl (by decide +kernel) ⟨Nat.le_of_ble_eq_true rfl, Nat.le_of_ble_eq_true rfl⟩) ⟨zblind, (zrecv_1 hK hPc (q0 := 0) rfl), hpre⟩ rfl rfl hl.1 rfl (lv_room (Nat.le_of_ble_eq_true rfl)) dX4_textOf_35 ⟨Nat.le_of_ble_eq_true rfl, Nat.le_of_ble_eq_true rfl⟩) hS (fun q _ h => hFc q h) hFc (fun u r11 t H10 locs ht hvm hw hB hz1 hk1 hS => ?_)
  obtain ⟨v12, f13, ⟨hP1, hK1, hD1, hz2⟩, hff13, her11⟩ := hB
  rw [ht] at hP1 hz2
  have hPD9 := va_join (wr := [(mo, .inr (9, [th, .ref al, md, rf, kn])), (a0, .inr (8, [.int 4, .ref wa0, .ref na0])), (wa0, .inl (cI, 4, .inl fw0)), (na0, .inl (cI, 4, .inl fn0)), (na1, .inl (cI, 4, .inl fn1)), (al, .inr (4, [mc, .ref ed, .int (nI cc)])), (ed, .inl (cO, 10, .inr (.inr (.inr (.inr ee))))), (a1, .inr (8, [.int 4, .ref wa1, .ref na1])), (wa1, .inl (cI, 4, .inl fw1))]) (w1 := [(q5, .inr (1, [.ref v12, .int 0, .int 0, .int (nI 1)])), (v12, .inl (cB, 16, .inl f13))]) hP hD [9, 10] [0, 1, 2, 3, 4, 5, 6, 7, 8] rfl rfl (by decide) (by decide) hk1 hFc hP1 hD1
  clear hPc hDc hFc hDv hpre hP hD hP1 hK1 hD1
  obtain ⟨hP, hD⟩ := hPD9
  replace hz : s.heap.size + 2 ≤ H10.size := by omega
  clear hz2
  replace hP : va_P (dC, dI) vwCl [(mo, .inr (9, [th, .ref al, md, rf, kn])), (a0, .inr (8, [.int 4, .ref wa0, .ref na0])), (wa0, .inl (cI, 4, .inl fw0)), (na0, .inl (cI, 4, .inl fn0)), (na1, .inl (cI, 4, .inl fn1)), (al, .inr (4, [mc, .ref ed, .int (nI cc)])), (ed, .inl (cO, 10, .inr (.inr (.inr (.inr ee))))), (a1, .inr (8, [.int 4, .ref wa1, .ref na1])), (wa1, .inl (cI, 4, .inl fw1)), (q5, .inr (1, [.ref v12, .int 0, .int 0, .int (nI 1)])), (v12, .inl (cB, 16, .inl f13))] H10 := hP
  replace hD : va_D A [(mo, .inr (9, [th, .ref al, md, rf, kn])), (a0, .inr (8, [.int 4, .ref wa0, .ref na0])), (wa0, .inl (cI, 4, .inl fw0)), (na0, .inl (cI, 4, .inl fn0)), (na1, .inl (cI, 4, .inl fn1)), (al, .inr (4, [mc, .ref ed, .int (nI cc)])), (ed, .inl (cO, 10, .inr (.inr (.inr (.inr ee))))), (a1, .inr (8, [.int 4, .ref wa1, .ref na1])), (wa1, .inl (cI, 4, .inl fw1)), (q5, .inr (1, [.ref v12, .int 0, .int 0, .int (nI 1)])), (v12, .inl (cB, 16, .inl f13))] := hD
  refine W.widen (k := 2) (n := 20) (by omega) (by omega) ?_
  obtain rfl := her11.symm
  refine lv_iload hx hb dX4_textOf_38 (lv_at hl 0 rfl) ?_
  refine lv_if_le (tgt := 48) hx hb dX4_textOf_40 (by decide) (fun c9 => ?_) (fun c9 => ?_)
  rotate_left
  · exact absurd (by decide) c9
  refine va_ldcS (own := RX4) (tx := "") (q := zk 4) hx hb hown (zl3 hZ) dX4_textOf_48 ?_
  have hPc := hP.sub (ws' := [(q5, .inr (1, [.ref v12, .int 0, .int 0, .int (nI 1)])), (v12, .inl (cB, 16, .inl f13))]) [9, 10] rfl
  have hDc := hD.sub (ws' := [(q5, .inr (1, [.ref v12, .int 0, .int 0, .int (nI 1)])), (v12, .inl (cB, 16, .inl f13))]) [9, 10] (by decide) rfl
  have hFc := va_free (wc := [(q5, .inr (1, [.ref v12, .int 0, .int 0, .int (nI 1)])), (v12, .inl (cB, 16, .inl f13))]) hD hS hA [9, 10] rfl
  have hDv := hDc.self (sz := H10.size)
  have hx0 : zS ((zk 4), (zk 14), 0, (fun j => (zByt.getD 3 []).getD j 0)) (va_A [(q5, .inr (1, [.ref v12, .int 0, .int 0, .int (nI 1)])), (v12, .inl (cB, 16, .inl f13))] H10.size) s H10 := zc3 hZ hS hFc
  have hpre := zpre (xs' := [((zk 4), (zk 14), 0, (fun j => (zByt.getD 3 []).getD j 0))]) (av := [.ref q5, .ref (zk 4)]) hPc hK (hDc.weaken (fun _ _ _ h => h)) hZ hS hFc (fun r hr => by cases hr with | head => exact hx0 | tail _ h => cases h)
  refine va_callr (va_runV (As := [.ref (zk 4)]) (rest := []) ⟨hx, hb, hml, hown, hts⟩ (k_apA l dC dI cI cB cR cO zk q5 v12 (zk 4) (zk 14) 0 16 1 (fun j => (zByt.getD 3 []).getD j 0) f13 (.int 0) H10.size (by decide) (by decide) (by decide) hff13 (by decide)) (cwV 1 hts gX4_textOf_J4_append_15ec4 rfl rfl rfl (by decide +kernel) ⟨Nat.le_of_ble_eq_true rfl, Nat.le_of_ble_eq_true rfl⟩) ⟨zblind, (zrecv_1 hK hPc (q0 := 0) rfl), hpre⟩ rfl rfl hl.1 rfl (lv_room (Nat.le_of_ble_eq_true rfl)) dX4_textOf_50 ⟨Nat.le_of_ble_eq_true rfl, Nat.le_of_ble_eq_true rfl⟩) hS (fun q _ h => hFc q h) hFc (fun u r15 t H14 locs ht hvm hw hB hz1 hk1 hS => ?_)
  obtain ⟨v16, f17, ⟨hP1, hK1, hD1, hz2⟩, hff17, her15⟩ := hB
  rw [ht] at hP1 hz2
  have hPD9 := va_join (wr := [(mo, .inr (9, [th, .ref al, md, rf, kn])), (a0, .inr (8, [.int 4, .ref wa0, .ref na0])), (wa0, .inl (cI, 4, .inl fw0)), (na0, .inl (cI, 4, .inl fn0)), (na1, .inl (cI, 4, .inl fn1)), (al, .inr (4, [mc, .ref ed, .int (nI cc)])), (ed, .inl (cO, 10, .inr (.inr (.inr (.inr ee))))), (a1, .inr (8, [.int 4, .ref wa1, .ref na1])), (wa1, .inl (cI, 4, .inl fw1))]) (w1 := [(q5, .inr (1, [.ref v16, .int 0, .int 0, .int (nI 1)])), (v16, .inl (cB, 16, .inl f17))]) hP hD [9, 10] [0, 1, 2, 3, 4, 5, 6, 7, 8] rfl rfl (by decide) (by decide) hk1 hFc hP1 hD1
  clear hPc hDc hFc hDv hpre hP hD hP1 hK1 hD1
  obtain ⟨hP, hD⟩ := hPD9
  replace hz : s.heap.size + 2 ≤ H14.size := by omega
  clear hz2
  replace hP : va_P (dC, dI) vwCl [(mo, .inr (9, [th, .ref al, md, rf, kn])), (a0, .inr (8, [.int 4, .ref wa0, .ref na0])), (wa0, .inl (cI, 4, .inl fw0)), (na0, .inl (cI, 4, .inl fn0)), (na1, .inl (cI, 4, .inl fn1)), (al, .inr (4, [mc, .ref ed, .int (nI cc)])), (ed, .inl (cO, 10, .inr (.inr (.inr (.inr ee))))), (a1, .inr (8, [.int 4, .ref wa1, .ref na1])), (wa1, .inl (cI, 4, .inl fw1)), (q5, .inr (1, [.ref v16, .int 0, .int 0, .int (nI 1)])), (v16, .inl (cB, 16, .inl f17))] H14 := hP
  replace hD : va_D A [(mo, .inr (9, [th, .ref al, md, rf, kn])), (a0, .inr (8, [.int 4, .ref wa0, .ref na0])), (wa0, .inl (cI, 4, .inl fw0)), (na0, .inl (cI, 4, .inl fn0)), (na1, .inl (cI, 4, .inl fn1)), (al, .inr (4, [mc, .ref ed, .int (nI cc)])), (ed, .inl (cO, 10, .inr (.inr (.inr (.inr ee))))), (a1, .inr (8, [.int 4, .ref wa1, .ref na1])), (wa1, .inl (cI, 4, .inl fw1)), (q5, .inr (1, [.ref v16, .int 0, .int 0, .int (nI 1)])), (v16, .inl (cB, 16, .inl f17))] := hD
  refine W.widen (k := 2) (n := 20) (by omega) (by omega) ?_
  obtain rfl := her15.symm
  refine lv_aload_n hx hb dX4_textOf_53 rfl (lv_at hl 3 rfl) ?_
  refine lv_aload_n hx hb dX4_textOf_54 rfl (lv_at hl 2 rfl) ?_
  refine lv_iload hx hb dX4_textOf_55 (lv_at hl 0 rfl) ?_
  have hPc := hP.sub (ws' := [(mo, .inr (9, [th, .ref al, md, rf, kn])), (al, .inr (4, [mc, .ref ed, .int (nI cc)])), (ed, .inl (cO, 10, .inr (.inr (.inr (.inr ee))))), (a0, .inr (8, [.int 4, .ref wa0, .ref na0])), (wa0, .inl (cI, 4, .inl fw0)), (na0, .inl (cI, 4, .inl fn0)), (a1, .inr (8, [.int 4, .ref wa1, .ref na1])), (wa1, .inl (cI, 4, .inl fw1)), (na1, .inl (cI, 4, .inl fn1))]) [0, 5, 6, 1, 2, 3, 7, 8, 4] rfl
  have hDc := hD.sub (ws' := [(mo, .inr (9, [th, .ref al, md, rf, kn])), (al, .inr (4, [mc, .ref ed, .int (nI cc)])), (ed, .inl (cO, 10, .inr (.inr (.inr (.inr ee))))), (a0, .inr (8, [.int 4, .ref wa0, .ref na0])), (wa0, .inl (cI, 4, .inl fw0)), (na0, .inl (cI, 4, .inl fn0)), (a1, .inr (8, [.int 4, .ref wa1, .ref na1])), (wa1, .inl (cI, 4, .inl fw1)), (na1, .inl (cI, 4, .inl fn1))]) [0, 5, 6, 1, 2, 3, 7, 8, 4] (by decide) rfl
  have hFc := va_free (wc := [(mo, .inr (9, [th, .ref al, md, rf, kn])), (al, .inr (4, [mc, .ref ed, .int (nI cc)])), (ed, .inl (cO, 10, .inr (.inr (.inr (.inr ee))))), (a0, .inr (8, [.int 4, .ref wa0, .ref na0])), (wa0, .inl (cI, 4, .inl fw0)), (na0, .inl (cI, 4, .inl fn0)), (a1, .inr (8, [.int 4, .ref wa1, .ref na1])), (wa1, .inl (cI, 4, .inl fw1)), (na1, .inl (cI, 4, .inl fn1))]) hD hS hA [0, 5, 6, 1, 2, 3, 7, 8, 4] rfl
  have hDv := hDc.self (sz := H14.size)
  have hpre := zpre (xs' := []) (av := [.ref mo, .ref a1, .int 0]) hPc hK (hDc.weaken (fun _ _ _ h => h)) hZ hS hFc (fun r hr => by cases hr)
  refine va_callr (va_runV (As := [.ref a1, .int 0]) (rest := [.ref q5]) ⟨hx, hb, hml, hown, hts⟩ (k_tAt1_0 l dC dI cI cB cR cO zk mo al ed cc ee th md rf kn mc a0 wa0 na0 a1 wa1 na1 fw0 fn0 fw1 fn1 H14.size hcc hcc2 hw0 hn0 he0 hw1 hn1 he1) (cwV 2 hts gX4_textOf_X4_textAt rfl rfl rfl (by decide +kernel) ⟨Nat.le_of_ble_eq_true rfl, Nat.le_of_ble_eq_true rfl⟩) ⟨zblind, (zrecv_9 hK hPc (q0 := 0) rfl), hpre⟩ rfl rfl hl.1 rfl (lv_room (Nat.le_of_ble_eq_true rfl)) dX4_textOf_57 ⟨Nat.le_of_ble_eq_true rfl, Nat.le_of_ble_eq_true rfl⟩) hS (fun q _ h => hFc q h) hFc (fun u r19 t H18 locs ht hvm hw hB hz1 hk1 hS => ?_)
  obtain ⟨b20, g21, ⟨hP1, hK1, hD1, hz2⟩, hfg21⟩ := hB
  rw [ht] at hP1 hz2
  have hPD9 := va_join (wr := [(q5, .inr (1, [.ref v16, .int 0, .int 0, .int (nI 1)])), (v16, .inl (cB, 16, .inl f17))]) (w1 := [(r19, .inr (0, [.ref b20, .int 0, .int 0, .int 0])), (b20, .inl (cB, 24, .inl g21)), (mo, .inr (9, [th, .ref al, md, rf, kn])), (al, .inr (4, [mc, .ref ed, .int (nI cc)])), (ed, .inl (cO, 10, .inr (.inr (.inr (.inr ee))))), (a0, .inr (8, [.int 4, .ref wa0, .ref na0])), (wa0, .inl (cI, 4, .inl fw0)), (na0, .inl (cI, 4, .inl fn0)), (a1, .inr (8, [.int 4, .ref wa1, .ref na1])), (wa1, .inl (cI, 4, .inl fw1)), (na1, .inl (cI, 4, .inl fn1))]) hP hD [0, 5, 6, 1, 2, 3, 7, 8, 4] [9, 10] rfl rfl (by decide) (by decide) hk1 hFc hP1 hD1
  clear hPc hDc hFc hDv hpre hP hD hP1 hK1 hD1
  obtain ⟨hP, hD⟩ := hPD9
  replace hz : s.heap.size + 22 ≤ H18.size := by omega
  clear hz2
  replace hP : va_P (dC, dI) vwCl [(q5, .inr (1, [.ref v16, .int 0, .int 0, .int (nI 1)])), (v16, .inl (cB, 16, .inl f17)), (r19, .inr (0, [.ref b20, .int 0, .int 0, .int 0])), (b20, .inl (cB, 24, .inl g21)), (mo, .inr (9, [th, .ref al, md, rf, kn])), (al, .inr (4, [mc, .ref ed, .int (nI cc)])), (ed, .inl (cO, 10, .inr (.inr (.inr (.inr ee))))), (a0, .inr (8, [.int 4, .ref wa0, .ref na0])), (wa0, .inl (cI, 4, .inl fw0)), (na0, .inl (cI, 4, .inl fn0)), (a1, .inr (8, [.int 4, .ref wa1, .ref na1])), (wa1, .inl (cI, 4, .inl fw1)), (na1, .inl (cI, 4, .inl fn1))] H18 := hP
  replace hD : va_D A [(q5, .inr (1, [.ref v16, .int 0, .int 0, .int (nI 1)])), (v16, .inl (cB, 16, .inl f17)), (r19, .inr (0, [.ref b20, .int 0, .int 0, .int 0])), (b20, .inl (cB, 24, .inl g21)), (mo, .inr (9, [th, .ref al, md, rf, kn])), (al, .inr (4, [mc, .ref ed, .int (nI cc)])), (ed, .inl (cO, 10, .inr (.inr (.inr (.inr ee))))), (a0, .inr (8, [.int 4, .ref wa0, .ref na0])), (wa0, .inl (cI, 4, .inl fw0)), (na0, .inl (cI, 4, .inl fn0)), (a1, .inr (8, [.int 4, .ref wa1, .ref na1])), (wa1, .inl (cI, 4, .inl fw1)), (na1, .inl (cI, 4, .inl fn1))] := hD
  refine W.widen (k := 25) (n := 524428) (by omega) (by omega) ?_
  have hPc := hP.sub (ws' := [(q5, .inr (1, [.ref v16, .int 0, .int 0, .int (nI 1)])), (v16, .inl (cB, 16, .inl f17))]) [0, 1] rfl
  have hDc := hD.sub (ws' := [(q5, .inr (1, [.ref v16, .int 0, .int 0, .int (nI 1)])), (v16, .inl (cB, 16, .inl f17))]) [0, 1] (by decide) rfl
  have hFc := va_free (wc := [(q5, .inr (1, [.ref v16, .int 0, .int 0, .int (nI 1)])), (v16, .inl (cB, 16, .inl f17))]) hD hS hA [0, 1] rfl
  have hDv := hDc.self (sz := H18.size)
  have hx0 : zS (r19, b20, 24, g21) (va_A [(q5, .inr (1, [.ref v16, .int 0, .int 0, .int (nI 1)])), (v16, .inl (cB, 16, .inl f17))] H18.size) s H18 := zS.ofW hts hi_X4_textOf_J0 hK hP 2 3 1 rfl rfl rfl hfg21 (znot hP hD [0, 1] rfl 2 rfl (by decide)) (znot hP hD [0, 1] rfl 3 rfl (by decide))
  have hpre := zpre (xs' := [(r19, b20, 24, g21)]) (av := [.ref q5, .ref r19]) hPc hK (hDc.weaken (fun _ _ _ h => h)) hZ hS hFc (fun r hr => by cases hr with | head => exact hx0 | tail _ h => cases h)
  refine va_callr (va_runV (As := [.ref r19]) (rest := []) ⟨hx, hb, hml, hown, hts⟩ (k_apB l dC dI cI cB cR cO zk q5 v16 r19 b20 24 16 1 g21 f17 (.int 0) H18.size (by decide) (by decide) (by decide) hff17 (by decide) (by decide)) (cwV 1 hts gX4_textOf_J4_append_15ec4 rfl rfl rfl (by decide +kernel) ⟨Nat.le_of_ble_eq_true rfl, Nat.le_of_ble_eq_true rfl⟩) ⟨zblind, (zrecv_1 hK hPc (q0 := 0) rfl), hpre⟩ rfl rfl hl.1 rfl (lv_room (Nat.le_of_ble_eq_true rfl)) dX4_textOf_60 ⟨Nat.le_of_ble_eq_true rfl, Nat.le_of_ble_eq_true rfl⟩) hS (fun q _ h => hFc q h) hFc (fun u r23 t H22 locs ht hvm hw hB hz1 hk1 hS => ?_)
  obtain ⟨v24, f25, ⟨hP1, hK1, hD1, hz2⟩, hff25, her23⟩ := hB
  rw [ht] at hP1 hz2
  have hPD9 := va_join (wr := [(r19, .inr (0, [.ref b20, .int 0, .int 0, .int 0])), (b20, .inl (cB, 24, .inl g21)), (mo, .inr (9, [th, .ref al, md, rf, kn])), (al, .inr (4, [mc, .ref ed, .int (nI cc)])), (ed, .inl (cO, 10, .inr (.inr (.inr (.inr ee))))), (a0, .inr (8, [.int 4, .ref wa0, .ref na0])), (wa0, .inl (cI, 4, .inl fw0)), (na0, .inl (cI, 4, .inl fn0)), (a1, .inr (8, [.int 4, .ref wa1, .ref na1])), (wa1, .inl (cI, 4, .inl fw1)), (na1, .inl (cI, 4, .inl fn1))]) (w1 := [(q5, .inr (1, [.ref v24, .int 0, .int 0, .int (nI 25)])), (v24, .inl (cB, 34, .inl f25))]) hP hD [0, 1] [2, 3, 4, 5, 6, 7, 8, 9, 10, 11, 12] rfl rfl (by decide) (by decide) hk1 hFc hP1 hD1
  clear hPc hDc hFc hDv hpre hP hD hP1 hK1 hD1
  obtain ⟨hP, hD⟩ := hPD9
  replace hz : s.heap.size + 22 ≤ H22.size := by omega
  clear hz2
  replace hP : va_P (dC, dI) vwCl [(r19, .inr (0, [.ref b20, .int 0, .int 0, .int 0])), (b20, .inl (cB, 24, .inl g21)), (mo, .inr (9, [th, .ref al, md, rf, kn])), (al, .inr (4, [mc, .ref ed, .int (nI cc)])), (ed, .inl (cO, 10, .inr (.inr (.inr (.inr ee))))), (a0, .inr (8, [.int 4, .ref wa0, .ref na0])), (wa0, .inl (cI, 4, .inl fw0)), (na0, .inl (cI, 4, .inl fn0)), (a1, .inr (8, [.int 4, .ref wa1, .ref na1])), (wa1, .inl (cI, 4, .inl fw1)), (na1, .inl (cI, 4, .inl fn1)), (q5, .inr (1, [.ref v24, .int 0, .int 0, .int (nI 25)])), (v24, .inl (cB, 34, .inl f25))] H22 := hP
  replace hD : va_D A [(r19, .inr (0, [.ref b20, .int 0, .int 0, .int 0])), (b20, .inl (cB, 24, .inl g21)), (mo, .inr (9, [th, .ref al, md, rf, kn])), (al, .inr (4, [mc, .ref ed, .int (nI cc)])), (ed, .inl (cO, 10, .inr (.inr (.inr (.inr ee))))), (a0, .inr (8, [.int 4, .ref wa0, .ref na0])), (wa0, .inl (cI, 4, .inl fw0)), (na0, .inl (cI, 4, .inl fn0)), (a1, .inr (8, [.int 4, .ref wa1, .ref na1])), (wa1, .inl (cI, 4, .inl fw1)), (na1, .inl (cI, 4, .inl fn1)), (q5, .inr (1, [.ref v24, .int 0, .int 0, .int (nI 25)])), (v24, .inl (cB, 34, .inl f25))] := hD
  refine W.widen (k := 26) (n := 589964) (by omega) (by omega) ?_
  obtain rfl := her23.symm
  have hP := hP.sub (ws' := [(mo, .inr (9, [th, .ref al, md, rf, kn])), (al, .inr (4, [mc, .ref ed, .int (nI cc)])), (ed, .inl (cO, 10, .inr (.inr (.inr (.inr ee))))), (a0, .inr (8, [.int 4, .ref wa0, .ref na0])), (wa0, .inl (cI, 4, .inl fw0)), (na0, .inl (cI, 4, .inl fn0)), (a1, .inr (8, [.int 4, .ref wa1, .ref na1])), (wa1, .inl (cI, 4, .inl fw1)), (na1, .inl (cI, 4, .inl fn1)), (q5, .inr (1, [.ref v24, .int 0, .int 0, .int (nI 25)])), (v24, .inl (cB, 34, .inl f25))]) [2, 3, 4, 5, 6, 7, 8, 9, 10, 11, 12] rfl
  have hD := hD.sub (ws' := [(mo, .inr (9, [th, .ref al, md, rf, kn])), (al, .inr (4, [mc, .ref ed, .int (nI cc)])), (ed, .inl (cO, 10, .inr (.inr (.inr (.inr ee))))), (a0, .inr (8, [.int 4, .ref wa0, .ref na0])), (wa0, .inl (cI, 4, .inl fw0)), (na0, .inl (cI, 4, .inl fn0)), (a1, .inr (8, [.int 4, .ref wa1, .ref na1])), (wa1, .inl (cI, 4, .inl fw1)), (na1, .inl (cI, 4, .inl fn1)), (q5, .inr (1, [.ref v24, .int 0, .int 0, .int (nI 25)])), (v24, .inl (cB, 34, .inl f25))]) [2, 3, 4, 5, 6, 7, 8, 9, 10, 11, 12] (by decide) rfl
  have hPc := hP.sub (ws' := [(q5, .inr (1, [.ref v24, .int 0, .int 0, .int (nI 25)])), (v24, .inl (cB, 34, .inl f25))]) [9, 10] rfl
  have hDc := hD.sub (ws' := [(q5, .inr (1, [.ref v24, .int 0, .int 0, .int (nI 25)])), (v24, .inl (cB, 34, .inl f25))]) [9, 10] (by decide) rfl
  have hFc := va_free (wc := [(q5, .inr (1, [.ref v24, .int 0, .int 0, .int (nI 25)])), (v24, .inl (cB, 34, .inl f25))]) hD hS hA [9, 10] rfl
  have hDv := hDc.self (sz := H22.size)
  have hpre := zpre (xs' := []) (av := [.ref q5]) hPc hK (hDc.weaken (fun _ _ _ h => h)) hZ hS hFc (fun r hr => by cases hr)
  refine va_callr (va_runV (As := []) (rest := []) ⟨hx, hb, hml, hown, hts⟩ (k_toS l dC dI cI cB cR cO zk q5 v24 34 25 f25 (.int 0) H22.size (by decide) (by decide) hff25) (cwV 0 hts gX4_textOf_J4_toString_0e30d rfl rfl rfl (by decide +kernel) ⟨Nat.le_of_ble_eq_true rfl, Nat.le_of_ble_eq_true rfl⟩) ⟨zblind, (zrecv_1 hK hPc (q0 := 0) rfl), hpre⟩ rfl rfl hl.1 rfl (lv_room (Nat.le_of_ble_eq_true rfl)) dX4_textOf_63 ⟨Nat.le_of_ble_eq_true rfl, Nat.le_of_ble_eq_true rfl⟩) hS (fun q _ h => hFc q h) hFc (fun u r27 t H26 locs ht hvm hw hB hz1 hk1 hS => ?_)
  obtain ⟨b28, g29, ⟨hP1, hK1, hD1, hz2⟩, hfg29⟩ := hB
  rw [ht] at hP1 hz2
  have hPD9 := va_join (wr := [(mo, .inr (9, [th, .ref al, md, rf, kn])), (al, .inr (4, [mc, .ref ed, .int (nI cc)])), (ed, .inl (cO, 10, .inr (.inr (.inr (.inr ee))))), (a0, .inr (8, [.int 4, .ref wa0, .ref na0])), (wa0, .inl (cI, 4, .inl fw0)), (na0, .inl (cI, 4, .inl fn0)), (a1, .inr (8, [.int 4, .ref wa1, .ref na1])), (wa1, .inl (cI, 4, .inl fw1)), (na1, .inl (cI, 4, .inl fn1))]) (w1 := [(r27, .inr (0, [.ref b28, .int 0, .int 0, .int 0])), (b28, .inl (cB, 25, .inl g29)), (q5, .inr (1, [.ref v24, .int 0, .int 0, .int (nI 25)])), (v24, .inl (cB, 34, .inl f25))]) hP hD [9, 10] [0, 1, 2, 3, 4, 5, 6, 7, 8] rfl rfl (by decide) (by decide) hk1 hFc hP1 hD1
  clear hPc hDc hFc hDv hpre hP hD hP1 hK1 hD1
  obtain ⟨hP, hD⟩ := hPD9
  replace hz : s.heap.size + 24 ≤ H26.size := by omega
  clear hz2
  replace hP : va_P (dC, dI) vwCl [(mo, .inr (9, [th, .ref al, md, rf, kn])), (al, .inr (4, [mc, .ref ed, .int (nI cc)])), (ed, .inl (cO, 10, .inr (.inr (.inr (.inr ee))))), (a0, .inr (8, [.int 4, .ref wa0, .ref na0])), (wa0, .inl (cI, 4, .inl fw0)), (na0, .inl (cI, 4, .inl fn0)), (a1, .inr (8, [.int 4, .ref wa1, .ref na1])), (wa1, .inl (cI, 4, .inl fw1)), (na1, .inl (cI, 4, .inl fn1)), (r27, .inr (0, [.ref b28, .int 0, .int 0, .int 0])), (b28, .inl (cB, 25, .inl g29)), (q5, .inr (1, [.ref v24, .int 0, .int 0, .int (nI 25)])), (v24, .inl (cB, 34, .inl f25))] H26 := hP
  replace hD : va_D A [(mo, .inr (9, [th, .ref al, md, rf, kn])), (al, .inr (4, [mc, .ref ed, .int (nI cc)])), (ed, .inl (cO, 10, .inr (.inr (.inr (.inr ee))))), (a0, .inr (8, [.int 4, .ref wa0, .ref na0])), (wa0, .inl (cI, 4, .inl fw0)), (na0, .inl (cI, 4, .inl fn0)), (a1, .inr (8, [.int 4, .ref wa1, .ref na1])), (wa1, .inl (cI, 4, .inl fw1)), (na1, .inl (cI, 4, .inl fn1)), (r27, .inr (0, [.ref b28, .int 0, .int 0, .int 0])), (b28, .inl (cB, 25, .inl g29)), (q5, .inr (1, [.ref v24, .int 0, .int 0, .int (nI 25)])), (v24, .inl (cB, 34, .inl f25))] := hD
  refine W.widen (k := 28) (n := 655504) (by omega) (by omega) ?_
  have hP := hP.sub (ws' := [(mo, .inr (9, [th, .ref al, md, rf, kn])), (al, .inr (4, [mc, .ref ed, .int (nI cc)])), (ed, .inl (cO, 10, .inr (.inr (.inr (.inr ee))))), (a0, .inr (8, [.int 4, .ref wa0, .ref na0])), (wa0, .inl (cI, 4, .inl fw0)), (na0, .inl (cI, 4, .inl fn0)), (a1, .inr (8, [.int 4, .ref wa1, .ref na1])), (wa1, .inl (cI, 4, .inl fw1)), (na1, .inl (cI, 4, .inl fn1)), (r27, .inr (0, [.ref b28, .int 0, .int 0, .int 0])), (b28, .inl (cB, 25, .inl g29))]) [0, 1, 2, 3, 4, 5, 6, 7, 8, 9, 10] rfl
  have hD := hD.sub (ws' := [(mo, .inr (9, [th, .ref al, md, rf, kn])), (al, .inr (4, [mc, .ref ed, .int (nI cc)])), (ed, .inl (cO, 10, .inr (.inr (.inr (.inr ee))))), (a0, .inr (8, [.int 4, .ref wa0, .ref na0])), (wa0, .inl (cI, 4, .inl fw0)), (na0, .inl (cI, 4, .inl fn0)), (a1, .inr (8, [.int 4, .ref wa1, .ref na1])), (wa1, .inl (cI, 4, .inl fw1)), (na1, .inl (cI, 4, .inl fn1)), (r27, .inr (0, [.ref b28, .int 0, .int 0, .int 0])), (b28, .inl (cB, 25, .inl g29))]) [0, 1, 2, 3, 4, 5, 6, 7, 8, 9, 10] (by decide) rfl
  refine lv_astore_n (lv' := [(3, .ref r27), (4, .int 0), (2, .ref a1), (0, .ref mo), (1, .int 1)]) hx hb dX4_textOf_66 rfl hl (by decide) rfl (fun ls hl => ?_)
  refine lv_iinc (v := 1) (lv' := [(4, .int 1), (3, .ref r27), (2, .ref a1), (0, .ref mo), (1, .int 1)]) hx hb dX4_textOf_67 hl (k := 1) rfl (by decide) (by decide) rfl (fun ls hl => ?_)
  refine lv_goto (tgt := 18) hx hb dX4_textOf_70 (by decide) ?_
  refine lv_iload hx hb dX4_textOf_18 (lv_at hl 0 rfl) ?_
  refine lv_aload_n hx hb dX4_textOf_20 rfl (lv_at hl 2 rfl) ?_
  have hPc := hP.sub (ws' := [(a1, .inr (8, [.int 4, .ref wa1, .ref na1])), (wa1, .inl (cI, 4, .inl fw1))]) [6, 7] rfl
  have hDc := hD.sub (ws' := [(a1, .inr (8, [.int 4, .ref wa1, .ref na1])), (wa1, .inl (cI, 4, .inl fw1))]) [6, 7] (by decide) rfl
  have hFc := va_free (wc := [(a1, .inr (8, [.int 4, .ref wa1, .ref na1])), (wa1, .inl (cI, 4, .inl fw1))]) hD hS hA [6, 7] rfl
  have hDv := hDc.self (sz := H26.size)
  have hpre := zpre (xs' := []) (av := [.ref a1]) hPc hK (hDc.weaken (fun _ _ _ h => h)) hZ hS hFc (fun r hr => by cases hr)
  refine va_calli (va_runV (As := []) (rest := [.int 1]) ⟨hx, hb, hml, hown, hts⟩ (k_rlen l dC dI cI cB cR cO zk a1 wa1 na1 fw1 H26.size ) (cwV 0 hts gX4_textOf_X3_length rfl rfl rfl (by decide +kernel) ⟨Nat.le_of_ble_eq_true rfl, Nat.le_of_ble_eq_true rfl⟩) ⟨zblind, (zrecv_8 hK hPc (q0 := 0) rfl), hpre⟩ rfl rfl hl.1 rfl (lv_room (Nat.le_of_ble_eq_true rfl)) dX4_textOf_21 ⟨Nat.le_of_ble_eq_true rfl, Nat.le_of_ble_eq_true rfl⟩) hS (fun q _ h => hFc q h) hFc (fun r31 u t H30 locs ht hvm hw hB hz1 hk1 hS => ?_)
  obtain rfl : 4 = r31 := (show r31 = 4 from hw).symm
  obtain ⟨hP1, hK1, hD1, hz2⟩ := hB
  rw [ht] at hP1 hz2
  have hPD9 := va_join (wr := [(mo, .inr (9, [th, .ref al, md, rf, kn])), (al, .inr (4, [mc, .ref ed, .int (nI cc)])), (ed, .inl (cO, 10, .inr (.inr (.inr (.inr ee))))), (a0, .inr (8, [.int 4, .ref wa0, .ref na0])), (wa0, .inl (cI, 4, .inl fw0)), (na0, .inl (cI, 4, .inl fn0)), (na1, .inl (cI, 4, .inl fn1)), (r27, .inr (0, [.ref b28, .int 0, .int 0, .int 0])), (b28, .inl (cB, 25, .inl g29))]) (w1 := [(a1, .inr (8, [.int 4, .ref wa1, .ref na1])), (wa1, .inl (cI, 4, .inl fw1))]) hP hD [6, 7] [0, 1, 2, 3, 4, 5, 8, 9, 10] rfl rfl (by decide) (by decide) hk1 hFc hP1 hD1
  clear hPc hDc hFc hDv hpre hP hD hP1 hK1 hD1
  obtain ⟨hP, hD⟩ := hPD9
  replace hz : s.heap.size + 24 ≤ H30.size := by omega
  clear hz2
  replace hP : va_P (dC, dI) vwCl [(mo, .inr (9, [th, .ref al, md, rf, kn])), (al, .inr (4, [mc, .ref ed, .int (nI cc)])), (ed, .inl (cO, 10, .inr (.inr (.inr (.inr ee))))), (a0, .inr (8, [.int 4, .ref wa0, .ref na0])), (wa0, .inl (cI, 4, .inl fw0)), (na0, .inl (cI, 4, .inl fn0)), (na1, .inl (cI, 4, .inl fn1)), (r27, .inr (0, [.ref b28, .int 0, .int 0, .int 0])), (b28, .inl (cB, 25, .inl g29)), (a1, .inr (8, [.int 4, .ref wa1, .ref na1])), (wa1, .inl (cI, 4, .inl fw1))] H30 := hP
  replace hD : va_D A [(mo, .inr (9, [th, .ref al, md, rf, kn])), (al, .inr (4, [mc, .ref ed, .int (nI cc)])), (ed, .inl (cO, 10, .inr (.inr (.inr (.inr ee))))), (a0, .inr (8, [.int 4, .ref wa0, .ref na0])), (wa0, .inl (cI, 4, .inl fw0)), (na0, .inl (cI, 4, .inl fn0)), (na1, .inl (cI, 4, .inl fn1)), (r27, .inr (0, [.ref b28, .int 0, .int 0, .int 0])), (b28, .inl (cB, 25, .inl g29)), (a1, .inr (8, [.int 4, .ref wa1, .ref na1])), (wa1, .inl (cI, 4, .inl fw1))] := hD
  refine W.widen (k := 28) (n := 655504) (by omega) (by omega) ?_
  refine lv_icmp_ge (tgt := 73) hx hb dX4_textOf_24 (by decide) (fun c9 => ?_) (fun c9 => ?_)
  · exact absurd c9 (by decide)
  refine zw_new (ci := 1) (fs := [.null, .int 0, .int 0, .int 0]) (C := RJ4) (T := TJ4) (N := 4) hx hb hts hi_X4_textOf_J4 tyJ4 tyJ4_ok hown (hts (.classLink RX4 165 RJ4) (List.mem_cons_of_mem _ zw_1388)) (hts (.instantiable RJ4 4) (List.mem_cons_of_mem _ zw_139)) (hts (.initialized RJ4) (List.mem_cons_of_mem _ zw_47)) hK hP hD hS hA rfl (fun j hj => by rcases (show j = 0 ∨ j = 1 ∨ j = 2 ∨ j = 3 by omega) with rfl | rfl | rfl | rfl <;> rfl) (Nat.le_of_ble_eq_true rfl) (Nat.le_of_ble_eq_true rfl) dX4_textOf_27 hz (fun q32 H33 hP hD hS hz => ?_)
  replace hP : va_P (dC, dI) vwCl [(mo, .inr (9, [th, .ref al, md, rf, kn])), (al, .inr (4, [mc, .ref ed, .int (nI cc)])), (ed, .inl (cO, 10, .inr (.inr (.inr (.inr ee))))), (a0, .inr (8, [.int 4, .ref wa0, .ref na0])), (wa0, .inl (cI, 4, .inl fw0)), (na0, .inl (cI, 4, .inl fn0)), (na1, .inl (cI, 4, .inl fn1)), (r27, .inr (0, [.ref b28, .int 0, .int 0, .int 0])), (b28, .inl (cB, 25, .inl g29)), (a1, .inr (8, [.int 4, .ref wa1, .ref na1])), (wa1, .inl (cI, 4, .inl fw1)), (q32, .inr (1, [.null, .int 0, .int 0, .int 0]))] H33 := hP
  replace hD : va_D A [(mo, .inr (9, [th, .ref al, md, rf, kn])), (al, .inr (4, [mc, .ref ed, .int (nI cc)])), (ed, .inl (cO, 10, .inr (.inr (.inr (.inr ee))))), (a0, .inr (8, [.int 4, .ref wa0, .ref na0])), (wa0, .inl (cI, 4, .inl fw0)), (na0, .inl (cI, 4, .inl fn0)), (na1, .inl (cI, 4, .inl fn1)), (r27, .inr (0, [.ref b28, .int 0, .int 0, .int 0])), (b28, .inl (cB, 25, .inl g29)), (a1, .inr (8, [.int 4, .ref wa1, .ref na1])), (wa1, .inl (cI, 4, .inl fw1)), (q32, .inr (1, [.null, .int 0, .int 0, .int 0]))] := hD
  refine W.widen (k := 29) (n := 655508) (by omega) (by omega) ?_
  refine lv_dup hx hb dX4_textOf_30 rfl ?_
  have hPc := hP.sub (ws' := [(q32, .inr (1, [.null, .int 0, .int 0, .int 0]))]) [11] rfl
  have hDc := hD.sub (ws' := [(q32, .inr (1, [.null, .int 0, .int 0, .int 0]))]) [11] (by decide) rfl
  have hFc := va_free (wc := [(q32, .inr (1, [.null, .int 0, .int 0, .int 0]))]) hD hS hA [11] rfl
  have hDv := hDc.self (sz := H33.size)
  have hpre := zpre (xs' := []) (av := [.ref q32]) hPc hK (hDc.weaken (fun _ _ _ h => h)) hZ hS hFc (fun r hr => by cases hr)
  refine va_callv (va_runI (As := []) (rest := [.ref q32]) ⟨hx, hb, hml, hown, hts⟩ (k_init4 l dC dI cI cB cR cO zk q32 H33.size ) (cwI 0 hts gX4_textOf_J4_init_da8c8 rfl rfl rfl (hts (.initialized RJ4) (List.mem_cons_of_mem _ zw_47)) (hts (.methodLink RX4 167 yJ4_init_da8c8) (List.mem_cons_of_mem _ zw_1389)) (hts (.instanceMethod yJ4_init_da8c8) (List.mem_cons_of_mem _ zw_141)) rfl (by decide +kernel) ⟨Nat.le_of_ble_eq_true rfl, Nat.le_of_ble_eq_true rfl⟩) ⟨zblind, hpre⟩ rfl rfl hl.1 rfl (lv_room (Nat.le_of_ble_eq_true rfl)) dX4_textOf_31 ⟨Nat.le_of_ble_eq_true rfl, Nat.le_of_ble_eq_true rfl⟩) hS (fun q _ h => hFc q h) hFc (fun u t H34 locs ht hvm hw hB hz1 hk1 hS => ?_)
  obtain ⟨w36, ⟨hP1, hK1, hD1, hz2⟩⟩ := hB
  rw [ht] at hP1 hz2
  have hPD9 := va_join (wr := [(mo, .inr (9, [th, .ref al, md, rf, kn])), (al, .inr (4, [mc, .ref ed, .int (nI cc)])), (ed, .inl (cO, 10, .inr (.inr (.inr (.inr ee))))), (a0, .inr (8, [.int 4, .ref wa0, .ref na0])), (wa0, .inl (cI, 4, .inl fw0)), (na0, .inl (cI, 4, .inl fn0)), (na1, .inl (cI, 4, .inl fn1)), (r27, .inr (0, [.ref b28, .int 0, .int 0, .int 0])), (b28, .inl (cB, 25, .inl g29)), (a1, .inr (8, [.int 4, .ref wa1, .ref na1])), (wa1, .inl (cI, 4, .inl fw1))]) (w1 := [(q32, .inr (1, [.ref w36, .int 0, .int 0, .int 0])), (w36, .inl (cB, 16, .inl (fun _ => 0)))]) hP hD [11] [0, 1, 2, 3, 4, 5, 6, 7, 8, 9, 10] rfl rfl (by decide) (by decide) hk1 hFc hP1 hD1
  clear hPc hDc hFc hDv hpre hP hD hP1 hK1 hD1
  obtain ⟨hP, hD⟩ := hPD9
  replace hz : s.heap.size + 26 ≤ H34.size := by omega
  clear hz2
  replace hP : va_P (dC, dI) vwCl [(mo, .inr (9, [th, .ref al, md, rf, kn])), (al, .inr (4, [mc, .ref ed, .int (nI cc)])), (ed, .inl (cO, 10, .inr (.inr (.inr (.inr ee))))), (a0, .inr (8, [.int 4, .ref wa0, .ref na0])), (wa0, .inl (cI, 4, .inl fw0)), (na0, .inl (cI, 4, .inl fn0)), (na1, .inl (cI, 4, .inl fn1)), (r27, .inr (0, [.ref b28, .int 0, .int 0, .int 0])), (b28, .inl (cB, 25, .inl g29)), (a1, .inr (8, [.int 4, .ref wa1, .ref na1])), (wa1, .inl (cI, 4, .inl fw1)), (q32, .inr (1, [.ref w36, .int 0, .int 0, .int 0])), (w36, .inl (cB, 16, .inl (fun _ => 0)))] H34 := hP
  replace hD : va_D A [(mo, .inr (9, [th, .ref al, md, rf, kn])), (al, .inr (4, [mc, .ref ed, .int (nI cc)])), (ed, .inl (cO, 10, .inr (.inr (.inr (.inr ee))))), (a0, .inr (8, [.int 4, .ref wa0, .ref na0])), (wa0, .inl (cI, 4, .inl fw0)), (na0, .inl (cI, 4, .inl fn0)), (na1, .inl (cI, 4, .inl fn1)), (r27, .inr (0, [.ref b28, .int 0, .int 0, .int 0])), (b28, .inl (cB, 25, .inl g29)), (a1, .inr (8, [.int 4, .ref wa1, .ref na1])), (wa1, .inl (cI, 4, .inl fw1)), (q32, .inr (1, [.ref w36, .int 0, .int 0, .int 0])), (w36, .inl (cB, 16, .inl (fun _ => 0)))] := hD
  refine W.widen (k := 30) (n := 655524) (by omega) (by omega) ?_
  refine lv_aload_n hx hb dX4_textOf_34 rfl (lv_at hl 1 rfl) ?_
  have hPc := hP.sub (ws' := [(q32, .inr (1, [.ref w36, .int 0, .int 0, .int 0])), (w36, .inl (cB, 16, .inl (fun _ => 0)))]) [11, 12] rfl
  have hDc := hD.sub (ws' := [(q32, .inr (1, [.ref w36, .int 0, .int 0, .int 0])), (w36, .inl (cB, 16, .inl (fun _ => 0)))]) [11, 12] (by decide) rfl
  have hFc := va_free (wc := [(q32, .inr (1, [.ref w36, .int 0, .int 0, .int 0])), (w36, .inl (cB, 16, .inl (fun _ => 0)))]) hD hS hA [11, 12] rfl
  have hDv := hDc.self (sz := H34.size)
  have hx0 : zS (r27, b28, 25, g29) (va_A [(q32, .inr (1, [.ref w36, .int 0, .int 0, .int 0])), (w36, .inl (cB, 16, .inl (fun _ => 0)))] H34.size) s H34 := zS.ofW hts hi_X4_textOf_J0 hK hP 7 8 1 rfl rfl rfl hfg29 (znot hP hD [11, 12] rfl 7 rfl (by decide)) (znot hP hD [11, 12] rfl 8 rfl (by decide))
  have hpre := zpre (xs' := [(r27, b28, 25, g29)]) (av := [.ref q32, .ref r27]) hPc hK (hDc.weaken (fun _ _ _ h => h)) hZ hS hFc (fun r hr => by cases hr with | head => exact hx0 | tail _ h => cases h)
  refine va_callr (va_runV (As := [.ref r27]) (rest := []) ⟨hx, hb, hml, hown, hts⟩ (k_apB l dC dI cI cB cR cO zk q32 w36 r27 b28 25 16 0 g29 (fun _ => 0) (.int 0) H34.size (by decide) (by decide) (by decide) sb_fit0 (by decide) (by decide)) (cwV 1 hts gX4_textOf_J4_append_15ec4 rfl rfl rfl (by decide +kernel) ⟨Nat.le_of_ble_eq_true rfl, Nat.le_of_ble_eq_true rfl⟩) ⟨zblind, (zrecv_1 hK hPc (q0 := 0) rfl), hpre⟩ rfl rfl hl.1 rfl (lv_room (Nat.le_of_ble_eq_true rfl)) dX4_textOf_35 ⟨Nat.le_of_ble_eq_true rfl, Nat.le_of_ble_eq_true rfl⟩) hS (fun q _ h => hFc q h) hFc (fun u r38 t H37 locs ht hvm hw hB hz1 hk1 hS => ?_)
  obtain ⟨v39, f40, ⟨hP1, hK1, hD1, hz2⟩, hff40, her38⟩ := hB
  rw [ht] at hP1 hz2
  have hPD9 := va_join (wr := [(mo, .inr (9, [th, .ref al, md, rf, kn])), (al, .inr (4, [mc, .ref ed, .int (nI cc)])), (ed, .inl (cO, 10, .inr (.inr (.inr (.inr ee))))), (a0, .inr (8, [.int 4, .ref wa0, .ref na0])), (wa0, .inl (cI, 4, .inl fw0)), (na0, .inl (cI, 4, .inl fn0)), (na1, .inl (cI, 4, .inl fn1)), (r27, .inr (0, [.ref b28, .int 0, .int 0, .int 0])), (b28, .inl (cB, 25, .inl g29)), (a1, .inr (8, [.int 4, .ref wa1, .ref na1])), (wa1, .inl (cI, 4, .inl fw1))]) (w1 := [(q32, .inr (1, [.ref v39, .int 0, .int 0, .int (nI 25)])), (v39, .inl (cB, 34, .inl f40))]) hP hD [11, 12] [0, 1, 2, 3, 4, 5, 6, 7, 8, 9, 10] rfl rfl (by decide) (by decide) hk1 hFc hP1 hD1
  clear hPc hDc hFc hDv hpre hP hD hP1 hK1 hD1
  obtain ⟨hP, hD⟩ := hPD9
  replace hz : s.heap.size + 26 ≤ H37.size := by omega
  clear hz2
  replace hP : va_P (dC, dI) vwCl [(mo, .inr (9, [th, .ref al, md, rf, kn])), (al, .inr (4, [mc, .ref ed, .int (nI cc)])), (ed, .inl (cO, 10, .inr (.inr (.inr (.inr ee))))), (a0, .inr (8, [.int 4, .ref wa0, .ref na0])), (wa0, .inl (cI, 4, .inl fw0)), (na0, .inl (cI, 4, .inl fn0)), (na1, .inl (cI, 4, .inl fn1)), (r27, .inr (0, [.ref b28, .int 0, .int 0, .int 0])), (b28, .inl (cB, 25, .inl g29)), (a1, .inr (8, [.int 4, .ref wa1, .ref na1])), (wa1, .inl (cI, 4, .inl fw1)), (q32, .inr (1, [.ref v39, .int 0, .int 0, .int (nI 25)])), (v39, .inl (cB, 34, .inl f40))] H37 := hP
  replace hD : va_D A [(mo, .inr (9, [th, .ref al, md, rf, kn])), (al, .inr (4, [mc, .ref ed, .int (nI cc)])), (ed, .inl (cO, 10, .inr (.inr (.inr (.inr ee))))), (a0, .inr (8, [.int 4, .ref wa0, .ref na0])), (wa0, .inl (cI, 4, .inl fw0)), (na0, .inl (cI, 4, .inl fn0)), (na1, .inl (cI, 4, .inl fn1)), (r27, .inr (0, [.ref b28, .int 0, .int 0, .int 0])), (b28, .inl (cB, 25, .inl g29)), (a1, .inr (8, [.int 4, .ref wa1, .ref na1])), (wa1, .inl (cI, 4, .inl fw1)), (q32, .inr (1, [.ref v39, .int 0, .int 0, .int (nI 25)])), (v39, .inl (cB, 34, .inl f40))] := hD
  refine W.widen (k := 31) (n := 721060) (by omega) (by omega) ?_
  obtain rfl := her38.symm
  have hP := hP.sub (ws' := [(mo, .inr (9, [th, .ref al, md, rf, kn])), (al, .inr (4, [mc, .ref ed, .int (nI cc)])), (ed, .inl (cO, 10, .inr (.inr (.inr (.inr ee))))), (a0, .inr (8, [.int 4, .ref wa0, .ref na0])), (wa0, .inl (cI, 4, .inl fw0)), (na0, .inl (cI, 4, .inl fn0)), (na1, .inl (cI, 4, .inl fn1)), (a1, .inr (8, [.int 4, .ref wa1, .ref na1])), (wa1, .inl (cI, 4, .inl fw1)), (q32, .inr (1, [.ref v39, .int 0, .int 0, .int (nI 25)])), (v39, .inl (cB, 34, .inl f40))]) [0, 1, 2, 3, 4, 5, 6, 9, 10, 11, 12] rfl
  have hD := hD.sub (ws' := [(mo, .inr (9, [th, .ref al, md, rf, kn])), (al, .inr (4, [mc, .ref ed, .int (nI cc)])), (ed, .inl (cO, 10, .inr (.inr (.inr (.inr ee))))), (a0, .inr (8, [.int 4, .ref wa0, .ref na0])), (wa0, .inl (cI, 4, .inl fw0)), (na0, .inl (cI, 4, .inl fn0)), (na1, .inl (cI, 4, .inl fn1)), (a1, .inr (8, [.int 4, .ref wa1, .ref na1])), (wa1, .inl (cI, 4, .inl fw1)), (q32, .inr (1, [.ref v39, .int 0, .int 0, .int (nI 25)])), (v39, .inl (cB, 34, .inl f40))]) [0, 1, 2, 3, 4, 5, 6, 9, 10, 11, 12] (by decide) rfl
  refine lv_iload hx hb dX4_textOf_38 (lv_at hl 0 rfl) ?_
  refine lv_if_le (tgt := 48) hx hb dX4_textOf_40 (by decide) (fun c9 => ?_) (fun c9 => ?_)
  · exact absurd c9 (by decide)
  refine va_ldcS (own := RX4) (tx := ", ") (q := zk 3) hx hb hown (zl2 hZ) dX4_textOf_43 ?_
  refine lv_goto (tgt := 50) hx hb dX4_textOf_45 (by decide) ?_
  have hPc := hP.sub (ws' := [(q32, .inr (1, [.ref v39, .int 0, .int 0, .int (nI 25)])), (v39, .inl (cB, 34, .inl f40))]) [9, 10] rfl
  have hDc := hD.sub (ws' := [(q32, .inr (1, [.ref v39, .int 0, .int 0, .int (nI 25)])), (v39, .inl (cB, 34, .inl f40))]) [9, 10] (by decide) rfl
  have hFc := va_free (wc := [(q32, .inr (1, [.ref v39, .int 0, .int 0, .int (nI 25)])), (v39, .inl (cB, 34, .inl f40))]) hD hS hA [9, 10] rfl
  have hDv := hDc.self (sz := H37.size)
  have hx0 : zS ((zk 3), (zk 13), 2, (fun j => (zByt.getD 2 []).getD j 0)) (va_A [(q32, .inr (1, [.ref v39, .int 0, .int 0, .int (nI 25)])), (v39, .inl (cB, 34, .inl f40))] H37.size) s H37 := zc2 hZ hS hFc
  have hpre := zpre (xs' := [((zk 3), (zk 13), 2, (fun j => (zByt.getD 2 []).getD j 0))]) (av := [.ref q32, .ref (zk 3)]) hPc hK (hDc.weaken (fun _ _ _ h => h)) hZ hS hFc (fun r hr => by cases hr with | head => exact hx0 | tail _ h => cases h)
  refine va_callr (va_runV (As := [.ref (zk 3)]) (rest := []) ⟨hx, hb, hml, hown, hts⟩ (k_apA l dC dI cI cB cR cO zk q32 v39 (zk 3) (zk 13) 2 34 25 (fun j => (zByt.getD 2 []).getD j 0) f40 (.int 0) H37.size (by decide) (by decide) (by decide) hff40 (by decide)) (cwV 1 hts gX4_textOf_J4_append_15ec4 rfl rfl rfl (by decide +kernel) ⟨Nat.le_of_ble_eq_true rfl, Nat.le_of_ble_eq_true rfl⟩) ⟨zblind, (zrecv_1 hK hPc (q0 := 0) rfl), hpre⟩ rfl rfl hl.1 rfl (lv_room (Nat.le_of_ble_eq_true rfl)) dX4_textOf_50 ⟨Nat.le_of_ble_eq_true rfl, Nat.le_of_ble_eq_true rfl⟩) hS (fun q _ h => hFc q h) hFc (fun u r42 t H41 locs ht hvm hw hB hz1 hk1 hS => ?_)
  obtain ⟨v43, f44, ⟨hP1, hK1, hD1, hz2⟩, hff44, her42⟩ := hB
  rw [ht] at hP1 hz2
  have hPD9 := va_join (wr := [(mo, .inr (9, [th, .ref al, md, rf, kn])), (al, .inr (4, [mc, .ref ed, .int (nI cc)])), (ed, .inl (cO, 10, .inr (.inr (.inr (.inr ee))))), (a0, .inr (8, [.int 4, .ref wa0, .ref na0])), (wa0, .inl (cI, 4, .inl fw0)), (na0, .inl (cI, 4, .inl fn0)), (na1, .inl (cI, 4, .inl fn1)), (a1, .inr (8, [.int 4, .ref wa1, .ref na1])), (wa1, .inl (cI, 4, .inl fw1))]) (w1 := [(q32, .inr (1, [.ref v43, .int 0, .int 0, .int (nI 27)])), (v43, .inl (cB, 34, .inl f44))]) hP hD [9, 10] [0, 1, 2, 3, 4, 5, 6, 7, 8] rfl rfl (by decide) (by decide) hk1 hFc hP1 hD1
  clear hPc hDc hFc hDv hpre hP hD hP1 hK1 hD1
  obtain ⟨hP, hD⟩ := hPD9
  replace hz : s.heap.size + 26 ≤ H41.size := by omega
  clear hz2
  replace hP : va_P (dC, dI) vwCl [(mo, .inr (9, [th, .ref al, md, rf, kn])), (al, .inr (4, [mc, .ref ed, .int (nI cc)])), (ed, .inl (cO, 10, .inr (.inr (.inr (.inr ee))))), (a0, .inr (8, [.int 4, .ref wa0, .ref na0])), (wa0, .inl (cI, 4, .inl fw0)), (na0, .inl (cI, 4, .inl fn0)), (na1, .inl (cI, 4, .inl fn1)), (a1, .inr (8, [.int 4, .ref wa1, .ref na1])), (wa1, .inl (cI, 4, .inl fw1)), (q32, .inr (1, [.ref v43, .int 0, .int 0, .int (nI 27)])), (v43, .inl (cB, 34, .inl f44))] H41 := hP
  replace hD : va_D A [(mo, .inr (9, [th, .ref al, md, rf, kn])), (al, .inr (4, [mc, .ref ed, .int (nI cc)])), (ed, .inl (cO, 10, .inr (.inr (.inr (.inr ee))))), (a0, .inr (8, [.int 4, .ref wa0, .ref na0])), (wa0, .inl (cI, 4, .inl fw0)), (na0, .inl (cI, 4, .inl fn0)), (na1, .inl (cI, 4, .inl fn1)), (a1, .inr (8, [.int 4, .ref wa1, .ref na1])), (wa1, .inl (cI, 4, .inl fw1)), (q32, .inr (1, [.ref v43, .int 0, .int 0, .int (nI 27)])), (v43, .inl (cB, 34, .inl f44))] := hD
  refine W.widen (k := 31) (n := 721060) (by omega) (by omega) ?_
  obtain rfl := her42.symm
  refine lv_aload_n hx hb dX4_textOf_53 rfl (lv_at hl 3 rfl) ?_
  refine lv_aload_n hx hb dX4_textOf_54 rfl (lv_at hl 2 rfl) ?_
  refine lv_iload hx hb dX4_textOf_55 (lv_at hl 0 rfl) ?_
  have hPc := hP.sub (ws' := [(mo, .inr (9, [th, .ref al, md, rf, kn])), (al, .inr (4, [mc, .ref ed, .int (nI cc)])), (ed, .inl (cO, 10, .inr (.inr (.inr (.inr ee))))), (a0, .inr (8, [.int 4, .ref wa0, .ref na0])), (wa0, .inl (cI, 4, .inl fw0)), (na0, .inl (cI, 4, .inl fn0)), (a1, .inr (8, [.int 4, .ref wa1, .ref na1])), (wa1, .inl (cI, 4, .inl fw1)), (na1, .inl (cI, 4, .inl fn1))]) [0, 1, 2, 3, 4, 5, 7, 8, 6] rfl
  have hDc := hD.sub (ws' := [(mo, .inr (9, [th, .ref al, md, rf, kn])), (al, .inr (4, [mc, .ref ed, .int (nI cc)])), (ed, .inl (cO, 10, .inr (.inr (.inr (.inr ee))))), (a0, .inr (8, [.int 4, .ref wa0, .ref na0])), (wa0, .inl (cI, 4, .inl fw0)), (na0, .inl (cI, 4, .inl fn0)), (a1, .inr (8, [.int 4, .ref wa1, .ref na1])), (wa1, .inl (cI, 4, .inl fw1)), (na1, .inl (cI, 4, .inl fn1))]) [0, 1, 2, 3, 4, 5, 7, 8, 6] (by decide) rfl
  have hFc := va_free (wc := [(mo, .inr (9, [th, .ref al, md, rf, kn])), (al, .inr (4, [mc, .ref ed, .int (nI cc)])), (ed, .inl (cO, 10, .inr (.inr (.inr (.inr ee))))), (a0, .inr (8, [.int 4, .ref wa0, .ref na0])), (wa0, .inl (cI, 4, .inl fw0)), (na0, .inl (cI, 4, .inl fn0)), (a1, .inr (8, [.int 4, .ref wa1, .ref na1])), (wa1, .inl (cI, 4, .inl fw1)), (na1, .inl (cI, 4, .inl fn1))]) hD hS hA [0, 1, 2, 3, 4, 5, 7, 8, 6] rfl
  have hDv := hDc.self (sz := H41.size)
  have hpre := zpre (xs' := []) (av := [.ref mo, .ref a1, .int 1]) hPc hK (hDc.weaken (fun _ _ _ h => h)) hZ hS hFc (fun r hr => by cases hr)
  refine va_callr (va_runV (As := [.ref a1, .int 1]) (rest := [.ref q32]) ⟨hx, hb, hml, hown, hts⟩ (k_tAt1_1 l dC dI cI cB cR cO zk mo al ed cc ee th md rf kn mc a0 wa0 na0 a1 wa1 na1 fw0 fn0 fw1 fn1 H41.size hcc hcc2 hw0 hn0 he0 hw1 hn1 he1) (cwV 2 hts gX4_textOf_X4_textAt rfl rfl rfl (by decide +kernel) ⟨Nat.le_of_ble_eq_true rfl, Nat.le_of_ble_eq_true rfl⟩) ⟨zblind, (zrecv_9 hK hPc (q0 := 0) rfl), hpre⟩ rfl rfl hl.1 rfl (lv_room (Nat.le_of_ble_eq_true rfl)) dX4_textOf_57 ⟨Nat.le_of_ble_eq_true rfl, Nat.le_of_ble_eq_true rfl⟩) hS (fun q _ h => hFc q h) hFc (fun u r46 t H45 locs ht hvm hw hB hz1 hk1 hS => ?_)
  obtain ⟨b47, g48, ⟨hP1, hK1, hD1, hz2⟩, hfg48⟩ := hB
  rw [ht] at hP1 hz2
  have hPD9 := va_join (wr := [(q32, .inr (1, [.ref v43, .int 0, .int 0, .int (nI 27)])), (v43, .inl (cB, 34, .inl f44))]) (w1 := [(r46, .inr (0, [.ref b47, .int 0, .int 0, .int 0])), (b47, .inl (cB, 24, .inl g48)), (mo, .inr (9, [th, .ref al, md, rf, kn])), (al, .inr (4, [mc, .ref ed, .int (nI cc)])), (ed, .inl (cO, 10, .inr (.inr (.inr (.inr ee))))), (a0, .inr (8, [.int 4, .ref wa0, .ref na0])), (wa0, .inl (cI, 4, .inl fw0)), (na0, .inl (cI, 4, .inl fn0)), (a1, .inr (8, [.int 4, .ref wa1, .ref na1])), (wa1, .inl (cI, 4, .inl fw1)), (na1, .inl (cI, 4, .inl fn1))]) hP hD [0, 1, 2, 3, 4, 5, 7, 8, 6] [9, 10] rfl rfl (by decide) (by decide) hk1 hFc hP1 hD1
  clear hPc hDc hFc hDv hpre hP hD hP1 hK1 hD1
  obtain ⟨hP, hD⟩ := hPD9
  replace hz : s.heap.size + 46 ≤ H45.size := by omega
  clear hz2
  replace hP : va_P (dC, dI) vwCl [(q32, .inr (1, [.ref v43, .int 0, .int 0, .int (nI 27)])), (v43, .inl (cB, 34, .inl f44)), (r46, .inr (0, [.ref b47, .int 0, .int 0, .int 0])), (b47, .inl (cB, 24, .inl g48)), (mo, .inr (9, [th, .ref al, md, rf, kn])), (al, .inr (4, [mc, .ref ed, .int (nI cc)])), (ed, .inl (cO, 10, .inr (.inr (.inr (.inr ee))))), (a0, .inr (8, [.int 4, .ref wa0, .ref na0])), (wa0, .inl (cI, 4, .inl fw0)), (na0, .inl (cI, 4, .inl fn0)), (a1, .inr (8, [.int 4, .ref wa1, .ref na1])), (wa1, .inl (cI, 4, .inl fw1)), (na1, .inl (cI, 4, .inl fn1))] H45 := hP
  replace hD : va_D A [(q32, .inr (1, [.ref v43, .int 0, .int 0, .int (nI 27)])), (v43, .inl (cB, 34, .inl f44)), (r46, .inr (0, [.ref b47, .int 0, .int 0, .int 0])), (b47, .inl (cB, 24, .inl g48)), (mo, .inr (9, [th, .ref al, md, rf, kn])), (al, .inr (4, [mc, .ref ed, .int (nI cc)])), (ed, .inl (cO, 10, .inr (.inr (.inr (.inr ee))))), (a0, .inr (8, [.int 4, .ref wa0, .ref na0])), (wa0, .inl (cI, 4, .inl fw0)), (na0, .inl (cI, 4, .inl fn0)), (a1, .inr (8, [.int 4, .ref wa1, .ref na1])), (wa1, .inl (cI, 4, .inl fw1)), (na1, .inl (cI, 4, .inl fn1))] := hD
  refine W.widen (k := 54) (n := 1245468) (by omega) (by omega) ?_
  have hPc := hP.sub (ws' := [(q32, .inr (1, [.ref v43, .int 0, .int 0, .int (nI 27)])), (v43, .inl (cB, 34, .inl f44))]) [0, 1] rfl
  have hDc := hD.sub (ws' := [(q32, .inr (1, [.ref v43, .int 0, .int 0, .int (nI 27)])), (v43, .inl (cB, 34, .inl f44))]) [0, 1] (by decide) rfl
  have hFc := va_free (wc := [(q32, .inr (1, [.ref v43, .int 0, .int 0, .int (nI 27)])), (v43, .inl (cB, 34, .inl f44))]) hD hS hA [0, 1] rfl
  have hDv := hDc.self (sz := H45.size)
  have hx0 : zS (r46, b47, 24, g48) (va_A [(q32, .inr (1, [.ref v43, .int 0, .int 0, .int (nI 27)])), (v43, .inl (cB, 34, .inl f44))] H45.size) s H45 := zS.ofW hts hi_X4_textOf_J0 hK hP 2 3 1 rfl rfl rfl hfg48 (znot hP hD [0, 1] rfl 2 rfl (by decide)) (znot hP hD [0, 1] rfl 3 rfl (by decide))
  have hpre := zpre (xs' := [(r46, b47, 24, g48)]) (av := [.ref q32, .ref r46]) hPc hK (hDc.weaken (fun _ _ _ h => h)) hZ hS hFc (fun r hr => by cases hr with | head => exact hx0 | tail _ h => cases h)
  refine va_callr (va_runV (As := [.ref r46]) (rest := []) ⟨hx, hb, hml, hown, hts⟩ (k_apB l dC dI cI cB cR cO zk q32 v43 r46 b47 24 34 27 g48 f44 (.int 0) H45.size (by decide) (by decide) (by decide) hff44 (by decide) (by decide)) (cwV 1 hts gX4_textOf_J4_append_15ec4 rfl rfl rfl (by decide +kernel) ⟨Nat.le_of_ble_eq_true rfl, Nat.le_of_ble_eq_true rfl⟩) ⟨zblind, (zrecv_1 hK hPc (q0 := 0) rfl), hpre⟩ rfl rfl hl.1 rfl (lv_room (Nat.le_of_ble_eq_true rfl)) dX4_textOf_60 ⟨Nat.le_of_ble_eq_true rfl, Nat.le_of_ble_eq_true rfl⟩) hS (fun q _ h => hFc q h) hFc (fun u r50 t H49 locs ht hvm hw hB hz1 hk1 hS => ?_)
  obtain ⟨v51, f52, ⟨hP1, hK1, hD1, hz2⟩, hff52, her50⟩ := hB
  rw [ht] at hP1 hz2
  have hPD9 := va_join (wr := [(r46, .inr (0, [.ref b47, .int 0, .int 0, .int 0])), (b47, .inl (cB, 24, .inl g48)), (mo, .inr (9, [th, .ref al, md, rf, kn])), (al, .inr (4, [mc, .ref ed, .int (nI cc)])), (ed, .inl (cO, 10, .inr (.inr (.inr (.inr ee))))), (a0, .inr (8, [.int 4, .ref wa0, .ref na0])), (wa0, .inl (cI, 4, .inl fw0)), (na0, .inl (cI, 4, .inl fn0)), (a1, .inr (8, [.int 4, .ref wa1, .ref na1])), (wa1, .inl (cI, 4, .inl fw1)), (na1, .inl (cI, 4, .inl fn1))]) (w1 := [(q32, .inr (1, [.ref v51, .int 0, .int 0, .int (nI 51)])), (v51, .inl (cB, 70, .inl f52))]) hP hD [0, 1] [2, 3, 4, 5, 6, 7, 8, 9, 10, 11, 12] rfl rfl (by decide) (by decide) hk1 hFc hP1 hD1
  clear hPc hDc hFc hDv hpre hP hD hP1 hK1 hD1
  obtain ⟨hP, hD⟩ := hPD9
  replace hz : s.heap.size + 46 ≤ H49.size := by omega
  clear hz2
  replace hP : va_P (dC, dI) vwCl [(r46, .inr (0, [.ref b47, .int 0, .int 0, .int 0])), (b47, .inl (cB, 24, .inl g48)), (mo, .inr (9, [th, .ref al, md, rf, kn])), (al, .inr (4, [mc, .ref ed, .int (nI cc)])), (ed, .inl (cO, 10, .inr (.inr (.inr (.inr ee))))), (a0, .inr (8, [.int 4, .ref wa0, .ref na0])), (wa0, .inl (cI, 4, .inl fw0)), (na0, .inl (cI, 4, .inl fn0)), (a1, .inr (8, [.int 4, .ref wa1, .ref na1])), (wa1, .inl (cI, 4, .inl fw1)), (na1, .inl (cI, 4, .inl fn1)), (q32, .inr (1, [.ref v51, .int 0, .int 0, .int (nI 51)])), (v51, .inl (cB, 70, .inl f52))] H49 := hP
  replace hD : va_D A [(r46, .inr (0, [.ref b47, .int 0, .int 0, .int 0])), (b47, .inl (cB, 24, .inl g48)), (mo, .inr (9, [th, .ref al, md, rf, kn])), (al, .inr (4, [mc, .ref ed, .int (nI cc)])), (ed, .inl (cO, 10, .inr (.inr (.inr (.inr ee))))), (a0, .inr (8, [.int 4, .ref wa0, .ref na0])), (wa0, .inl (cI, 4, .inl fw0)), (na0, .inl (cI, 4, .inl fn0)), (a1, .inr (8, [.int 4, .ref wa1, .ref na1])), (wa1, .inl (cI, 4, .inl fw1)), (na1, .inl (cI, 4, .inl fn1)), (q32, .inr (1, [.ref v51, .int 0, .int 0, .int (nI 51)])), (v51, .inl (cB, 70, .inl f52))] := hD
  refine W.widen (k := 55) (n := 1311004) (by omega) (by omega) ?_
  obtain rfl := her50.symm
  have hP := hP.sub (ws' := [(mo, .inr (9, [th, .ref al, md, rf, kn])), (al, .inr (4, [mc, .ref ed, .int (nI cc)])), (ed, .inl (cO, 10, .inr (.inr (.inr (.inr ee))))), (a0, .inr (8, [.int 4, .ref wa0, .ref na0])), (wa0, .inl (cI, 4, .inl fw0)), (na0, .inl (cI, 4, .inl fn0)), (a1, .inr (8, [.int 4, .ref wa1, .ref na1])), (wa1, .inl (cI, 4, .inl fw1)), (na1, .inl (cI, 4, .inl fn1)), (q32, .inr (1, [.ref v51, .int 0, .int 0, .int (nI 51)])), (v51, .inl (cB, 70, .inl f52))]) [2, 3, 4, 5, 6, 7, 8, 9, 10, 11, 12] rfl
  have hD := hD.sub (ws' := [(mo, .inr (9, [th, .ref al, md, rf, kn])), (al, .inr (4, [mc, .ref ed, .int (nI cc)])), (ed, .inl (cO, 10, .inr (.inr (.inr (.inr ee))))), (a0, .inr (8, [.int 4, .ref wa0, .ref na0])), (wa0, .inl (cI, 4, .inl fw0)), (na0, .inl (cI, 4, .inl fn0)), (a1, .inr (8, [.int 4, .ref wa1, .ref na1])), (wa1, .inl (cI, 4, .inl fw1)), (na1, .inl (cI, 4, .inl fn1)), (q32, .inr (1, [.ref v51, .int 0, .int 0, .int (nI 51)])), (v51, .inl (cB, 70, .inl f52))]) [2, 3, 4, 5, 6, 7, 8, 9, 10, 11, 12] (by decide) rfl
  have hPc := hP.sub (ws' := [(q32, .inr (1, [.ref v51, .int 0, .int 0, .int (nI 51)])), (v51, .inl (cB, 70, .inl f52))]) [9, 10] rfl
  have hDc := hD.sub (ws' := [(q32, .inr (1, [.ref v51, .int 0, .int 0, .int (nI 51)])), (v51, .inl (cB, 70, .inl f52))]) [9, 10] (by decide) rfl
  have hFc := va_free (wc := [(q32, .inr (1, [.ref v51, .int 0, .int 0, .int (nI 51)])), (v51, .inl (cB, 70, .inl f52))]) hD hS hA [9, 10] rfl
  have hDv := hDc.self (sz := H49.size)
  have hpre := zpre (xs' := []) (av := [.ref q32]) hPc hK (hDc.weaken (fun _ _ _ h => h)) hZ hS hFc (fun r hr => by cases hr)
  refine va_callr (va_runV (As := []) (rest := []) ⟨hx, hb, hml, hown, hts⟩ (k_toS l dC dI cI cB cR cO zk q32 v51 70 51 f52 (.int 0) H49.size (by decide) (by decide) hff52) (cwV 0 hts gX4_textOf_J4_toString_0e30d rfl rfl rfl (by decide +kernel) ⟨Nat.le_of_ble_eq_true rfl, Nat.le_of_ble_eq_true rfl⟩) ⟨zblind, (zrecv_1 hK hPc (q0 := 0) rfl), hpre⟩ rfl rfl hl.1 rfl (lv_room (Nat.le_of_ble_eq_true rfl)) dX4_textOf_63 ⟨Nat.le_of_ble_eq_true rfl, Nat.le_of_ble_eq_true rfl⟩) hS (fun q _ h => hFc q h) hFc (fun u r54 t H53 locs ht hvm hw hB hz1 hk1 hS => ?_)
  obtain ⟨b55, g56, ⟨hP1, hK1, hD1, hz2⟩, hfg56⟩ := hB
  rw [ht] at hP1 hz2
  have hPD9 := va_join (wr := [(mo, .inr (9, [th, .ref al, md, rf, kn])), (al, .inr (4, [mc, .ref ed, .int (nI cc)])), (ed, .inl (cO, 10, .inr (.inr (.inr (.inr ee))))), (a0, .inr (8, [.int 4, .ref wa0, .ref na0])), (wa0, .inl (cI, 4, .inl fw0)), (na0, .inl (cI, 4, .inl fn0)), (a1, .inr (8, [.int 4, .ref wa1, .ref na1])), (wa1, .inl (cI, 4, .inl fw1)), (na1, .inl (cI, 4, .inl fn1))]) (w1 := [(r54, .inr (0, [.ref b55, .int 0, .int 0, .int 0])), (b55, .inl (cB, 51, .inl g56)), (q32, .inr (1, [.ref v51, .int 0, .int 0, .int (nI 51)])), (v51, .inl (cB, 70, .inl f52))]) hP hD [9, 10] [0, 1, 2, 3, 4, 5, 6, 7, 8] rfl rfl (by decide) (by decide) hk1 hFc hP1 hD1
  clear hPc hDc hFc hDv hpre hP hD hP1 hK1 hD1
  obtain ⟨hP, hD⟩ := hPD9
  replace hz : s.heap.size + 48 ≤ H53.size := by omega
  clear hz2
  replace hP : va_P (dC, dI) vwCl [(mo, .inr (9, [th, .ref al, md, rf, kn])), (al, .inr (4, [mc, .ref ed, .int (nI cc)])), (ed, .inl (cO, 10, .inr (.inr (.inr (.inr ee))))), (a0, .inr (8, [.int 4, .ref wa0, .ref na0])), (wa0, .inl (cI, 4, .inl fw0)), (na0, .inl (cI, 4, .inl fn0)), (a1, .inr (8, [.int 4, .ref wa1, .ref na1])), (wa1, .inl (cI, 4, .inl fw1)), (na1, .inl (cI, 4, .inl fn1)), (r54, .inr (0, [.ref b55, .int 0, .int 0, .int 0])), (b55, .inl (cB, 51, .inl g56)), (q32, .inr (1, [.ref v51, .int 0, .int 0, .int (nI 51)])), (v51, .inl (cB, 70, .inl f52))] H53 := hP
  replace hD : va_D A [(mo, .inr (9, [th, .ref al, md, rf, kn])), (al, .inr (4, [mc, .ref ed, .int (nI cc)])), (ed, .inl (cO, 10, .inr (.inr (.inr (.inr ee))))), (a0, .inr (8, [.int 4, .ref wa0, .ref na0])), (wa0, .inl (cI, 4, .inl fw0)), (na0, .inl (cI, 4, .inl fn0)), (a1, .inr (8, [.int 4, .ref wa1, .ref na1])), (wa1, .inl (cI, 4, .inl fw1)), (na1, .inl (cI, 4, .inl fn1)), (r54, .inr (0, [.ref b55, .int 0, .int 0, .int 0])), (b55, .inl (cB, 51, .inl g56)), (q32, .inr (1, [.ref v51, .int 0, .int 0, .int (nI 51)])), (v51, .inl (cB, 70, .inl f52))] := hD
  refine W.widen (k := 57) (n := 1376544) (by omega) (by omega) ?_
  have hP := hP.sub (ws' := [(mo, .inr (9, [th, .ref al, md, rf, kn])), (al, .inr (4, [mc, .ref ed, .int (nI cc)])), (ed, .inl (cO, 10, .inr (.inr (.inr (.inr ee))))), (a0, .inr (8, [.int 4, .ref wa0, .ref na0])), (wa0, .inl (cI, 4, .inl fw0)), (na0, .inl (cI, 4, .inl fn0)), (a1, .inr (8, [.int 4, .ref wa1, .ref na1])), (wa1, .inl (cI, 4, .inl fw1)), (na1, .inl (cI, 4, .inl fn1)), (r54, .inr (0, [.ref b55, .int 0, .int 0, .int 0])), (b55, .inl (cB, 51, .inl g56))]) [0, 1, 2, 3, 4, 5, 6, 7, 8, 9, 10] rfl
  have hD := hD.sub (ws' := [(mo, .inr (9, [th, .ref al, md, rf, kn])), (al, .inr (4, [mc, .ref ed, .int (nI cc)])), (ed, .inl (cO, 10, .inr (.inr (.inr (.inr ee))))), (a0, .inr (8, [.int 4, .ref wa0, .ref na0])), (wa0, .inl (cI, 4, .inl fw0)), (na0, .inl (cI, 4, .inl fn0)), (a1, .inr (8, [.int 4, .ref wa1, .ref na1])), (wa1, .inl (cI, 4, .inl fw1)), (na1, .inl (cI, 4, .inl fn1)), (r54, .inr (0, [.ref b55, .int 0, .int 0, .int 0])), (b55, .inl (cB, 51, .inl g56))]) [0, 1, 2, 3, 4, 5, 6, 7, 8, 9, 10] (by decide) rfl
  refine lv_astore_n (lv' := [(3, .ref r54), (4, .int 1), (2, .ref a1), (0, .ref mo), (1, .int 1)]) hx hb dX4_textOf_66 rfl hl (by decide) rfl (fun ls hl => ?_)
  refine lv_iinc (v := 2) (lv' := [(4, .int 2), (3, .ref r54), (2, .ref a1), (0, .ref mo), (1, .int 1)]) hx hb dX4_textOf_67 hl (k := 1) rfl (by decide) (by decide) rfl (fun ls hl => ?_)
  refine lv_goto (tgt := 18) hx hb dX4_textOf_70 (by decide) ?_
  refine lv_iload hx hb dX4_textOf_18 (lv_at hl 0 rfl) ?_
  refine lv_aload_n hx hb dX4_textOf_20 rfl (lv_at hl 2 rfl) ?_
  have hPc := hP.sub (ws' := [(a1, .inr (8, [.int 4, .ref wa1, .ref na1])), (wa1, .inl (cI, 4, .inl fw1))]) [6, 7] rfl
  have hDc := hD.sub (ws' := [(a1, .inr (8, [.int 4, .ref wa1, .ref na1])), (wa1, .inl (cI, 4, .inl fw1))]) [6, 7] (by decide) rfl
  have hFc := va_free (wc := [(a1, .inr (8, [.int 4, .ref wa1, .ref na1])), (wa1, .inl (cI, 4, .inl fw1))]) hD hS hA [6, 7] rfl
  have hDv := hDc.self (sz := H53.size)
  have hpre := zpre (xs' := []) (av := [.ref a1]) hPc hK (hDc.weaken (fun _ _ _ h => h)) hZ hS hFc (fun r hr => by cases hr)
  refine va_calli (va_runV (As := []) (rest := [.int 2]) ⟨hx, hb, hml, hown, hts⟩ (k_rlen l dC dI cI cB cR cO zk a1 wa1 na1 fw1 H53.size ) (cwV 0 hts gX4_textOf_X3_length rfl rfl rfl (by decide +kernel) ⟨Nat.le_of_ble_eq_true rfl, Nat.le_of_ble_eq_true rfl⟩) ⟨zblind, (zrecv_8 hK hPc (q0 := 0) rfl), hpre⟩ rfl rfl hl.1 rfl (lv_room (Nat.le_of_ble_eq_true rfl)) dX4_textOf_21 ⟨Nat.le_of_ble_eq_true rfl, Nat.le_of_ble_eq_true rfl⟩) hS (fun q _ h => hFc q h) hFc (fun r58 u t H57 locs ht hvm hw hB hz1 hk1 hS => ?_)
  obtain rfl : 4 = r58 := (show r58 = 4 from hw).symm
  obtain ⟨hP1, hK1, hD1, hz2⟩ := hB
  rw [ht] at hP1 hz2
  have hPD9 := va_join (wr := [(mo, .inr (9, [th, .ref al, md, rf, kn])), (al, .inr (4, [mc, .ref ed, .int (nI cc)])), (ed, .inl (cO, 10, .inr (.inr (.inr (.inr ee))))), (a0, .inr (8, [.int 4, .ref wa0, .ref na0])), (wa0, .inl (cI, 4, .inl fw0)), (na0, .inl (cI, 4, .inl fn0)), (na1, .inl (cI, 4, .inl fn1)), (r54, .inr (0, [.ref b55, .int 0, .int 0, .int 0])), (b55, .inl (cB, 51, .inl g56))]) (w1 := [(a1, .inr (8, [.int 4, .ref wa1, .ref na1])), (wa1, .inl (cI, 4, .inl fw1))]) hP hD [6, 7] [0, 1, 2, 3, 4, 5, 8, 9, 10] rfl rfl (by decide) (by decide) hk1 hFc hP1 hD1
  clear hPc hDc hFc hDv hpre hP hD hP1 hK1 hD1
  obtain ⟨hP, hD⟩ := hPD9
  replace hz : s.heap.size + 48 ≤ H57.size := by omega
  clear hz2
  replace hP : va_P (dC, dI) vwCl [(mo, .inr (9, [th, .ref al, md, rf, kn])), (al, .inr (4, [mc, .ref ed, .int (nI cc)])), (ed, .inl (cO, 10, .inr (.inr (.inr (.inr ee))))), (a0, .inr (8, [.int 4, .ref wa0, .ref na0])), (wa0, .inl (cI, 4, .inl fw0)), (na0, .inl (cI, 4, .inl fn0)), (na1, .inl (cI, 4, .inl fn1)), (r54, .inr (0, [.ref b55, .int 0, .int 0, .int 0])), (b55, .inl (cB, 51, .inl g56)), (a1, .inr (8, [.int 4, .ref wa1, .ref na1])), (wa1, .inl (cI, 4, .inl fw1))] H57 := hP
  replace hD : va_D A [(mo, .inr (9, [th, .ref al, md, rf, kn])), (al, .inr (4, [mc, .ref ed, .int (nI cc)])), (ed, .inl (cO, 10, .inr (.inr (.inr (.inr ee))))), (a0, .inr (8, [.int 4, .ref wa0, .ref na0])), (wa0, .inl (cI, 4, .inl fw0)), (na0, .inl (cI, 4, .inl fn0)), (na1, .inl (cI, 4, .inl fn1)), (r54, .inr (0, [.ref b55, .int 0, .int 0, .int 0])), (b55, .inl (cB, 51, .inl g56)), (a1, .inr (8, [.int 4, .ref wa1, .ref na1])), (wa1, .inl (cI, 4, .inl fw1))] := hD
  refine W.widen (k := 57) (n := 1376544) (by omega) (by omega) ?_
  refine lv_icmp_ge (tgt := 73) hx hb dX4_textOf_24 (by decide) (fun c9 => ?_) (fun c9 => ?_)
  · exact absurd c9 (by decide)
  refine zw_new (ci := 1) (fs := [.null, .int 0, .int 0, .int 0]) (C := RJ4) (T := TJ4) (N := 4) hx hb hts hi_X4_textOf_J4 tyJ4 tyJ4_ok hown (hts (.classLink RX4 165 RJ4) (List.mem_cons_of_mem _ zw_1388)) (hts (.instantiable RJ4 4) (List.mem_cons_of_mem _ zw_139)) (hts (.initialized RJ4) (List.mem_cons_of_mem _ zw_47)) hK hP hD hS hA rfl (fun j hj => by rcases (show j = 0 ∨ j = 1 ∨ j = 2 ∨ j = 3 by omega) with rfl | rfl | rfl | rfl <;> rfl) (Nat.le_of_ble_eq_true rfl) (Nat.le_of_ble_eq_true rfl) dX4_textOf_27 hz (fun q59 H60 hP hD hS hz => ?_)
  replace hP : va_P (dC, dI) vwCl [(mo, .inr (9, [th, .ref al, md, rf, kn])), (al, .inr (4, [mc, .ref ed, .int (nI cc)])), (ed, .inl (cO, 10, .inr (.inr (.inr (.inr ee))))), (a0, .inr (8, [.int 4, .ref wa0, .ref na0])), (wa0, .inl (cI, 4, .inl fw0)), (na0, .inl (cI, 4, .inl fn0)), (na1, .inl (cI, 4, .inl fn1)), (r54, .inr (0, [.ref b55, .int 0, .int 0, .int 0])), (b55, .inl (cB, 51, .inl g56)), (a1, .inr (8, [.int 4, .ref wa1, .ref na1])), (wa1, .inl (cI, 4, .inl fw1)), (q59, .inr (1, [.null, .int 0, .int 0, .int 0]))] H60 := hP
  replace hD : va_D A [(mo, .inr (9, [th, .ref al, md, rf, kn])), (al, .inr (4, [mc, .ref ed, .int (nI cc)])), (ed, .inl (cO, 10, .inr (.inr (.inr (.inr ee))))), (a0, .inr (8, [.int 4, .ref wa0, .ref na0])), (wa0, .inl (cI, 4, .inl fw0)), (na0, .inl (cI, 4, .inl fn0)), (na1, .inl (cI, 4, .inl fn1)), (r54, .inr (0, [.ref b55, .int 0, .int 0, .int 0])), (b55, .inl (cB, 51, .inl g56)), (a1, .inr (8, [.int 4, .ref wa1, .ref na1])), (wa1, .inl (cI, 4, .inl fw1)), (q59, .inr (1, [.null, .int 0, .int 0, .int 0]))] := hD
  refine W.widen (k := 58) (n := 1376548) (by omega) (by omega) ?_
  refine lv_dup hx hb dX4_textOf_30 rfl ?_
  have hPc := hP.sub (ws' := [(q59, .inr (1, [.null, .int 0, .int 0, .int 0]))]) [11] rfl
  have hDc := hD.sub (ws' := [(q59, .inr (1, [.null, .int 0, .int 0, .int 0]))]) [11] (by decide) rfl
  have hFc := va_free (wc := [(q59, .inr (1, [.null, .int 0, .int 0, .int 0]))]) hD hS hA [11] rfl
  have hDv := hDc.self (sz := H60.size)
  have hpre := zpre (xs' := []) (av := [.ref q59]) hPc hK (hDc.weaken (fun _ _ _ h => h)) hZ hS hFc (fun r hr => by cases hr)
  refine va_callv (va_runI (As := []) (rest := [.ref q59]) ⟨hx, hb, hml, hown, hts⟩ (k_init4 l dC dI cI cB cR cO zk q59 H60.size ) (cwI 0 hts gX4_textOf_J4_init_da8c8 rfl rfl rfl (hts (.initialized RJ4) (List.mem_cons_of_mem _ zw_47)) (hts (.methodLink RX4 167 yJ4_init_da8c8) (List.mem_cons_of_mem _ zw_1389)) (hts (.instanceMethod yJ4_init_da8c8) (List.mem_cons_of_mem _ zw_141)) rfl (by decide +kernel) ⟨Nat.le_of_ble_eq_true rfl, Nat.le_of_ble_eq_true rfl⟩) ⟨zblind, hpre⟩ rfl rfl hl.1 rfl (lv_room (Nat.le_of_ble_eq_true rfl)) dX4_textOf_31 ⟨Nat.le_of_ble_eq_true rfl, Nat.le_of_ble_eq_true rfl⟩) hS (fun q _ h => hFc q h) hFc (fun u t H61 locs ht hvm hw hB hz1 hk1 hS => ?_)
  obtain ⟨w63, ⟨hP1, hK1, hD1, hz2⟩⟩ := hB
  rw [ht] at hP1 hz2
  have hPD9 := va_join (wr := [(mo, .inr (9, [th, .ref al, md, rf, kn])), (al, .inr (4, [mc, .ref ed, .int (nI cc)])), (ed, .inl (cO, 10, .inr (.inr (.inr (.inr ee))))), (a0, .inr (8, [.int 4, .ref wa0, .ref na0])), (wa0, .inl (cI, 4, .inl fw0)), (na0, .inl (cI, 4, .inl fn0)), (na1, .inl (cI, 4, .inl fn1)), (r54, .inr (0, [.ref b55, .int 0, .int 0, .int 0])), (b55, .inl (cB, 51, .inl g56)), (a1, .inr (8, [.int 4, .ref wa1, .ref na1])), (wa1, .inl (cI, 4, .inl fw1))]) (w1 := [(q59, .inr (1, [.ref w63, .int 0, .int 0, .int 0])), (w63, .inl (cB, 16, .inl (fun _ => 0)))]) hP hD [11] [0, 1, 2, 3, 4, 5, 6, 7, 8, 9, 10] rfl rfl (by decide) (by decide) hk1 hFc hP1 hD1
  clear hPc hDc hFc hDv hpre hP hD hP1 hK1 hD1
  obtain ⟨hP, hD⟩ := hPD9
  replace hz : s.heap.size + 50 ≤ H61.size := by omega
  clear hz2
  replace hP : va_P (dC, dI) vwCl [(mo, .inr (9, [th, .ref al, md, rf, kn])), (al, .inr (4, [mc, .ref ed, .int (nI cc)])), (ed, .inl (cO, 10, .inr (.inr (.inr (.inr ee))))), (a0, .inr (8, [.int 4, .ref wa0, .ref na0])), (wa0, .inl (cI, 4, .inl fw0)), (na0, .inl (cI, 4, .inl fn0)), (na1, .inl (cI, 4, .inl fn1)), (r54, .inr (0, [.ref b55, .int 0, .int 0, .int 0])), (b55, .inl (cB, 51, .inl g56)), (a1, .inr (8, [.int 4, .ref wa1, .ref na1])), (wa1, .inl (cI, 4, .inl fw1)), (q59, .inr (1, [.ref w63, .int 0, .int 0, .int 0])), (w63, .inl (cB, 16, .inl (fun _ => 0)))] H61 := hP
  replace hD : va_D A [(mo, .inr (9, [th, .ref al, md, rf, kn])), (al, .inr (4, [mc, .ref ed, .int (nI cc)])), (ed, .inl (cO, 10, .inr (.inr (.inr (.inr ee))))), (a0, .inr (8, [.int 4, .ref wa0, .ref na0])), (wa0, .inl (cI, 4, .inl fw0)), (na0, .inl (cI, 4, .inl fn0)), (na1, .inl (cI, 4, .inl fn1)), (r54, .inr (0, [.ref b55, .int 0, .int 0, .int 0])), (b55, .inl (cB, 51, .inl g56)), (a1, .inr (8, [.int 4, .ref wa1, .ref na1])), (wa1, .inl (cI, 4, .inl fw1)), (q59, .inr (1, [.ref w63, .int 0, .int 0, .int 0])), (w63, .inl (cB, 16, .inl (fun _ => 0)))] := hD
  refine W.widen (k := 59) (n := 1376564) (by omega) (by omega) ?_
  refine lv_aload_n hx hb dX4_textOf_34 rfl (lv_at hl 1 rfl) ?_
  have hPc := hP.sub (ws' := [(q59, .inr (1, [.ref w63, .int 0, .int 0, .int 0])), (w63, .inl (cB, 16, .inl (fun _ => 0)))]) [11, 12] rfl
  have hDc := hD.sub (ws' := [(q59, .inr (1, [.ref w63, .int 0, .int 0, .int 0])), (w63, .inl (cB, 16, .inl (fun _ => 0)))]) [11, 12] (by decide) rfl
  have hFc := va_free (wc := [(q59, .inr (1, [.ref w63, .int 0, .int 0, .int 0])), (w63, .inl (cB, 16, .inl (fun _ => 0)))]) hD hS hA [11, 12] rfl
  have hDv := hDc.self (sz := H61.size)
  have hx0 : zS (r54, b55, 51, g56) (va_A [(q59, .inr (1, [.ref w63, .int 0, .int 0, .int 0])), (w63, .inl (cB, 16, .inl (fun _ => 0)))] H61.size) s H61 := zS.ofW hts hi_X4_textOf_J0 hK hP 7 8 1 rfl rfl rfl hfg56 (znot hP hD [11, 12] rfl 7 rfl (by decide)) (znot hP hD [11, 12] rfl 8 rfl (by decide))
  have hpre := zpre (xs' := [(r54, b55, 51, g56)]) (av := [.ref q59, .ref r54]) hPc hK (hDc.weaken (fun _ _ _ h => h)) hZ hS hFc (fun r hr => by cases hr with | head => exact hx0 | tail _ h => cases h)
  refine va_callr (va_runV (As := [.ref r54]) (rest := []) ⟨hx, hb, hml, hown, hts⟩ (k_apB l dC dI cI cB cR cO zk q59 w63 r54 b55 51 16 0 g56 (fun _ => 0) (.int 0) H61.size (by decide) (by decide) (by decide) sb_fit0 (by decide) (by decide)) (cwV 1 hts gX4_textOf_J4_append_15ec4 rfl rfl rfl (by decide +kernel) ⟨Nat.le_of_ble_eq_true rfl, Nat.le_of_ble_eq_true rfl⟩) ⟨zblind, (zrecv_1 hK hPc (q0 := 0) rfl), hpre⟩ rfl rfl hl.1 rfl (lv_room (Nat.le_of_ble_eq_true rfl)) dX4_textOf_35 ⟨Nat.le_of_ble_eq_true rfl, Nat.le_of_ble_eq_true rfl⟩) hS (fun q _ h => hFc q h) hFc (fun u r65 t H64 locs ht hvm hw hB hz1 hk1 hS => ?_)
  obtain ⟨v66, f67, ⟨hP1, hK1, hD1, hz2⟩, hff67, her65⟩ := hB
  rw [ht] at hP1 hz2
  have hPD9 := va_join (wr := [(mo, .inr (9, [th, .ref al, md, rf, kn])), (al, .inr (4, [mc, .ref ed, .int (nI cc)])), (ed, .inl (cO, 10, .inr (.inr (.inr (.inr ee))))), (a0, .inr (8, [.int 4, .ref wa0, .ref na0])), (wa0, .inl (cI, 4, .inl fw0)), (na0, .inl (cI, 4, .inl fn0)), (na1, .inl (cI, 4, .inl fn1)), (r54, .inr (0, [.ref b55, .int 0, .int 0, .int 0])), (b55, .inl (cB, 51, .inl g56)), (a1, .inr (8, [.int 4, .ref wa1, .ref na1])), (wa1, .inl (cI, 4, .inl fw1))]) (w1 := [(q59, .inr (1, [.ref v66, .int 0, .int 0, .int (nI 51)])), (v66, .inl (cB, 51, .inl f67))]) hP hD [11, 12] [0, 1, 2, 3, 4, 5, 6, 7, 8, 9, 10] rfl rfl (by decide) (by decide) hk1 hFc hP1 hD1
  clear hPc hDc hFc hDv hpre hP hD hP1 hK1 hD1
  obtain ⟨hP, hD⟩ := hPD9
  replace hz : s.heap.size + 50 ≤ H64.size := by omega
  clear hz2
  replace hP : va_P (dC, dI) vwCl [(mo, .inr (9, [th, .ref al, md, rf, kn])), (al, .inr (4, [mc, .ref ed, .int (nI cc)])), (ed, .inl (cO, 10, .inr (.inr (.inr (.inr ee))))), (a0, .inr (8, [.int 4, .ref wa0, .ref na0])), (wa0, .inl (cI, 4, .inl fw0)), (na0, .inl (cI, 4, .inl fn0)), (na1, .inl (cI, 4, .inl fn1)), (r54, .inr (0, [.ref b55, .int 0, .int 0, .int 0])), (b55, .inl (cB, 51, .inl g56)), (a1, .inr (8, [.int 4, .ref wa1, .ref na1])), (wa1, .inl (cI, 4, .inl fw1)), (q59, .inr (1, [.ref v66, .int 0, .int 0, .int (nI 51)])), (v66, .inl (cB, 51, .inl f67))] H64 := hP
  replace hD : va_D A [(mo, .inr (9, [th, .ref al, md, rf, kn])), (al, .inr (4, [mc, .ref ed, .int (nI cc)])), (ed, .inl (cO, 10, .inr (.inr (.inr (.inr ee))))), (a0, .inr (8, [.int 4, .ref wa0, .ref na0])), (wa0, .inl (cI, 4, .inl fw0)), (na0, .inl (cI, 4, .inl fn0)), (na1, .inl (cI, 4, .inl fn1)), (r54, .inr (0, [.ref b55, .int 0, .int 0, .int 0])), (b55, .inl (cB, 51, .inl g56)), (a1, .inr (8, [.int 4, .ref wa1, .ref na1])), (wa1, .inl (cI, 4, .inl fw1)), (q59, .inr (1, [.ref v66, .int 0, .int 0, .int (nI 51)])), (v66, .inl (cB, 51, .inl f67))] := hD
  refine W.widen (k := 60) (n := 1442100) (by omega) (by omega) ?_
  obtain rfl := her65.symm
  have hP := hP.sub (ws' := [(mo, .inr (9, [th, .ref al, md, rf, kn])), (al, .inr (4, [mc, .ref ed, .int (nI cc)])), (ed, .inl (cO, 10, .inr (.inr (.inr (.inr ee))))), (a0, .inr (8, [.int 4, .ref wa0, .ref na0])), (wa0, .inl (cI, 4, .inl fw0)), (na0, .inl (cI, 4, .inl fn0)), (na1, .inl (cI, 4, .inl fn1)), (a1, .inr (8, [.int 4, .ref wa1, .ref na1])), (wa1, .inl (cI, 4, .inl fw1)), (q59, .inr (1, [.ref v66, .int 0, .int 0, .int (nI 51)])), (v66, .inl (cB, 51, .inl f67))]) [0, 1, 2, 3, 4, 5, 6, 9, 10, 11, 12] rfl
  have hD := hD.sub (ws' := [(mo, .inr (9, [th, .ref al, md, rf, kn])), (al, .inr (4, [mc, .ref ed, .int (nI cc)])), (ed, .inl (cO, 10, .inr (.inr (.inr (.inr ee))))), (a0, .inr (8, [.int 4, .ref wa0, .ref na0])), (wa0, .inl (cI, 4, .inl fw0)), (na0, .inl (cI, 4, .inl fn0)), (na1, .inl (cI, 4, .inl fn1)), (a1, .inr (8, [.int 4, .ref wa1, .ref na1])), (wa1, .inl (cI, 4, .inl fw1)), (q59, .inr (1, [.ref v66, .int 0, .int 0, .int (nI 51)])), (v66, .inl (cB, 51, .inl f67))]) [0, 1, 2, 3, 4, 5, 6, 9, 10, 11, 12] (by decide) rfl
  refine lv_iload hx hb dX4_textOf_38 (lv_at hl 0 rfl) ?_
  refine lv_if_le (tgt := 48) hx hb dX4_textOf_40 (by decide) (fun c9 => ?_) (fun c9 => ?_)
  · exact absurd c9 (by decide)
  refine va_ldcS (own := RX4) (tx := ", ") (q := zk 3) hx hb hown (zl2 hZ) dX4_textOf_43 ?_
  refine lv_goto (tgt := 50) hx hb dX4_textOf_45 (by decide) ?_
  have hPc := hP.sub (ws' := [(q59, .inr (1, [.ref v66, .int 0, .int 0, .int (nI 51)])), (v66, .inl (cB, 51, .inl f67))]) [9, 10] rfl
  have hDc := hD.sub (ws' := [(q59, .inr (1, [.ref v66, .int 0, .int 0, .int (nI 51)])), (v66, .inl (cB, 51, .inl f67))]) [9, 10] (by decide) rfl
  have hFc := va_free (wc := [(q59, .inr (1, [.ref v66, .int 0, .int 0, .int (nI 51)])), (v66, .inl (cB, 51, .inl f67))]) hD hS hA [9, 10] rfl
  have hDv := hDc.self (sz := H64.size)
  have hx0 : zS ((zk 3), (zk 13), 2, (fun j => (zByt.getD 2 []).getD j 0)) (va_A [(q59, .inr (1, [.ref v66, .int 0, .int 0, .int (nI 51)])), (v66, .inl (cB, 51, .inl f67))] H64.size) s H64 := zc2 hZ hS hFc
  have hpre := zpre (xs' := [((zk 3), (zk 13), 2, (fun j => (zByt.getD 2 []).getD j 0))]) (av := [.ref q59, .ref (zk 3)]) hPc hK (hDc.weaken (fun _ _ _ h => h)) hZ hS hFc (fun r hr => by cases hr with | head => exact hx0 | tail _ h => cases h)
  refine va_callr (va_runV (As := [.ref (zk 3)]) (rest := []) ⟨hx, hb, hml, hown, hts⟩ (k_apB l dC dI cI cB cR cO zk q59 v66 (zk 3) (zk 13) 2 51 51 (fun j => (zByt.getD 2 []).getD j 0) f67 (.int 0) H64.size (by decide) (by decide) (by decide) hff67 (by decide) (by decide)) (cwV 1 hts gX4_textOf_J4_append_15ec4 rfl rfl rfl (by decide +kernel) ⟨Nat.le_of_ble_eq_true rfl, Nat.le_of_ble_eq_true rfl⟩) ⟨zblind, (zrecv_1 hK hPc (q0 := 0) rfl), hpre⟩ rfl rfl hl.1 rfl (lv_room (Nat.le_of_ble_eq_true rfl)) dX4_textOf_50 ⟨Nat.le_of_ble_eq_true rfl, Nat.le_of_ble_eq_true rfl⟩) hS (fun q _ h => hFc q h) hFc (fun u r69 t H68 locs ht hvm hw hB hz1 hk1 hS => ?_)
  obtain ⟨v70, f71, ⟨hP1, hK1, hD1, hz2⟩, hff71, her69⟩ := hB
  rw [ht] at hP1 hz2
  have hPD9 := va_join (wr := [(mo, .inr (9, [th, .ref al, md, rf, kn])), (al, .inr (4, [mc, .ref ed, .int (nI cc)])), (ed, .inl (cO, 10, .inr (.inr (.inr (.inr ee))))), (a0, .inr (8, [.int 4, .ref wa0, .ref na0])), (wa0, .inl (cI, 4, .inl fw0)), (na0, .inl (cI, 4, .inl fn0)), (na1, .inl (cI, 4, .inl fn1)), (a1, .inr (8, [.int 4, .ref wa1, .ref na1])), (wa1, .inl (cI, 4, .inl fw1))]) (w1 := [(q59, .inr (1, [.ref v70, .int 0, .int 0, .int (nI 53)])), (v70, .inl (cB, 104, .inl f71))]) hP hD [9, 10] [0, 1, 2, 3, 4, 5, 6, 7, 8] rfl rfl (by decide) (by decide) hk1 hFc hP1 hD1
  clear hPc hDc hFc hDv hpre hP hD hP1 hK1 hD1
  obtain ⟨hP, hD⟩ := hPD9
  replace hz : s.heap.size + 50 ≤ H68.size := by omega
  clear hz2
  replace hP : va_P (dC, dI) vwCl [(mo, .inr (9, [th, .ref al, md, rf, kn])), (al, .inr (4, [mc, .ref ed, .int (nI cc)])), (ed, .inl (cO, 10, .inr (.inr (.inr (.inr ee))))), (a0, .inr (8, [.int 4, .ref wa0, .ref na0])), (wa0, .inl (cI, 4, .inl fw0)), (na0, .inl (cI, 4, .inl fn0)), (na1, .inl (cI, 4, .inl fn1)), (a1, .inr (8, [.int 4, .ref wa1, .ref na1])), (wa1, .inl (cI, 4, .inl fw1)), (q59, .inr (1, [.ref v70, .int 0, .int 0, .int (nI 53)])), (v70, .inl (cB, 104, .inl f71))] H68 := hP
  replace hD : va_D A [(mo, .inr (9, [th, .ref al, md, rf, kn])), (al, .inr (4, [mc, .ref ed, .int (nI cc)])), (ed, .inl (cO, 10, .inr (.inr (.inr (.inr ee))))), (a0, .inr (8, [.int 4, .ref wa0, .ref na0])), (wa0, .inl (cI, 4, .inl fw0)), (na0, .inl (cI, 4, .inl fn0)), (na1, .inl (cI, 4, .inl fn1)), (a1, .inr (8, [.int 4, .ref wa1, .ref na1])), (wa1, .inl (cI, 4, .inl fw1)), (q59, .inr (1, [.ref v70, .int 0, .int 0, .int (nI 53)])), (v70, .inl (cB, 104, .inl f71))] := hD
  refine W.widen (k := 61) (n := 1507636) (by omega) (by omega) ?_
  obtain rfl := her69.symm
  refine lv_aload_n hx hb dX4_textOf_53 rfl (lv_at hl 3 rfl) ?_
  refine lv_aload_n hx hb dX4_textOf_54 rfl (lv_at hl 2 rfl) ?_
  refine lv_iload hx hb dX4_textOf_55 (lv_at hl 0 rfl) ?_
  have hPc := hP.sub (ws' := [(mo, .inr (9, [th, .ref al, md, rf, kn])), (al, .inr (4, [mc, .ref ed, .int (nI cc)])), (ed, .inl (cO, 10, .inr (.inr (.inr (.inr ee))))), (a0, .inr (8, [.int 4, .ref wa0, .ref na0])), (wa0, .inl (cI, 4, .inl fw0)), (na0, .inl (cI, 4, .inl fn0)), (a1, .inr (8, [.int 4, .ref wa1, .ref na1])), (wa1, .inl (cI, 4, .inl fw1)), (na1, .inl (cI, 4, .inl fn1))]) [0, 1, 2, 3, 4, 5, 7, 8, 6] rfl
  have hDc := hD.sub (ws' := [(mo, .inr (9, [th, .ref al, md, rf, kn])), (al, .inr (4, [mc, .ref ed, .int (nI cc)])), (ed, .inl (cO, 10, .inr (.inr (.inr (.inr ee))))), (a0, .inr (8, [.int 4, .ref wa0, .ref na0])), (wa0, .inl (cI, 4, .inl fw0)), (na0, .inl (cI, 4, .inl fn0)), (a1, .inr (8, [.int 4, .ref wa1, .ref na1])), (wa1, .inl (cI, 4, .inl fw1)), (na1, .inl (cI, 4, .inl fn1))]) [0, 1, 2, 3, 4, 5, 7, 8, 6] (by decide) rfl
  have hFc := va_free (wc := [(mo, .inr (9, [th, .ref al, md, rf, kn])), (al, .inr (4, [mc, .ref ed, .int (nI cc)])), (ed, .inl (cO, 10, .inr (.inr (.inr (.inr ee))))), (a0, .inr (8, [.int 4, .ref wa0, .ref na0])), (wa0, .inl (cI, 4, .inl fw0)), (na0, .inl (cI, 4, .inl fn0)), (a1, .inr (8, [.int 4, .ref wa1, .ref na1])), (wa1, .inl (cI, 4, .inl fw1)), (na1, .inl (cI, 4, .inl fn1))]) hD hS hA [0, 1, 2, 3, 4, 5, 7, 8, 6] rfl
  have hDv := hDc.self (sz := H68.size)
  have hpre := zpre (xs' := []) (av := [.ref mo, .ref a1, .int 2]) hPc hK (hDc.weaken (fun _ _ _ h => h)) hZ hS hFc (fun r hr => by cases hr)
  refine va_callr (va_runV (As := [.ref a1, .int 2]) (rest := [.ref q59]) ⟨hx, hb, hml, hown, hts⟩ (k_tAt1_2 l dC dI cI cB cR cO zk mo al ed cc ee th md rf kn mc a0 wa0 na0 a1 wa1 na1 fw0 fn0 fw1 fn1 H68.size hcc hcc2 hw0 hn0 he0 hw1 hn1 he1) (cwV 2 hts gX4_textOf_X4_textAt rfl rfl rfl (by decide +kernel) ⟨Nat.le_of_ble_eq_true rfl, Nat.le_of_ble_eq_true rfl⟩) ⟨zblind, (zrecv_9 hK hPc (q0 := 0) rfl), hpre⟩ rfl rfl hl.1 rfl (lv_room (Nat.le_of_ble_eq_true rfl)) dX4_textOf_57 ⟨Nat.le_of_ble_eq_true rfl, Nat.le_of_ble_eq_true rfl⟩) hS (fun q _ h => hFc q h) hFc (fun u r73 t H72 locs ht hvm hw hB hz1 hk1 hS => ?_)
  obtain ⟨b74, g75, ⟨hP1, hK1, hD1, hz2⟩, hfg75⟩ := hB
  rw [ht] at hP1 hz2
  have hPD9 := va_join (wr := [(q59, .inr (1, [.ref v70, .int 0, .int 0, .int (nI 53)])), (v70, .inl (cB, 104, .inl f71))]) (w1 := [(r73, .inr (0, [.ref b74, .int 0, .int 0, .int 0])), (b74, .inl (cB, 24, .inl g75)), (mo, .inr (9, [th, .ref al, md, rf, kn])), (al, .inr (4, [mc, .ref ed, .int (nI cc)])), (ed, .inl (cO, 10, .inr (.inr (.inr (.inr ee))))), (a0, .inr (8, [.int 4, .ref wa0, .ref na0])), (wa0, .inl (cI, 4, .inl fw0)), (na0, .inl (cI, 4, .inl fn0)), (a1, .inr (8, [.int 4, .ref wa1, .ref na1])), (wa1, .inl (cI, 4, .inl fw1)), (na1, .inl (cI, 4, .inl fn1))]) hP hD [0, 1, 2, 3, 4, 5, 7, 8, 6] [9, 10] rfl rfl (by decide) (by decide) hk1 hFc hP1 hD1
  clear hPc hDc hFc hDv hpre hP hD hP1 hK1 hD1
  obtain ⟨hP, hD⟩ := hPD9
  replace hz : s.heap.size + 70 ≤ H72.size := by omega
  clear hz2
  replace hP : va_P (dC, dI) vwCl [(q59, .inr (1, [.ref v70, .int 0, .int 0, .int (nI 53)])), (v70, .inl (cB, 104, .inl f71)), (r73, .inr (0, [.ref b74, .int 0, .int 0, .int 0])), (b74, .inl (cB, 24, .inl g75)), (mo, .inr (9, [th, .ref al, md, rf, kn])), (al, .inr (4, [mc, .ref ed, .int (nI cc)])), (ed, .inl (cO, 10, .inr (.inr (.inr (.inr ee))))), (a0, .inr (8, [.int 4, .ref wa0, .ref na0])), (wa0, .inl (cI, 4, .inl fw0)), (na0, .inl (cI, 4, .inl fn0)), (a1, .inr (8, [.int 4, .ref wa1, .ref na1])), (wa1, .inl (cI, 4, .inl fw1)), (na1, .inl (cI, 4, .inl fn1))] H72 := hP
  replace hD : va_D A [(q59, .inr (1, [.ref v70, .int 0, .int 0, .int (nI 53)])), (v70, .inl (cB, 104, .inl f71)), (r73, .inr (0, [.ref b74, .int 0, .int 0, .int 0])), (b74, .inl (cB, 24, .inl g75)), (mo, .inr (9, [th, .ref al, md, rf, kn])), (al, .inr (4, [mc, .ref ed, .int (nI cc)])), (ed, .inl (cO, 10, .inr (.inr (.inr (.inr ee))))), (a0, .inr (8, [.int 4, .ref wa0, .ref na0])), (wa0, .inl (cI, 4, .inl fw0)), (na0, .inl (cI, 4, .inl fn0)), (a1, .inr (8, [.int 4, .ref wa1, .ref na1])), (wa1, .inl (cI, 4, .inl fw1)), (na1, .inl (cI, 4, .inl fn1))] := hD
  refine W.widen (k := 84) (n := 2032044) (by omega) (by omega) ?_
  have hPc := hP.sub (ws' := [(q59, .inr (1, [.ref v70, .int 0, .int 0, .int (nI 53)])), (v70, .inl (cB, 104, .inl f71))]) [0, 1] rfl
  have hDc := hD.sub (ws' := [(q59, .inr (1, [.ref v70, .int 0, .int 0, .int (nI 53)])), (v70, .inl (cB, 104, .inl f71))]) [0, 1] (by decide) rfl
  have hFc := va_free (wc := [(q59, .inr (1, [.ref v70, .int 0, .int 0, .int (nI 53)])), (v70, .inl (cB, 104, .inl f71))]) hD hS hA [0, 1] rfl
  have hDv := hDc.self (sz := H72.size)
  have hx0 : zS (r73, b74, 24, g75) (va_A [(q59, .inr (1, [.ref v70, .int 0, .int 0, .int (nI 53)])), (v70, .inl (cB, 104, .inl f71))] H72.size) s H72 := zS.ofW hts hi_X4_textOf_J0 hK hP 2 3 1 rfl rfl rfl hfg75 (znot hP hD [0, 1] rfl 2 rfl (by decide)) (znot hP hD [0, 1] rfl 3 rfl (by decide))
  have hpre := zpre (xs' := [(r73, b74, 24, g75)]) (av := [.ref q59, .ref r73]) hPc hK (hDc.weaken (fun _ _ _ h => h)) hZ hS hFc (fun r hr => by cases hr with | head => exact hx0 | tail _ h => cases h)
  refine va_callr (va_runV (As := [.ref r73]) (rest := []) ⟨hx, hb, hml, hown, hts⟩ (k_apA l dC dI cI cB cR cO zk q59 v70 r73 b74 24 104 53 g75 f71 (.int 0) H72.size (by decide) (by decide) (by decide) hff71 (by decide)) (cwV 1 hts gX4_textOf_J4_append_15ec4 rfl rfl rfl (by decide +kernel) ⟨Nat.le_of_ble_eq_true rfl, Nat.le_of_ble_eq_true rfl⟩) ⟨zblind, (zrecv_1 hK hPc (q0 := 0) rfl), hpre⟩ rfl rfl hl.1 rfl (lv_room (Nat.le_of_ble_eq_true rfl)) dX4_textOf_60 ⟨Nat.le_of_ble_eq_true rfl, Nat.le_of_ble_eq_true rfl⟩) hS (fun q _ h => hFc q h) hFc (fun u r77 t H76 locs ht hvm hw hB hz1 hk1 hS => ?_)
  obtain ⟨v78, f79, ⟨hP1, hK1, hD1, hz2⟩, hff79, her77⟩ := hB
  rw [ht] at hP1 hz2
  have hPD9 := va_join (wr := [(r73, .inr (0, [.ref b74, .int 0, .int 0, .int 0])), (b74, .inl (cB, 24, .inl g75)), (mo, .inr (9, [th, .ref al, md, rf, kn])), (al, .inr (4, [mc, .ref ed, .int (nI cc)])), (ed, .inl (cO, 10, .inr (.inr (.inr (.inr ee))))), (a0, .inr (8, [.int 4, .ref wa0, .ref na0])), (wa0, .inl (cI, 4, .inl fw0)), (na0, .inl (cI, 4, .inl fn0)), (a1, .inr (8, [.int 4, .ref wa1, .ref na1])), (wa1, .inl (cI, 4, .inl fw1)), (na1, .inl (cI, 4, .inl fn1))]) (w1 := [(q59, .inr (1, [.ref v78, .int 0, .int 0, .int (nI 77)])), (v78, .inl (cB, 104, .inl f79))]) hP hD [0, 1] [2, 3, 4, 5, 6, 7, 8, 9, 10, 11, 12] rfl rfl (by decide) (by decide) hk1 hFc hP1 hD1
  clear hPc hDc hFc hDv hpre hP hD hP1 hK1 hD1
  obtain ⟨hP, hD⟩ := hPD9
  replace hz : s.heap.size + 70 ≤ H76.size := by omega
  clear hz2
  replace hP : va_P (dC, dI) vwCl [(r73, .inr (0, [.ref b74, .int 0, .int 0, .int 0])), (b74, .inl (cB, 24, .inl g75)), (mo, .inr (9, [th, .ref al, md, rf, kn])), (al, .inr (4, [mc, .ref ed, .int (nI cc)])), (ed, .inl (cO, 10, .inr (.inr (.inr (.inr ee))))), (a0, .inr (8, [.int 4, .ref wa0, .ref na0])), (wa0, .inl (cI, 4, .inl fw0)), (na0, .inl (cI, 4, .inl fn0)), (a1, .inr (8, [.int 4, .ref wa1, .ref na1])), (wa1, .inl (cI, 4, .inl fw1)), (na1, .inl (cI, 4, .inl fn1)), (q59, .inr (1, [.ref v78, .int 0, .int 0, .int (nI 77)])), (v78, .inl (cB, 104, .inl f79))] H76 := hP
  replace hD : va_D A [(r73, .inr (0, [.ref b74, .int 0, .int 0, .int 0])), (b74, .inl (cB, 24, .inl g75)), (mo, .inr (9, [th, .ref al, md, rf, kn])), (al, .inr (4, [mc, .ref ed, .int (nI cc)])), (ed, .inl (cO, 10, .inr (.inr (.inr (.inr ee))))), (a0, .inr (8, [.int 4, .ref wa0, .ref na0])), (wa0, .inl (cI, 4, .inl fw0)), (na0, .inl (cI, 4, .inl fn0)), (a1, .inr (8, [.int 4, .ref wa1, .ref na1])), (wa1, .inl (cI, 4, .inl fw1)), (na1, .inl (cI, 4, .inl fn1)), (q59, .inr (1, [.ref v78, .int 0, .int 0, .int (nI 77)])), (v78, .inl (cB, 104, .inl f79))] := hD
  refine W.widen (k := 84) (n := 2032044) (by omega) (by omega) ?_
  obtain rfl := her77.symm
  have hP := hP.sub (ws' := [(mo, .inr (9, [th, .ref al, md, rf, kn])), (al, .inr (4, [mc, .ref ed, .int (nI cc)])), (ed, .inl (cO, 10, .inr (.inr (.inr (.inr ee))))), (a0, .inr (8, [.int 4, .ref wa0, .ref na0])), (wa0, .inl (cI, 4, .inl fw0)), (na0, .inl (cI, 4, .inl fn0)), (a1, .inr (8, [.int 4, .ref wa1, .ref na1])), (wa1, .inl (cI, 4, .inl fw1)), (na1, .inl (cI, 4, .inl fn1)), (q59, .inr (1, [.ref v78, .int 0, .int 0, .int (nI 77)])), (v78, .inl (cB, 104, .inl f79))]) [2, 3, 4, 5, 6, 7, 8, 9, 10, 11, 12] rfl
  have hD := hD.sub (ws' := [(mo, .inr (9, [th, .ref al, md, rf, kn])), (al, .inr (4, [mc, .ref ed, .int (nI cc)])), (ed, .inl (cO, 10, .inr (.inr (.inr (.inr ee))))), (a0, .inr (8, [.int 4, .ref wa0, .ref na0])), (wa0, .inl (cI, 4, .inl fw0)), (na0, .inl (cI, 4, .inl fn0)), (a1, .inr (8, [.int 4, .ref wa1, .ref na1])), (wa1, .inl (cI, 4, .inl fw1)), (na1, .inl (cI, 4, .inl fn1)), (q59, .inr (1, [.ref v78, .int 0, .int 0, .int (nI 77)])), (v78, .inl (cB, 104, .inl f79))]) [2, 3, 4, 5, 6, 7, 8, 9, 10, 11, 12] (by decide) rfl
  have hPc := hP.sub (ws' := [(q59, .inr (1, [.ref v78, .int 0, .int 0, .int (nI 77)])), (v78, .inl (cB, 104, .inl f79))]) [9, 10] rfl
  have hDc := hD.sub (ws' := [(q59, .inr (1, [.ref v78, .int 0, .int 0, .int (nI 77)])), (v78, .inl (cB, 104, .inl f79))]) [9, 10] (by decide) rfl
  have hFc := va_free (wc := [(q59, .inr (1, [.ref v78, .int 0, .int 0, .int (nI 77)])), (v78, .inl (cB, 104, .inl f79))]) hD hS hA [9, 10] rfl
  have hDv := hDc.self (sz := H76.size)
  have hpre := zpre (xs' := []) (av := [.ref q59]) hPc hK (hDc.weaken (fun _ _ _ h => h)) hZ hS hFc (fun r hr => by cases hr)
  refine va_callr (va_runV (As := []) (rest := []) ⟨hx, hb, hml, hown, hts⟩ (k_toS l dC dI cI cB cR cO zk q59 v78 104 77 f79 (.int 0) H76.size (by decide) (by decide) hff79) (cwV 0 hts gX4_textOf_J4_toString_0e30d rfl rfl rfl (by decide +kernel) ⟨Nat.le_of_ble_eq_true rfl, Nat.le_of_ble_eq_true rfl⟩) ⟨zblind, (zrecv_1 hK hPc (q0 := 0) rfl), hpre⟩ rfl rfl hl.1 rfl (lv_room (Nat.le_of_ble_eq_true rfl)) dX4_textOf_63 ⟨Nat.le_of_ble_eq_true rfl, Nat.le_of_ble_eq_true rfl⟩) hS (fun q _ h => hFc q h) hFc (fun u r81 t H80 locs ht hvm hw hB hz1 hk1 hS => ?_)
  obtain ⟨b82, g83, ⟨hP1, hK1, hD1, hz2⟩, hfg83⟩ := hB
  rw [ht] at hP1 hz2
  have hPD9 := va_join (wr := [(mo, .inr (9, [th, .ref al, md, rf, kn])), (al, .inr (4, [mc, .ref ed, .int (nI cc)])), (ed, .inl (cO, 10, .inr (.inr (.inr (.inr ee))))), (a0, .inr (8, [.int 4, .ref wa0, .ref na0])), (wa0, .inl (cI, 4, .inl fw0)), (na0, .inl (cI, 4, .inl fn0)), (a1, .inr (8, [.int 4, .ref wa1, .ref na1])), (wa1, .inl (cI, 4, .inl fw1)), (na1, .inl (cI, 4, .inl fn1))]) (w1 := [(r81, .inr (0, [.ref b82, .int 0, .int 0, .int 0])), (b82, .inl (cB, 77, .inl g83)), (q59, .inr (1, [.ref v78, .int 0, .int 0, .int (nI 77)])), (v78, .inl (cB, 104, .inl f79))]) hP hD [9, 10] [0, 1, 2, 3, 4, 5, 6, 7, 8] rfl rfl (by decide) (by decide) hk1 hFc hP1 hD1
  clear hPc hDc hFc hDv hpre hP hD hP1 hK1 hD1
  obtain ⟨hP, hD⟩ := hPD9
  replace hz : s.heap.size + 72 ≤ H80.size := by omega
  clear hz2
  replace hP : va_P (dC, dI) vwCl [(mo, .inr (9, [th, .ref al, md, rf, kn])), (al, .inr (4, [mc, .ref ed, .int (nI cc)])), (ed, .inl (cO, 10, .inr (.inr (.inr (.inr ee))))), (a0, .inr (8, [.int 4, .ref wa0, .ref na0])), (wa0, .inl (cI, 4, .inl fw0)), (na0, .inl (cI, 4, .inl fn0)), (a1, .inr (8, [.int 4, .ref wa1, .ref na1])), (wa1, .inl (cI, 4, .inl fw1)), (na1, .inl (cI, 4, .inl fn1)), (r81, .inr (0, [.ref b82, .int 0, .int 0, .int 0])), (b82, .inl (cB, 77, .inl g83)), (q59, .inr (1, [.ref v78, .int 0, .int 0, .int (nI 77)])), (v78, .inl (cB, 104, .inl f79))] H80 := hP
  replace hD : va_D A [(mo, .inr (9, [th, .ref al, md, rf, kn])), (al, .inr (4, [mc, .ref ed, .int (nI cc)])), (ed, .inl (cO, 10, .inr (.inr (.inr (.inr ee))))), (a0, .inr (8, [.int 4, .ref wa0, .ref na0])), (wa0, .inl (cI, 4, .inl fw0)), (na0, .inl (cI, 4, .inl fn0)), (a1, .inr (8, [.int 4, .ref wa1, .ref na1])), (wa1, .inl (cI, 4, .inl fw1)), (na1, .inl (cI, 4, .inl fn1)), (r81, .inr (0, [.ref b82, .int 0, .int 0, .int 0])), (b82, .inl (cB, 77, .inl g83)), (q59, .inr (1, [.ref v78, .int 0, .int 0, .int (nI 77)])), (v78, .inl (cB, 104, .inl f79))] := hD
  refine W.widen (k := 86) (n := 2097584) (by omega) (by omega) ?_
  have hP := hP.sub (ws' := [(mo, .inr (9, [th, .ref al, md, rf, kn])), (al, .inr (4, [mc, .ref ed, .int (nI cc)])), (ed, .inl (cO, 10, .inr (.inr (.inr (.inr ee))))), (a0, .inr (8, [.int 4, .ref wa0, .ref na0])), (wa0, .inl (cI, 4, .inl fw0)), (na0, .inl (cI, 4, .inl fn0)), (a1, .inr (8, [.int 4, .ref wa1, .ref na1])), (wa1, .inl (cI, 4, .inl fw1)), (na1, .inl (cI, 4, .inl fn1)), (r81, .inr (0, [.ref b82, .int 0, .int 0, .int 0])), (b82, .inl (cB, 77, .inl g83))]) [0, 1, 2, 3, 4, 5, 6, 7, 8, 9, 10] rfl
  have hD := hD.sub (ws' := [(mo, .inr (9, [th, .ref al, md, rf, kn])), (al, .inr (4, [mc, .ref ed, .int (nI cc)])), (ed, .inl (cO, 10, .inr (.inr (.inr (.inr ee))))), (a0, .inr (8, [.int 4, .ref wa0, .ref na0])), (wa0, .inl (cI, 4, .inl fw0)), (na0, .inl (cI, 4, .inl fn0)), (a1, .inr (8, [.int 4, .ref wa1, .ref na1])), (wa1, .inl (cI, 4, .inl fw1)), (na1, .inl (cI, 4, .inl fn1)), (r81, .inr (0, [.ref b82, .int 0, .int 0, .int 0])), (b82, .inl (cB, 77, .inl g83))]) [0, 1, 2, 3, 4, 5, 6, 7, 8, 9, 10] (by decide) rfl
  refine lv_astore_n (lv' := [(3, .ref r81), (4, .int 2), (2, .ref a1), (0, .ref mo), (1, .int 1)]) hx hb dX4_textOf_66 rfl hl (by decide) rfl (fun ls hl => ?_)
  refine lv_iinc (v := 3) (lv' := [(4, .int 3), (3, .ref r81), (2, .ref a1), (0, .ref mo), (1, .int 1)]) hx hb dX4_textOf_67 hl (k := 1) rfl (by decide) (by decide) rfl (fun ls hl => ?_)
  refine lv_goto (tgt := 18) hx hb dX4_textOf_70 (by decide) ?_
  refine lv_iload hx hb dX4_textOf_18 (lv_at hl 0 rfl) ?_
  refine lv_aload_n hx hb dX4_textOf_20 rfl (lv_at hl 2 rfl) ?_
  have hPc := hP.sub (ws' := [(a1, .inr (8, [.int 4, .ref wa1, .ref na1])), (wa1, .inl (cI, 4, .inl fw1))]) [6, 7] rfl
  have hDc := hD.sub (ws' := [(a1, .inr (8, [.int 4, .ref wa1, .ref na1])), (wa1, .inl (cI, 4, .inl fw1))]) [6, 7] (by decide) rfl
  have hFc := va_free (wc := [(a1, .inr (8, [.int 4, .ref wa1, .ref na1])), (wa1, .inl (cI, 4, .inl fw1))]) hD hS hA [6, 7] rfl
  have hDv := hDc.self (sz := H80.size)
  have hpre := zpre (xs' := []) (av := [.ref a1]) hPc hK (hDc.weaken (fun _ _ _ h => h)) hZ hS hFc (fun r hr => by cases hr)
  refine va_calli (va_runV (As := []) (rest := [.int 3]) ⟨hx, hb, hml, hown, hts⟩ (k_rlen l dC dI cI cB cR cO zk a1 wa1 na1 fw1 H80.size ) (cwV 0 hts gX4_textOf_X3_length rfl rfl rfl (by decide +kernel) ⟨Nat.le_of_ble_eq_true rfl, Nat.le_of_ble_eq_true rfl⟩) ⟨zblind, (zrecv_8 hK hPc (q0 := 0) rfl), hpre⟩ rfl rfl hl.1 rfl (lv_room (Nat.le_of_ble_eq_true rfl)) dX4_textOf_21 ⟨Nat.le_of_ble_eq_true rfl, Nat.le_of_ble_eq_true rfl⟩) hS (fun q _ h => hFc q h) hFc (fun r85 u t H84 locs ht hvm hw hB hz1 hk1 hS => ?_)
  obtain rfl : 4 = r85 := (show r85 = 4 from hw).symm
  obtain ⟨hP1, hK1, hD1, hz2⟩ := hB
  rw [ht] at hP1 hz2
  have hPD9 := va_join (wr := [(mo, .inr (9, [th, .ref al, md, rf, kn])), (al, .inr (4, [mc, .ref ed, .int (nI cc)])), (ed, .inl (cO, 10, .inr (.inr (.inr (.inr ee))))), (a0, .inr (8, [.int 4, .ref wa0, .ref na0])), (wa0, .inl (cI, 4, .inl fw0)), (na0, .inl (cI, 4, .inl fn0)), (na1, .inl (cI, 4, .inl fn1)), (r81, .inr (0, [.ref b82, .int 0, .int 0, .int 0])), (b82, .inl (cB, 77, .inl g83))]) (w1 := [(a1, .inr (8, [.int 4, .ref wa1, .ref na1])), (wa1, .inl (cI, 4, .inl fw1))]) hP hD [6, 7] [0, 1, 2, 3, 4, 5, 8, 9, 10] rfl rfl (by decide) (by decide) hk1 hFc hP1 hD1
  clear hPc hDc hFc hDv hpre hP hD hP1 hK1 hD1
  obtain ⟨hP, hD⟩ := hPD9
  replace hz : s.heap.size + 72 ≤ H84.size := by omega
  clear hz2
  replace hP : va_P (dC, dI) vwCl [(mo, .inr (9, [th, .ref al, md, rf, kn])), (al, .inr (4, [mc, .ref ed, .int (nI cc)])), (ed, .inl (cO, 10, .inr (.inr (.inr (.inr ee))))), (a0, .inr (8, [.int 4, .ref wa0, .ref na0])), (wa0, .inl (cI, 4, .inl fw0)), (na0, .inl (cI, 4, .inl fn0)), (na1, .inl (cI, 4, .inl fn1)), (r81, .inr (0, [.ref b82, .int 0, .int 0, .int 0])), (b82, .inl (cB, 77, .inl g83)), (a1, .inr (8, [.int 4, .ref wa1, .ref na1])), (wa1, .inl (cI, 4, .inl fw1))] H84 := hP
  replace hD : va_D A [(mo, .inr (9, [th, .ref al, md, rf, kn])), (al, .inr (4, [mc, .ref ed, .int (nI cc)])), (ed, .inl (cO, 10, .inr (.inr (.inr (.inr ee))))), (a0, .inr (8, [.int 4, .ref wa0, .ref na0])), (wa0, .inl (cI, 4, .inl fw0)), (na0, .inl (cI, 4, .inl fn0)), (na1, .inl (cI, 4, .inl fn1)), (r81, .inr (0, [.ref b82, .int 0, .int 0, .int 0])), (b82, .inl (cB, 77, .inl g83)), (a1, .inr (8, [.int 4, .ref wa1, .ref na1])), (wa1, .inl (cI, 4, .inl fw1))] := hD
  refine W.widen (k := 86) (n := 2097584) (by omega) (by omega) ?_
  refine lv_icmp_ge (tgt := 73) hx hb dX4_textOf_24 (by decide) (fun c9 => ?_) (fun c9 => ?_)
  · exact absurd c9 (by decide)
  refine zw_new (ci := 1) (fs := [.null, .int 0, .int 0, .int 0]) (C := RJ4) (T := TJ4) (N := 4) hx hb hts hi_X4_textOf_J4 tyJ4 tyJ4_ok hown (hts (.classLink RX4 165 RJ4) (List.mem_cons_of_mem _ zw_1388)) (hts (.instantiable RJ4 4) (List.mem_cons_of_mem _ zw_139)) (hts (.initialized RJ4) (List.mem_cons_of_mem _ zw_47)) hK hP hD hS hA rfl (fun j hj => by rcases (show j = 0 ∨ j = 1 ∨ j = 2 ∨ j = 3 by omega) with rfl | rfl | rfl | rfl <;> rfl) (Nat.le_of_ble_eq_true rfl) (Nat.le_of_ble_eq_true rfl) dX4_textOf_27 hz (fun q86 H87 hP hD hS hz => ?_)
  replace hP : va_P (dC, dI) vwCl [(mo, .inr (9, [th, .ref al, md, rf, kn])), (al, .inr (4, [mc, .ref ed, .int (nI cc)])), (ed, .inl (cO, 10, .inr (.inr (.inr (.inr ee))))), (a0, .inr (8, [.int 4, .ref wa0, .ref na0])), (wa0, .inl (cI, 4, .inl fw0)), (na0, .inl (cI, 4, .inl fn0)), (na1, .inl (cI, 4, .inl fn1)), (r81, .inr (0, [.ref b82, .int 0, .int 0, .int 0])), (b82, .inl (cB, 77, .inl g83)), (a1, .inr (8, [.int 4, .ref wa1, .ref na1])), (wa1, .inl (cI, 4, .inl fw1)), (q86, .inr (1, [.null, .int 0, .int 0, .int 0]))] H87 := hP
  replace hD : va_D A [(mo, .inr (9, [th, .ref al, md, rf, kn])), (al, .inr (4, [mc, .ref ed, .int (nI cc)])), (ed, .inl (cO, 10, .inr (.inr (.inr (.inr ee))))), (a0, .inr (8, [.int 4, .ref wa0, .ref na0])), (wa0, .inl (cI, 4, .inl fw0)), (na0, .inl (cI, 4, .inl fn0)), (na1, .inl (cI, 4, .inl fn1)), (r81, .inr (0, [.ref b82, .int 0, .int 0, .int 0])), (b82, .inl (cB, 77, .inl g83)), (a1, .inr (8, [.int 4, .ref wa1, .ref na1])), (wa1, .inl (cI, 4, .inl fw1)), (q86, .inr (1, [.null, .int 0, .int 0, .int 0]))] := hD
  refine W.widen (k := 87) (n := 2097588) (by omega) (by omega) ?_
  refine lv_dup hx hb dX4_textOf_30 rfl ?_
  have hPc := hP.sub (ws' := [(q86, .inr (1, [.null, .int 0, .int 0, .int 0]))]) [11] rfl
  have hDc := hD.sub (ws' := [(q86, .inr (1, [.null, .int 0, .int 0, .int 0]))]) [11] (by decide) rfl
  have hFc := va_free (wc := [(q86, .inr (1, [.null, .int 0, .int 0, .int 0]))]) hD hS hA [11] rfl
  have hDv := hDc.self (sz := H87.size)
  have hpre := zpre (xs' := []) (av := [.ref q86]) hPc hK (hDc.weaken (fun _ _ _ h => h)) hZ hS hFc (fun r hr => by cases hr)
  refine va_callv (va_runI (As := []) (rest := [.ref q86]) ⟨hx, hb, hml, hown, hts⟩ (k_init4 l dC dI cI cB cR cO zk q86 H87.size ) (cwI 0 hts gX4_textOf_J4_init_da8c8 rfl rfl rfl (hts (.initialized RJ4) (List.mem_cons_of_mem _ zw_47)) (hts (.methodLink RX4 167 yJ4_init_da8c8) (List.mem_cons_of_mem _ zw_1389)) (hts (.instanceMethod yJ4_init_da8c8) (List.mem_cons_of_mem _ zw_141)) rfl (by decide +kernel) ⟨Nat.le_of_ble_eq_true rfl, Nat.le_of_ble_eq_true rfl⟩) ⟨zblind, hpre⟩ rfl rfl hl.1 rfl (lv_room (Nat.le_of_ble_eq_true rfl)) dX4_textOf_31 ⟨Nat.le_of_ble_eq_true rfl, Nat.le_of_ble_eq_true rfl⟩) hS (fun q _ h => hFc q h) hFc (fun u t H88 locs ht hvm hw hB hz1 hk1 hS => ?_)
  obtain ⟨w90, ⟨hP1, hK1, hD1, hz2⟩⟩ := hB
  rw [ht] at hP1 hz2
  have hPD9 := va_join (wr := [(mo, .inr (9, [th, .ref al, md, rf, kn])), (al, .inr (4, [mc, .ref ed, .int (nI cc)])), (ed, .inl (cO, 10, .inr (.inr (.inr (.inr ee))))), (a0, .inr (8, [.int 4, .ref wa0, .ref na0])), (wa0, .inl (cI, 4, .inl fw0)), (na0, .inl (cI, 4, .inl fn0)), (na1, .inl (cI, 4, .inl fn1)), (r81, .inr (0, [.ref b82, .int 0, .int 0, .int 0])), (b82, .inl (cB, 77, .inl g83)), (a1, .inr (8, [.int 4, .ref wa1, .ref na1])), (wa1, .inl (cI, 4, .inl fw1))]) (w1 := [(q86, .inr (1, [.ref w90, .int 0, .int 0, .int 0])), (w90, .inl (cB, 16, .inl (fun _ => 0)))]) hP hD [11] [0, 1, 2, 3, 4, 5, 6, 7, 8, 9, 10] rfl rfl (by decide) (by decide) hk1 hFc hP1 hD1
  clear hPc hDc hFc hDv hpre hP hD hP1 hK1 hD1
  obtain ⟨hP, hD⟩ := hPD9
  replace hz : s.heap.size + 74 ≤ H88.size := by omega
  clear hz2
  replace hP : va_P (dC, dI) vwCl [(mo, .inr (9, [th, .ref al, md, rf, kn])), (al, .inr (4, [mc, .ref ed, .int (nI cc)])), (ed, .inl (cO, 10, .inr (.inr (.inr (.inr ee))))), (a0, .inr (8, [.int 4, .ref wa0, .ref na0])), (wa0, .inl (cI, 4, .inl fw0)), (na0, .inl (cI, 4, .inl fn0)), (na1, .inl (cI, 4, .inl fn1)), (r81, .inr (0, [.ref b82, .int 0, .int 0, .int 0])), (b82, .inl (cB, 77, .inl g83)), (a1, .inr (8, [.int 4, .ref wa1, .ref na1])), (wa1, .inl (cI, 4, .inl fw1)), (q86, .inr (1, [.ref w90, .int 0, .int 0, .int 0])), (w90, .inl (cB, 16, .inl (fun _ => 0)))] H88 := hP
  replace hD : va_D A [(mo, .inr (9, [th, .ref al, md, rf, kn])), (al, .inr (4, [mc, .ref ed, .int (nI cc)])), (ed, .inl (cO, 10, .inr (.inr (.inr (.inr ee))))), (a0, .inr (8, [.int 4, .ref wa0, .ref na0])), (wa0, .inl (cI, 4, .inl fw0)), (na0, .inl (cI, 4, .inl fn0)), (na1, .inl (cI, 4, .inl fn1)), (r81, .inr (0, [.ref b82, .int 0, .int 0, .int 0])), (b82, .inl (cB, 77, .inl g83)), (a1, .inr (8, [.int 4, .ref wa1, .ref na1])), (wa1, .inl (cI, 4, .inl fw1)), (q86, .inr (1, [.ref w90, .int 0, .int 0, .int 0])), (w90, .inl (cB, 16, .inl (fun _ => 0)))] := hD
  refine W.widen (k := 88) (n := 2097604) (by omega) (by omega) ?_
  refine lv_aload_n hx hb dX4_textOf_34 rfl (lv_at hl 1 rfl) ?_
  have hPc := hP.sub (ws' := [(q86, .inr (1, [.ref w90, .int 0, .int 0, .int 0])), (w90, .inl (cB, 16, .inl (fun _ => 0)))]) [11, 12] rfl
  have hDc := hD.sub (ws' := [(q86, .inr (1, [.ref w90, .int 0, .int 0, .int 0])), (w90, .inl (cB, 16, .inl (fun _ => 0)))]) [11, 12] (by decide) rfl
  have hFc := va_free (wc := [(q86, .inr (1, [.ref w90, .int 0, .int 0, .int 0])), (w90, .inl (cB, 16, .inl (fun _ => 0)))]) hD hS hA [11, 12] rfl
  have hDv := hDc.self (sz := H88.size)
  have hx0 : zS (r81, b82, 77, g83) (va_A [(q86, .inr (1, [.ref w90, .int 0, .int 0, .int 0])), (w90, .inl (cB, 16, .inl (fun _ => 0)))] H88.size) s H88 := zS.ofW hts hi_X4_textOf_J0 hK hP 7 8 1 rfl rfl rfl hfg83 (znot hP hD [11, 12] rfl 7 rfl (by decide)) (znot hP hD [11, 12] rfl 8 rfl (by decide))
  have hpre := zpre (xs' := [(r81, b82, 77, g83)]) (av := [.ref q86, .ref r81]) hPc hK (hDc.weaken (fun _ _ _ h => h)) hZ hS hFc (fun r hr => by cases hr with | head => exact hx0 | tail _ h => cases h)
  refine va_callr (va_runV (As := [.ref r81]) (rest := []) ⟨hx, hb, hml, hown, hts⟩ (k_apB l dC dI cI cB cR cO zk q86 w90 r81 b82 77 16 0 g83 (fun _ => 0) (.int 0) H88.size (by decide) (by decide) (by decide) sb_fit0 (by decide) (by decide)) (cwV 1 hts gX4_textOf_J4_append_15ec4 rfl rfl rfl (by decide +kernel) ⟨Nat.le_of_ble_eq_true rfl, Nat.le_of_ble_eq_true rfl⟩) ⟨zblind, (zrecv_1 hK hPc (q0 := 0) rfl), hpre⟩ rfl rfl hl.1 rfl (lv_room (Nat.le_of_ble_eq_true rfl)) dX4_textOf_35 ⟨Nat.le_of_ble_eq_true rfl, Nat.le_of_ble_eq_true rfl⟩) hS (fun q _ h => hFc q h) hFc (fun u r92 t H91 locs ht hvm hw hB hz1 hk1 hS => ?_)
  obtain ⟨v93, f94, ⟨hP1, hK1, hD1, hz2⟩, hff94, her92⟩ := hB
  rw [ht] at hP1 hz2
  have hPD9 := va_join (wr := [(mo, .inr (9, [th, .ref al, md, rf, kn])), (al, .inr (4, [mc, .ref ed, .int (nI cc)])), (ed, .inl (cO, 10, .inr (.inr (.inr (.inr ee))))), (a0, .inr (8, [.int 4, .ref wa0, .ref na0])), (wa0, .inl (cI, 4, .inl fw0)), (na0, .inl (cI, 4, .inl fn0)), (na1, .inl (cI, 4, .inl fn1)), (r81, .inr (0, [.ref b82, .int 0, .int 0, .int 0])), (b82, .inl (cB, 77, .inl g83)), (a1, .inr (8, [.int 4, .ref wa1, .ref na1])), (wa1, .inl (cI, 4, .inl fw1))]) (w1 := [(q86, .inr (1, [.ref v93, .int 0, .int 0, .int (nI 77)])), (v93, .inl (cB, 77, .inl f94))]) hP hD [11, 12] [0, 1, 2, 3, 4, 5, 6, 7, 8, 9, 10] rfl rfl (by decide) (by decide) hk1 hFc hP1 hD1
  clear hPc hDc hFc hDv hpre hP hD hP1 hK1 hD1
  obtain ⟨hP, hD⟩ := hPD9
  replace hz : s.heap.size + 74 ≤ H91.size := by omega
  clear hz2
  replace hP : va_P (dC, dI) vwCl [(mo, .inr (9, [th, .ref al, md, rf, kn])), (al, .inr (4, [mc, .ref ed, .int (nI cc)])), (ed, .inl (cO, 10, .inr (.inr (.inr (.inr ee))))), (a0, .inr (8, [.int 4, .ref wa0, .ref na0])), (wa0, .inl (cI, 4, .inl fw0)), (na0, .inl (cI, 4, .inl fn0)), (na1, .inl (cI, 4, .inl fn1)), (r81, .inr (0, [.ref b82, .int 0, .int 0, .int 0])), (b82, .inl (cB, 77, .inl g83)), (a1, .inr (8, [.int 4, .ref wa1, .ref na1])), (wa1, .inl (cI, 4, .inl fw1)), (q86, .inr (1, [.ref v93, .int 0, .int 0, .int (nI 77)])), (v93, .inl (cB, 77, .inl f94))] H91 := hP
  replace hD : va_D A [(mo, .inr (9, [th, .ref al, md, rf, kn])), (al, .inr (4, [mc, .ref ed, .int (nI cc)])), (ed, .inl (cO, 10, .inr (.inr (.inr (.inr ee))))), (a0, .inr (8, [.int 4, .ref wa0, .ref na0])), (wa0, .inl (cI, 4, .inl fw0)), (na0, .inl (cI, 4, .inl fn0)), (na1, .inl (cI, 4, .inl fn1)), (r81, .inr (0, [.ref b82, .int 0, .int 0, .int 0])), (b82, .inl (cB, 77, .inl g83)), (a1, .inr (8, [.int 4, .ref wa1, .ref na1])), (wa1, .inl (cI, 4, .inl fw1)), (q86, .inr (1, [.ref v93, .int 0, .int 0, .int (nI 77)])), (v93, .inl (cB, 77, .inl f94))] := hD
  refine W.widen (k := 89) (n := 2163140) (by omega) (by omega) ?_
  obtain rfl := her92.symm
  have hP := hP.sub (ws' := [(mo, .inr (9, [th, .ref al, md, rf, kn])), (al, .inr (4, [mc, .ref ed, .int (nI cc)])), (ed, .inl (cO, 10, .inr (.inr (.inr (.inr ee))))), (a0, .inr (8, [.int 4, .ref wa0, .ref na0])), (wa0, .inl (cI, 4, .inl fw0)), (na0, .inl (cI, 4, .inl fn0)), (na1, .inl (cI, 4, .inl fn1)), (a1, .inr (8, [.int 4, .ref wa1, .ref na1])), (wa1, .inl (cI, 4, .inl fw1)), (q86, .inr (1, [.ref v93, .int 0, .int 0, .int (nI 77)])), (v93, .inl (cB, 77, .inl f94))]) [0, 1, 2, 3, 4, 5, 6, 9, 10, 11, 12] rfl
  have hD := hD.sub (ws' := [(mo, .inr (9, [th, .ref al, md, rf, kn])), (al, .inr (4, [mc, .ref ed, .int (nI cc)])), (ed, .inl (cO, 10, .inr (.inr (.inr (.inr ee))))), (a0, .inr (8, [.int 4, .ref wa0, .ref na0])), (wa0, .inl (cI, 4, .inl fw0)), (na0, .inl (cI, 4, .inl fn0)), (na1, .inl (cI, 4, .inl fn1)), (a1, .inr (8, [.int 4, .ref wa1, .ref na1])), (wa1, .inl (cI, 4, .inl fw1)), (q86, .inr (1, [.ref v93, .int 0, .int 0, .int (nI 77)])), (v93, .inl (cB, 77, .inl f94))]) [0, 1, 2, 3, 4, 5, 6, 9, 10, 11, 12] (by decide) rfl
  refine lv_iload hx hb dX4_textOf_38 (lv_at hl 0 rfl) ?_
  refine lv_if_le (tgt := 48) hx hb dX4_textOf_40 (by decide) (fun c9 => ?_) (fun c9 => ?_)
  · exact absurd c9 (by decide)
  refine va_ldcS (own := RX4) (tx := ", ") (q := zk 3) hx hb hown (zl2 hZ) dX4_textOf_43 ?_
  refine lv_goto (tgt := 50) hx hb dX4_textOf_45 (by decide) ?_
  have hPc := hP.sub (ws' := [(q86, .inr (1, [.ref v93, .int 0, .int 0, .int (nI 77)])), (v93, .inl (cB, 77, .inl f94))]) [9, 10] rfl
  have hDc := hD.sub (ws' := [(q86, .inr (1, [.ref v93, .int 0, .int 0, .int (nI 77)])), (v93, .inl (cB, 77, .inl f94))]) [9, 10] (by decide) rfl
  have hFc := va_free (wc := [(q86, .inr (1, [.ref v93, .int 0, .int 0, .int (nI 77)])), (v93, .inl (cB, 77, .inl f94))]) hD hS hA [9, 10] rfl
  have hDv := hDc.self (sz := H91.size)
  have hx0 : zS ((zk 3), (zk 13), 2, (fun j => (zByt.getD 2 []).getD j 0)) (va_A [(q86, .inr (1, [.ref v93, .int 0, .int 0, .int (nI 77)])), (v93, .inl (cB, 77, .inl f94))] H91.size) s H91 := zc2 hZ hS hFc
  have hpre := zpre (xs' := [((zk 3), (zk 13), 2, (fun j => (zByt.getD 2 []).getD j 0))]) (av := [.ref q86, .ref (zk 3)]) hPc hK (hDc.weaken (fun _ _ _ h => h)) hZ hS hFc (fun r hr => by cases hr with | head => exact hx0 | tail _ h => cases h)
  refine va_callr (va_runV (As := [.ref (zk 3)]) (rest := []) ⟨hx, hb, hml, hown, hts⟩ (k_apB l dC dI cI cB cR cO zk q86 v93 (zk 3) (zk 13) 2 77 77 (fun j => (zByt.getD 2 []).getD j 0) f94 (.int 0) H91.size (by decide) (by decide) (by decide) hff94 (by decide) (by decide)) (cwV 1 hts gX4_textOf_J4_append_15ec4 rfl rfl rfl (by decide +kernel) ⟨Nat.le_of_ble_eq_true rfl, Nat.le_of_ble_eq_true rfl⟩) ⟨zblind, (zrecv_1 hK hPc (q0 := 0) rfl), hpre⟩ rfl rfl hl.1 rfl (lv_room (Nat.le_of_ble_eq_true rfl)) dX4_textOf_50 ⟨Nat.le_of_ble_eq_true rfl, Nat.le_of_ble_eq_true rfl⟩) hS (fun q _ h => hFc q h) hFc (fun u r96 t H95 locs ht hvm hw hB hz1 hk1 hS => ?_)
  obtain ⟨v97, f98, ⟨hP1, hK1, hD1, hz2⟩, hff98, her96⟩ := hB
  rw [ht] at hP1 hz2
  have hPD9 := va_join (wr := [(mo, .inr (9, [th, .ref al, md, rf, kn])), (al, .inr (4, [mc, .ref ed, .int (nI cc)])), (ed, .inl (cO, 10, .inr (.inr (.inr (.inr ee))))), (a0, .inr (8, [.int 4, .ref wa0, .ref na0])), (wa0, .inl (cI, 4, .inl fw0)), (na0, .inl (cI, 4, .inl fn0)), (na1, .inl (cI, 4, .inl fn1)), (a1, .inr (8, [.int 4, .ref wa1, .ref na1])), (wa1, .inl (cI, 4, .inl fw1))]) (w1 := [(q86, .inr (1, [.ref v97, .int 0, .int 0, .int (nI 79)])), (v97, .inl (cB, 156, .inl f98))]) hP hD [9, 10] [0, 1, 2, 3, 4, 5, 6, 7, 8] rfl rfl (by decide) (by decide) hk1 hFc hP1 hD1
  clear hPc hDc hFc hDv hpre hP hD hP1 hK1 hD1
  obtain ⟨hP, hD⟩ := hPD9
  replace hz : s.heap.size + 74 ≤ H95.size := by omega
  clear hz2
  replace hP : va_P (dC, dI) vwCl [(mo, .inr (9, [th, .ref al, md, rf, kn])), (al, .inr (4, [mc, .ref ed, .int (nI cc)])), (ed, .inl (cO, 10, .inr (.inr (.inr (.inr ee))))), (a0, .inr (8, [.int 4, .ref wa0, .ref na0])), (wa0, .inl (cI, 4, .inl fw0)), (na0, .inl (cI, 4, .inl fn0)), (na1, .inl (cI, 4, .inl fn1)), (a1, .inr (8, [.int 4, .ref wa1, .ref na1])), (wa1, .inl (cI, 4, .inl fw1)), (q86, .inr (1, [.ref v97, .int 0, .int 0, .int (nI 79)])), (v97, .inl (cB, 156, .inl f98))] H95 := hP
  replace hD : va_D A [(mo, .inr (9, [th, .ref al, md, rf, kn])), (al, .inr (4, [mc, .ref ed, .int (nI cc)])), (ed, .inl (cO, 10, .inr (.inr (.inr (.inr ee))))), (a0, .inr (8, [.int 4, .ref wa0, .ref na0])), (wa0, .inl (cI, 4, .inl fw0)), (na0, .inl (cI, 4, .inl fn0)), (na1, .inl (cI, 4, .inl fn1)), (a1, .inr (8, [.int 4, .ref wa1, .ref na1])), (wa1, .inl (cI, 4, .inl fw1)), (q86, .inr (1, [.ref v97, .int 0, .int 0, .int (nI 79)])), (v97, .inl (cB, 156, .inl f98))] := hD
  refine W.widen (k := 90) (n := 2228676) (by omega) (by omega) ?_
  obtain rfl := her96.symm
  refine lv_aload_n hx hb dX4_textOf_53 rfl (lv_at hl 3 rfl) ?_
  refine lv_aload_n hx hb dX4_textOf_54 rfl (lv_at hl 2 rfl) ?_
  refine lv_iload hx hb dX4_textOf_55 (lv_at hl 0 rfl) ?_
  have hPc := hP.sub (ws' := [(mo, .inr (9, [th, .ref al, md, rf, kn])), (al, .inr (4, [mc, .ref ed, .int (nI cc)])), (ed, .inl (cO, 10, .inr (.inr (.inr (.inr ee))))), (a0, .inr (8, [.int 4, .ref wa0, .ref na0])), (wa0, .inl (cI, 4, .inl fw0)), (na0, .inl (cI, 4, .inl fn0)), (a1, .inr (8, [.int 4, .ref wa1, .ref na1])), (wa1, .inl (cI, 4, .inl fw1)), (na1, .inl (cI, 4, .inl fn1))]) [0, 1, 2, 3, 4, 5, 7, 8, 6] rfl
  have hDc := hD.sub (ws' := [(mo, .inr (9, [th, .ref al, md, rf, kn])), (al, .inr (4, [mc, .ref ed, .int (nI cc)])), (ed, .inl (cO, 10, .inr (.inr (.inr (.inr ee))))), (a0, .inr (8, [.int 4, .ref wa0, .ref na0])), (wa0, .inl (cI, 4, .inl fw0)), (na0, .inl (cI, 4, .inl fn0)), (a1, .inr (8, [.int 4, .ref wa1, .ref na1])), (wa1, .inl (cI, 4, .inl fw1)), (na1, .inl (cI, 4, .inl fn1))]) [0, 1, 2, 3, 4, 5, 7, 8, 6] (by decide) rfl
  have hFc := va_free (wc := [(mo, .inr (9, [th, .ref al, md, rf, kn])), (al, .inr (4, [mc, .ref ed, .int (nI cc)])), (ed, .inl (cO, 10, .inr (.inr (.inr (.inr ee))))), (a0, .inr (8, [.int 4, .ref wa0, .ref na0])), (wa0, .inl (cI, 4, .inl fw0)), (na0, .inl (cI, 4, .inl fn0)), (a1, .inr (8, [.int 4, .ref wa1, .ref na1])), (wa1, .inl (cI, 4, .inl fw1)), (na1, .inl (cI, 4, .inl fn1))]) hD hS hA [0, 1, 2, 3, 4, 5, 7, 8, 6] rfl
  have hDv := hDc.self (sz := H95.size)
  have hpre := zpre (xs' := []) (av := [.ref mo, .ref a1, .int 3]) hPc hK (hDc.weaken (fun _ _ _ h => h)) hZ hS hFc (fun r hr => by cases hr)
  refine va_callr (va_runV (As := [.ref a1, .int 3]) (rest := [.ref q86]) ⟨hx, hb, hml, hown, hts⟩ (k_tAt1_3 l dC dI cI cB cR cO zk mo al ed cc ee th md rf kn mc a0 wa0 na0 a1 wa1 na1 fw0 fn0 fw1 fn1 H95.size hcc hcc2 hw0 hn0 he0 hw1 hn1 he1) (cwV 2 hts gX4_textOf_X4_textAt rfl rfl rfl (by decide +kernel) ⟨Nat.le_of_ble_eq_true rfl, Nat.le_of_ble_eq_true rfl⟩) ⟨zblind, (zrecv_9 hK hPc (q0 := 0) rfl), hpre⟩ rfl rfl hl.1 rfl (lv_room (Nat.le_of_ble_eq_true rfl)) dX4_textOf_57 ⟨Nat.le_of_ble_eq_true rfl, Nat.le_of_ble_eq_true rfl⟩) hS (fun q _ h => hFc q h) hFc (fun u r100 t H99 locs ht hvm hw hB hz1 hk1 hS => ?_)
  obtain ⟨b101, g102, ⟨hP1, hK1, hD1, hz2⟩, hfg102⟩ := hB
  rw [ht] at hP1 hz2
  have hPD9 := va_join (wr := [(q86, .inr (1, [.ref v97, .int 0, .int 0, .int (nI 79)])), (v97, .inl (cB, 156, .inl f98))]) (w1 := [(r100, .inr (0, [.ref b101, .int 0, .int 0, .int 0])), (b101, .inl (cB, 24, .inl g102)), (mo, .inr (9, [th, .ref al, md, rf, kn])), (al, .inr (4, [mc, .ref ed, .int (nI cc)])), (ed, .inl (cO, 10, .inr (.inr (.inr (.inr ee))))), (a0, .inr (8, [.int 4, .ref wa0, .ref na0])), (wa0, .inl (cI, 4, .inl fw0)), (na0, .inl (cI, 4, .inl fn0)), (a1, .inr (8, [.int 4, .ref wa1, .ref na1])), (wa1, .inl (cI, 4, .inl fw1)), (na1, .inl (cI, 4, .inl fn1))]) hP hD [0, 1, 2, 3, 4, 5, 7, 8, 6] [9, 10] rfl rfl (by decide) (by decide) hk1 hFc hP1 hD1
  clear hPc hDc hFc hDv hpre hP hD hP1 hK1 hD1
  obtain ⟨hP, hD⟩ := hPD9
  replace hz : s.heap.size + 94 ≤ H99.size := by omega
  clear hz2
  replace hP : va_P (dC, dI) vwCl [(q86, .inr (1, [.ref v97, .int 0, .int 0, .int (nI 79)])), (v97, .inl (cB, 156, .inl f98)), (r100, .inr (0, [.ref b101, .int 0, .int 0, .int 0])), (b101, .inl (cB, 24, .inl g102)), (mo, .inr (9, [th, .ref al, md, rf, kn])), (al, .inr (4, [mc, .ref ed, .int (nI cc)])), (ed, .inl (cO, 10, .inr (.inr (.inr (.inr ee))))), (a0, .inr (8, [.int 4, .ref wa0, .ref na0])), (wa0, .inl (cI, 4, .inl fw0)), (na0, .inl (cI, 4, .inl fn0)), (a1, .inr (8, [.int 4, .ref wa1, .ref na1])), (wa1, .inl (cI, 4, .inl fw1)), (na1, .inl (cI, 4, .inl fn1))] H99 := hP
  replace hD : va_D A [(q86, .inr (1, [.ref v97, .int 0, .int 0, .int (nI 79)])), (v97, .inl (cB, 156, .inl f98)), (r100, .inr (0, [.ref b101, .int 0, .int 0, .int 0])), (b101, .inl (cB, 24, .inl g102)), (mo, .inr (9, [th, .ref al, md, rf, kn])), (al, .inr (4, [mc, .ref ed, .int (nI cc)])), (ed, .inl (cO, 10, .inr (.inr (.inr (.inr ee))))), (a0, .inr (8, [.int 4, .ref wa0, .ref na0])), (wa0, .inl (cI, 4, .inl fw0)), (na0, .inl (cI, 4, .inl fn0)), (a1, .inr (8, [.int 4, .ref wa1, .ref na1])), (wa1, .inl (cI, 4, .inl fw1)), (na1, .inl (cI, 4, .inl fn1))] := hD
  refine W.widen (k := 113) (n := 2753084) (by omega) (by omega) ?_
  have hPc := hP.sub (ws' := [(q86, .inr (1, [.ref v97, .int 0, .int 0, .int (nI 79)])), (v97, .inl (cB, 156, .inl f98))]) [0, 1] rfl
  have hDc := hD.sub (ws' := [(q86, .inr (1, [.ref v97, .int 0, .int 0, .int (nI 79)])), (v97, .inl (cB, 156, .inl f98))]) [0, 1] (by decide) rfl
  have hFc := va_free (wc := [(q86, .inr (1, [.ref v97, .int 0, .int 0, .int (nI 79)])), (v97, .inl (cB, 156, .inl f98))]) hD hS hA [0, 1] rfl
  have hDv := hDc.self (sz := H99.size)
  have hx0 : zS (r100, b101, 24, g102) (va_A [(q86, .inr (1, [.ref v97, .int 0, .int 0, .int (nI 79)])), (v97, .inl (cB, 156, .inl f98))] H99.size) s H99 := zS.ofW hts hi_X4_textOf_J0 hK hP 2 3 1 rfl rfl rfl hfg102 (znot hP hD [0, 1] rfl 2 rfl (by decide)) (znot hP hD [0, 1] rfl 3 rfl (by decide))
  have hpre := zpre (xs' := [(r100, b101, 24, g102)]) (av := [.ref q86, .ref r100]) hPc hK (hDc.weaken (fun _ _ _ h => h)) hZ hS hFc (fun r hr => by cases hr with | head => exact hx0 | tail _ h => cases h)
  refine va_callr (va_runV (As := [.ref r100]) (rest := []) ⟨hx, hb, hml, hown, hts⟩ (k_apA l dC dI cI cB cR cO zk q86 v97 r100 b101 24 156 79 g102 f98 (.int 0) H99.size (by decide) (by decide) (by decide) hff98 (by decide)) (cwV 1 hts gX4_textOf_J4_append_15ec4 rfl rfl rfl (by decide +kernel) ⟨Nat.le_of_ble_eq_true rfl, Nat.le_of_ble_eq_true rfl⟩) ⟨zblind, (zrecv_1 hK hPc (q0 := 0) rfl), hpre⟩ rfl rfl hl.1 rfl (lv_room (Nat.le_of_ble_eq_true rfl)) dX4_textOf_60 ⟨Nat.le_of_ble_eq_true rfl, Nat.le_of_ble_eq_true rfl⟩) hS (fun q _ h => hFc q h) hFc (fun u r104 t H103 locs ht hvm hw hB hz1 hk1 hS => ?_)
  obtain ⟨v105, f106, ⟨hP1, hK1, hD1, hz2⟩, hff106, her104⟩ := hB
  rw [ht] at hP1 hz2
  have hPD9 := va_join (wr := [(r100, .inr (0, [.ref b101, .int 0, .int 0, .int 0])), (b101, .inl (cB, 24, .inl g102)), (mo, .inr (9, [th, .ref al, md, rf, kn])), (al, .inr (4, [mc, .ref ed, .int (nI cc)])), (ed, .inl (cO, 10, .inr (.inr (.inr (.inr ee))))), (a0, .inr (8, [.int 4, .ref wa0, .ref na0])), (wa0, .inl (cI, 4, .inl fw0)), (na0, .inl (cI, 4, .inl fn0)), (a1, .inr (8, [.int 4, .ref wa1, .ref na1])), (wa1, .inl (cI, 4, .inl fw1)), (na1, .inl (cI, 4, .inl fn1))]) (w1 := [(q86, .inr (1, [.ref v105, .int 0, .int 0, .int (nI 103)])), (v105, .inl (cB, 156, .inl f106))]) hP hD [0, 1] [2, 3, 4, 5, 6, 7, 8, 9, 10, 11, 12] rfl rfl (by decide) (by decide) hk1 hFc hP1 hD1
  clear hPc hDc hFc hDv hpre hP hD hP1 hK1 hD1
  obtain ⟨hP, hD⟩ := hPD9
  replace hz : s.heap.size + 94 ≤ H103.size := by omega
  clear hz2
  replace hP : va_P (dC, dI) vwCl [(r100, .inr (0, [.ref b101, .int 0, .int 0, .int 0])), (b101, .inl (cB, 24, .inl g102)), (mo, .inr (9, [th, .ref al, md, rf, kn])), (al, .inr (4, [mc, .ref ed, .int (nI cc)])), (ed, .inl (cO, 10, .inr (.inr (.inr (.inr ee))))), (a0, .inr (8, [.int 4, .ref wa0, .ref na0])), (wa0, .inl (cI, 4, .inl fw0)), (na0, .inl (cI, 4, .inl fn0)), (a1, .inr (8, [.int 4, .ref wa1, .ref na1])), (wa1, .inl (cI, 4, .inl fw1)), (na1, .inl (cI, 4, .inl fn1)), (q86, .inr (1, [.ref v105, .int 0, .int 0, .int (nI 103)])), (v105, .inl (cB, 156, .inl f106))] H103 := hP
  replace hD : va_D A [(r100, .inr (0, [.ref b101, .int 0, .int 0, .int 0])), (b101, .inl (cB, 24, .inl g102)), (mo, .inr (9, [th, .ref al, md, rf, kn])), (al, .inr (4, [mc, .ref ed, .int (nI cc)])), (ed, .inl (cO, 10, .inr (.inr (.inr (.inr ee))))), (a0, .inr (8, [.int 4, .ref wa0, .ref na0])), (wa0, .inl (cI, 4, .inl fw0)), (na0, .inl (cI, 4, .inl fn0)), (a1, .inr (8, [.int 4, .ref wa1, .ref na1])), (wa1, .inl (cI, 4, .inl fw1)), (na1, .inl (cI, 4, .inl fn1)), (q86, .inr (1, [.ref v105, .int 0, .int 0, .int (nI 103)])), (v105, .inl (cB, 156, .inl f106))] := hD
  refine W.widen (k := 113) (n := 2753084) (by omega) (by omega) ?_
  obtain rfl := her104.symm
  have hP := hP.sub (ws' := [(mo, .inr (9, [th, .ref al, md, rf, kn])), (al, .inr (4, [mc, .ref ed, .int (nI cc)])), (ed, .inl (cO, 10, .inr (.inr (.inr (.inr ee))))), (a0, .inr (8, [.int 4, .ref wa0, .ref na0])), (wa0, .inl (cI, 4, .inl fw0)), (na0, .inl (cI, 4, .inl fn0)), (a1, .inr (8, [.int 4, .ref wa1, .ref na1])), (wa1, .inl (cI, 4, .inl fw1)), (na1, .inl (cI, 4, .inl fn1)), (q86, .inr (1, [.ref v105, .int 0, .int 0, .int (nI 103)])), (v105, .inl (cB, 156, .inl f106))]) [2, 3, 4, 5, 6, 7, 8, 9, 10, 11, 12] rfl
  have hD := hD.sub (ws' := [(mo, .inr (9, [th, .ref al, md, rf, kn])), (al, .inr (4, [mc, .ref ed, .int (nI cc)])), (ed, .inl (cO, 10, .inr (.inr (.inr (.inr ee))))), (a0, .inr (8, [.int 4, .ref wa0, .ref na0])), (wa0, .inl (cI, 4, .inl fw0)), (na0, .inl (cI, 4, .inl fn0)), (a1, .inr (8, [.int 4, .ref wa1, .ref na1])), (wa1, .inl (cI, 4, .inl fw1)), (na1, .inl (cI, 4, .inl fn1)), (q86, .inr (1, [.ref v105, .int 0, .int 0, .int (nI 103)])), (v105, .inl (cB, 156, .inl f106))]) [2, 3, 4, 5, 6, 7, 8, 9, 10, 11, 12] (by decide) rfl
  have hPc := hP.sub (ws' := [(q86, .inr (1, [.ref v105, .int 0, .int 0, .int (nI 103)])), (v105, .inl (cB, 156, .inl f106))]) [9, 10] rfl
  have hDc := hD.sub (ws' := [(q86, .inr (1, [.ref v105, .int 0, .int 0, .int (nI 103)])), (v105, .inl (cB, 156, .inl f106))]) [9, 10] (by decide) rfl
  have hFc := va_free (wc := [(q86, .inr (1, [.ref v105, .int 0, .int 0, .int (nI 103)])), (v105, .inl (cB, 156, .inl f106))]) hD hS hA [9, 10] rfl
  have hDv := hDc.self (sz := H103.size)
  have hpre := zpre (xs' := []) (av := [.ref q86]) hPc hK (hDc.weaken (fun _ _ _ h => h)) hZ hS hFc (fun r hr => by cases hr)
  refine va_callr (va_runV (As := []) (rest := []) ⟨hx, hb, hml, hown, hts⟩ (k_toS l dC dI cI cB cR cO zk q86 v105 156 103 f106 (.int 0) H103.size (by decide) (by decide) hff106) (cwV 0 hts gX4_textOf_J4_toString_0e30d rfl rfl rfl (by decide +kernel) ⟨Nat.le_of_ble_eq_true rfl, Nat.le_of_ble_eq_true rfl⟩) ⟨zblind, (zrecv_1 hK hPc (q0 := 0) rfl), hpre⟩ rfl rfl hl.1 rfl (lv_room (Nat.le_of_ble_eq_true rfl)) dX4_textOf_63 ⟨Nat.le_of_ble_eq_true rfl, Nat.le_of_ble_eq_true rfl⟩) hS (fun q _ h => hFc q h) hFc (fun u r108 t H107 locs ht hvm hw hB hz1 hk1 hS => ?_)
  obtain ⟨b109, g110, ⟨hP1, hK1, hD1, hz2⟩, hfg110⟩ := hB
  rw [ht] at hP1 hz2
  have hPD9 := va_join (wr := [(mo, .inr (9, [th, .ref al, md, rf, kn])), (al, .inr (4, [mc, .ref ed, .int (nI cc)])), (ed, .inl (cO, 10, .inr (.inr (.inr (.inr ee))))), (a0, .inr (8, [.int 4, .ref wa0, .ref na0])), (wa0, .inl (cI, 4, .inl fw0)), (na0, .inl (cI, 4, .inl fn0)), (a1, .inr (8, [.int 4, .ref wa1, .ref na1])), (wa1, .inl (cI, 4, .inl fw1)), (na1, .inl (cI, 4, .inl fn1))]) (w1 := [(r108, .inr (0, [.ref b109, .int 0, .int 0, .int 0])), (b109, .inl (cB, 103, .inl g110)), (q86, .inr (1, [.ref v105, .int 0, .int 0, .int (nI 103)])), (v105, .inl (cB, 156, .inl f106))]) hP hD [9, 10] [0, 1, 2, 3, 4, 5, 6, 7, 8] rfl rfl (by decide) (by decide) hk1 hFc hP1 hD1
  clear hPc hDc hFc hDv hpre hP hD hP1 hK1 hD1
  obtain ⟨hP, hD⟩ := hPD9
  replace hz : s.heap.size + 96 ≤ H107.size := by omega
  clear hz2
  replace hP : va_P (dC, dI) vwCl [(mo, .inr (9, [th, .ref al, md, rf, kn])), (al, .inr (4, [mc, .ref ed, .int (nI cc)])), (ed, .inl (cO, 10, .inr (.inr (.inr (.inr ee))))), (a0, .inr (8, [.int 4, .ref wa0, .ref na0])), (wa0, .inl (cI, 4, .inl fw0)), (na0, .inl (cI, 4, .inl fn0)), (a1, .inr (8, [.int 4, .ref wa1, .ref na1])), (wa1, .inl (cI, 4, .inl fw1)), (na1, .inl (cI, 4, .inl fn1)), (r108, .inr (0, [.ref b109, .int 0, .int 0, .int 0])), (b109, .inl (cB, 103, .inl g110)), (q86, .inr (1, [.ref v105, .int 0, .int 0, .int (nI 103)])), (v105, .inl (cB, 156, .inl f106))] H107 := hP
  replace hD : va_D A [(mo, .inr (9, [th, .ref al, md, rf, kn])), (al, .inr (4, [mc, .ref ed, .int (nI cc)])), (ed, .inl (cO, 10, .inr (.inr (.inr (.inr ee))))), (a0, .inr (8, [.int 4, .ref wa0, .ref na0])), (wa0, .inl (cI, 4, .inl fw0)), (na0, .inl (cI, 4, .inl fn0)), (a1, .inr (8, [.int 4, .ref wa1, .ref na1])), (wa1, .inl (cI, 4, .inl fw1)), (na1, .inl (cI, 4, .inl fn1)), (r108, .inr (0, [.ref b109, .int 0, .int 0, .int 0])), (b109, .inl (cB, 103, .inl g110)), (q86, .inr (1, [.ref v105, .int 0, .int 0, .int (nI 103)])), (v105, .inl (cB, 156, .inl f106))] := hD
  refine W.widen (k := 115) (n := 2818624) (by omega) (by omega) ?_
  have hP := hP.sub (ws' := [(mo, .inr (9, [th, .ref al, md, rf, kn])), (al, .inr (4, [mc, .ref ed, .int (nI cc)])), (ed, .inl (cO, 10, .inr (.inr (.inr (.inr ee))))), (a0, .inr (8, [.int 4, .ref wa0, .ref na0])), (wa0, .inl (cI, 4, .inl fw0)), (na0, .inl (cI, 4, .inl fn0)), (a1, .inr (8, [.int 4, .ref wa1, .ref na1])), (wa1, .inl (cI, 4, .inl fw1)), (na1, .inl (cI, 4, .inl fn1)), (r108, .inr (0, [.ref b109, .int 0, .int 0, .int 0])), (b109, .inl (cB, 103, .inl g110))]) [0, 1, 2, 3, 4, 5, 6, 7, 8, 9, 10] rfl
  have hD := hD.sub (ws' := [(mo, .inr (9, [th, .ref al, md, rf, kn])), (al, .inr (4, [mc, .ref ed, .int (nI cc)])), (ed, .inl (cO, 10, .inr (.inr (.inr (.inr ee))))), (a0, .inr (8, [.int 4, .ref wa0, .ref na0])), (wa0, .inl (cI, 4, .inl fw0)), (na0, .inl (cI, 4, .inl fn0)), (a1, .inr (8, [.int 4, .ref wa1, .ref na1])), (wa1, .inl (cI, 4, .inl fw1)), (na1, .inl (cI, 4, .inl fn1)), (r108, .inr (0, [.ref b109, .int 0, .int 0, .int 0])), (b109, .inl (cB, 103, .inl g110))]) [0, 1, 2, 3, 4, 5, 6, 7, 8, 9, 10] (by decide) rfl
  refine lv_astore_n (lv' := [(3, .ref r108), (4, .int 3), (2, .ref a1), (0, .ref mo), (1, .int 1)]) hx hb dX4_textOf_66 rfl hl (by decide) rfl (fun ls hl => ?_)
  refine lv_iinc (v := 4) (lv' := [(4, .int 4), (3, .ref r108), (2, .ref a1), (0, .ref mo), (1, .int 1)]) hx hb dX4_textOf_67 hl (k := 1) rfl (by decide) (by decide) rfl (fun ls hl => ?_)
  refine lv_goto (tgt := 18) hx hb dX4_textOf_70 (by decide) ?_
  refine lv_iload hx hb dX4_textOf_18 (lv_at hl 0 rfl) ?_
  refine lv_aload_n hx hb dX4_textOf_20 rfl (lv_at hl 2 rfl) ?_
  have hPc := hP.sub (ws' := [(a1, .inr (8, [.int 4, .ref wa1, .ref na1])), (wa1, .inl (cI, 4, .inl fw1))]) [6, 7] rfl
  have hDc := hD.sub (ws' := [(a1, .inr (8, [.int 4, .ref wa1, .ref na1])), (wa1, .inl (cI, 4, .inl fw1))]) [6, 7] (by decide) rfl
  have hFc := va_free (wc := [(a1, .inr (8, [.int 4, .ref wa1, .ref na1])), (wa1, .inl (cI, 4, .inl fw1))]) hD hS hA [6, 7] rfl
  have hDv := hDc.self (sz := H107.size)
  have hpre := zpre (xs' := []) (av := [.ref a1]) hPc hK (hDc.weaken (fun _ _ _ h => h)) hZ hS hFc (fun r hr => by cases hr)
  refine va_calli (va_runV (As := []) (rest := [.int 4]) ⟨hx, hb, hml, hown, hts⟩ (k_rlen l dC dI cI cB cR cO zk a1 wa1 na1 fw1 H107.size ) (cwV 0 hts gX4_textOf_X3_length rfl rfl rfl (by decide +kernel) ⟨Nat.le_of_ble_eq_true rfl, Nat.le_of_ble_eq_true rfl⟩) ⟨zblind, (zrecv_8 hK hPc (q0 := 0) rfl), hpre⟩ rfl rfl hl.1 rfl (lv_room (Nat.le_of_ble_eq_true rfl)) dX4_textOf_21 ⟨Nat.le_of_ble_eq_true rfl, Nat.le_of_ble_eq_true rfl⟩) hS (fun q _ h => hFc q h) hFc (fun r112 u t H111 locs ht hvm hw hB hz1 hk1 hS => ?_)
  obtain rfl : 4 = r112 := (show r112 = 4 from hw).symm
  obtain ⟨hP1, hK1, hD1, hz2⟩ := hB
  rw [ht] at hP1 hz2
  have hPD9 := va_join (wr := [(mo, .inr (9, [th, .ref al, md, rf, kn])), (al, .inr (4, [mc, .ref ed, .int (nI cc)])), (ed, .inl (cO, 10, .inr (.inr (.inr (.inr ee))))), (a0, .inr (8, [.int 4, .ref wa0, .ref na0])), (wa0, .inl (cI, 4, .inl fw0)), (na0, .inl (cI, 4, .inl fn0)), (na1, .inl (cI, 4, .inl fn1)), (r108, .inr (0, [.ref b109, .int 0, .int 0, .int 0])), (b109, .inl (cB, 103, .inl g110))]) (w1 := [(a1, .inr (8, [.int 4, .ref wa1, .ref na1])), (wa1, .inl (cI, 4, .inl fw1))]) hP hD [6, 7] [0, 1, 2, 3, 4, 5, 8, 9, 10] rfl rfl (by decide) (by decide) hk1 hFc hP1 hD1
  clear hPc hDc hFc hDv hpre hP hD hP1 hK1 hD1
  obtain ⟨hP, hD⟩ := hPD9
  replace hz : s.heap.size + 96 ≤ H111.size := by omega
  clear hz2
  replace hP : va_P (dC, dI) vwCl [(mo, .inr (9, [th, .ref al, md, rf, kn])), (al, .inr (4, [mc, .ref ed, .int (nI cc)])), (ed, .inl (cO, 10, .inr (.inr (.inr (.inr ee))))), (a0, .inr (8, [.int 4, .ref wa0, .ref na0])), (wa0, .inl (cI, 4, .inl fw0)), (na0, .inl (cI, 4, .inl fn0)), (na1, .inl (cI, 4, .inl fn1)), (r108, .inr (0, [.ref b109, .int 0, .int 0, .int 0])), (b109, .inl (cB, 103, .inl g110)), (a1, .inr (8, [.int 4, .ref wa1, .ref na1])), (wa1, .inl (cI, 4, .inl fw1))] H111 := hP
  replace hD : va_D A [(mo, .inr (9, [th, .ref al, md, rf, kn])), (al, .inr (4, [mc, .ref ed, .int (nI cc)])), (ed, .inl (cO, 10, .inr (.inr (.inr (.inr ee))))), (a0, .inr (8, [.int 4, .ref wa0, .ref na0])), (wa0, .inl (cI, 4, .inl fw0)), (na0, .inl (cI, 4, .inl fn0)), (na1, .inl (cI, 4, .inl fn1)), (r108, .inr (0, [.ref b109, .int 0, .int 0, .int 0])), (b109, .inl (cB, 103, .inl g110)), (a1, .inr (8, [.int 4, .ref wa1, .ref na1])), (wa1, .inl (cI, 4, .inl fw1))] := hD
  refine W.widen (k := 115) (n := 2818624) (by omega) (by omega) ?_
  refine lv_icmp_ge (tgt := 73) hx hb dX4_textOf_24 (by decide) (fun c9 => ?_) (fun c9 => ?_)
  rotate_left
  · exact absurd (by decide) c9
  refine zw_new (ci := 1) (fs := [.null, .int 0, .int 0, .int 0]) (C := RJ4) (T := TJ4) (N := 4) hx hb hts hi_X4_textOf_J4 tyJ4 tyJ4_ok hown (hts (.classLink RX4 165 RJ4) (List.mem_cons_of_mem _ zw_1388)) (hts (.instantiable RJ4 4) (List.mem_cons_of_mem _ zw_139)) (hts (.initialized RJ4) (List.mem_cons_of_mem _ zw_47)) hK hP hD hS hA rfl (fun j hj => by rcases (show j = 0 ∨ j = 1 ∨ j = 2 ∨ j = 3 by omega) with rfl | rfl | rfl | rfl <;> rfl) (Nat.le_of_ble_eq_true rfl) (Nat.le_of_ble_eq_true rfl) dX4_textOf_73 hz (fun q113 H114 hP hD hS hz => ?_)
  replace hP : va_P (dC, dI) vwCl [(mo, .inr (9, [th, .ref al, md, rf, kn])), (al, .inr (4, [mc, .ref ed, .int (nI cc)])), (ed, .inl (cO, 10, .inr (.inr (.inr (.inr ee))))), (a0, .inr (8, [.int 4, .ref wa0, .ref na0])), (wa0, .inl (cI, 4, .inl fw0)), (na0, .inl (cI, 4, .inl fn0)), (na1, .inl (cI, 4, .inl fn1)), (r108, .inr (0, [.ref b109, .int 0, .int 0, .int 0])), (b109, .inl (cB, 103, .inl g110)), (a1, .inr (8, [.int 4, .ref wa1, .ref na1])), (wa1, .inl (cI, 4, .inl fw1)), (q113, .inr (1, [.null, .int 0, .int 0, .int 0]))] H114 := hP
  replace hD : va_D A [(mo, .inr (9, [th, .ref al, md, rf, kn])), (al, .inr (4, [mc, .ref ed, .int (nI cc)])), (ed, .inl (cO, 10, .inr (.inr (.inr (.inr ee))))), (a0, .inr (8, [.int 4, .ref wa0, .ref na0])), (wa0, .inl (cI, 4, .inl fw0)), (na0, .inl (cI, 4, .inl fn0)), (na1, .inl (cI, 4, .inl fn1)), (r108, .inr (0, [.ref b109, .int 0, .int 0, .int 0])), (b109, .inl (cB, 103, .inl g110)), (a1, .inr (8, [.int 4, .ref wa1, .ref na1])), (wa1, .inl (cI, 4, .inl fw1)), (q113, .inr (1, [.null, .int 0, .int 0, .int 0]))] := hD
  refine W.widen (k := 116) (n := 2818628) (by omega) (by omega) ?_
  refine lv_dup hx hb dX4_textOf_76 rfl ?_
  have hPc := hP.sub (ws' := [(q113, .inr (1, [.null, .int 0, .int 0, .int 0]))]) [11] rfl
  have hDc := hD.sub (ws' := [(q113, .inr (1, [.null, .int 0, .int 0, .int 0]))]) [11] (by decide) rfl
  have hFc := va_free (wc := [(q113, .inr (1, [.null, .int 0, .int 0, .int 0]))]) hD hS hA [11] rfl
  have hDv := hDc.self (sz := H114.size)
  have hpre := zpre (xs' := []) (av := [.ref q113]) hPc hK (hDc.weaken (fun _ _ _ h => h)) hZ hS hFc (fun r hr => by cases hr)
  refine va_callv (va_runI (As := []) (rest := [.ref q113]) ⟨hx, hb, hml, hown, hts⟩ (k_init4 l dC dI cI cB cR cO zk q113 H114.size ) (cwI 0 hts gX4_textOf_J4_init_da8c8 rfl rfl rfl (hts (.initialized RJ4) (List.mem_cons_of_mem _ zw_47)) (hts (.methodLink RX4 167 yJ4_init_da8c8) (List.mem_cons_of_mem _ zw_1389)) (hts (.instanceMethod yJ4_init_da8c8) (List.mem_cons_of_mem _ zw_141)) rfl (by decide +kernel) ⟨Nat.le_of_ble_eq_true rfl, Nat.le_of_ble_eq_true rfl⟩) ⟨zblind, hpre⟩ rfl rfl hl.1 rfl (lv_room (Nat.le_of_ble_eq_true rfl)) dX4_textOf_77 ⟨Nat.le_of_ble_eq_true rfl, Nat.le_of_ble_eq_true rfl⟩) hS (fun q _ h => hFc q h) hFc (fun u t H115 locs ht hvm hw hB hz1 hk1 hS => ?_)
  obtain ⟨w117, ⟨hP1, hK1, hD1, hz2⟩⟩ := hB
  rw [ht] at hP1 hz2
  have hPD9 := va_join (wr := [(mo, .inr (9, [th, .ref al, md, rf, kn])), (al, .inr (4, [mc, .ref ed, .int (nI cc)])), (ed, .inl (cO, 10, .inr (.inr (.inr (.inr ee))))), (a0, .inr (8, [.int 4, .ref wa0, .ref na0])), (wa0, .inl (cI, 4, .inl fw0)), (na0, .inl (cI, 4, .inl fn0)), (na1, .inl (cI, 4, .inl fn1)), (r108, .inr (0, [.ref b109, .int 0, .int 0, .int 0])), (b109, .inl (cB, 103, .inl g110)), (a1, .inr (8, [.int 4, .ref wa1, .ref na1])), (wa1, .inl (cI, 4, .inl fw1))]) (w1 := [(q113, .inr (1, [.ref w117, .int 0, .int 0, .int 0])), (w117, .inl (cB, 16, .inl (fun _ => 0)))]) hP hD [11] [0, 1, 2, 3, 4, 5, 6, 7, 8, 9, 10] rfl rfl (by decide) (by decide) hk1 hFc hP1 hD1
  clear hPc hDc hFc hDv hpre hP hD hP1 hK1 hD1
  obtain ⟨hP, hD⟩ := hPD9
  replace hz : s.heap.size + 98 ≤ H115.size := by omega
  clear hz2
  replace hP : va_P (dC, dI) vwCl [(mo, .inr (9, [th, .ref al, md, rf, kn])), (al, .inr (4, [mc, .ref ed, .int (nI cc)])), (ed, .inl (cO, 10, .inr (.inr (.inr (.inr ee))))), (a0, .inr (8, [.int 4, .ref wa0, .ref na0])), (wa0, .inl (cI, 4, .inl fw0)), (na0, .inl (cI, 4, .inl fn0)), (na1, .inl (cI, 4, .inl fn1)), (r108, .inr (0, [.ref b109, .int 0, .int 0, .int 0])), (b109, .inl (cB, 103, .inl g110)), (a1, .inr (8, [.int 4, .ref wa1, .ref na1])), (wa1, .inl (cI, 4, .inl fw1)), (q113, .inr (1, [.ref w117, .int 0, .int 0, .int 0])), (w117, .inl (cB, 16, .inl (fun _ => 0)))] H115 := hP
  replace hD : va_D A [(mo, .inr (9, [th, .ref al, md, rf, kn])), (al, .inr (4, [mc, .ref ed, .int (nI cc)])), (ed, .inl (cO, 10, .inr (.inr (.inr (.inr ee))))), (a0, .inr (8, [.int 4, .ref wa0, .ref na0])), (wa0, .inl (cI, 4, .inl fw0)), (na0, .inl (cI, 4, .inl fn0)), (na1, .inl (cI, 4, .inl fn1)), (r108, .inr (0, [.ref b109, .int 0, .int 0, .int 0])), (b109, .inl (cB, 103, .inl g110)), (a1, .inr (8, [.int 4, .ref wa1, .ref na1])), (wa1, .inl (cI, 4, .inl fw1)), (q113, .inr (1, [.ref w117, .int 0, .int 0, .int 0])), (w117, .inl (cB, 16, .inl (fun _ => 0)))] := hD
  refine W.widen (k := 117) (n := 2818644) (by omega) (by omega) ?_
  refine lv_aload_n hx hb dX4_textOf_80 rfl (lv_at hl 1 rfl) ?_
  have hPc := hP.sub (ws' := [(q113, .inr (1, [.ref w117, .int 0, .int 0, .int 0])), (w117, .inl (cB, 16, .inl (fun _ => 0)))]) [11, 12] rfl
  have hDc := hD.sub (ws' := [(q113, .inr (1, [.ref w117, .int 0, .int 0, .int 0])), (w117, .inl (cB, 16, .inl (fun _ => 0)))]) [11, 12] (by decide) rfl
  have hFc := va_free (wc := [(q113, .inr (1, [.ref w117, .int 0, .int 0, .int 0])), (w117, .inl (cB, 16, .inl (fun _ => 0)))]) hD hS hA [11, 12] rfl
  have hDv := hDc.self (sz := H115.size)
  have hx0 : zS (r108, b109, 103, g110) (va_A [(q113, .inr (1, [.ref w117, .int 0, .int 0, .int 0])), (w117, .inl (cB, 16, .inl (fun _ => 0)))] H115.size) s H115 := zS.ofW hts hi_X4_textOf_J0 hK hP 7 8 1 rfl rfl rfl hfg110 (znot hP hD [11, 12] rfl 7 rfl (by decide)) (znot hP hD [11, 12] rfl 8 rfl (by decide))
  have hpre := zpre (xs' := [(r108, b109, 103, g110)]) (av := [.ref q113, .ref r108]) hPc hK (hDc.weaken (fun _ _ _ h => h)) hZ hS hFc (fun r hr => by cases hr with | head => exact hx0 | tail _ h => cases h)
  refine va_callr (va_runV (As := [.ref r108]) (rest := []) ⟨hx, hb, hml, hown, hts⟩ (k_apB l dC dI cI cB cR cO zk q113 w117 r108 b109 103 16 0 g110 (fun _ => 0) (.int 0) H115.size (by decide) (by decide) (by decide) sb_fit0 (by decide) (by decide)) (cwV 1 hts gX4_textOf_J4_append_15ec4 rfl rfl rfl (by decide +kernel) ⟨Nat.le_of_ble_eq_true rfl, Nat.le_of_ble_eq_true rfl⟩) ⟨zblind, (zrecv_1 hK hPc (q0 := 0) rfl), hpre⟩ rfl rfl hl.1 rfl (lv_room (Nat.le_of_ble_eq_true rfl)) dX4_textOf_81 ⟨Nat.le_of_ble_eq_true rfl, Nat.le_of_ble_eq_true rfl⟩) hS (fun q _ h => hFc q h) hFc (fun u r119 t H118 locs ht hvm hw hB hz1 hk1 hS => ?_)
  obtain ⟨v120, f121, ⟨hP1, hK1, hD1, hz2⟩, hff121, her119⟩ := hB
  rw [ht] at hP1 hz2
  have hPD9 := va_join (wr := [(mo, .inr (9, [th, .ref al, md, rf, kn])), (al, .inr (4, [mc, .ref ed, .int (nI cc)])), (ed, .inl (cO, 10, .inr (.inr (.inr (.inr ee))))), (a0, .inr (8, [.int 4, .ref wa0, .ref na0])), (wa0, .inl (cI, 4, .inl fw0)), (na0, .inl (cI, 4, .inl fn0)), (na1, .inl (cI, 4, .inl fn1)), (r108, .inr (0, [.ref b109, .int 0, .int 0, .int 0])), (b109, .inl (cB, 103, .inl g110)), (a1, .inr (8, [.int 4, .ref wa1, .ref na1])), (wa1, .inl (cI, 4, .inl fw1))]) (w1 := [(q113, .inr (1, [.ref v120, .int 0, .int 0, .int (nI 103)])), (v120, .inl (cB, 103, .inl f121))]) hP hD [11, 12] [0, 1, 2, 3, 4, 5, 6, 7, 8, 9, 10] rfl rfl (by decide) (by decide) hk1 hFc hP1 hD1
  clear hPc hDc hFc hDv hpre hP hD hP1 hK1 hD1
  obtain ⟨hP, hD⟩ := hPD9
  replace hz : s.heap.size + 98 ≤ H118.size := by omega
  clear hz2
  replace hP : va_P (dC, dI) vwCl [(mo, .inr (9, [th, .ref al, md, rf, kn])), (al, .inr (4, [mc, .ref ed, .int (nI cc)])), (ed, .inl (cO, 10, .inr (.inr (.inr (.inr ee))))), (a0, .inr (8, [.int 4, .ref wa0, .ref na0])), (wa0, .inl (cI, 4, .inl fw0)), (na0, .inl (cI, 4, .inl fn0)), (na1, .inl (cI, 4, .inl fn1)), (r108, .inr (0, [.ref b109, .int 0, .int 0, .int 0])), (b109, .inl (cB, 103, .inl g110)), (a1, .inr (8, [.int 4, .ref wa1, .ref na1])), (wa1, .inl (cI, 4, .inl fw1)), (q113, .inr (1, [.ref v120, .int 0, .int 0, .int (nI 103)])), (v120, .inl (cB, 103, .inl f121))] H118 := hP
  replace hD : va_D A [(mo, .inr (9, [th, .ref al, md, rf, kn])), (al, .inr (4, [mc, .ref ed, .int (nI cc)])), (ed, .inl (cO, 10, .inr (.inr (.inr (.inr ee))))), (a0, .inr (8, [.int 4, .ref wa0, .ref na0])), (wa0, .inl (cI, 4, .inl fw0)), (na0, .inl (cI, 4, .inl fn0)), (na1, .inl (cI, 4, .inl fn1)), (r108, .inr (0, [.ref b109, .int 0, .int 0, .int 0])), (b109, .inl (cB, 103, .inl g110)), (a1, .inr (8, [.int 4, .ref wa1, .ref na1])), (wa1, .inl (cI, 4, .inl fw1)), (q113, .inr (1, [.ref v120, .int 0, .int 0, .int (nI 103)])), (v120, .inl (cB, 103, .inl f121))] := hD
  refine W.widen (k := 118) (n := 2884180) (by omega) (by omega) ?_
  obtain rfl := her119.symm
  have hP := hP.sub (ws' := [(mo, .inr (9, [th, .ref al, md, rf, kn])), (al, .inr (4, [mc, .ref ed, .int (nI cc)])), (ed, .inl (cO, 10, .inr (.inr (.inr (.inr ee))))), (a0, .inr (8, [.int 4, .ref wa0, .ref na0])), (wa0, .inl (cI, 4, .inl fw0)), (na0, .inl (cI, 4, .inl fn0)), (na1, .inl (cI, 4, .inl fn1)), (a1, .inr (8, [.int 4, .ref wa1, .ref na1])), (wa1, .inl (cI, 4, .inl fw1)), (q113, .inr (1, [.ref v120, .int 0, .int 0, .int (nI 103)])), (v120, .inl (cB, 103, .inl f121))]) [0, 1, 2, 3, 4, 5, 6, 9, 10, 11, 12] rfl
  have hD := hD.sub (ws' := [(mo, .inr (9, [th, .ref al, md, rf, kn])), (al, .inr (4, [mc, .ref ed, .int (nI cc)])), (ed, .inl (cO, 10, .inr (.inr (.inr (.inr ee))))), (a0, .inr (8, [.int 4, .ref wa0, .ref na0])), (wa0, .inl (cI, 4, .inl fw0)), (na0, .inl (cI, 4, .inl fn0)), (na1, .inl (cI, 4, .inl fn1)), (a1, .inr (8, [.int 4, .ref wa1, .ref na1])), (wa1, .inl (cI, 4, .inl fw1)), (q113, .inr (1, [.ref v120, .int 0, .int 0, .int (nI 103)])), (v120, .inl (cB, 103, .inl f121))]) [0, 1, 2, 3, 4, 5, 6, 9, 10, 11, 12] (by decide) rfl
  refine va_ldcS (own := RX4) (tx := "]") (q := zk 2) hx hb hown (zl1 hZ) dX4_textOf_84 ?_
  have hPc := hP.sub (ws' := [(q113, .inr (1, [.ref v120, .int 0, .int 0, .int (nI 103)])), (v120, .inl (cB, 103, .inl f121))]) [9, 10] rfl
  have hDc := hD.sub (ws' := [(q113, .inr (1, [.ref v120, .int 0, .int 0, .int (nI 103)])), (v120, .inl (cB, 103, .inl f121))]) [9, 10] (by decide) rfl
  have hFc := va_free (wc := [(q113, .inr (1, [.ref v120, .int 0, .int 0, .int (nI 103)])), (v120, .inl (cB, 103, .inl f121))]) hD hS hA [9, 10] rfl
  have hDv := hDc.self (sz := H118.size)
  have hx0 : zS ((zk 2), (zk 12), 1, (fun j => (zByt.getD 1 []).getD j 0)) (va_A [(q113, .inr (1, [.ref v120, .int 0, .int 0, .int (nI 103)])), (v120, .inl (cB, 103, .inl f121))] H118.size) s H118 := zc1 hZ hS hFc
  have hpre := zpre (xs' := [((zk 2), (zk 12), 1, (fun j => (zByt.getD 1 []).getD j 0))]) (av := [.ref q113, .ref (zk 2)]) hPc hK (hDc.weaken (fun _ _ _ h => h)) hZ hS hFc (fun r hr => by cases hr with | head => exact hx0 | tail _ h => cases h)
  refine va_callr (va_runV (As := [.ref (zk 2)]) (rest := []) ⟨hx, hb, hml, hown, hts⟩ (k_apB l dC dI cI cB cR cO zk q113 v120 (zk 2) (zk 12) 1 103 103 (fun j => (zByt.getD 1 []).getD j 0) f121 (.int 0) H118.size (by decide) (by decide) (by decide) hff121 (by decide) (by decide)) (cwV 1 hts gX4_textOf_J4_append_15ec4 rfl rfl rfl (by decide +kernel) ⟨Nat.le_of_ble_eq_true rfl, Nat.le_of_ble_eq_true rfl⟩) ⟨zblind, (zrecv_1 hK hPc (q0 := 0) rfl), hpre⟩ rfl rfl hl.1 rfl (lv_room (Nat.le_of_ble_eq_true rfl)) dX4_textOf_86 ⟨Nat.le_of_ble_eq_true rfl, Nat.le_of_ble_eq_true rfl⟩) hS (fun q _ h => hFc q h) hFc (fun u r123 t H122 locs ht hvm hw hB hz1 hk1 hS => ?_)
  obtain ⟨v124, f125, ⟨hP1, hK1, hD1, hz2⟩, hff125, her123⟩ := hB
  rw [ht] at hP1 hz2
  have hPD9 := va_join (wr := [(mo, .inr (9, [th, .ref al, md, rf, kn])), (al, .inr (4, [mc, .ref ed, .int (nI cc)])), (ed, .inl (cO, 10, .inr (.inr (.inr (.inr ee))))), (a0, .inr (8, [.int 4, .ref wa0, .ref na0])), (wa0, .inl (cI, 4, .inl fw0)), (na0, .inl (cI, 4, .inl fn0)), (na1, .inl (cI, 4, .inl fn1)), (a1, .inr (8, [.int 4, .ref wa1, .ref na1])), (wa1, .inl (cI, 4, .inl fw1))]) (w1 := [(q113, .inr (1, [.ref v124, .int 0, .int 0, .int (nI 104)])), (v124, .inl (cB, 208, .inl f125))]) hP hD [9, 10] [0, 1, 2, 3, 4, 5, 6, 7, 8] rfl rfl (by decide) (by decide) hk1 hFc hP1 hD1
  clear hPc hDc hFc hDv hpre hP hD hP1 hK1 hD1
  obtain ⟨hP, hD⟩ := hPD9
  replace hz : s.heap.size + 98 ≤ H122.size := by omega
  clear hz2
  replace hP : va_P (dC, dI) vwCl [(mo, .inr (9, [th, .ref al, md, rf, kn])), (al, .inr (4, [mc, .ref ed, .int (nI cc)])), (ed, .inl (cO, 10, .inr (.inr (.inr (.inr ee))))), (a0, .inr (8, [.int 4, .ref wa0, .ref na0])), (wa0, .inl (cI, 4, .inl fw0)), (na0, .inl (cI, 4, .inl fn0)), (na1, .inl (cI, 4, .inl fn1)), (a1, .inr (8, [.int 4, .ref wa1, .ref na1])), (wa1, .inl (cI, 4, .inl fw1)), (q113, .inr (1, [.ref v124, .int 0, .int 0, .int (nI 104)])), (v124, .inl (cB, 208, .inl f125))] H122 := hP
  replace hD : va_D A [(mo, .inr (9, [th, .ref al, md, rf, kn])), (al, .inr (4, [mc, .ref ed, .int (nI cc)])), (ed, .inl (cO, 10, .inr (.inr (.inr (.inr ee))))), (a0, .inr (8, [.int 4, .ref wa0, .ref na0])), (wa0, .inl (cI, 4, .inl fw0)), (na0, .inl (cI, 4, .inl fn0)), (na1, .inl (cI, 4, .inl fn1)), (a1, .inr (8, [.int 4, .ref wa1, .ref na1])), (wa1, .inl (cI, 4, .inl fw1)), (q113, .inr (1, [.ref v124, .int 0, .int 0, .int (nI 104)])), (v124, .inl (cB, 208, .inl f125))] := hD
  refine W.widen (k := 119) (n := 2949716) (by omega) (by omega) ?_
  obtain rfl := her123.symm
  have hPc := hP.sub (ws' := [(q113, .inr (1, [.ref v124, .int 0, .int 0, .int (nI 104)])), (v124, .inl (cB, 208, .inl f125))]) [9, 10] rfl
  have hDc := hD.sub (ws' := [(q113, .inr (1, [.ref v124, .int 0, .int 0, .int (nI 104)])), (v124, .inl (cB, 208, .inl f125))]) [9, 10] (by decide) rfl
  have hFc := va_free (wc := [(q113, .inr (1, [.ref v124, .int 0, .int 0, .int (nI 104)])), (v124, .inl (cB, 208, .inl f125))]) hD hS hA [9, 10] rfl
  have hDv := hDc.self (sz := H122.size)
  have hpre := zpre (xs' := []) (av := [.ref q113]) hPc hK (hDc.weaken (fun _ _ _ h => h)) hZ hS hFc (fun r hr => by cases hr)
  refine va_callr (va_runV (As := []) (rest := []) ⟨hx, hb, hml, hown, hts⟩ (k_toS l dC dI cI cB cR cO zk q113 v124 208 104 f125 (.int 0) H122.size (by decide) (by decide) hff125) (cwV 0 hts gX4_textOf_J4_toString_0e30d rfl rfl rfl (by decide +kernel) ⟨Nat.le_of_ble_eq_true rfl, Nat.le_of_ble_eq_true rfl⟩) ⟨zblind, (zrecv_1 hK hPc (q0 := 0) rfl), hpre⟩ rfl rfl hl.1 rfl (lv_room (Nat.le_of_ble_eq_true rfl)) dX4_textOf_89 ⟨Nat.le_of_ble_eq_true rfl, Nat.le_of_ble_eq_true rfl⟩) hS (fun q _ h => hFc q h) hFc (fun u r127 t H126 locs ht hvm hw hB hz1 hk1 hS => ?_)
  obtain ⟨b128, g129, ⟨hP1, hK1, hD1, hz2⟩, hfg129⟩ := hB
  rw [ht] at hP1 hz2
  have hPD9 := va_join (wr := [(mo, .inr (9, [th, .ref al, md, rf, kn])), (al, .inr (4, [mc, .ref ed, .int (nI cc)])), (ed, .inl (cO, 10, .inr (.inr (.inr (.inr ee))))), (a0, .inr (8, [.int 4, .ref wa0, .ref na0])), (wa0, .inl (cI, 4, .inl fw0)), (na0, .inl (cI, 4, .inl fn0)), (na1, .inl (cI, 4, .inl fn1)), (a1, .inr (8, [.int 4, .ref wa1, .ref na1])), (wa1, .inl (cI, 4, .inl fw1))]) (w1 := [(r127, .inr (0, [.ref b128, .int 0, .int 0, .int 0])), (b128, .inl (cB, 104, .inl g129)), (q113, .inr (1, [.ref v124, .int 0, .int 0, .int (nI 104)])), (v124, .inl (cB, 208, .inl f125))]) hP hD [9, 10] [0, 1, 2, 3, 4, 5, 6, 7, 8] rfl rfl (by decide) (by decide) hk1 hFc hP1 hD1
  clear hPc hDc hFc hDv hpre hP hD hP1 hK1 hD1
  obtain ⟨hP, hD⟩ := hPD9
  replace hz : s.heap.size + 100 ≤ H126.size := by omega
  clear hz2
  replace hP : va_P (dC, dI) vwCl [(mo, .inr (9, [th, .ref al, md, rf, kn])), (al, .inr (4, [mc, .ref ed, .int (nI cc)])), (ed, .inl (cO, 10, .inr (.inr (.inr (.inr ee))))), (a0, .inr (8, [.int 4, .ref wa0, .ref na0])), (wa0, .inl (cI, 4, .inl fw0)), (na0, .inl (cI, 4, .inl fn0)), (na1, .inl (cI, 4, .inl fn1)), (a1, .inr (8, [.int 4, .ref wa1, .ref na1])), (wa1, .inl (cI, 4, .inl fw1)), (r127, .inr (0, [.ref b128, .int 0, .int 0, .int 0])), (b128, .inl (cB, 104, .inl g129)), (q113, .inr (1, [.ref v124, .int 0, .int 0, .int (nI 104)])), (v124, .inl (cB, 208, .inl f125))] H126 := hP
  replace hD : va_D A [(mo, .inr (9, [th, .ref al, md, rf, kn])), (al, .inr (4, [mc, .ref ed, .int (nI cc)])), (ed, .inl (cO, 10, .inr (.inr (.inr (.inr ee))))), (a0, .inr (8, [.int 4, .ref wa0, .ref na0])), (wa0, .inl (cI, 4, .inl fw0)), (na0, .inl (cI, 4, .inl fn0)), (na1, .inl (cI, 4, .inl fn1)), (a1, .inr (8, [.int 4, .ref wa1, .ref na1])), (wa1, .inl (cI, 4, .inl fw1)), (r127, .inr (0, [.ref b128, .int 0, .int 0, .int 0])), (b128, .inl (cB, 104, .inl g129)), (q113, .inr (1, [.ref v124, .int 0, .int 0, .int (nI 104)])), (v124, .inl (cB, 208, .inl f125))] := hD
  refine W.widen (k := 121) (n := 3015256) (by omega) (by omega) ?_
  have hP := hP.sub (ws' := [(mo, .inr (9, [th, .ref al, md, rf, kn])), (al, .inr (4, [mc, .ref ed, .int (nI cc)])), (ed, .inl (cO, 10, .inr (.inr (.inr (.inr ee))))), (a0, .inr (8, [.int 4, .ref wa0, .ref na0])), (wa0, .inl (cI, 4, .inl fw0)), (na0, .inl (cI, 4, .inl fn0)), (na1, .inl (cI, 4, .inl fn1)), (a1, .inr (8, [.int 4, .ref wa1, .ref na1])), (wa1, .inl (cI, 4, .inl fw1)), (r127, .inr (0, [.ref b128, .int 0, .int 0, .int 0])), (b128, .inl (cB, 104, .inl g129))]) [0, 1, 2, 3, 4, 5, 6, 7, 8, 9, 10] rfl
  have hD := hD.sub (ws' := [(mo, .inr (9, [th, .ref al, md, rf, kn])), (al, .inr (4, [mc, .ref ed, .int (nI cc)])), (ed, .inl (cO, 10, .inr (.inr (.inr (.inr ee))))), (a0, .inr (8, [.int 4, .ref wa0, .ref na0])), (wa0, .inl (cI, 4, .inl fw0)), (na0, .inl (cI, 4, .inl fn0)), (na1, .inl (cI, 4, .inl fn1)), (a1, .inr (8, [.int 4, .ref wa1, .ref na1])), (wa1, .inl (cI, 4, .inl fw1)), (r127, .inr (0, [.ref b128, .int 0, .int 0, .int 0])), (b128, .inl (cB, 104, .inl g129))]) [0, 1, 2, 3, 4, 5, 6, 7, 8, 9, 10] (by decide) rfl
  have hP9 := hP.sub (ws' := [(r127, .inr (0, [.ref b128, .int 0, .int 0, .int 0])), (b128, .inl (cB, 104, .inl g129)), (mo, .inr (9, [th, .ref al, md, rf, kn])), (al, .inr (4, [mc, .ref ed, .int (nI cc)])), (ed, .inl (cO, 10, .inr (.inr (.inr (.inr ee))))), (a0, .inr (8, [.int 4, .ref wa0, .ref na0])), (wa0, .inl (cI, 4, .inl fw0)), (na0, .inl (cI, 4, .inl fn0)), (a1, .inr (8, [.int 4, .ref wa1, .ref na1])), (wa1, .inl (cI, 4, .inl fw1)), (na1, .inl (cI, 4, .inl fn1))]) [9, 10, 0, 1, 2, 3, 4, 5, 7, 8, 6] rfl
  have hD9 := hD.sub (ws' := [(r127, .inr (0, [.ref b128, .int 0, .int 0, .int 0])), (b128, .inl (cB, 104, .inl g129)), (mo, .inr (9, [th, .ref al, md, rf, kn])), (al, .inr (4, [mc, .ref ed, .int (nI cc)])), (ed, .inl (cO, 10, .inr (.inr (.inr (.inr ee))))), (a0, .inr (8, [.int 4, .ref wa0, .ref na0])), (wa0, .inl (cI, 4, .inl fw0)), (na0, .inl (cI, 4, .inl fn0)), (a1, .inr (8, [.int 4, .ref wa1, .ref na1])), (wa1, .inl (cI, 4, .inl fw1)), (na1, .inl (cI, 4, .inl fn1))]) [9, 10, 0, 1, 2, 3, 4, 5, 7, 8, 6] (by decide) rfl
  exact W.aret hx hb hr (by first | exact Or.inl ⟨_, rfl⟩ | exact Or.inr ⟨_, rfl⟩) (Or.inr ⟨_, rfl⟩) (fun t ht hW => ⟨⟨(), _, rfl, trivial, ⟨_, _, ⟨by rw [ht]; exact hP9, va_K.moved hW.alike hK, hD9, by rw [ht]; exact hz⟩, hfg129⟩⟩, hS.F ht⟩) hS.2.2 dX4_textOf_92
