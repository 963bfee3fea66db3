set_option maxHeartbeats 4000000 in
set_option maxRecDepth 100000 in
theorem k_tAt1_0 (l : Launch) (dC : Nat → ClassId) (dI : Nat → Nat → Nat) (cI cB cR cO : ClassId) (zk : Nat → Nat) (mo al ed cc : Nat) (ee : Nat → Option Nat) (th md rf kn mc : Value) (a0 wa0 na0 a1 wa1 na1 : Nat) (fw0 fn0 fw1 fn1 : Nat → Int32) (sz : Nat) (hcc : 1 < cc) (hcc2 : cc ≤ 10) (hw0 : ∀ i, i < 4 → fw0 i = 0) (hn0 : ∀ i, i < 4 → fn0 i = (-1)) (he0 : ee 0 = some a0) (hw1 : ∀ i, i < 4 → fw1 i = 3) (hn1 : ∀ i, i < 4 → fn1 i = 0) (he1 : ee 1 = some a1) : Met l yX4_textAt wsX4_textAt ({ frames := 7, cells := 23, slots := 524408, locals := 235 }) (va_Pc [.ref mo, .ref a1, .int 0] (zPre (dC, dI) (zT cI cB cR cO) zk [] [(mo, .inr (9, [th, .ref al, md, rf, kn])), (al, .inr (4, [mc, .ref ed, .int (nI cc)])), (ed, .inl (cO, 10, .inr (.inr (.inr (.inr ee))))), (a0, .inr (8, [.int 4, .ref wa0, .ref na0])), (wa0, .inl (cI, 4, .inl fw0)), (na0, .inl (cI, 4, .inl fn0)), (a1, .inr (8, [.int 4, .ref wa1, .ref na1])), (wa1, .inl (cI, 4, .inl fw1)), (na1, .inl (cI, 4, .inl fn1))] sz)) (va_Qr (fun _ : Unit => True) (fun _ ra t => ∃ b0, ∃ (g0 : Nat → Int32), zEnd (dC, dI) (zT cI cB cR cO) (va_A [(mo, .inr (9, [th, .ref al, md, rf, kn])), (al, .inr (4, [mc, .ref ed, .int (nI cc)])), (ed, .inl (cO, 10, .inr (.inr (.inr (.inr ee))))), (a0, .inr (8, [.int 4, .ref wa0, .ref na0])), (wa0, .inl (cI, 4, .inl fw0)), (na0, .inl (cI, 4, .inl fn0)), (a1, .inr (8, [.int 4, .ref wa1, .ref na1])), (wa1, .inl (cI, 4, .inl fw1)), (na1, .inl (cI, 4, .inl fn1))] sz) [(ra, .inr (0, [.ref b0, .int 0, .int 0, .int 0])), (b0, .inl (cB, 24, .inl g0)), (mo, .inr (9, [th, .ref al, md, rf, kn])), (al, .inr (4, [mc, .ref ed, .int (nI cc)])), (ed, .inl (cO, 10, .inr (.inr (.inr (.inr ee))))), (a0, .inr (8, [.int 4, .ref wa0, .ref na0])), (wa0, .inl (cI, 4, .inl fw0)), (na0, .inl (cI, 4, .inl fn0)), (a1, .inr (8, [.int 4, .ref wa1, .ref na1])), (wa1, .inl (cI, 4, .inl fw1)), (na1, .inl (cI, 4, .inl fn1))] sz 20 t ∧ sb_Fit g0) (va_A [(mo, .inr (9, [th, .ref al, md, rf, kn])), (al, .inr (4, [mc, .ref ed, .int (nI cc)])), (ed, .inl (cO, 10, .inr (.inr (.inr (.inr ee))))), (a0, .inr (8, [.int 4, .ref wa0, .ref na0])), (wa0, .inl (cI, 4, .inl fw0)), (na0, .inl (cI, 4, .inl fn0)), (a1, .inr (8, [.int 4, .ref wa1, .ref na1])), (wa1, .inl (cI, 4, .inl fw1)), (na1, .inl (cI, 4, .inl fn1))] sz)) 23 524408 (va_A [(mo, .inr (9, [th, .ref al, md, rf, kn])), (al, .inr (4, [mc, .ref ed, .int (nI cc)])), (ed, .inl (cO, 10, .inr (.inr (.inr (.inr ee))))), (a0, .inr (8, [.int 4, .ref wa0, .ref na0])), (wa0, .inl (cI, 4, .inl fw0)), (na0, .inl (cI, 4, .inl fn0)), (a1, .inr (8, [.int 4, .ref wa1, .ref na1])), (wa1, .inl (cI, 4, .inl fw1)), (na1, .inl (cI, 4, .inl fn1))] sz) := by
  refine Met.ofW (cc := cX4_textAt) (maxL := 4) (ret := (some (.object "java/lang/String"))) (by decide) rfl ?_
  intro p e s mY args below meth c s₁ B hml hv
  obtain ⟨rfl, hsz, hP, hK, hD0, hZ⟩ := hv
  have hx := B.exec
  have hb := B.bytes
  have hr := B.returns
  have hts := atoms_spec (ws := wsX4_textAt) B.pre
  have hown : s.vm.findClass RX4 = some mY.cls := findClass_of_methodNamed B.named
  have hlocks := B.notSynchronized
  subst hsz
  have hD := hD0.self (sz := s.heap.size)
  generalize hAe : va_A [(mo, .inr (9, [th, .ref al, md, rf, kn])), (al, .inr (4, [mc, .ref ed, .int (nI cc)])), (ed, .inl (cO, 10, .inr (.inr (.inr (.inr ee))))), (a0, .inr (8, [.int 4, .ref wa0, .ref na0])), (wa0, .inl (cI, 4, .inl fw0)), (na0, .inl (cI, 4, .inl fn0)), (a1, .inr (8, [.int 4, .ref wa1, .ref na1])), (wa1, .inl (cI, 4, .inl fw1)), (na1, .inl (cI, 4, .inl fn1))] s.heap.size = A at hD hZ ⊢
  have hA : ∀ q : Nat, s.heap.size ≤ q → A q := fun q h => by rw [← hAe]; exact Or.inr h
  have hS : va_S A s.heap s.heap [] := va_S.rf
  have hz : s.heap.size + 0 ≤ s.heap.size := Nat.le_refl _
  have hl := lv_entry ([.ref mo, .ref a1, .int 0]) (n := 4) (Nat.le_of_ble_eq_true rfl)
  rw [lg_entry_eq]
  generalize (lg_sl ([.ref mo, .ref a1, .int 0]) ++ List.replicate (4 - (lg_sl ([.ref mo, .ref a1, .int 0])).length) Slot.unset).toArray = ls at hl ⊢
  have hl : lv_has ls 4 [(0, .ref mo), (1, .ref a1), (2, .int 0)] := hl
  have hP : va_P (dC, dI) vwCl [(mo, .inr (9, [th, .ref al, md, rf, kn])), (al, .inr (4, [mc, .ref ed, .int (nI cc)])), (ed, .inl (cO, 10, .inr (.inr (.inr (.inr ee))))), (a0, .inr (8, [.int 4, .ref wa0, .ref na0])), (wa0, .inl (cI, 4, .inl fw0)), (na0, .inl (cI, 4, .inl fn0)), (a1, .inr (8, [.int 4, .ref wa1, .ref na1])), (wa1, .inl (cI, 4, .inl fw1)), (na1, .inl (cI, 4, .inl fn1))] s.heap := hP
  have hD : va_D A [(mo, .inr (9, [th, .ref al, md, rf, kn])), (al, .inr (4, [mc, .ref ed, .int (nI cc)])), (ed, .inl (cO, 10, .inr (.inr (.inr (.inr ee))))), (a0, .inr (8, [.int 4, .ref wa0, .ref na0])), (wa0, .inl (cI, 4, .inl fw0)), (na0, .inl (cI, 4, .inl fn0)), (a1, .inr (8, [.int 4, .ref wa1, .ref na1])), (wa1, .inl (cI, 4, .inl fw1)), (na1, .inl (cI, 4, .inl fn1))] := hD
  refine lv_aload_n hx hb dX4_textAt_0 rfl (lv_at hl 1 rfl) ?_
  refine va_get (D := (dC, dI)) (ci := 8) (v := .ref na1) (C := RX3) (T := TX3) (N := 3) hx hb hts hi_X4_textAt_X3 hown hK hP 6 rfl rfl 2 (by decide) (hts (.fieldLink RX4 48 "DeeprowsModel$Row" "numbers" "[I") (List.mem_of_getElem? (i := 1) (by decide +kernel))) (fun _ h9 => h9) rfl dX4_textAt_1 ?_
  refine lv_iload_n hx hb dX4_textAt_4 rfl (lv_at hl 2 rfl) ?_
  refine va_iald (D := (dC, dI)) (cl := vwCl) hx hb hK hP 8 0 rfl rfl (by unfold vp_in; decide) dX4_textAt_5 ?_
  refine lv_topi (fun v1 ev1 => ?_)
  obtain rfl : v1 = 0 := ev1.trans (hn1 0 (by decide))
  refine lv_istore_n (lv' := [(3, .int 0), (0, .ref mo), (1, .ref a1), (2, .int 0)]) hx hb dX4_textAt_6 rfl hl (by decide) rfl (fun ls hl => ?_)
  refine lv_aload_n hx hb dX4_textAt_7 rfl (lv_at hl 2 rfl) ?_
  refine va_get (D := (dC, dI)) (ci := 8) (v := .int 4) (C := RX3) (T := TX3) (N := 3) hx hb hts hi_X4_textAt_X3 hown hK hP 6 rfl rfl 0 (by decide) (hts (.fieldLink RX4 103 "DeeprowsModel$Row" "kind" "I") (List.mem_of_getElem? (i := 2) (by decide +kernel))) (fun _ h9 => h9) rfl dX4_textAt_8 ?_
  refine lv_tableOut (tgt := 122) hx hb dX4_textAt_11 (by decide) (by decide) ?_
  refine lv_aload_n hx hb dX4_textAt_122 rfl (lv_at hl 2 rfl) ?_
  refine va_get (D := (dC, dI)) (ci := 8) (v := .ref wa1) (C := RX3) (T := TX3) (N := 3) hx hb hts hi_X4_textAt_X3 hown hK hP 6 rfl rfl 1 (by decide) (hts (.fieldLink RX4 70 "DeeprowsModel$Row" "whats" "[I") (List.mem_of_getElem? (i := 7) (by decide +kernel))) (fun _ h9 => h9) rfl dX4_textAt_123 ?_
  refine lv_iload_n hx hb dX4_textAt_126 rfl (lv_at hl 3 rfl) ?_
  refine va_iald (D := (dC, dI)) (cl := vwCl) hx hb hK hP 7 0 rfl rfl (by unfold vp_in; decide) dX4_textAt_127 ?_
  refine lv_topi (fun v2 ev2 => ?_)
  obtain rfl : v2 = 3 := ev2.trans (hw1 0 (by decide))
  refine lv_if_ne (tgt := 136) hx hb dX4_textAt_128 (by decide) (fun c9 => ?_) (fun c9 => ?_)
  rotate_left
  · exact absurd c9 (by decide)
  refine lv_aload_n hx hb dX4_textAt_136 rfl (lv_at hl 2 rfl) ?_
  refine va_get (D := (dC, dI)) (ci := 8) (v := .ref wa1) (C := RX3) (T := TX3) (N := 3) hx hb hts hi_X4_textAt_X3 hown hK hP 6 rfl rfl 1 (by decide) (hts (.fieldLink RX4 70 "DeeprowsModel$Row" "whats" "[I") (List.mem_of_getElem? (i := 7) (by decide +kernel))) (fun _ h9 => h9) rfl dX4_textAt_137 ?_
  refine lv_iload_n hx hb dX4_textAt_140 rfl (lv_at hl 3 rfl) ?_
  refine va_iald (D := (dC, dI)) (cl := vwCl) hx hb hK hP 7 0 rfl rfl (by unfold vp_in; decide) dX4_textAt_141 ?_
  refine lv_topi (fun v3 ev3 => ?_)
  obtain rfl : v3 = 3 := ev3.trans (hw1 0 (by decide))
  refine lv_iconst (v := 1) hx hb dX4_textAt_142 (by decide) ?_
  refine lv_icmp_ne (tgt := 168) hx hb dX4_textAt_143 (by decide) (fun c9 => ?_) (fun c9 => ?_)
  rotate_left
  · exact absurd c9 (by decide)
  refine lv_aload_n hx hb dX4_textAt_168 rfl (lv_at hl 2 rfl) ?_
  refine va_get (D := (dC, dI)) (ci := 8) (v := .ref wa1) (C := RX3) (T := TX3) (N := 3) hx hb hts hi_X4_textAt_X3 hown hK hP 6 rfl rfl 1 (by decide) (hts (.fieldLink RX4 70 "DeeprowsModel$Row" "whats" "[I") (List.mem_of_getElem? (i := 7) (by decide +kernel))) (fun _ h9 => h9) rfl dX4_textAt_169 ?_
  refine lv_iload_n hx hb dX4_textAt_172 rfl (lv_at hl 3 rfl) ?_
  refine va_iald (D := (dC, dI)) (cl := vwCl) hx hb hK hP 7 0 rfl rfl (by unfold vp_in; decide) dX4_textAt_173 ?_
  refine lv_topi (fun v4 ev4 => ?_)
  obtain rfl : v4 = 3 := ev4.trans (hw1 0 (by decide))
  refine lv_iconst (v := 2) hx hb dX4_textAt_174 (by decide) ?_
  refine lv_icmp_ne (tgt := 186) hx hb dX4_textAt_175 (by decide) (fun c9 => ?_) (fun c9 => ?_)
  rotate_left
  · exact absurd c9 (by decide)
  refine lv_aload_n hx hb dX4_textAt_186 rfl (lv_at hl 1 rfl) ?_
  refine lv_iload_n hx hb dX4_textAt_187 rfl (lv_at hl 0 rfl) ?_
  have hPc := hP.sub (ws' := [(mo, .inr (9, [th, .ref al, md, rf, kn])), (al, .inr (4, [mc, .ref ed, .int (nI cc)])), (ed, .inl (cO, 10, .inr (.inr (.inr (.inr ee))))), (a0, .inr (8, [.int 4, .ref wa0, .ref na0])), (wa0, .inl (cI, 4, .inl fw0)), (na0, .inl (cI, 4, .inl fn0))]) [0, 1, 2, 3, 4, 5] rfl
  have hDc := hD.sub (ws' := [(mo, .inr (9, [th, .ref al, md, rf, kn])), (al, .inr (4, [mc, .ref ed, .int (nI cc)])), (ed, .inl (cO, 10, .inr (.inr (.inr (.inr ee))))), (a0, .inr (8, [.int 4, .ref wa0, .ref na0])), (wa0, .inl (cI, 4, .inl fw0)), (na0, .inl (cI, 4, .inl fn0))]) [0, 1, 2, 3, 4, 5] (by decide) rfl
  have hFc := va_free (wc := [(mo, .inr (9, [th, .ref al, md, rf, kn])), (al, .inr (4, [mc, .ref ed, .int (nI cc)])), (ed, .inl (cO, 10, .inr (.inr (.inr (.inr ee))))), (a0, .inr (8, [.int 4, .ref wa0, .ref na0])), (wa0, .inl (cI, 4, .inl fw0)), (na0, .inl (cI, 4, .inl fn0))]) hD hS hA [0, 1, 2, 3, 4, 5] rfl
  have hDv := hDc.self (sz := s.heap.size)
  have hpre := zpre (xs' := []) (av := [.ref mo, .int 0]) hPc hK (hDc.weaken (fun _ _ _ h => h)) hZ hS hFc (fun r hr => by cases hr)
  refine va_callr (va_runV (As := [.int 0]) (rest := []) ⟨hx, hb, hml, hown, hts⟩ (k_tOf0 l dC dI cI cB cR cO zk mo al ed cc ee th md rf kn mc a0 wa0 na0 fw0 fn0 s.heap.size (by omega) hcc2 hw0 hn0 he0) (cwV 1 hts gX4_textAt_X4_textOf rfl rfl rfl (by decide +kernel) ⟨Nat.le_of_ble_eq_true rfl, Nat.le_of_ble_eq_true rfl⟩) ⟨zblind, (va_recv hK hPc (ci := 9) (q0 := 0) rfl rfl), hpre⟩ rfl rfl hl.1 rfl (lv_room (Nat.le_of_ble_eq_true rfl)) dX4_textAt_188 ⟨Nat.le_of_ble_eq_true rfl, Nat.le_of_ble_eq_true rfl⟩) hS (fun q _ h => hFc q h) hFc (fun u r6 t H5 locs ht hvm hw hB hz1 hk1 hS => ?_)
  obtain ⟨b7, g8, ⟨hP1, hK1, hD1, hz2⟩, hfg8⟩ := hB
  rw [ht] at hP1 hz2
  obtain ⟨hP, hD⟩ := va_join (wr := [(a1, .inr (8, [.int 4, .ref wa1, .ref na1])), (wa1, .inl (cI, 4, .inl fw1)), (na1, .inl (cI, 4, .inl fn1))]) (w1 := [(r6, .inr (0, [.ref b7, .int 0, .int 0, .int 0])), (b7, .inl (cB, 24, .inl g8)), (mo, .inr (9, [th, .ref al, md, rf, kn])), (al, .inr (4, [mc, .ref ed, .int (nI cc)])), (ed, .inl (cO, 10, .inr (.inr (.inr (.inr ee))))), (a0, .inr (8, [.int 4, .ref wa0, .ref na0])), (wa0, .inl (cI, 4, .inl fw0)), (na0, .inl (cI, 4, .inl fn0))]) hP hD [0, 1, 2, 3, 4, 5] [6, 7, 8] rfl rfl (by decide) (by decide) hk1 hFc hP1 hD1
  have hz : s.heap.size + 20 ≤ H5.size := by omega
  have hP : va_P (dC, dI) vwCl [(a1, .inr (8, [.int 4, .ref wa1, .ref na1])), (wa1, .inl (cI, 4, .inl fw1)), (na1, .inl (cI, 4, .inl fn1)), (r6, .inr (0, [.ref b7, .int 0, .int 0, .int 0])), (b7, .inl (cB, 24, .inl g8)), (mo, .inr (9, [th, .ref al, md, rf, kn])), (al, .inr (4, [mc, .ref ed, .int (nI cc)])), (ed, .inl (cO, 10, .inr (.inr (.inr (.inr ee))))), (a0, .inr (8, [.int 4, .ref wa0, .ref na0])), (wa0, .inl (cI, 4, .inl fw0)), (na0, .inl (cI, 4, .inl fn0))] H5 := hP
  have hD : va_D A [(a1, .inr (8, [.int 4, .ref wa1, .ref na1])), (wa1, .inl (cI, 4, .inl fw1)), (na1, .inl (cI, 4, .inl fn1)), (r6, .inr (0, [.ref b7, .int 0, .int 0, .int 0])), (b7, .inl (cB, 24, .inl g8)), (mo, .inr (9, [th, .ref al, md, rf, kn])), (al, .inr (4, [mc, .ref ed, .int (nI cc)])), (ed, .inl (cO, 10, .inr (.inr (.inr (.inr ee))))), (a0, .inr (8, [.int 4, .ref wa0, .ref na0])), (wa0, .inl (cI, 4, .inl fw0)), (na0, .inl (cI, 4, .inl fn0))] := hD
  refine W.widen (k := 23) (n := 524408) (by omega) (by omega) ?_
  have hP9 := hP.sub (ws' := [(r6, .inr (0, [.ref b7, .int 0, .int 0, .int 0])), (b7, .inl (cB, 24, .inl g8)), (mo, .inr (9, [th, .ref al, md, rf, kn])), (al, .inr (4, [mc, .ref ed, .int (nI cc)])), (ed, .inl (cO, 10, .inr (.inr (.inr (.inr ee))))), (a0, .inr (8, [.int 4, .ref wa0, .ref na0])), (wa0, .inl (cI, 4, .inl fw0)), (na0, .inl (cI, 4, .inl fn0)), (a1, .inr (8, [.int 4, .ref wa1, .ref na1])), (wa1, .inl (cI, 4, .inl fw1)), (na1, .inl (cI, 4, .inl fn1))]) [3, 4, 5, 6, 7, 8, 9, 10, 0, 1, 2] rfl
  have hD9 := hD.sub (ws' := [(r6, .inr (0, [.ref b7, .int 0, .int 0, .int 0])), (b7, .inl (cB, 24, .inl g8)), (mo, .inr (9, [th, .ref al, md, rf, kn])), (al, .inr (4, [mc, .ref ed, .int (nI cc)])), (ed, .inl (cO, 10, .inr (.inr (.inr (.inr ee))))), (a0, .inr (8, [.int 4, .ref wa0, .ref na0])), (wa0, .inl (cI, 4, .inl fw0)), (na0, .inl (cI, 4, .inl fn0)), (a1, .inr (8, [.int 4, .ref wa1, .ref na1])), (wa1, .inl (cI, 4, .inl fw1)), (na1, .inl (cI, 4, .inl fn1))]) [3, 4, 5, 6, 7, 8, 9, 10, 0, 1, 2] (by decide) rfl
  exact W.aret hx hb hr (by first | exact Or.inl ⟨_, rfl⟩ | exact Or.inr ⟨_, rfl⟩) (Or.inr ⟨_, rfl⟩) (fun t ht hW => ⟨⟨(), _, rfl, trivial, ⟨_, _, ⟨by rw [ht]; exact hP9, va_K.moved hW.alike hK, hD9, by rw [ht]; exact hz⟩, hfg8⟩⟩, hS.F ht⟩) hS.2.2 dX4_textAt_191

