theorem hi_X4_textAt_X3 : ∀ w ∈ u_ws RX3 TX3 3, w ∈ wsX4_textAt := fun w h => List.mem_cons_of_mem _ (zhi_X3 w h)
set_option maxHeartbeats 4000000 in
set_option maxRecDepth 100000 in
theorem k_tAt0_0 (l : Launch) (dC : Nat → ClassId) (dI : Nat → Nat → Nat) (cI cB cR cO : ClassId) (zk : Nat → Nat) (mo al ed cc : Nat) (ee : Nat → Option Nat) (th md rf kn mc : Value) (a0 wa0 na0 : Nat) (fw0 fn0 : Nat → Int32) (sz : Nat) (hcc : 0 < cc) (hcc2 : cc ≤ 10) (hw0 : ∀ i, i < 4 → fw0 i = 0) (hn0 : ∀ i, i < 4 → fn0 i = (-1)) (he0 : ee 0 = some a0) : Met l yX4_textAt wsX4_textAt ({ frames := 0, cells := 0, slots := 0, locals := 0 }) (va_Pc [.ref mo, .ref a0, .int 0] (zPre (dC, dI) (zT cI cB cR cO) zk [] [(mo, .inr (9, [th, .ref al, md, rf, kn])), (al, .inr (4, [mc, .ref ed, .int (nI cc)])), (ed, .inl (cO, 10, .inr (.inr (.inr (.inr ee))))), (a0, .inr (8, [.int 4, .ref wa0, .ref na0])), (wa0, .inl (cI, 4, .inl fw0)), (na0, .inl (cI, 4, .inl fn0))] sz)) (va_Qr (fun _ : Unit => True) (fun _ ra t => zEnd (dC, dI) (zT cI cB cR cO) (va_A [(mo, .inr (9, [th, .ref al, md, rf, kn])), (al, .inr (4, [mc, .ref ed, .int (nI cc)])), (ed, .inl (cO, 10, .inr (.inr (.inr (.inr ee))))), (a0, .inr (8, [.int 4, .ref wa0, .ref na0])), (wa0, .inl (cI, 4, .inl fw0)), (na0, .inl (cI, 4, .inl fn0))] sz) [(mo, .inr (9, [th, .ref al, md, rf, kn])), (al, .inr (4, [mc, .ref ed, .int (nI cc)])), (ed, .inl (cO, 10, .inr (.inr (.inr (.inr ee))))), (a0, .inr (8, [.int 4, .ref wa0, .ref na0])), (wa0, .inl (cI, 4, .inl fw0)), (na0, .inl (cI, 4, .inl fn0))] sz 0 t ∧ ra = zk 5) (va_A [(mo, .inr (9, [th, .ref al, md, rf, kn])), (al, .inr (4, [mc, .ref ed, .int (nI cc)])), (ed, .inl (cO, 10, .inr (.inr (.inr (.inr ee))))), (a0, .inr (8, [.int 4, .ref wa0, .ref na0])), (wa0, .inl (cI, 4, .inl fw0)), (na0, .inl (cI, 4, .inl fn0))] sz)) 0 0 (va_A [(mo, .inr (9, [th, .ref al, md, rf, kn])), (al, .inr (4, [mc, .ref ed, .int (nI cc)])), (ed, .inl (cO, 10, .inr (.inr (.inr (.inr ee))))), (a0, .inr (8, [.int 4, .ref wa0, .ref na0])), (wa0, .inl (cI, 4, .inl fw0)), (na0, .inl (cI, 4, .inl fn0))] sz) := by
  refine Met.ofW (cc := cX4_textAt) (maxL := 4) (ret := (some (.object "java/lang/String"))) (by decide) rfl ?_
  intro p e s mY args below meth c s₁ B hml hv
  obtain ⟨rfl, hsz, hP, hK, hD0, hZ⟩ := hv
  have hx := B.exec
  have hb := B.bytes
  have hr := B.returns
  have hts := atoms_spec (ws := wsX4_textAt) B.pre
  have hown : s.vm.findClass RX4 = some mY.cls := findClass_of_methodNamed B.named
  have hlocks := B.notSynchronized
  subst hsz
  have hD := hD0.self (sz := s.heap.size)
  generalize hAe : va_A [(mo, .inr (9, [th, .ref al, md, rf, kn])), (al, .inr (4, [mc, .ref ed, .int (nI cc)])), (ed, .inl (cO, 10, .inr (.inr (.inr (.inr ee))))), (a0, .inr (8, [.int 4, .ref wa0, .ref na0])), (wa0, .inl (cI, 4, .inl fw0)), (na0, .inl (cI, 4, .inl fn0))] s.heap.size = A at hD hZ ⊢
  have hA : ∀ q : Nat, s.heap.size ≤ q → A q := fun q h => by rw [← hAe]; exact Or.inr h
  have hS : va_S A s.heap s.heap [] := va_S.rf
  have hz : s.heap.size + 0 ≤ s.heap.size := Nat.le_refl _
  have hl := lv_entry ([.ref mo, .ref a0, .int 0]) (n := 4) (Nat.le_of_ble_eq_true rfl)
  rw [lg_entry_eq]
  generalize (lg_sl ([.ref mo, .ref a0, .int 0]) ++ List.replicate (4 - (lg_sl ([.ref mo, .ref a0, .int 0])).length) Slot.unset).toArray = ls at hl ⊢
  have hl : lv_has ls 4 [(0, .ref mo), (1, .ref a0), (2, .int 0)] := hl
  have hP : va_P (dC, dI) vwCl [(mo, .inr (9, [th, .ref al, md, rf, kn])), (al, .inr (4, [mc, .ref ed, .int (nI cc)])), (ed, .inl (cO, 10, .inr (.inr (.inr (.inr ee))))), (a0, .inr (8, [.int 4, .ref wa0, .ref na0])), (wa0, .inl (cI, 4, .inl fw0)), (na0, .inl (cI, 4, .inl fn0))] s.heap := hP
  have hD : va_D A [(mo, .inr (9, [th, .ref al, md, rf, kn])), (al, .inr (4, [mc, .ref ed, .int (nI cc)])), (ed, .inl (cO, 10, .inr (.inr (.inr (.inr ee))))), (a0, .inr (8, [.int 4, .ref wa0, .ref na0])), (wa0, .inl (cI, 4, .inl fw0)), (na0, .inl (cI, 4, .inl fn0))] := hD
  refine lv_aload_n hx hb dX4_textAt_0 rfl (lv_at hl 1 rfl) ?_
  refine va_get (D := (dC, dI)) (ci := 8) (v := .ref na0) (C := RX3) (T := TX3) (N := 3) hx hb hts hi_X4_textAt_X3 hown hK hP 3 rfl rfl 2 (by decide) (hts (.fieldLink RX4 48 "DeeprowsModel$Row" "numbers" "[I") (List.mem_cons_of_mem _ zw_1180)) (fun _ h9 => h9) rfl dX4_textAt_1 ?_
  refine lv_iload_n hx hb dX4_textAt_4 rfl (lv_at hl 2 rfl) ?_
  refine va_iald (D := (dC, dI)) (cl := vwCl) hx hb hK hP 5 0 rfl rfl (by unfold vp_in; decide) dX4_textAt_5 ?_
  refine lv_topi (fun v1 ev1 => ?_)
  obtain rfl : v1 = (-1) := ev1.trans (hn0 0 (by decide))
  refine lv_istore_n (lv' := [(3, .int (-1)), (0, .ref mo), (1, .ref a0), (2, .int 0)]) hx hb dX4_textAt_6 rfl hl (by decide) rfl (fun ls hl => ?_)
  refine lv_aload_n hx hb dX4_textAt_7 rfl (lv_at hl 2 rfl) ?_
  refine va_get (D := (dC, dI)) (ci := 8) (v := .int 4) (C := RX3) (T := TX3) (N := 3) hx hb hts hi_X4_textAt_X3 hown hK hP 3 rfl rfl 0 (by decide) (hts (.fieldLink RX4 103 "DeeprowsModel$Row" "kind" "I") (List.mem_cons_of_mem _ zw_1176)) (fun _ h9 => h9) rfl dX4_textAt_8 ?_
  refine lv_tableOut (tgt := 122) hx hb dX4_textAt_11 (by decide) (by decide) ?_
  refine lv_aload_n hx hb dX4_textAt_122 rfl (lv_at hl 2 rfl) ?_
  refine va_get (D := (dC, dI)) (ci := 8) (v := .ref wa0) (C := RX3) (T := TX3) (N := 3) hx hb hts hi_X4_textAt_X3 hown hK hP 3 rfl rfl 1 (by decide) (hts (.fieldLink RX4 70 "DeeprowsModel$Row" "whats" "[I") (List.mem_cons_of_mem _ zw_1178)) (fun _ h9 => h9) rfl dX4_textAt_123 ?_
  refine lv_iload_n hx hb dX4_textAt_126 rfl (lv_at hl 3 rfl) ?_
  refine va_iald (D := (dC, dI)) (cl := vwCl) hx hb hK hP 4 0 rfl rfl (by unfold vp_in; decide) dX4_textAt_127 ?_
  refine lv_topi (fun v2 ev2 => ?_)
  obtain rfl : v2 = 0 := ev2.trans (hw0 0 (by decide))
  refine lv_if_ne (tgt := 136) hx hb dX4_textAt_128 (by decide) (fun c9 => ?_) (fun c9 => ?_)
  · exact absurd (by decide) c9
  refine va_ldcS (own := RX4) (tx := "null") (q := zk 5) hx hb hown (zl4 hZ) dX4_textAt_131 ?_
  refine lv_goto (tgt := 191) hx hb dX4_textAt_133 (by decide) ?_
  have hP9 := hP.sub (ws' := [(mo, .inr (9, [th, .ref al, md, rf, kn])), (al, .inr (4, [mc, .ref ed, .int (nI cc)])), (ed, .inl (cO, 10, .inr (.inr (.inr (.inr ee))))), (a0, .inr (8, [.int 4, .ref wa0, .ref na0])), (wa0, .inl (cI, 4, .inl fw0)), (na0, .inl (cI, 4, .inl fn0))]) [0, 1, 2, 3, 4, 5] rfl
  have hD9 := hD.sub (ws' := [(mo, .inr (9, [th, .ref al, md, rf, kn])), (al, .inr (4, [mc, .ref ed, .int (nI cc)])), (ed, .inl (cO, 10, .inr (.inr (.inr (.inr ee))))), (a0, .inr (8, [.int 4, .ref wa0, .ref na0])), (wa0, .inl (cI, 4, .inl fw0)), (na0, .inl (cI, 4, .inl fn0))]) [0, 1, 2, 3, 4, 5] (by decide) rfl
  exact W.aret hx hb hr (by first | exact Or.inl ⟨_, rfl⟩ | exact Or.inr ⟨_, rfl⟩) (Or.inr ⟨_, rfl⟩) (fun t ht hW => ⟨⟨(), _, rfl, trivial, ⟨⟨by rw [ht]; exact hP9, va_K.moved hW.alike hK, hD9, by rw [ht]; exact hz⟩, rfl⟩⟩, hS.F ht⟩) hS.2.2 dX4_textAt_191

set_option maxHeartbeats 4000000 in
set_option maxRecDepth 100000 in
theorem k_tAt0_1 (l : Launch) (dC : Nat → ClassId) (dI : Nat → Nat → Nat) (cI cB cR cO : ClassId) (zk : Nat → Nat) (mo al ed cc : Nat) (ee : Nat → Option Nat) (th md rf kn mc : Value) (a0 wa0 na0 : Nat) (fw0 fn0 : Nat → Int32) (sz : Nat) (hcc : 0 < cc) (hcc2 : cc ≤ 10) (hw0 : ∀ i, i < 4 → fw0 i = 0) (hn0 : ∀ i, i < 4 → fn0 i = (-1)) (he0 : ee 0 = some a0) : Met l yX4_textAt wsX4_textAt ({ frames := 0, cells := 0, slots := 0, locals := 0 }) (va_Pc [.ref mo, .ref a0, .int 1] (zPre (dC, dI) (zT cI cB cR cO) zk [] [(mo, .inr (9, [th, .ref al, md, rf, kn])), (al, .inr (4, [mc, .ref ed, .int (nI cc)])), (ed, .inl (cO, 10, .inr (.inr (.inr (.inr ee))))), (a0, .inr (8, [.int 4, .ref wa0, .ref na0])), (wa0, .inl (cI, 4, .inl fw0)), (na0, .inl (cI, 4, .inl fn0))] sz)) (va_Qr (fun _ : Unit => True) (fun _ ra t => zEnd (dC, dI) (zT cI cB cR cO) (va_A [(mo, .inr (9, [th, .ref al, md, rf, kn])), (al, .inr (4, [mc, .ref ed, .int (nI cc)])), (ed, .inl (cO, 10, .inr (.inr (.inr (.inr ee))))), (a0, .inr (8, [.int 4, .ref wa0, .ref na0])), (wa0, .inl (cI, 4, .inl fw0)), (na0, .inl (cI, 4, .inl fn0))] sz) [(mo, .inr (9, [th, .ref al, md, rf, kn])), (al, .inr (4, [mc, .ref ed, .int (nI cc)])), (ed, .inl (cO, 10, .inr (.inr (.inr (.inr ee))))), (a0, .inr (8, [.int 4, .ref wa0, .ref na0])), (wa0, .inl (cI, 4, .inl fw0)), (na0, .inl (cI, 4, .inl fn0))] sz 0 t ∧ ra = zk 5) (va_A [(mo, .inr (9, [th, .ref al, md, rf, kn])), (al, .inr (4, [mc, .ref ed, .int (nI cc)])), (ed, .inl (cO, 10, .inr (.inr (.inr (.inr ee))))), (a0, .inr (8, [.int 4, .ref wa0, .ref na0])), (wa0, .inl (cI, 4, .inl fw0)), (na0, .inl (cI, 4, .inl fn0))] sz)) 0 0 (va_A [(mo, .inr (9, [th, .ref al, md, rf, kn])), (al, .inr (4, [mc, .ref ed, .int (nI cc)])), (ed, .inl (cO, 10, .inr (.inr (.inr (.inr ee))))), (a0, .inr (8, [.int 4, .ref wa0, .ref na0])), (wa0, .inl (cI, 4, .inl fw0)), (na0, .inl (cI, 4, .inl fn0))] sz) := by
  refine Met.ofW (cc := cX4_textAt) (maxL := 4) (ret := (some (.object "java/lang/String"))) (by decide) rfl ?_
  intro p e s mY args below meth c s₁ B hml hv
  obtain ⟨rfl, hsz, hP, hK, hD0, hZ⟩ := hv
  have hx := B.exec
  have hb := B.bytes
  have hr := B.returns
  have hts := atoms_spec (ws := wsX4_textAt) B.pre
  have hown : s.vm.findClass RX4 = some mY.cls := findClass_of_methodNamed B.named
  have hlocks := B.notSynchronized
  subst hsz
  have hD := hD0.self (sz := s.heap.size)
  generalize hAe : va_A [(mo, .inr (9, [th, .ref al, md, rf, kn])), (al, .inr (4, [mc, .ref ed, .int (nI cc)])), (ed, .inl (cO, 10, .inr (.inr (.inr (.inr ee))))), (a0, .inr (8, [.int 4, .ref wa0, .ref na0])), (wa0, .inl (cI, 4, .inl fw0)), (na0, .inl (cI, 4, .inl fn0))] s.heap.size = A at hD hZ ⊢
  have hA : ∀ q : Nat, s.heap.size ≤ q → A q := fun q h => by rw [← hAe]; exact Or.inr h
  have hS : va_S A s.heap s.heap [] := va_S.rf
  have hz : s.heap.size + 0 ≤ s.heap.size := Nat.le_refl _
  have hl := lv_entry ([.ref mo, .ref a0, .int 1]) (n := 4) (Nat.le_of_ble_eq_true rfl)
  rw [lg_entry_eq]
  generalize (lg_sl ([.ref mo, .ref a0, .int 1]) ++ List.replicate (4 - (lg_sl ([.ref mo, .ref a0, .int 1])).length) Slot.unset).toArray = ls at hl ⊢
  have hl : lv_has ls 4 [(0, .ref mo), (1, .ref a0), (2, .int 1)] := hl
  have hP : va_P (dC, dI) vwCl [(mo, .inr (9, [th, .ref al, md, rf, kn])), (al, .inr (4, [mc, .ref ed, .int (nI cc)])), (ed, .inl (cO, 10, .inr (.inr (.inr (.inr ee))))), (a0, .inr (8, [.int 4, .ref wa0, .ref na0])), (wa0, .inl (cI, 4, .inl fw0)), (na0, .inl (cI, 4, .inl fn0))] s.heap := hP
  have hD : va_D A [(mo, .inr (9, [th, .ref al, md, rf, kn])), (al, .inr (4, [mc, .ref ed, .int (nI cc)])), (ed, .inl (cO, 10, .inr (.inr (.inr (.inr ee))))), (a0, .inr (8, [.int 4, .ref wa0, .ref na0])), (wa0, .inl (cI, 4, .inl fw0)), (na0, .inl (cI, 4, .inl fn0))] := hD
  refine lv_aload_n hx hb dX4_textAt_0 rfl (lv_at hl 1 rfl) ?_
  refine va_get (D := (dC, dI)) (ci := 8) (v := .ref na0) (C := RX3) (T := TX3) (N := 3) hx hb hts hi_X4_textAt_X3 hown hK hP 3 rfl rfl 2 (by decide) (hts (.fieldLink RX4 48 "DeeprowsModel$Row" "numbers" "[I") (List.mem_cons_of_mem _ zw_1180)) (fun _ h9 => h9) rfl dX4_textAt_1 ?_
  refine lv_iload_n hx hb dX4_textAt_4 rfl (lv_at hl 2 rfl) ?_
  refine va_iald (D := (dC, dI)) (cl := vwCl) hx hb hK hP 5 0 rfl rfl (by unfold vp_in; decide) dX4_textAt_5 ?_
  refine lv_topi (fun v1 ev1 => ?_)
  obtain rfl : v1 = (-1) := ev1.trans (hn0 1 (by decide))
  refine lv_istore_n (lv' := [(3, .int (-1)), (0, .ref mo), (1, .ref a0), (2, .int 1)]) hx hb dX4_textAt_6 rfl hl (by decide) rfl (fun ls hl => ?_)
  refine lv_aload_n hx hb dX4_textAt_7 rfl (lv_at hl 2 rfl) ?_
  refine va_get (D := (dC, dI)) (ci := 8) (v := .int 4) (C := RX3) (T := TX3) (N := 3) hx hb hts hi_X4_textAt_X3 hown hK hP 3 rfl rfl 0 (by decide) (hts (.fieldLink RX4 103 "DeeprowsModel$Row" "kind" "I") (List.mem_cons_of_mem _ zw_1176)) (fun _ h9 => h9) rfl dX4_textAt_8 ?_
  refine lv_tableOut (tgt := 122) hx hb dX4_textAt_11 (by decide) (by decide) ?_
  refine lv_aload_n hx hb dX4_textAt_122 rfl (lv_at hl 2 rfl) ?_
  refine va_get (D := (dC, dI)) (ci := 8) (v := .ref wa0) (C := RX3) (T := TX3) (N := 3) hx hb hts hi_X4_textAt_X3 hown hK hP 3 rfl rfl 1 (by decide) (hts (.fieldLink RX4 70 "DeeprowsModel$Row" "whats" "[I") (List.mem_cons_of_mem _ zw_1178)) (fun _ h9 => h9) rfl dX4_textAt_123 ?_
  refine lv_iload_n hx hb dX4_textAt_126 rfl (lv_at hl 3 rfl) ?_
  refine va_iald (D := (dC, dI)) (cl := vwCl) hx hb hK hP 4 0 rfl rfl (by unfold vp_in; decide) dX4_textAt_127 ?_
  refine lv_topi (fun v2 ev2 => ?_)
  obtain rfl : v2 = 0 := ev2.trans (hw0 1 (by decide))
  refine lv_if_ne (tgt := 136) hx hb dX4_textAt_128 (by decide) (fun c9 => ?_) (fun c9 => ?_)
  · exact absurd (by decide) c9
  refine va_ldcS (own := RX4) (tx := "null") (q := zk 5) hx hb hown (zl4 hZ) dX4_textAt_131 ?_
  refine lv_goto (tgt := 191) hx hb dX4_textAt_133 (by decide) ?_
  have hP9 := hP.sub (ws' := [(mo, .inr (9, [th, .ref al, md, rf, kn])), (al, .inr (4, [mc, .ref ed, .int (nI cc)])), (ed, .inl (cO, 10, .inr (.inr (.inr (.inr ee))))), (a0, .inr (8, [.int 4, .ref wa0, .ref na0])), (wa0, .inl (cI, 4, .inl fw0)), (na0, .inl (cI, 4, .inl fn0))]) [0, 1, 2, 3, 4, 5] rfl
  have hD9 := hD.sub (ws' := [(mo, .inr (9, [th, .ref al, md, rf, kn])), (al, .inr (4, [mc, .ref ed, .int (nI cc)])), (ed, .inl (cO, 10, .inr (.inr (.inr (.inr ee))))), (a0, .inr (8, [.int 4, .ref wa0, .ref na0])), (wa0, .inl (cI, 4, .inl fw0)), (na0, .inl (cI, 4, .inl fn0))]) [0, 1, 2, 3, 4, 5] (by decide) rfl
  exact W.aret hx hb hr (by first | exact Or.inl ⟨_, rfl⟩ | exact Or.inr ⟨_, rfl⟩) (Or.inr ⟨_, rfl⟩) (fun t ht hW => ⟨⟨(), _, rfl, trivial, ⟨⟨by rw [ht]; exact hP9, va_K.moved hW.alike hK, hD9, by rw [ht]; exact hz⟩, rfl⟩⟩, hS.F ht⟩) hS.2.2 dX4_textAt_191

set_option maxHeartbeats 4000000 in
set_option maxRecDepth 100000 in
theorem k_tAt0_2 (l : Launch) (dC : Nat → ClassId) (dI : Nat → Nat → Nat) (cI cB cR cO : ClassId) (zk : Nat → Nat) (mo al ed cc : Nat) (ee : Nat → Option Nat) (th md rf kn mc : Value) (a0 wa0 na0 : Nat) (fw0 fn0 : Nat → Int32) (sz : Nat) (hcc : 0 < cc) (hcc2 : cc ≤ 10) (hw0 : ∀ i, i < 4 → fw0 i = 0) (hn0 : ∀ i, i < 4 → fn0 i = (-1)) (he0 : ee 0 = some a0) : Met l yX4_textAt wsX4_textAt ({ frames := 0, cells := 0, slots := 0, locals := 0 }) (va_Pc [.ref mo, .ref a0, .int 2] (zPre (dC, dI) (zT cI cB cR cO) zk [] [(mo, .inr (9, [th, .ref al, md, rf, kn])), (al, .inr (4, [mc, .ref ed, .int (nI cc)])), (ed, .inl (cO, 10, .inr (.inr (.inr (.inr ee))))), (a0, .inr (8, [.int 4, .ref wa0, .ref na0])), (wa0, .inl (cI, 4, .inl fw0)), (na0, .inl (cI, 4, .inl fn0))] sz)) (va_Qr (fun _ : Unit => True) (fun _ ra t => zEnd (dC, dI) (zT cI cB cR cO) (va_A [(mo, .inr (9, [th, .ref al, md, rf, kn])), (al, .inr (4, [mc, .ref ed, .int (nI cc)])), (ed, .inl (cO, 10, .inr (.inr (.inr (.inr ee))))), (a0, .inr (8, [.int 4, .ref wa0, .ref na0])), (wa0, .inl (cI, 4, .inl fw0)), (na0, .inl (cI, 4, .inl fn0))] sz) [(mo, .inr (9, [th, .ref al, md, rf, kn])), (al, .inr (4, [mc, .ref ed, .int (nI cc)])), (ed, .inl (cO, 10, .inr (.inr (.inr (.inr ee))))), (a0, .inr (8, [.int 4, .ref wa0, .ref na0])), (wa0, .inl (cI, 4, .inl fw0)), (na0, .inl (cI, 4, .inl fn0))] sz 0 t ∧ ra = zk 5) (va_A [(mo, .inr (9, [th, .ref al, md, rf, kn])), (al, .inr (4, [mc, .ref ed, .int (nI cc)])), (ed, .inl (cO, 10, .inr (.inr (.inr (.inr ee))))), (a0, .inr (8, [.int 4, .ref wa0, .ref na0])), (wa0, .inl (cI, 4, .inl fw0)), (na0, .inl (cI, 4, .inl fn0))] sz)) 0 0 (va_A [(mo, .inr (9, [th, .ref al, md, rf, kn])), (al, .inr (4, [mc, .ref ed, .int (nI cc)])), (ed, .inl (cO, 10, .inr (.inr (.inr (.inr ee))))), (a0, .inr (8, [.int 4, .ref wa0, .ref na0])), (wa0, .inl (cI, 4, .inl fw0)), (na0, .inl (cI, 4, .inl fn0))] sz) := by
  refine Met.ofW (cc := cX4_textAt) (maxL := 4) (ret := (some (.object "java/lang/String"))) (by decide) rfl ?_
  intro p e s mY args below meth c s₁ B hml hv
  obtain ⟨rfl, hsz, hP, hK, hD0, hZ⟩ := hv
  have hx := B.exec
  have hb := B.bytes
  have hr := B.returns
  have hts := atoms_spec (ws := wsX4_textAt) B.pre
  have hown : s.vm.findClass RX4 = some mY.cls := findClass_of_methodNamed B.named
  have hlocks := B.notSynchronized
  subst hsz
  have hD := hD0.self (sz := s.heap.size)
  generalize hAe : va_A [(mo, .inr (9, [th, .ref al, md, rf, kn])), (al, .inr (4, [mc, .ref ed, .int (nI cc)])), (ed, .inl (cO, 10, .inr (.inr (.inr (.inr ee))))), (a0, .inr (8, [.int 4, .ref wa0, .ref na0])), (wa0, .inl (cI, 4, .inl fw0)), (na0, .inl (cI, 4, .inl fn0))] s.heap.size = A at hD hZ ⊢
  have hA : ∀ q : Nat, s.heap.size ≤ q → A q := fun q h => by rw [← hAe]; exact Or.inr h
  have hS : va_S A s.heap s.heap [] := va_S.rf
  have hz : s.heap.size + 0 ≤ s.heap.size := Nat.le_refl _
  have hl := lv_entry ([.ref mo, .ref a0, .int 2]) (n := 4) (Nat.le_of_ble_eq_true rfl)
  rw [lg_entry_eq]
  generalize (lg_sl ([.ref mo, .ref a0, .int 2]) ++ List.replicate (4 - (lg_sl ([.ref mo, .ref a0, .int 2])).length) Slot.unset).toArray = ls at hl ⊢
  have hl : lv_has ls 4 [(0, .ref mo), (1, .ref a0), (2, .int 2)] := hl
  have hP : va_P (dC, dI) vwCl [(mo, .inr (9, [th, .ref al, md, rf, kn])), (al, .inr (4, [mc, .ref ed, .int (nI cc)])), (ed, .inl (cO, 10, .inr (.inr (.inr (.inr ee))))), (a0, .inr (8, [.int 4, .ref wa0, .ref na0])), (wa0, .inl (cI, 4, .inl fw0)), (na0, .inl (cI, 4, .inl fn0))] s.heap := hP
  have hD : va_D A [(mo, .inr (9, [th, .ref al, md, rf, kn])), (al, .inr (4, [mc, .ref ed, .int (nI cc)])), (ed, .inl (cO, 10, .inr (.inr (.inr (.inr ee))))), (a0, .inr (8, [.int 4, .ref wa0, .ref na0])), (wa0, .inl (cI, 4, .inl fw0)), (na0, .inl (cI, 4, .inl fn0))] := hD
  refine lv_aload_n hx hb dX4_textAt_0 rfl (lv_at hl 1 rfl) ?_
  refine va_get (D := (dC, dI)) (ci := 8) (v := .ref na0) (C := RX3) (T := TX3) (N := 3) hx hb hts hi_X4_textAt_X3 hown hK hP 3 rfl rfl 2 (by decide) (hts (.fieldLink RX4 48 "DeeprowsModel$Row" "numbers" "[I") (List.mem_cons_of_mem _ zw_1180)) (fun _ h9 => h9) rfl dX4_textAt_1 ?_
  refine lv_iload_n hx hb dX4_textAt_4 rfl (lv_at hl 2 rfl) ?_
  refine va_iald (D := (dC, dI)) (cl := vwCl) hx hb hK hP 5 0 rfl rfl (by unfold vp_in; decide) dX4_textAt_5 ?_
  refine lv_topi (fun v1 ev1 => ?_)
  obtain rfl : v1 = (-1) := ev1.trans (hn0 2 (by decide))
  refine lv_istore_n (lv' := [(3, .int (-1)), (0, .ref mo), (1, .ref a0), (2, .int 2)]) hx hb dX4_textAt_6 rfl hl (by decide) rfl (fun ls hl => ?_)
  refine lv_aload_n hx hb dX4_textAt_7 rfl (lv_at hl 2 rfl) ?_
  refine va_get (D := (dC, dI)) (ci := 8) (v := .int 4) (C := RX3) (T := TX3) (N := 3) hx hb hts hi_X4_textAt_X3 hown hK hP 3 rfl rfl 0 (by decide) (hts (.fieldLink RX4 103 "DeeprowsModel$Row" "kind" "I") (List.mem_cons_of_mem _ zw_1176)) (fun _ h9 => h9) rfl dX4_textAt_8 ?_
  refine lv_tableOut (tgt := 122) hx hb dX4_textAt_11 (by decide) (by decide) ?_
  refine lv_aload_n hx hb dX4_textAt_122 rfl (lv_at hl 2 rfl) ?_
  refine va_get (D := (dC, dI)) (ci := 8) (v := .ref wa0) (C := RX3) (T := TX3) (N := 3) hx hb hts hi_X4_textAt_X3 hown hK hP 3 rfl rfl 1 (by decide) (hts (.fieldLink RX4 70 "DeeprowsModel$Row" "whats" "[I") (List.mem_cons_of_mem _ zw_1178)) (fun _ h9 => h9) rfl dX4_textAt_123 ?_
  refine lv_iload_n hx hb dX4_textAt_126 rfl (lv_at hl 3 rfl) ?_
  refine va_iald (D := (dC, dI)) (cl := vwCl) hx hb hK hP 4 0 rfl rfl (by unfold vp_in; decide) dX4_textAt_127 ?_
  refine lv_topi (fun v2 ev2 => ?_)
  obtain rfl : v2 = 0 := ev2.trans (hw0 2 (by decide))
  refine lv_if_ne (tgt := 136) hx hb dX4_textAt_128 (by decide) (fun c9 => ?_) (fun c9 => ?_)
  · exact absurd (by decide) c9
  refine va_ldcS (own := RX4) (tx := "null") (q := zk 5) hx hb hown (zl4 hZ) dX4_textAt_131 ?_
  refine lv_goto (tgt := 191) hx hb dX4_textAt_133 (by decide) ?_
  have hP9 := hP.sub (ws' := [(mo, .inr (9, [th, .ref al, md, rf, kn])), (al, .inr (4, [mc, .ref ed, .int (nI cc)])), (ed, .inl (cO, 10, .inr (.inr (.inr (.inr ee))))), (a0, .inr (8, [.int 4, .ref wa0, .ref na0])), (wa0, .inl (cI, 4, .inl fw0)), (na0, .inl (cI, 4, .inl fn0))]) [0, 1, 2, 3, 4, 5] rfl
  have hD9 := hD.sub (ws' := [(mo, .inr (9, [th, .ref al, md, rf, kn])), (al, .inr (4, [mc, .ref ed, .int (nI cc)])), (ed, .inl (cO, 10, .inr (.inr (.inr (.inr ee))))), (a0, .inr (8, [.int 4, .ref wa0, .ref na0])), (wa0, .inl (cI, 4, .inl fw0)), (na0, .inl (cI, 4, .inl fn0))]) [0, 1, 2, 3, 4, 5] (by decide) rfl
  exact W.aret hx hb hr (by first | exact Or.inl ⟨_, rfl⟩ | exact Or.inr ⟨_, rfl⟩) (Or.inr ⟨_, rfl⟩) (fun t ht hW => ⟨⟨(), _, rfl, trivial, ⟨⟨by rw [ht]; exact hP9, va_K.moved hW.alike hK, hD9, by rw [ht]; exact hz⟩, rfl⟩⟩, hS.F ht⟩) hS.2.2 dX4_textAt_191

set_option maxHeartbeats 4000000 in
set_option maxRecDepth 100000 in
theorem k_tAt0_3 (l : Launch) (dC : Nat → ClassId) (dI : Nat → Nat → Nat) (cI cB cR cO : ClassId) (zk : Nat → Nat) (mo al ed cc : Nat) (ee : Nat → Option Nat) (th md rf kn mc : Value) (a0 wa0 na0 : Nat) (fw0 fn0 : Nat → Int32) (sz : Nat) (hcc : 0 < cc) (hcc2 : cc ≤ 10) (hw0 : ∀ i, i < 4 → fw0 i = 0) (hn0 : ∀ i, i < 4 → fn0 i = (-1)) (he0 : ee 0 = some a0) : Met l yX4_textAt wsX4_textAt ({ frames := 0, cells := 0, slots := 0, locals := 0 }) (va_Pc [.ref mo, .ref a0, .int 3] (zPre (dC, dI) (zT cI cB cR cO) zk [] [(mo, .inr (9, [th, .ref al, md, rf, kn])), (al, .inr (4, [mc, .ref ed, .int (nI cc)])), (ed, .inl (cO, 10, .inr (.inr (.inr (.inr ee))))), (a0, .inr (8, [.int 4, .ref wa0, .ref na0])), (wa0, .inl (cI, 4, .inl fw0)), (na0, .inl (cI, 4, .inl fn0))] sz)) (va_Qr (fun _ : Unit => True) (fun _ ra t => zEnd (dC, dI) (zT cI cB cR cO) (va_A [(mo, .inr (9, [th, .ref al, md, rf, kn])), (al, .inr (4, [mc, .ref ed, .int (nI cc)])), (ed, .inl (cO, 10, .inr (.inr (.inr (.inr ee))))), (a0, .inr (8, [.int 4, .ref wa0, .ref na0])), (wa0, .inl (cI, 4, .inl fw0)), (na0, .inl (cI, 4, .inl fn0))] sz) [(mo, .inr (9, [th, .ref al, md, rf, kn])), (al, .inr (4, [mc, .ref ed, .int (nI cc)])), (ed, .inl (cO, 10, .inr (.inr (.inr (.inr ee))))), (a0, .inr (8, [.int 4, .ref wa0, .ref na0])), (wa0, .inl (cI, 4, .inl fw0)), (na0, .inl (cI, 4, .inl fn0))] sz 0 t ∧ ra = zk 5) (va_A [(mo, .inr (9, [th, .ref al, md, rf, kn])), (al, .inr (4, [mc, .ref ed, .int (nI cc)])), (ed, .inl (cO, 10, .inr (.inr (.inr (.inr ee))))), (a0, .inr (8, [.int 4, .ref wa0, .ref na0])), (wa0, .inl (cI, 4, .inl fw0)), (na0, .inl (cI, 4, .inl fn0))] sz)) 0 0 (va_A [(mo, .inr (9, [th, .ref al, md, rf, kn])), (al, .inr (4, [mc, .ref ed, .int (nI cc)])), (ed, .inl (cO, 10, .inr (.inr (.inr (.inr ee))))), (a0, .inr (8, [.int 4, .ref wa0, .ref na0])), (wa0, .inl (cI, 4, .inl fw0)), (na0, .inl (cI, 4, .inl fn0))] sz) := by
  refine Met.ofW (cc := cX4_textAt) (maxL := 4) (ret := (some (.object "java/lang/String"))) (by decide) rfl ?_
  intro p e s mY args below meth c s₁ B hml hv
  obtain ⟨rfl, hsz, hP, hK, hD0, hZ⟩ := hv
  have hx := B.exec
  have hb := B.bytes
  have hr := B.returns
  have hts := atoms_spec (ws := wsX4_textAt) B.pre
  have hown : s.vm.findClass RX4 = some mY.cls := findClass_of_methodNamed B.named
  have hlocks := B.notSynchronized
  subst hsz
  have hD := hD0.self (sz := s.heap.size)
  generalize hAe : va_A [(mo, .inr (9, [th, .ref al, md, rf, kn])), (al, .inr (4, [mc, .ref ed, .int (nI cc)])), (ed, .inl (cO, 10, .inr (.inr (.inr (.inr ee))))), (a0, .inr (8, [.int 4, .ref wa0, .ref na0])), (wa0, .inl (cI, 4, .inl fw0)), (na0, .inl (cI, 4, .inl fn0))] s.heap.size = A at hD hZ ⊢
  have hA : ∀ q : Nat, s.heap.size ≤ q → A q := fun q h => by rw [← hAe]; exact Or.inr h
  have hS : va_S A s.heap s.heap [] := va_S.rf
  have hz : s.heap.size + 0 ≤ s.heap.size := Nat.le_refl _
  have hl := lv_entry ([.ref mo, .ref a0, .int 3]) (n := 4) (Nat.le_of_ble_eq_true rfl)
  rw [lg_entry_eq]
  generalize (lg_sl ([.ref mo, .ref a0, .int 3]) ++ List.replicate (4 - (lg_sl ([.ref mo, .ref a0, .int 3])).length) Slot.unset).toArray = ls at hl ⊢
  have hl : lv_has ls 4 [(0, .ref mo), (1, .ref a0), (2, .int 3)] := hl
  have hP : va_P (dC, dI) vwCl [(mo, .inr (9, [th, .ref al, md, rf, kn])), (al, .inr (4, [mc, .ref ed, .int (nI cc)])), (ed, .inl (cO, 10, .inr (.inr (.inr (.inr ee))))), (a0, .inr (8, [.int 4, .ref wa0, .ref na0])), (wa0, .inl (cI, 4, .inl fw0)), (na0, .inl (cI, 4, .inl fn0))] s.heap := hP
  have hD : va_D A [(mo, .inr (9, [th, .ref al, md, rf, kn])), (al, .inr (4, [mc, .ref ed, .int (nI cc)])), (ed, .inl (cO, 10, .inr (.inr (.inr (.inr ee))))), (a0, .inr (8, [.int 4, .ref wa0, .ref na0])), (wa0, .inl (cI, 4, .inl fw0)), (na0, .inl (cI, 4, .inl fn0))] := hD
  refine lv_aload_n hx hb dX4_textAt_0 rfl (lv_at hl 1 rfl) ?_
  refine va_get (D := (dC, dI)) (ci := 8) (v := .ref na0) (C := RX3) (T := TX3) (N := 3) hx hb hts hi_X4_textAt_X3 hown hK hP 3 rfl rfl 2 (by decide) (hts (.fieldLink RX4 48 "DeeprowsModel$Row" "numbers" "[I") (List.mem_cons_of_mem _ zw_1180)) (fun _ h9 => h9) rfl dX4_textAt_1 ?_
  refine lv_iload_n hx hb dX4_textAt_4 rfl (lv_at hl 2 rfl) ?_
  refine va_iald (D := (dC, dI)) (cl := vwCl) hx hb hK hP 5 0 rfl rfl (by unfold vp_in; decide) dX4_textAt_5 ?_
  refine lv_topi (fun v1 ev1 => ?_)
  obtain rfl : v1 = (-1) := ev1.trans (hn0 3 (by decide))
  refine lv_istore_n (lv' := [(3, .int (-1)), (0, .ref mo), (1, .ref a0), (2, .int 3)]) hx hb dX4_textAt_6 rfl hl (by decide) rfl (fun ls hl => ?_)
  refine lv_aload_n hx hb dX4_textAt_7 rfl (lv_at hl 2 rfl) ?_
  refine va_get (D := (dC, dI)) (ci := 8) (v := .int 4) (C := RX3) (T := TX3) (N := 3) hx hb hts hi_X4_textAt_X3 hown hK hP 3 rfl rfl 0 (by decide) (hts (.fieldLink RX4 103 "DeeprowsModel$Row" "kind" "I") (List.mem_cons_of_mem _ zw_1176)) (fun _ h9 => h9) rfl dX4_textAt_8 ?_
  refine lv_tableOut (tgt := 122) hx hb dX4_textAt_11 (by decide) (by decide) ?_
  refine lv_aload_n hx hb dX4_textAt_122 rfl (lv_at hl 2 rfl) ?_
  refine va_get (D := (dC, dI)) (ci := 8) (v := .ref wa0) (C := RX3) (T := TX3) (N := 3) hx hb hts hi_X4_textAt_X3 hown hK hP 3 rfl rfl 1 (by decide) (hts (.fieldLink RX4 70 "DeeprowsModel$Row" "whats" "[I") (List.mem_cons_of_mem _ zw_1178)) (fun _ h9 => h9) rfl dX4_textAt_123 ?_
  refine lv_iload_n hx hb dX4_textAt_126 rfl (lv_at hl 3 rfl) ?_
  refine va_iald (D := (dC, dI)) (cl := vwCl) hx hb hK hP 4 0 rfl rfl (by unfold vp_in; decide) dX4_textAt_127 ?_
  refine lv_topi (fun v2 ev2 => ?_)
  obtain rfl : v2 = 0 := ev2.trans (hw0 3 (by decide))
  refine lv_if_ne (tgt := 136) hx hb dX4_textAt_128 (by decide) (fun c9 => ?_) (fun c9 => ?_)
  · exact absurd (by decide) c9
  refine va_ldcS (own := RX4) (tx := "null") (q := zk 5) hx hb hown (zl4 hZ) dX4_textAt_131 ?_
  refine lv_goto (tgt := 191) hx hb dX4_textAt_133 (by decide) ?_
  have hP9 := hP.sub (ws' := [(mo, .inr (9, [th, .ref al, md, rf, kn])), (al, .inr (4, [mc, .ref ed, .int (nI cc)])), (ed, .inl (cO, 10, .inr (.inr (.inr (.inr ee))))), (a0, .inr (8, [.int 4, .ref wa0, .ref na0])), (wa0, .inl (cI, 4, .inl fw0)), (na0, .inl (cI, 4, .inl fn0))]) [0, 1, 2, 3, 4, 5] rfl
  have hD9 := hD.sub (ws' := [(mo, .inr (9, [th, .ref al, md, rf, kn])), (al, .inr (4, [mc, .ref ed, .int (nI cc)])), (ed, .inl (cO, 10, .inr (.inr (.inr (.inr ee))))), (a0, .inr (8, [.int 4, .ref wa0, .ref na0])), (wa0, .inl (cI, 4, .inl fw0)), (na0, .inl (cI, 4, .inl fn0))]) [0, 1, 2, 3, 4, 5] (by decide) rfl
  exact W.aret hx hb hr (by first | exact Or.inl ⟨_, rfl⟩ | exact Or.inr ⟨_, rfl⟩) (Or.inr ⟨_, rfl⟩) (fun t ht hW => ⟨⟨(), _, rfl, trivial, ⟨⟨by rw [ht]; exact hP9, va_K.moved hW.alike hK, hD9, by rw [ht]; exact hz⟩, rfl⟩⟩, hS.F ht⟩) hS.2.2 dX4_textAt_191

theorem hi_X4_textOf_X4 : ∀ w ∈ u_ws RX4 TX4 5, w ∈ wsX4_textOf := fun w h => List.mem_cons_of_mem _ (zhi_X4 w h)
theorem hi_X4_textOf_J4 : ∀ w ∈ u_ws RJ4 TJ4 4, w ∈ wsX4_textOf := fun w h => List.mem_cons_of_mem _ (zhi_J4 w h)
theorem hi_X4_textOf_J0 : ∀ w ∈ u_ws RJ0 TJ0 4, w ∈ wsX4_textOf := fun w h => List.mem_cons_of_mem _ (zhi_J0 w h)
set_option maxHeartbeats 4000000 in
set_option maxRecDepth 100000 in
theorem k_tOf0 (l : Launch) (dC : Nat → ClassId) (dI : Nat → Nat → Nat) (cI cB cR cO : ClassId) (zk : Nat → Nat) (mo al ed cc : Nat) (ee : Nat → Option Nat) (th md rf kn mc : Value) (a0 wa0 na0 : Nat) (fw0 fn0 : Nat → Int32) (sz : Nat) (hcc : 0 < cc) (hcc2 : cc ≤ 10) (hw0 : ∀ i, i < 4 → fw0 i = 0) (hn0 : ∀ i, i < 4 → fn0 i = (-1)) (he0 : ee 0 = some a0) : Met l yX4_textOf wsX4_textOf ({ frames := 6, cells := 23, slots := 524408, locals := 211 }) (va_Pc [.ref mo, .int 0] (zPre (dC, dI) (zT cI cB cR cO) zk [] [(mo, .inr (9, [th, .ref al, md, rf, kn])), (al, .inr (4, [mc, .ref ed, .int (nI cc)])), (ed, .inl (cO, 10, .inr (.inr (.inr (.inr ee))))), (a0, .inr (8, [.int 4, .ref wa0, .ref na0])), (wa0, .inl (cI, 4, .inl fw0)), (na0, .inl (cI, 4, .inl fn0))] sz)) (va_Qr (fun _ : Unit => True) (fun _ ra t => ∃ b0, ∃ (g0 : Nat → Int32), zEnd (dC, dI) (zT cI cB cR cO) (va_A [(mo, .inr (9, [th, .ref al, md, rf, kn])), (al, .inr (4, [mc, .ref ed, .int (nI cc)])), (ed, .inl (cO, 10, .inr (.inr (.inr (.inr ee))))), (a0, .inr (8, [.int 4, .ref wa0, .ref na0])), (wa0, .inl (cI, 4, .inl fw0)), (na0, .inl (cI, 4, .inl fn0))] sz) [(ra, .inr (0, [.ref b0, .int 0, .int 0, .int 0])), (b0, .inl (cB, 24, .inl g0)), (mo, .inr (9, [th, .ref al, md, rf, kn])), (al, .inr (4, [mc, .ref ed, .int (nI cc)])), (ed, .inl (cO, 10, .inr (.inr (.inr (.inr ee))))), (a0, .inr (8, [.int 4, .ref wa0, .ref na0])), (wa0, .inl (cI, 4, .inl fw0)), (na0, .inl (cI, 4, .inl fn0))] sz 20 t ∧ sb_Fit g0) (va_A [(mo, .inr (9, [th, .ref al, md, rf, kn])), (al, .inr (4, [mc, .ref ed, .int (nI cc)])), (ed, .inl (cO, 10, .inr (.inr (.inr (.inr ee))))), (a0, .inr (8, [.int 4, .ref wa0, .ref na0])), (wa0, .inl (cI, 4, .inl fw0)), (na0, .inl (cI, 4, .inl fn0))] sz)) 23 524408 (va_A [(mo, .inr (9, [th, .ref al, md, rf, kn])), (al, .inr (4, [mc, .ref ed, .int (nI cc)])), (ed, .inl (cO, 10, .inr (.inr (.inr (.inr ee))))), (a0, .inr (8, [.int 4, .ref wa0, .ref na0])), (wa0, .inl (cI, 4, .inl fw0)), (na0, .inl (cI, 4, .inl fn0))] sz) := by
  refine Met.ofW (cc := cX4_textOf) (maxL := 5) (ret := (some (.object "java/lang/String"))) (by decide) rfl ?_
  intro p e s mY args below meth c s₁ B hml hv
  obtain ⟨rfl, hsz, hP, hK, hD0, hZ⟩ := hv
  have hx := B.exec
  have hb := B.bytes
  have hr := B.returns
  have hts := atoms_spec (ws := wsX4_textOf) B.pre
  have hown : s.vm.findClass RX4 = some mY.cls := findClass_of_methodNamed B.named
  have hlocks := B.notSynchronized
  subst hsz
  have hD := hD0.self (sz := s.heap.size)
  generalize hAe : va_A [(mo, .inr (9, [th, .ref al, md, rf, kn])), (al, .inr (4, [mc, .ref ed, .int (nI cc)])), (ed, .inl (cO, 10, .inr (.inr (.inr (.inr ee))))), (a0, .inr (8, [.int 4, .ref wa0, .ref na0])), (wa0, .inl (cI, 4, .inl fw0)), (na0, .inl (cI, 4, .inl fn0))] s.heap.size = A at hD hZ ⊢
  have hA : ∀ q : Nat, s.heap.size ≤ q → A q := fun q h => by rw [← hAe]; exact Or.inr h
  have hS : va_S A s.heap s.heap [] := va_S.rf
  have hz : s.heap.size + 0 ≤ s.heap.size := Nat.le_refl _
  have hl := lv_entry ([.ref mo, .int 0]) (n := 5) (Nat.le_of_ble_eq_true rfl)
  rw [lg_entry_eq]
  generalize (lg_sl ([.ref mo, .int 0]) ++ List.replicate (5 - (lg_sl ([.ref mo, .int 0])).length) Slot.unset).toArray = ls at hl ⊢
  have hl : lv_has ls 5 [(0, .ref mo), (1, .int 0)] := hl
  have hP : va_P (dC, dI) vwCl [(mo, .inr (9, [th, .ref al, md, rf, kn])), (al, .inr (4, [mc, .ref ed, .int (nI cc)])), (ed, .inl (cO, 10, .inr (.inr (.inr (.inr ee))))), (a0, .inr (8, [.int 4, .ref wa0, .ref na0])), (wa0, .inl (cI, 4, .inl fw0)), (na0, .inl (cI, 4, .inl fn0))] s.heap := hP
  have hD : va_D A [(mo, .inr (9, [th, .ref al, md, rf, kn])), (al, .inr (4, [mc, .ref ed, .int (nI cc)])), (ed, .inl (cO, 10, .inr (.inr (.inr (.inr ee))))), (a0, .inr (8, [.int 4, .ref wa0, .ref na0])), (wa0, .inl (cI, 4, .inl fw0)), (na0, .inl (cI, 4, .inl fn0))] := hD
  refine lv_aload_n hx hb dX4_textOf_0 rfl (lv_at hl 0 rfl) ?_
  refine va_get (D := (dC, dI)) (ci := 9) (v := .ref al) (C := RX4) (T := TX4) (N := 5) hx hb hts hi_X4_textOf_X4 hown hK hP 0 rfl rfl 1 (by decide) (hts (.fieldLink RX4 10 "DeeprowsModel" "rows" "Ljava/util/ArrayList;") (List.mem_cons_of_mem _ zw_1134)) (fun _ h9 => h9) rfl dX4_textOf_1 ?_
  refine lv_iload_n hx hb dX4_textOf_4 rfl (lv_at hl 1 rfl) ?_
  have hPc := hP.sub (ws' := [(al, .inr (4, [mc, .ref ed, .int (nI cc)])), (ed, .inl (cO, 10, .inr (.inr (.inr (.inr ee)))))]) [1, 2] rfl
  have hDc := hD.sub (ws' := [(al, .inr (4, [mc, .ref ed, .int (nI cc)])), (ed, .inl (cO, 10, .inr (.inr (.inr (.inr ee)))))]) [1, 2] (by decide) rfl
  have hFc := va_free (wc := [(al, .inr (4, [mc, .ref ed, .int (nI cc)])), (ed, .inl (cO, 10, .inr (.inr (.inr (.inr ee)))))]) hD hS hA [1, 2] rfl
  have hDv := hDc.self (sz := s.heap.size)
  have hpre := zpre (xs' := []) (av := [.ref al, .int 0]) hPc hK (hDc.weaken (fun _ _ _ h => h)) hZ hS hFc (fun r hr => by cases hr)
  refine va_callr (va_runV (As := [.int 0]) (rest := []) ⟨hx, hb, hml, hown, hts⟩ (k_get l dC dI cI cB cR cO zk al ed 0 cc 10 a0 ee mc s.heap.size hcc hcc2 (by decide) he0) (cwV 1 hts gX4_textOf_Jx4a65c_get_915e3 rfl rfl rfl (by decide +kernel) ⟨Nat.le_of_ble_eq_true rfl, Nat.le_of_ble_eq_true rfl⟩) ⟨zblind, (zrecv_4 hK hPc (q0 := 0) rfl), hpre⟩ rfl rfl hl.1 rfl (lv_room (Nat.le_of_ble_eq_true rfl)) dX4_textOf_5 ⟨Nat.le_of_ble_eq_true rfl, Nat.le_of_ble_eq_true rfl⟩) hS (fun q _ h => hFc q h) hFc (fun u r2 t H1 locs ht hvm hw hB hz1 hk1 hS => ?_)
  obtain ⟨⟨hP1, hK1, hD1, hz2⟩, her2⟩ := hB
  rw [ht] at hP1 hz2
  have hPD9 := va_join (wr := [(mo, .inr (9, [th, .ref al, md, rf, kn])), (a0, .inr (8, [.int 4, .ref wa0, .ref na0])), (wa0, .inl (cI, 4, .inl fw0)), (na0, .inl (cI, 4, .inl fn0))]) (w1 := [(al, .inr (4, [mc, .ref ed, .int (nI cc)])), (ed, .inl (cO, 10, .inr (.inr (.inr (.inr ee)))))]) hP hD [1, 2] [0, 3, 4, 5] rfl rfl (by decide) (by decide) hk1 hFc hP1 hD1
  clear hPc hDc hFc hDv hpre hP hD hP1 hK1 hD1
  obtain ⟨hP, hD⟩ := hPD9
  replace hz : s.heap.size + 0 ≤ H1.size := by omega
  clear hz2
  replace hP : va_P (dC, dI) vwCl [(mo, .inr (9, [th, .ref al, md, rf, kn])), (a0, .inr (8, [.int 4, .ref wa0, .ref na0])), (wa0, .inl (cI, 4, .inl fw0)), (na0, .inl (cI, 4, .inl fn0)), (al, .inr (4, [mc, .ref ed, .int (nI cc)])), (ed, .inl (cO, 10, .inr (.inr (.inr (.inr ee)))))] H1 := hP
  replace hD : va_D A [(mo, .inr (9, [th, .ref al, md, rf, kn])), (a0, .inr (8, [.int 4, .ref wa0, .ref na0])), (wa0, .inl (cI, 4, .inl fw0)), (na0, .inl (cI, 4, .inl fn0)), (al, .inr (4, [mc, .ref ed, .int (nI cc)])), (ed, .inl (cO, 10, .inr (.inr (.inr (.inr ee)))))] := hD
  refine W.widen (k := 0) (n := 0) (by omega) (by omega) ?_
  obtain rfl := her2.symm
  refine va_castE hx hb hown (hts (.classLink RX4 40 "DeeprowsModel$Row") (List.mem_cons_of_mem _ zw_1165)) (zrecv_8 hK hP (q0 := 1) rfl) dX4_textOf_8 ?_
  refine lv_astore_n (lv' := [(2, .ref a0), (0, .ref mo), (1, .int 0)]) hx hb dX4_textOf_11 rfl hl (by decide) rfl (fun ls hl => ?_)
  refine va_ldcS (own := RX4) (tx := "[") (q := zk 1) hx hb hown (zl0 hZ) dX4_textOf_12 ?_
  refine lv_astore_n (lv' := [(3, .ref (zk 1)), (2, .ref a0), (0, .ref mo), (1, .int 0)]) hx hb dX4_textOf_14 rfl hl (by decide) rfl (fun ls hl => ?_)
  refine lv_iconst (v := 0) hx hb dX4_textOf_15 (by decide) ?_
  refine lv_istore (lv' := [(4, .int 0), (3, .ref (zk 1)), (2, .ref a0), (0, .ref mo), (1, .int 0)]) hx hb dX4_textOf_16 hl (by decide) rfl (fun ls hl => ?_)
  refine lv_iload hx hb dX4_textOf_18 (lv_at hl 0 rfl) ?_
  refine lv_aload_n hx hb dX4_textOf_20 rfl (lv_at hl 2 rfl) ?_
  have hPc := hP.sub (ws' := [(a0, .inr (8, [.int 4, .ref wa0, .ref na0])), (wa0, .inl (cI, 4, .inl fw0))]) [1, 2] rfl
  have hDc := hD.sub (ws' := [(a0, .inr (8, [.int 4, .ref wa0, .ref na0])), (wa0, .inl (cI, 4, .inl fw0))]) [1, 2] (by decide) rfl
  have hFc := va_free (wc := [(a0, .inr (8, [.int 4, .ref wa0, .ref na0])), (wa0, .inl (cI, 4, .inl fw0))]) hD hS hA [1, 2] rfl
  have hDv := hDc.self (sz := H1.size)
  have hpre := zpre (xs' := []) (av := [.ref a0]) hPc hK (hDc.weaken (fun _ _ _ h => h)) hZ hS hFc (fun r hr => by cases hr)
  refine va_calli (va_runV (As := []) (rest := [.int 0]) ⟨hx, hb, hml, hown, hts⟩ (k_rlen l dC dI cI cB cR cO zk a0 wa0 na0 fw0 H1.size ) (cwV 0 hts gX4_textOf_X3_length rfl rfl rfl (by decide +kernel) ⟨Nat.le_of_ble_eq_true rfl, Nat.le_of_ble_eq_true rfl⟩) ⟨zblind, (zrecv_8 hK hPc (q0 := 0) rfl), hpre⟩ rfl rfl hl.1 rfl (lv_room (Nat.le_of_ble_eq_true rfl)) dX4_textOf_21 ⟨Nat.le_of_ble_eq_true rfl, Nat.le_of_ble_eq_true rfl⟩) hS (fun q _ h => hFc q h) hFc (fun r4 u t H3 locs ht hvm hw hB hz1 hk1 hS => ?_)
  obtain rfl : 4 = r4 := (show r4 = 4 from hw).symm
  obtain ⟨hP1, hK1, hD1, hz2⟩ := hB
  rw [ht] at hP1 hz2
  have hPD9 := va_join (wr := [(mo, .inr (9, [th, .ref al, md, rf, kn])), (na0, .inl (cI, 4, .inl fn0)), (al, .inr (4, [mc, .ref ed, .int (nI cc)])), (ed, .inl (cO, 10, .inr (.inr (.inr (.inr ee)))))]) (w1 := [(a0, .inr (8, [.int 4, .ref wa0, .ref na0])), (wa0, .inl (cI, 4, .inl fw0))]) hP hD [1, 2] [0, 3, 4, 5] rfl rfl (by decide) (by decide) hk1 hFc hP1 hD1
  clear hPc hDc hFc hDv hpre hP hD hP1 hK1 hD1
  obtain ⟨hP, hD⟩ := hPD9
  replace hz : s.heap.size + 0 ≤ H3.size := by omega
  clear hz2
  replace hP : va_P (dC, dI) vwCl [(mo, .inr (9, [th, .ref al, md, rf, kn])), (na0, .inl (cI, 4, .inl fn0)), (al, .inr (4, [mc, .ref ed, .int (nI cc)])), (ed, .inl (cO, 10, .inr (.inr (.inr (.inr ee))))), (a0, .inr (8, [.int 4, .ref wa0, .ref na0])), (wa0, .inl (cI, 4, .inl fw0))] H3 := hP
  replace hD : va_D A [(mo, .inr (9, [th, .ref al, md, rf, kn])), (na0, .inl (cI, 4, .inl fn0)), (al, .inr (4, [mc, .ref ed, .int (nI cc)])), (ed, .inl (cO, 10, .inr (.inr (.inr (.inr ee))))), (a0, .inr (8, [.int 4, .ref wa0, .ref na0])), (wa0, .inl (cI, 4, .inl fw0))] := hD
  refine W.widen (k := 0) (n := 0) (by omega) (by omega) ?_
  refine lv_icmp_ge (tgt := 73) hx hb dX4_textOf_24 (by decide) (fun c9 => ?_) (fun c9 => ?_)
  · exact absurd c9 (by decide)
  refine zw_new (ci := 1) (fs := [.null, .int 0, .int 0, .int 0]) (C := RJ4) (T := TJ4) (N := 4) hx hb hts hi_X4_textOf_J4 tyJ4 tyJ4_ok hown (hts (.classLink RX4 165 RJ4) (List.mem_cons_of_mem _ zw_1388)) (hts (.instantiable RJ4 4) (List.mem_cons_of_mem _ zw_139)) (hts (.initialized RJ4) (List.mem_cons_of_mem _ zw_47)) hK hP hD hS hA rfl (fun j hj => by rcases (show j = 0 ∨ j = 1 ∨ j = 2 ∨ j = 3 by omega) with rfl | rfl | rfl | rfl <;> rfl) (Nat.le_of_ble_eq_true rfl) (Nat.le_of_ble_eq_true rfl) dX4_textOf_27 hz (fun q5 H6 hP hD hS hz => ?_)
  replace hP : va_P (dC, dI) vwCl [(mo, .inr (9, [th, .ref al, md, rf, kn])), (na0, .inl (cI, 4, .inl fn0)), (al, .inr (4, [mc, .ref ed, .int (nI cc)])), (ed, .inl (cO, 10, .inr (.inr (.inr (.inr ee))))), (a0, .inr (8, [.int 4, .ref wa0, .ref na0])), (wa0, .inl (cI, 4, .inl fw0)), (q5, .inr (1, [.null, .int 0, .int 0, .int 0]))] H6 := hP
  replace hD : va_D A [(mo, .inr (9, [th, .ref al, md, rf, kn])), (na0, .inl (cI, 4, .inl fn0)), (al, .inr (4, [mc, .ref ed, .int (nI cc)])), (ed, .inl (cO, 10, .inr (.inr (.inr (.inr ee))))), (a0, .inr (8, [.int 4, .ref wa0, .ref na0])), (wa0, .inl (cI, 4, .inl fw0)), (q5, .inr (1, [.null, .int 0, .int 0, .int 0]))] := hD
  refine W.widen (k := 1) (n := 4) (by omega) (by omega) ?_
  refine lv_dup hx hb dX4_textOf_30 rfl ?_
  have hPc := hP.sub (ws' := [(q5, .inr (1, [.null, .int 0, .int 0, .int 0]))]) [6] rfl
  have hDc := hD.sub (ws' := [(q5, .inr (1, [.null, .int 0, .int 0, .int 0]))]) [6] (by decide) rfl
  have hFc := va_free (wc := [(q5, .inr (1, [.null, .int 0, .int 0, .int 0]))]) hD hS hA [6] rfl
  have hDv := hDc.self (sz := H6.size)
  have hpre := zpre (xs' := []) (av := [.ref q5]) hPc hK (hDc.weaken (fun _ _ _ h => h)) hZ hS hFc (fun r hr => by cases hr)
  refine va_callv (va_runI (As := []) (rest := [.ref q5]) ⟨hx, hb, hml, hown, hts⟩ (k_init4 l dC dI cI cB cR cO zk q5 H6.size ) (cwI 0 hts gX4_textOf_J4_init_da8c8 rfl rfl rfl (hts (.initialized RJ4) (List.mem_cons_of_mem _ zw_47)) (hts (.methodLink RX4 167 yJ4_init_da8c8) (List.mem_cons_of_mem _ zw_1389)) (hts (.instanceMethod yJ4_init_da8c8) (List.mem_cons_of_mem _ zw_141)) rfl (by decide +kernel) ⟨Nat.le_of_ble_eq_true rfl, Nat.le_of_ble_eq_true rfl⟩) ⟨zblind, hpre⟩ rfl rfl hl.1 rfl (lv_room (Nat.le_of_ble_eq_true rfl)) dX4_textOf_31 ⟨Nat.le_of_ble_eq_true rfl, Nat.le_of_ble_eq_true rfl⟩) hS (fun q _ h => hFc q h) hFc (fun u t H7 locs ht hvm hw hB hz1 hk1 hS => ?_)
  obtain ⟨w9, ⟨hP1, hK1, hD1, hz2⟩⟩ := hB
  rw [ht] at hP1 hz2
  have hPD9 := va_join (wr := [(mo, .inr (9, [th, .ref al, md, rf, kn])), (na0, .inl (cI, 4, .inl fn0)), (al, .inr (4, [mc, .ref ed, .int (nI cc)])), (ed, .inl (cO, 10, .inr (.inr (.inr (.inr ee))))), (a0, .inr (8, [.int 4, .ref wa0, .ref na0])), (wa0, .inl (cI, 4, .inl fw0))]) (w1 := [(q5, .inr (1, [.ref w9, .int 0, .int 0, .int 0])), (w9, .inl (cB, 16, .inl (fun _ => 0)))]) hP hD [6] [0, 1, 2, 3, 4, 5] rfl rfl (by decide) (by decide) hk1 hFc hP1 hD1
  clear hPc hDc hFc hDv hpre hP hD hP1 hK1 hD1
  obtain ⟨hP, hD⟩ := hPD9
  replace hz : s.heap.size + 2 ≤ H7.size := by omega
  clear hz2
  replace hP : va_P (dC, dI) vwCl [(mo, .inr (9, [th, .ref al, md, rf, kn])), (na0, .inl (cI, 4, .inl fn0)), (al, .inr (4, [mc, .ref ed, .int (nI cc)])), (ed, .inl (cO, 10, .inr (.inr (.inr (.inr ee))))), (a0, .inr (8, [.int 4, .ref wa0, .ref na0])), (wa0, .inl (cI, 4, .inl fw0)), (q5, .inr (1, [.ref w9, .int 0, .int 0, .int 0])), (w9, .inl (cB, 16, .inl (fun _ => 0)))] H7 := hP
  replace hD : va_D A [(mo, .inr (9, [th, .ref al, md, rf, kn])), (na0, .inl (cI, 4, .inl fn0)), (al, .inr (4, [mc, .ref ed, .int (nI cc)])), (ed, .inl (cO, 10, .inr (.inr (.inr (.inr ee))))), (a0, .inr (8, [.int 4, .ref wa0, .ref na0])), (wa0, .inl (cI, 4, .inl fw0)), (q5, .inr (1, [.ref w9, .int 0, .int 0, .int 0])), (w9, .inl (cB, 16, .inl (fun _ => 0)))] := hD
  refine W.widen (k := 2) (n := 20) (by omega) (by omega) ?_
  refine lv_aload_n hx hb dX4_textOf_34 rfl (lv_at hl 1 rfl) ?_
  have hPc := hP.sub (ws' := [(q5, .inr (1, [.ref w9, .int 0, .int 0, .int 0])), (w9, .inl (cB, 16, .inl (fun _ => 0)))]) [6, 7] rfl
  have hDc := hD.sub (ws' := [(q5, .inr (1, [.ref w9, .int 0, .int 0, .int 0])), (w9, .inl (cB, 16, .inl (fun _ => 0)))]) [6, 7] (by decide) rfl
  have hFc := va_free (wc := [(q5, .inr (1, [.ref w9, .int 0, .int 0, .int 0])), (w9, .inl (cB, 16, .inl (fun _ => 0)))]) hD hS hA [6, 7] rfl
  have hDv := hDc.self (sz := H7.size)
  have hx0 : zS ((zk 1), (zk 11), 1, (fun j => (zByt.getD 0 []).getD j 0)) (va_A [(q5, .inr (1, [.ref w9, .int 0, .int 0, .int 0])), (w9, .inl (cB, 16, .inl (fun _ => 0)))] H7.size) s H7 := zc0 hZ hS hFc
  have hpre := zpre (xs' := [((zk 1), (zk 11), 1, (fun j => (zByt.getD 0 []).getD j 0))]) (av := [.ref q5, .ref (zk 1)]) hPc hK (hDc.weaken (fun _ _ _ h => h)) hZ hS hFc (fun r hr => by cases hr with | head => exact hx0 | tail _ h => cases h)
  refine va_callr (va_runV (As := [.ref (zk 1)]) (rest := []) ⟨hx, hb, hml, hown, hts⟩ (k_apA l dC dI cI cB cR cO zk q5 w9 (zk 1) (zk 11) 1 16 0 (fun j => (zByt.getD 0 []).getD j 0) (fun _ => 0) (.int 0) H7.size (by decide) (by decide) (by decide) sb_fit0 (by decide)) (cwV 1 hts gX4_textOf_J4_append_15ec4 rfl rfl rfl (by decide +kernel) ⟨Nat.le_of_ble_eq_true rfl, Nat.le_of_ble_eq_true rfl⟩) ⟨zblind, (zrecv_1 hK hPc (q0 := 0) rfl), hpre⟩ rfl rfl hl.1 rfl (lv_room (Nat.le_of_ble_eq_true rfl)) dX4_textOf_35 ⟨Nat.le_of_ble_eq_true rfl, Nat.le_of_ble_eq_true rfl⟩) hS (fun q _ h => hFc q h) hFc (fun u r11 t H10 locs ht hvm hw hB hz1 hk1 hS => ?_)
  obtain ⟨v12, f13, ⟨hP1, hK1, hD1, hz2⟩, hff13, her11⟩ := hB
  rw [ht] at hP1 hz2
  have hPD9 := va_join (wr := [(mo, .inr (9, [th, .ref al, md, rf, kn])), (na0, .inl (cI, 4, .inl fn0)), (al, .inr (4, [mc, .ref ed, .int (nI cc)])), (ed, .inl (cO, 10, .inr (.inr (.inr (.inr ee))))), (a0, .inr (8, [.int 4, .ref wa0, .ref na0])), (wa0, .inl (cI, 4, .inl fw0))]) (w1 := [(q5, .inr (1, [.ref v12, .int 0, .int 0, .int (nI 1)])), (v12, .inl (cB, 16, .inl f13))]) hP hD [6, 7] [0, 1, 2, 3, 4, 5] rfl rfl (by decide) (by decide) hk1 hFc hP1 hD1
  clear hPc hDc hFc hDv hpre hP hD hP1 hK1 hD1
  obtain ⟨hP, hD⟩ := hPD9
  replace hz : s.heap.size + 2 ≤ H10.size := by omega
  clear hz2
  replace hP : va_P (dC, dI) vwCl [(mo, .inr (9, [th, .ref al, md, rf, kn])), (na0, .inl (cI, 4, .inl fn0)), (al, .inr (4, [mc, .ref ed, .int (nI cc)])), (ed, .inl (cO, 10, .inr (.inr (.inr (.inr ee))))), (a0, .inr (8, [.int 4, .ref wa0, .ref na0])), (wa0, .inl (cI, 4, .inl fw0)), (q5, .inr (1, [.ref v12, .int 0, .int 0, .int (nI 1)])), (v12, .inl (cB, 16, .inl f13))] H10 := hP
  replace hD : va_D A [(mo, .inr (9, [th, .ref al, md, rf, kn])), (na0, .inl (cI, 4, .inl fn0)), (al, .inr (4, [mc, .ref ed, .int (nI cc)])), (ed, .inl (cO, 10, .inr (.inr (.inr (.inr ee))))), (a0, .inr (8, [.int 4, .ref wa0, .ref na0])), (wa0, .inl (cI, 4, .inl fw0)), (q5, .inr (1, [.ref v12, .int 0, .int 0, .int (nI 1)])), (v12, .inl (cB, 16, .inl f13))] := hD
  refine W.widen (k := 2) (n := 20) (by omega) (by omega) ?_
  obtain rfl := her11.symm
  refine lv_iload hx hb dX4_textOf_38 (lv_at hl 0 rfl) ?_
  refine lv_if_le (tgt := 48) hx hb dX4_textOf_40 (by decide) (fun c9 => ?_) (fun c9 => ?_)
  rotate_left
  · exact absurd (by decide) c9
  refine va_ldcS (own := RX4) (tx := "") (q := zk 4) hx hb hown (zl3 hZ) dX4_textOf_48 ?_
  have hPc := hP.sub (ws' := [(q5, .inr (1, [.ref v12, .int 0, .int 0, .int (nI 1)])), (v12, .inl (cB, 16, .inl f13))]) [6, 7] rfl
  have hDc := hD.sub (ws' := [(q5, .inr (1, [.ref v12, .int 0, .int 0, .int (nI 1)])), (v12, .inl (cB, 16, .inl f13))]) [6, 7] (by decide) rfl
  have hFc := va_free (wc := [(q5, .inr (1, [.ref v12, .int 0, .int 0, .int (nI 1)])), (v12, .inl (cB, 16, .inl f13))]) hD hS hA [6, 7] rfl
  have hDv := hDc.self (sz := H10.size)
  have hx0 : zS ((zk 4), (zk 14), 0, (fun j => (zByt.getD 3 []).getD j 0)) (va_A [(q5, .inr (1, [.ref v12, .int 0, .int 0, .int (nI 1)])), (v12, .inl (cB, 16, .inl f13))] H10.size) s H10 := zc3 hZ hS hFc
  have hpre := zpre (xs' := [((zk 4), (zk 14), 0, (fun j => (zByt.getD 3 []).getD j 0))]) (av := [.ref q5, .ref (zk 4)]) hPc hK (hDc.weaken (fun _ _ _ h => h)) hZ hS hFc (fun r hr => by cases hr with | head => exact hx0 | tail _ h => cases h)
  refine va_callr (va_runV (As := [.ref (zk 4)]) (rest := []) ⟨hx, hb, hml, hown, hts⟩ (k_apA l dC dI cI cB cR cO zk q5 v12 (zk 4) (zk 14) 0 16 1 (fun j => (zByt.getD 3 []).getD j 0) f13 (.int 0) H10.size (by decide) (by decide) (by decide) hff13 (by decide)) (cwV 1 hts gX4_textOf_J4_append_15ec4 rfl rfl rfl (by decide +kernel) ⟨Nat.le_of_ble_eq_true rfl, Nat.le_of_ble_eq_true rfl⟩) ⟨zblind, (zrecv_1 hK hPc (q0 := 0) rfl), hpre⟩ rfl rfl hl.1 rfl (lv_room (Nat.le_of_ble_eq_true rfl)) dX4_textOf_50 ⟨Nat.le_of_ble_eq_true rfl, Nat.le_of_ble_eq_true rfl⟩) hS (fun q _ h => hFc q h) hFc (fun u r15 t H14 locs ht hvm hw hB hz1 hk1 hS => ?_)
  obtain ⟨v16, f17, ⟨hP1, hK1, hD1, hz2⟩, hff17, her15⟩ := hB
  rw [ht] at hP1 hz2
  have hPD9 := va_join (wr := [(mo, .inr (9, [th, .ref al, md, rf, kn])), (na0, .inl (cI, 4, .inl fn0)), (al, .inr (4, [mc, .ref ed, .int (nI cc)])), (ed, .inl (cO, 10, .inr (.inr (.inr (.inr ee))))), (a0, .inr (8, [.int 4, .ref wa0, .ref na0])), (wa0, .inl (cI, 4, .inl fw0))]) (w1 := [(q5, .inr (1, [.ref v16, .int 0, .int 0, .int (nI 1)])), (v16, .inl (cB, 16, .inl f17))]) hP hD [6, 7] [0, 1, 2, 3, 4, 5] rfl rfl (by decide) (by decide) hk1 hFc hP1 hD1
  clear hPc hDc hFc hDv hpre hP hD hP1 hK1 hD1
  obtain ⟨hP, hD⟩ := hPD9
  replace hz : s.heap.size + 2 ≤ H14.size := by omega
  clear hz2
  replace hP : va_P (dC, dI) vwCl [(mo, .inr (9, [th, .ref al, md, rf, kn])), (na0, .inl (cI, 4, .inl fn0)), (al, .inr (4, [mc, .ref ed, .int (nI cc)])), (ed, .inl (cO, 10, .inr (.inr (.inr (.inr ee))))), (a0, .inr (8, [.int 4, .ref wa0, .ref na0])), (wa0, .inl (cI, 4, .inl fw0)), (q5, .inr (1, [.ref v16, .int 0, .int 0, .int (nI 1)])), (v16, .inl (cB, 16, .inl f17))] H14 := hP
  replace hD : va_D A [(mo, .inr (9, [th, .ref al, md, rf, kn])), (na0, .inl (cI, 4, .inl fn0)), (al, .inr (4, [mc, .ref ed, .int (nI cc)])), (ed, .inl (cO, 10, .inr (.inr (.inr (.inr ee))))), (a0, .inr (8, [.int 4, .ref wa0, .ref na0])), (wa0, .inl (cI, 4, .inl fw0)), (q5, .inr (1, [.ref v16, .int 0, .int 0, .int (nI 1)])), (v16, .inl (cB, 16, .inl f17))] := hD
  refine W.widen (k := 2) (n := 20) (by omega) (by omega) ?_
  obtain rfl := her15.symm
  refine lv_aload_n hx hb dX4_textOf_53 rfl (lv_at hl 3 rfl) ?_
  refine lv_aload_n hx hb dX4_textOf_54 rfl (lv_at hl 2 rfl) ?_
  refine lv_iload hx hb dX4_textOf_55 (lv_at hl 0 rfl) ?_
  have hPc := hP.sub (ws' := [(mo, .inr (9, [th, .ref al, md, rf, kn])), (al, .inr (4, [mc, .ref ed, .int (nI cc)])), (ed, .inl (cO, 10, .inr (.inr (.inr (.inr ee))))), (a0, .inr (8, [.int 4, .ref wa0, .ref na0])), (wa0, .inl (cI, 4, .inl fw0)), (na0, .inl (cI, 4, .inl fn0))]) [0, 2, 3, 4, 5, 1] rfl
  have hDc := hD.sub (ws' := [(mo, .inr (9, [th, .ref al, md, rf, kn])), (al, .inr (4, [mc, .ref ed, .int (nI cc)])), (ed, .inl (cO, 10, .inr (.inr (.inr (.inr ee))))), (a0, .inr (8, [.int 4, .ref wa0, .ref na0])), (wa0, .inl (cI, 4, .inl fw0)), (na0, .inl (cI, 4, .inl fn0))]) [0, 2, 3, 4, 5, 1] (by decide) rfl
  have hFc := va_free (wc := [(mo, .inr (9, [th, .ref al, md, rf, kn])), (al, .inr (4, [mc, .ref ed, .int (nI cc)])), (ed, .inl (cO, 10, .inr (.inr (.inr (.inr ee))))), (a0, .inr (8, [.int 4, .ref wa0, .ref na0])), (wa0, .inl (cI, 4, .inl fw0)), (na0, .inl (cI, 4, .inl fn0))]) hD hS hA [0, 2, 3, 4, 5, 1] rfl
  have hDv := hDc.self (sz := H14.size)
  have hpre := zpre (xs' := []) (av := [.ref mo, .ref a0, .int 0]) hPc hK (hDc.weaken (fun _ _ _ h => h)) hZ hS hFc (fun r hr => by cases hr)
  refine va_callr (va_runV (As := [.ref a0, .int 0]) (rest := [.ref q5]) ⟨hx, hb, hml, hown, hts⟩ (k_tAt0_0 l dC dI cI cB cR cO zk mo al ed cc ee th md rf kn mc a0 wa0 na0 fw0 fn0 H14.size hcc hcc2 hw0 hn0 he0) (cwV 2 hts gX4_textOf_X4_textAt rfl rfl rfl (by decide +kernel) ⟨Nat.le_of_ble_eq_true rfl, Nat.le_of_ble_eq_true rfl⟩) ⟨zblind, (zrecv_9 hK hPc (q0 := 0) rfl), hpre⟩ rfl rfl hl.1 rfl (lv_room (Nat.le_of_ble_eq_true rfl)) dX4_textOf_57 ⟨Nat.le_of_ble_eq_true rfl, Nat.le_of_ble_eq_true rfl⟩) hS (fun q _ h => hFc q h) hFc (fun u r19 t H18 locs ht hvm hw hB hz1 hk1 hS => ?_)
  obtain ⟨⟨hP1, hK1, hD1, hz2⟩, her19⟩ := hB
  rw [ht] at hP1 hz2
  have hPD9 := va_join (wr := [(q5, .inr (1, [.ref v16, .int 0, .int 0, .int (nI 1)])), (v16, .inl (cB, 16, .inl f17))]) (w1 := [(mo, .inr (9, [th, .ref al, md, rf, kn])), (al, .inr (4, [mc, .ref ed, .int (nI cc)])), (ed, .inl (cO, 10, .inr (.inr (.inr (.inr ee))))), (a0, .inr (8, [.int 4, .ref wa0, .ref na0])), (wa0, .inl (cI, 4, .inl fw0)), (na0, .inl (cI, 4, .inl fn0))]) hP hD [0, 2, 3, 4, 5, 1] [6, 7] rfl rfl (by decide) (by decide) hk1 hFc hP1 hD1
  clear hPc hDc hFc hDv hpre hP hD hP1 hK1 hD1
  obtain ⟨hP, hD⟩ := hPD9
  replace hz : s.heap.size + 2 ≤ H18.size := by omega
  clear hz2
  replace hP : va_P (dC, dI) vwCl [(q5, .inr (1, [.ref v16, .int 0, .int 0, .int (nI 1)])), (v16, .inl (cB, 16, .inl f17)), (mo, .inr (9, [th, .ref al, md, rf, kn])), (al, .inr (4, [mc, .ref ed, .int (nI cc)])), (ed, .inl (cO, 10, .inr (.inr (.inr (.inr ee))))), (a0, .inr (8, [.int 4, .ref wa0, .ref na0])), (wa0, .inl (cI, 4, .inl fw0)), (na0, .inl (cI, 4, .inl fn0))] H18 := hP
  replace hD : va_D A [(q5, .inr (1, [.ref v16, .int 0, .int 0, .int (nI 1)])), (v16, .inl (cB, 16, .inl f17)), (mo, .inr (9, [th, .ref al, md, rf, kn])), (al, .inr (4, [mc, .ref ed, .int (nI cc)])), (ed, .inl (cO, 10, .inr (.inr (.inr (.inr ee))))), (a0, .inr (8, [.int 4, .ref wa0, .ref na0])), (wa0, .inl (cI, 4, .inl fw0)), (na0, .inl (cI, 4, .inl fn0))] := hD
  refine W.widen (k := 2) (n := 20) (by omega) (by omega) ?_
  obtain rfl := her19.symm
  have hPc := hP.sub (ws' := [(q5, .inr (1, [.ref v16, .int 0, .int 0, .int (nI 1)])), (v16, .inl (cB, 16, .inl f17))]) [0, 1] rfl
  have hDc := hD.sub (ws' := [(q5, .inr (1, [.ref v16, .int 0, .int 0, .int (nI 1)])), (v16, .inl (cB, 16, .inl f17))]) [0, 1] (by decide) rfl
  have hFc := va_free (wc := [(q5, .inr (1, [.ref v16, .int 0, .int 0, .int (nI 1)])), (v16, .inl (cB, 16, .inl f17))]) hD hS hA [0, 1] rfl
  have hDv := hDc.self (sz := H18.size)
  have hx0 : zS ((zk 5), (zk 15), 4, (fun j => (zByt.getD 4 []).getD j 0)) (va_A [(q5, .inr (1, [.ref v16, .int 0, .int 0, .int (nI 1)])), (v16, .inl (cB, 16, .inl f17))] H18.size) s H18 := zc4 hZ hS hFc
  have hpre := zpre (xs' := [((zk 5), (zk 15), 4, (fun j => (zByt.getD 4 []).getD j 0))]) (av := [.ref q5, .ref (zk 5)]) hPc hK (hDc.weaken (fun _ _ _ h => h)) hZ hS hFc (fun r hr => by cases hr with | head => exact hx0 | tail _ h => cases h)
  refine va_callr (va_runV (As := [.ref (zk 5)]) (rest := []) ⟨hx, hb, hml, hown, hts⟩ (k_apA l dC dI cI cB cR cO zk q5 v16 (zk 5) (zk 15) 4 16 1 (fun j => (zByt.getD 4 []).getD j 0) f17 (.int 0) H18.size (by decide) (by decide) (by decide) hff17 (by decide)) (cwV 1 hts gX4_textOf_J4_append_15ec4 rfl rfl rfl (by decide +kernel) ⟨Nat.le_of_ble_eq_true rfl, Nat.le_of_ble_eq_true rfl⟩) ⟨zblind, (zrecv_1 hK hPc (q0 := 0) rfl), hpre⟩ rfl rfl hl.1 rfl (lv_room (Nat.le_of_ble_eq_true rfl)) dX4_textOf_60 ⟨Nat.le_of_ble_eq_true rfl, Nat.le_of_ble_eq_true rfl⟩) hS (fun q _ h => hFc q h) hFc (fun u r21 t H20 locs ht hvm hw hB hz1 hk1 hS => ?_)
  obtain ⟨v22, f23, ⟨hP1, hK1, hD1, hz2⟩, hff23, her21⟩ := hB
  rw [ht] at hP1 hz2
  have hPD9 := va_join (wr := [(mo, .inr (9, [th, .ref al, md, rf, kn])), (al, .inr (4, [mc, .ref ed, .int (nI cc)])), (ed, .inl (cO, 10, .inr (.inr (.inr (.inr ee))))), (a0, .inr (8, [.int 4, .ref wa0, .ref na0])), (wa0, .inl (cI, 4, .inl fw0)), (na0, .inl (cI, 4, .inl fn0))]) (w1 := [(q5, .inr (1, [.ref v22, .int 0, .int 0, .int (nI 5)])), (v22, .inl (cB, 16, .inl f23))]) hP hD [0, 1] [2, 3, 4, 5, 6, 7] rfl rfl (by decide) (by decide) hk1 hFc hP1 hD1
  clear hPc hDc hFc hDv hpre hP hD hP1 hK1 hD1
  obtain ⟨hP, hD⟩ := hPD9
  replace hz : s.heap.size + 2 ≤ H20.size := by omega
  clear hz2
  replace hP : va_P (dC, dI) vwCl [(mo, .inr (9, [th, .ref al, md, rf, kn])), (al, .inr (4, [mc, .ref ed, .int (nI cc)])), (ed, .inl (cO, 10, .inr (.inr (.inr (.inr ee))))), (a0, .inr (8, [.int 4, .ref wa0, .ref na0])), (wa0, .inl (cI, 4, .inl fw0)), (na0, .inl (cI, 4, .inl fn0)), (q5, .inr (1, [.ref v22, .int 0, .int 0, .int (nI 5)])), (v22, .inl (cB, 16, .inl f23))] H20 := hP
  replace hD : va_D A [(mo, .inr (9, [th, .ref al, md, rf, kn])), (al, .inr (4, [mc, .ref ed, .int (nI cc)])), (ed, .inl (cO, 10, .inr (.inr (.inr (.inr ee))))), (a0, .inr (8, [.int 4, .ref wa0, .ref na0])), (wa0, .inl (cI, 4, .inl fw0)), (na0, .inl (cI, 4, .inl fn0)), (q5, .inr (1, [.ref v22, .int 0, .int 0, .int (nI 5)])), (v22, .inl (cB, 16, .inl f23))] := hD
  refine W.widen (k := 2) (n := 20) (by omega) (by omega) ?_
  obtain rfl := her21.symm
  have hPc := hP.sub (ws' := [(q5, .inr (1, [.ref v22, .int 0, .int 0, .int (nI 5)])), (v22, .inl (cB, 16, .inl f23))]) [6, 7] rfl
  have hDc := hD.sub (ws' := [(q5, .inr (1, [.ref v22, .int 0, .int 0, .int (nI 5)])), (v22, .inl (cB, 16, .inl f23))]) [6, 7] (by decide) rfl
  have hFc := va_free (wc := [(q5, .inr (1, [.ref v22, .int 0, .int 0, .int (nI 5)])), (v22, .inl (cB, 16, .inl f23))]) hD hS hA [6, 7] rfl
  have hDv := hDc.self (sz := H20.size)
  have hpre := zpre (xs' := []) (av := [.ref q5]) hPc hK (hDc.weaken (fun _ _ _ h => h)) hZ hS hFc (fun r hr => by cases hr)
  refine va_callr (va_runV (As := []) (rest := []) ⟨hx, hb, hml, hown, hts⟩ (k_toS l dC dI cI cB cR cO zk q5 v22 16 5 f23 (.int 0) H20.size (by decide) (by decide) hff23) (cwV 0 hts gX4_textOf_J4_toString_0e30d rfl rfl rfl (by decide +kernel) ⟨Nat.le_of_ble_eq_true rfl, Nat.le_of_ble_eq_true rfl⟩) ⟨zblind, (zrecv_1 hK hPc (q0 := 0) rfl), hpre⟩ rfl rfl hl.1 rfl (lv_room (Nat.le_of_ble_eq_true rfl)) dX4_textOf_63 ⟨Nat.le_of_ble_eq_true rfl, Nat.le_of_ble_eq_true rfl⟩) hS (fun q _ h => hFc q h) hFc (fun u r25 t H24 locs ht hvm hw hB hz1 hk1 hS => ?_)
  obtain ⟨b26, g27, ⟨hP1, hK1, hD1, hz2⟩, hfg27⟩ := hB
  rw [ht] at hP1 hz2
  have hPD9 := va_join (wr := [(mo, .inr (9, [th, .ref al, md, rf, kn])), (al, .inr (4, [mc, .ref ed, .int (nI cc)])), (ed, .inl (cO, 10, .inr (.inr (.inr (.inr ee))))), (a0, .inr (8, [.int 4, .ref wa0, .ref na0])), (wa0, .inl (cI, 4, .inl fw0)), (na0, .inl (cI, 4, .inl fn0))]) (w1 := [(r25, .inr (0, [.ref b26, .int 0, .int 0, .int 0])), (b26, .inl (cB, 5, .inl g27)), (q5, .inr (1, [.ref v22, .int 0, .int 0, .int (nI 5)])), (v22, .inl (cB, 16, .inl f23))]) hP hD [6, 7] [0, 1, 2, 3, 4, 5] rfl rfl (by decide) (by decide) hk1 hFc hP1 hD1
  clear hPc hDc hFc hDv hpre hP hD hP1 hK1 hD1
  obtain ⟨hP, hD⟩ := hPD9
  replace hz : s.heap.size + 4 ≤ H24.size := by omega
  clear hz2
  replace hP : va_P (dC, dI) vwCl [(mo, .inr (9, [th, .ref al, md, rf, kn])), (al, .inr (4, [mc, .ref ed, .int (nI cc)])), (ed, .inl (cO, 10, .inr (.inr (.inr (.inr ee))))), (a0, .inr (8, [.int 4, .ref wa0, .ref na0])), (wa0, .inl (cI, 4, .inl fw0)), (na0, .inl (cI, 4, .inl fn0)), (r25, .inr (0, [.ref b26, .int 0, .int 0, .int 0])), (b26, .inl (cB, 5, .inl g27)), (q5, .inr (1, [.ref v22, .int 0, .int 0, .int (nI 5)])), (v22, .inl (cB, 16, .inl f23))] H24 := hP
  replace hD : va_D A [(mo, .inr (9, [th, .ref al, md, rf, kn])), (al, .inr (4, [mc, .ref ed, .int (nI cc)])), (ed, .inl (cO, 10, .inr (.inr (.inr (.inr ee))))), (a0, .inr (8, [.int 4, .ref wa0, .ref na0])), (wa0, .inl (cI, 4, .inl fw0)), (na0, .inl (cI, 4, .inl fn0)), (r25, .inr (0, [.ref b26, .int 0, .int 0, .int 0])), (b26, .inl (cB, 5, .inl g27)), (q5, .inr (1, [.ref v22, .int 0, .int 0, .int (nI 5)])), (v22, .inl (cB, 16, .inl f23))] := hD
  refine W.widen (k := 4) (n := 65560) (by omega) (by omega) ?_
  have hP := hP.sub (ws' := [(mo, .inr (9, [th, .ref al, md, rf, kn])), (al, .inr (4, [mc, .ref ed, .int (nI cc)])), (ed, .inl (cO, 10, .inr (.inr (.inr (.inr ee))))), (a0, .inr (8, [.int 4, .ref wa0, .ref na0])), (wa0, .inl (cI, 4, .inl fw0)), (na0, .inl (cI, 4, .inl fn0)), (r25, .inr (0, [.ref b26, .int 0, .int 0, .int 0])), (b26, .inl (cB, 5, .inl g27))]) [0, 1, 2, 3, 4, 5, 6, 7] rfl
  have hD := hD.sub (ws' := [(mo, .inr (9, [th, .ref al, md, rf, kn])), (al, .inr (4, [mc, .ref ed, .int (nI cc)])), (ed, .inl (cO, 10, .inr (.inr (.inr (.inr ee))))), (a0, .inr (8, [.int 4, .ref wa0, .ref na0])), (wa0, .inl (cI, 4, .inl fw0)), (na0, .inl (cI, 4, .inl fn0)), (r25, .inr (0, [.ref b26, .int 0, .int 0, .int 0])), (b26, .inl (cB, 5, .inl g27))]) [0, 1, 2, 3, 4, 5, 6, 7] (by decide) rfl
  refine lv_astore_n (lv' := [(3, .ref r25), (4, .int 0), (2, .ref a0), (0, .ref mo), (1, .int 0)]) hx hb dX4_textOf_66 rfl hl (by decide) rfl (fun ls hl => ?_)
  refine lv_iinc (v := 1) (lv' := [(4, .int 1), (3, .ref r25), (2, .ref a0), (0, .ref mo), (1, .int 0)]) hx hb dX4_textOf_67 hl (k := 1) rfl (by decide) (by decide) rfl (fun ls hl => ?_)
  refine lv_goto (tgt := 18) hx hb dX4_textOf_70 (by decide) ?_
  refine lv_iload hx hb dX4_textOf_18 (lv_at hl 0 rfl) ?_
  refine lv_aload_n hx hb dX4_textOf_20 rfl (lv_at hl 2 rfl) ?_
  have hPc := hP.sub (ws' := [(a0, .inr (8, [.int 4, .ref wa0, .ref na0])), (wa0, .inl (cI, 4, .inl fw0))]) [3, 4] rfl
  have hDc := hD.sub (ws' := [(a0, .inr (8, [.int 4, .ref wa0, .ref na0])), (wa0, .inl (cI, 4, .inl fw0))]) [3, 4] (by decide) rfl
  have hFc := va_free (wc := [(a0, .inr (8, [.int 4, .ref wa0, .ref na0])), (wa0, .inl (cI, 4, .inl fw0))]) hD hS hA [3, 4] rfl
  have hDv := hDc.self (sz := H24.size)
  have hpre := zpre (xs' := []) (av := [.ref a0]) hPc hK (hDc.weaken (fun _ _ _ h => h)) hZ hS hFc (fun r hr => by cases hr)
  refine va_calli (va_runV (As := []) (rest := [.int 1]) ⟨hx, hb, hml, hown, hts⟩ (k_rlen l dC dI cI cB cR cO zk a0 wa0 na0 fw0 H24.size ) (cwV 0 hts gX4_textOf_X3_length rfl rfl rfl (by decide +kernel) ⟨Nat.le_of_ble_eq_true rfl, Nat.le_of_ble_eq_true rfl⟩) ⟨zblind, (zrecv_8 hK hPc (q0 := 0) rfl), hpre⟩ rfl rfl hl.1 rfl (lv_room (Nat.le_of_ble_eq_true rfl)) dX4_textOf_21 ⟨Nat.le_of_ble_eq_true rfl, Nat.le_of_ble_eq_true rfl⟩) hS (fun q _ h => hFc q h) hFc (fun r29 u t H28 locs ht hvm hw hB hz1 hk1 hS => ?_)
  obtain rfl : 4 = r29 := (show r29 = 4 from hw).symm
  obtain ⟨hP1, hK1, hD1, hz2⟩ := hB
  rw [ht] at hP1 hz2
  have hPD9 := va_join (wr := [(mo, .inr (9, [th, .ref al, md, rf, kn])), (al, .inr (4, [mc, .ref ed, .int (nI cc)])), (ed, .inl (cO, 10, .inr (.inr (.inr (.inr ee))))), (na0, .inl (cI, 4, .inl fn0)), (r25, .inr (0, [.ref b26, .int 0, .int 0, .int 0])), (b26, .inl (cB, 5, .inl g27))]) (w1 := [(a0, .inr (8, [.int 4, .ref wa0, .ref na0])), (wa0, .inl (cI, 4, .inl fw0))]) hP hD [3, 4] [0, 1, 2, 5, 6, 7] rfl rfl (by decide) (by decide) hk1 hFc hP1 hD1
  clear hPc hDc hFc hDv hpre hP hD hP1 hK1 hD1
  obtain ⟨hP, hD⟩ := hPD9
  replace hz : s.heap.size + 4 ≤ H28.size := by omega
  clear hz2
  replace hP : va_P (dC, dI) vwCl [(mo, .inr (9, [th, .ref al, md, rf, kn])), (al, .inr (4, [mc, .ref ed, .int (nI cc)])), (ed, .inl (cO, 10, .inr (.inr (.inr (.inr ee))))), (na0, .inl (cI, 4, .inl fn0)), (r25, .inr (0, [.ref b26, .int 0, .int 0, .int 0])), (b26, .inl (cB, 5, .inl g27)), (a0, .inr (8, [.int 4, .ref wa0, .ref na0])), (wa0, .inl (cI, 4, .inl fw0))] H28 := hP
  replace hD : va_D A [(mo, .inr (9, [th, .ref al, md, rf, kn])), (al, .inr (4, [mc, .ref ed, .int (nI cc)])), (ed, .inl (cO, 10, .inr (.inr (.inr (.inr ee))))), (na0, .inl (cI, 4, .inl fn0)), (r25, .inr (0, [.ref b26, .int 0, .int 0, .int 0])), (b26, .inl (cB, 5, .inl g27)), (a0, .inr (8, [.int 4, .ref wa0, .ref na0])), (wa0, .inl (cI, 4, .inl fw0))] := hD
  refine W.widen (k := 4) (n := 65560) (by omega) (by omega) ?_
  refine lv_icmp_ge (tgt := 73) hx hb dX4_textOf_24 (by decide) (fun c9 => ?_) (fun c9 => ?_)
  · exact absurd c9 (by decide)
  refine zw_new (ci := 1) (fs := [.null, .int 0, .int 0, .int 0]) (C := RJ4) (T := TJ4) (N := 4) hx hb hts hi_X4_textOf_J4 tyJ4 tyJ4_ok hown (hts (.classLink RX4 165 RJ4) (List.mem_cons_of_mem _ zw_1388)) (hts (.instantiable RJ4 4) (List.mem_cons_of_mem _ zw_139)) (hts (.initialized RJ4) (List.mem_cons_of_mem _ zw_47)) hK hP hD hS hA rfl (fun j hj => by rcases (show j = 0 ∨ j = 1 ∨ j = 2 ∨ j = 3 by omega) with rfl | rfl | rfl | rfl <;> rfl) (Nat.le_of_ble_eq_true rfl) (Nat.le_of_ble_eq_true rfl) dX4_textOf_27 hz (fun q30 H31 hP hD hS hz => ?_)
  replace hP : va_P (dC, dI) vwCl [(mo, .inr (9, [th, .ref al, md, rf, kn])), (al, .inr (4, [mc, .ref ed, .int (nI cc)])), (ed, .inl (cO, 10, .inr (.inr (.inr (.inr ee))))), (na0, .inl (cI, 4, .inl fn0)), (r25, .inr (0, [.ref b26, .int 0, .int 0, .int 0])), (b26, .inl (cB, 5, .inl g27)), (a0, .inr (8, [.int 4, .ref wa0, .ref na0])), (wa0, .inl (cI, 4, .inl fw0)), (q30, .inr (1, [.null, .int 0, .int 0, .int 0]))] H31 := hP
  replace hD : va_D A [(mo, .inr (9, [th, .ref al, md, rf, kn])), (al, .inr (4, [mc, .ref ed, .int (nI cc)])), (ed, .inl (cO, 10, .inr (.inr (.inr (.inr ee))))), (na0, .inl (cI, 4, .inl fn0)), (r25, .inr (0, [.ref b26, .int 0, .int 0, .int 0])), (b26, .inl (cB, 5, .inl g27)), (a0, .inr (8, [.int 4, .ref wa0, .ref na0])), (wa0, .inl (cI, 4, .inl fw0)), (q30, .inr (1, [.null, .int 0, .int 0, .int 0]))] := hD
  refine W.widen (k := 5) (n := 65564) (by omega) (by omega) ?_
  refine lv_dup hx hb dX4_textOf_30 rfl ?_
  have hPc := hP.sub (ws' := [(q30, .inr (1, [.null, .int 0, .int 0, .int 0]))]) [8] rfl
  have hDc := hD.sub (ws' := [(q30, .inr (1, [.null, .int 0, .int 0, .int 0]))]) [8] (by decide) rfl
  have hFc := va_free (wc := [(q30, .inr (1, [.null, .int 0, .int 0, .int 0]))]) hD hS hA [8] rfl
  have hDv := hDc.self (sz := H31.size)
  have hpre := zpre (xs' := []) (av := [.ref q30]) hPc hK (hDc.weaken (fun _ _ _ h => h)) hZ hS hFc (fun r hr => by cases hr)
  refine va_callv (va_runI (As := []) (rest := [.ref q30]) ⟨hx, hb, hml, hown, hts⟩ (k_init4 l dC dI cI cB cR cO zk q30 H31.size ) (cwI 0 hts gX4_textOf_J4_init_da8c8 rfl rfl rfl (hts (.initialized RJ4) (List.mem_cons_of_mem _ zw_47)) (hts (.methodLink RX4 167 yJ4_init_da8c8) (List.mem_cons_of_mem _ zw_1389)) (hts (.instanceMethod yJ4_init_da8c8) (List.mem_cons_of_mem _ zw_141)) rfl (by decide +kernel) ⟨Nat.le_of_ble_eq_true rfl, Nat.le_of_ble_eq_true rfl⟩) ⟨zblind, hpre⟩ rfl rfl hl.1 rfl (lv_room (Nat.le_of_ble_eq_true rfl)) dX4_textOf_31 ⟨Nat.le_of_ble_eq_true rfl, Nat.le_of_ble_eq_true rfl⟩) hS (fun q _ h => hFc q h) hFc (fun u t H32 locs ht hvm hw hB hz1 hk1 hS => ?_)
  obtain ⟨w34, ⟨hP1, hK1, hD1, hz2⟩⟩ := hB
  rw [ht] at hP1 hz2
  have hPD9 := va_join (wr := [(mo, .inr (9, [th, .ref al, md, rf, kn])), (al, .inr (4, [mc, .ref ed, .int (nI cc)])), (ed, .inl (cO, 10, .inr (.inr (.inr (.inr ee))))), (na0, .inl (cI, 4, .inl fn0)), (r25, .inr (0, [.ref b26, .int 0, .int 0, .int 0])), (b26, .inl (cB, 5, .inl g27)), (a0, .inr (8, [.int 4, .ref wa0, .ref na0])), (wa0, .inl (cI, 4, .inl fw0))]) (w1 := [(q30, .inr (1, [.ref w34, .int 0, .int 0, .int 0])), (w34, .inl (cB, 16, .inl (fun _ => 0)))]) hP hD [8] [0, 1, 2, 3, 4, 5, 6, 7] rfl rfl (by decide) (by decide) hk1 hFc hP1 hD1
  clear hPc hDc hFc hDv hpre hP hD hP1 hK1 hD1
  obtain ⟨hP, hD⟩ := hPD9
  replace hz : s.heap.size + 6 ≤ H32.size := by omega
  clear hz2
  replace hP : va_P (dC, dI) vwCl [(mo, .inr (9, [th, .ref al, md, rf, kn])), (al, .inr (4, [mc, .ref ed, .int (nI cc)])), (ed, .inl (cO, 10, .inr (.inr (.inr (.inr ee))))), (na0, .inl (cI, 4, .inl fn0)), (r25, .inr (0, [.ref b26, .int 0, .int 0, .int 0])), (b26, .inl (cB, 5, .inl g27)), (a0, .inr (8, [.int 4, .ref wa0, .ref na0])), (wa0, .inl (cI, 4, .inl fw0)), (q30, .inr (1, [.ref w34, .int 0, .int 0, .int 0])), (w34, .inl (cB, 16, .inl (fun _ => 0)))] H32 := hP
  replace hD : va_D A [(mo, .inr (9, [th, .ref al, md, rf, kn])), (al, .inr (4, [mc, .ref ed, .int (nI cc)])), (ed, .inl (cO, 10, .inr (.inr (.inr (.inr ee))))), (na0, .inl (cI, 4, .inl fn0)), (r25, .inr (0, [.ref b26, .int 0, .int 0, .int 0])), (b26, .inl (cB, 5, .inl g27)), (a0, .inr (8, [.int 4, .ref wa0, .ref na0])), (wa0, .inl (cI, 4, .inl fw0)), (q30, .inr (1, [.ref w34, .int 0, .int 0, .int 0])), (w34, .inl (cB, 16, .inl (fun _ => 0)))] := hD
  refine W.widen (k := 6) (n := 65580) (by omega) (by omega) ?_
  refine lv_aload_n hx hb dX4_textOf_34 rfl (lv_at hl 1 rfl) ?_
  have hPc := hP.sub (ws' := [(q30, .inr (1, [.ref w34, .int 0, .int 0, .int 0])), (w34, .inl (cB, 16, .inl (fun _ => 0)))]) [8, 9] rfl
  have hDc := hD.sub (ws' := [(q30, .inr (1, [.ref w34, .int 0, .int 0, .int 0])), (w34, .inl (cB, 16, .inl (fun _ => 0)))]) [8, 9] (by decide) rfl
  have hFc := va_free (wc := [(q30, .inr (1, [.ref w34, .int 0, .int 0, .int 0])), (w34, .inl (cB, 16, .inl (fun _ => 0)))]) hD hS hA [8, 9] rfl
  have hDv := hDc.self (sz := H32.size)
  have hx0 : zS (r25, b26, 5, g27) (va_A [(q30, .inr (1, [.ref w34, .int 0, .int 0, .int 0])), (w34, .inl (cB, 16, .inl (fun _ => 0)))] H32.size) s H32 := zS.ofW hts hi_X4_textOf_J0 hK hP 4 5 1 rfl rfl rfl hfg27 (znot hP hD [8, 9] rfl 4 rfl (by decide)) (znot hP hD [8, 9] rfl 5 rfl (by decide))
  have hpre := zpre (xs' := [(r25, b26, 5, g27)]) (av := [.ref q30, .ref r25]) hPc hK (hDc.weaken (fun _ _ _ h => h)) hZ hS hFc (fun r hr => by cases hr with | head => exact hx0 | tail _ h => cases h)
  refine va_callr (va_runV (As := [.ref r25]) (rest := []) ⟨hx, hb, hml, hown, hts⟩ (k_apA l dC dI cI cB cR cO zk q30 w34 r25 b26 5 16 0 g27 (fun _ => 0) (.int 0) H32.size (by decide) (by decide) (by decide) sb_fit0 (by decide)) (cwV 1 hts gX4_textOf_J4_append_15ec4 rfl rfl rfl (by decide +kernel) ⟨Nat.le_of_ble_eq_true rfl, Nat.le_of_ble_eq_true rfl⟩) ⟨zblind, (zrecv_1 hK hPc (q0 := 0) rfl), hpre⟩ rfl rfl hl.1 rfl (lv_room (Nat.le_of_ble_eq_true rfl)) dX4_textOf_35 ⟨Nat.le_of_ble_eq_true rfl, Nat.le_of_ble_eq_true rfl⟩) hS (fun q _ h => hFc q h) hFc (fun u r36 t H35 locs ht hvm hw hB hz1 hk1 hS => ?_)
  obtain ⟨v37, f38, ⟨hP1, hK1, hD1, hz2⟩, hff38, her36⟩ := hB
  rw [ht] at hP1 hz2
  have hPD9 := va_join (wr := [(mo, .inr (9, [th, .ref al, md, rf, kn])), (al, .inr (4, [mc, .ref ed, .int (nI cc)])), (ed, .inl (cO, 10, .inr (.inr (.inr (.inr ee))))), (na0, .inl (cI, 4, .inl fn0)), (r25, .inr (0, [.ref b26, .int 0, .int 0, .int 0])), (b26, .inl (cB, 5, .inl g27)), (a0, .inr (8, [.int 4, .ref wa0, .ref na0])), (wa0, .inl (cI, 4, .inl fw0))]) (w1 := [(q30, .inr (1, [.ref v37, .int 0, .int 0, .int (nI 5)])), (v37, .inl (cB, 16, .inl f38))]) hP hD [8, 9] [0, 1, 2, 3, 4, 5, 6, 7] rfl rfl (by decide) (by decide) hk1 hFc hP1 hD1
  clear hPc hDc hFc hDv hpre hP hD hP1 hK1 hD1
  obtain ⟨hP, hD⟩ := hPD9
  replace hz : s.heap.size + 6 ≤ H35.size := by omega
  clear hz2
  replace hP : va_P (dC, dI) vwCl [(mo, .inr (9, [th, .ref al, md, rf, kn])), (al, .inr (4, [mc, .ref ed, .int (nI cc)])), (ed, .inl (cO, 10, .inr (.inr (.inr (.inr ee))))), (na0, .inl (cI, 4, .inl fn0)), (r25, .inr (0, [.ref b26, .int 0, .int 0, .int 0])), (b26, .inl (cB, 5, .inl g27)), (a0, .inr (8, [.int 4, .ref wa0, .ref na0])), (wa0, .inl (cI, 4, .inl fw0)), (q30, .inr (1, [.ref v37, .int 0, .int 0, .int (nI 5)])), (v37, .inl (cB, 16, .inl f38))] H35 := hP
  replace hD : va_D A [(mo, .inr (9, [th, .ref al, md, rf, kn])), (al, .inr (4, [mc, .ref ed, .int (nI cc)])), (ed, .inl (cO, 10, .inr (.inr (.inr (.inr ee))))), (na0, .inl (cI, 4, .inl fn0)), (r25, .inr (0, [.ref b26, .int 0, .int 0, .int 0])), (b26, .inl (cB, 5, .inl g27)), (a0, .inr (8, [.int 4, .ref wa0, .ref na0])), (wa0, .inl (cI, 4, .inl fw0)), (q30, .inr (1, [.ref v37, .int 0, .int 0, .int (nI 5)])), (v37, .inl (cB, 16, .inl f38))] := hD
  refine W.widen (k := 6) (n := 65580) (by omega) (by omega) ?_
  obtain rfl := her36.symm
  have hP := hP.sub (ws' := [(mo, .inr (9, [th, .ref al, md, rf, kn])), (al, .inr (4, [mc, .ref ed, .int (nI cc)])), (ed, .inl (cO, 10, .inr (.inr (.inr (.inr ee))))), (na0, .inl (cI, 4, .inl fn0)), (a0, .inr (8, [.int 4, .ref wa0, .ref na0])), (wa0, .inl (cI, 4, .inl fw0)), (q30, .inr (1, [.ref v37, .int 0, .int 0, .int (nI 5)])), (v37, .inl (cB, 16, .inl f38))]) [0, 1, 2, 3, 6, 7, 8, 9] rfl
  have hD := hD.sub (ws' := [(mo, .inr (9, [th, .ref al, md, rf, kn])), (al, .inr (4, [mc, .ref ed, .int (nI cc)])), (ed, .inl (cO, 10, .inr (.inr (.inr (.inr ee))))), (na0, .inl (cI, 4, .inl fn0)), (a0, .inr (8, [.int 4, .ref wa0, .ref na0])), (wa0, .inl (cI, 4, .inl fw0)), (q30, .inr (1, [.ref v37, .int 0, .int 0, .int (nI 5)])), (v37, .inl (cB, 16, .inl f38))]) [0, 1, 2, 3, 6, 7, 8, 9] (by decide) rfl
  refine lv_iload hx hb dX4_textOf_38 (lv_at hl 0 rfl) ?_
  refine lv_if_le (tgt := 48) hx hb dX4_textOf_40 (by decide) (fun c9 => ?_) (fun c9 => ?_)
  · exact absurd c9 (by decide)
  refine va_ldcS (own := RX4) (tx := ", ") (q := zk 3) hx hb hown (zl2 hZ) dX4_textOf_43 ?_
  refine lv_goto (tgt := 50) hx hb dX4_textOf_45 (by decide) ?_
  have hPc := hP.sub (ws' := [(q30, .inr (1, [.ref v37, .int 0, .int 0, .int (nI 5)])), (v37, .inl (cB, 16, .inl f38))]) [6, 7] rfl
  have hDc := hD.sub (ws' := [(q30, .inr (1, [.ref v37, .int 0, .int 0, .int (nI 5)])), (v37, .inl (cB, 16, .inl f38))]) [6, 7] (by decide) rfl
  have hFc := va_free (wc := [(q30, .inr (1, [.ref v37, .int 0, .int 0, .int (nI 5)])), (v37, .inl (cB, 16, .inl f38))]) hD hS hA [6, 7] rfl
  have hDv := hDc.self (sz := H35.size)
  have hx0 : zS ((zk 3), (zk 13), 2, (fun j => (zByt.getD 2 []).getD j 0)) (va_A [(q30, .inr (1, [.ref v37, .int 0, .int 0, .int (nI 5)])), (v37, .inl (cB, 16, .inl f38))] H35.size) s H35 := zc2 hZ hS hFc
  have hpre := zpre (xs' := [((zk 3), (zk 13), 2, (fun j => (zByt.getD 2 []).getD j 0))]) (av := [.ref q30, .ref (zk 3)]) hPc hK (hDc.weaken (fun _ _ _ h => h)) hZ hS hFc (fun r hr => by cases hr with | head => exact hx0 | tail _ h => cases h)
  refine va_callr (va_runV (As := [.ref (zk 3)]) (rest := []) ⟨hx, hb, hml, hown, hts⟩ (k_apA l dC dI cI cB cR cO zk q30 v37 (zk 3) (zk 13) 2 16 5 (fun j => (zByt.getD 2 []).getD j 0) f38 (.int 0) H35.size (by decide) (by decide) (by decide) hff38 (by decide)) (cwV 1 hts gX4_textOf_J4_append_15ec4 rfl rfl rfl (by decide +kernel) ⟨Nat.le_of_ble_eq_true rfl, Nat.le_of_ble_eq_true rfl⟩) ⟨zblind, (zrecv_1 hK hPc (q0 := 0) rfl), hpre⟩ rfl rfl hl.1 rfl (lv_room (Nat.le_of_ble_eq_true rfl)) dX4_textOf_50 ⟨Nat.le_of_ble_eq_true rfl, Nat.le_of_ble_eq_true rfl⟩) hS (fun q _ h => hFc q h) hFc (fun u r40 t H39 locs ht hvm hw hB hz1 hk1 hS => ?_)
  obtain ⟨v41, f42, ⟨hP1, hK1, hD1, hz2⟩, hff42, her40⟩ := hB
  rw [ht] at hP1 hz2
  have hPD9 := va_join (wr := [(mo, .inr (9, [th, .ref al, md, rf, kn])), (al, .inr (4, [mc, .ref ed, .int (nI cc)])), (ed, .inl (cO, 10, .inr (.inr (.inr (.inr ee))))), (na0, .inl (cI, 4, .inl fn0)), (a0, .inr (8, [.int 4, .ref wa0, .ref na0])), (wa0, .inl (cI, 4, .inl fw0))]) (w1 := [(q30, .inr (1, [.ref v41, .int 0, .int 0, .int (nI 7)])), (v41, .inl (cB, 16, .inl f42))]) hP hD [6, 7] [0, 1, 2, 3, 4, 5] rfl rfl (by decide) (by decide) hk1 hFc hP1 hD1
  clear hPc hDc hFc hDv hpre hP hD hP1 hK1 hD1
  obtain ⟨hP, hD⟩ := hPD9
  replace hz : s.heap.size + 6 ≤ H39.size := by omega
  clear hz2
  replace hP : va_P (dC, dI) vwCl [(mo, .inr (9, [th, .ref al, md, rf, kn])), (al, .inr (4, [mc, .ref ed, .int (nI cc)])), (ed, .inl (cO, 10, .inr (.inr (.inr (.inr ee))))), (na0, .inl (cI, 4, .inl fn0)), (a0, .inr (8, [.int 4, .ref wa0, .ref na0])), (wa0, .inl (cI, 4, .inl fw0)), (q30, .inr (1, [.ref v41, .int 0, .int 0, .int (nI 7)])), (v41, .inl (cB, 16, .inl f42))] H39 := hP
  replace hD : va_D A [(mo, .inr (9, [th, .ref al, md, rf, kn])), (al, .inr (4, [mc, .ref ed, .int (nI cc)])), (ed, .inl (cO, 10, .inr (.inr (.inr (.inr ee))))), (na0, .inl (cI, 4, .inl fn0)), (a0, .inr (8, [.int 4, .ref wa0, .ref na0])), (wa0, .inl (cI, 4, .inl fw0)), (q30, .inr (1, [.ref v41, .int 0, .int 0, .int (nI 7)])), (v41, .inl (cB, 16, .inl f42))] := hD
  refine W.widen (k := 6) (n := 65580) (by omega) (by omega) ?_
  obtain rfl := her40.symm
  refine lv_aload_n hx hb dX4_textOf_53 rfl (lv_at hl 3 rfl) ?_
  refine lv_aload_n hx hb dX4_textOf_54 rfl (lv_at hl 2 rfl) ?_
  refine lv_iload hx hb dX4_textOf_55 (lv_at hl 0 rfl) ?_
  have hPc := hP.sub (ws' := [(mo, .inr (9, [th, .ref al, md, rf, kn])), (al, .inr (4, [mc, .ref ed, .int (nI cc)])), (ed, .inl (cO, 10, .inr (.inr (.inr (.inr ee))))), (a0, .inr (8, [.int 4, .ref wa0, .ref na0])), (wa0, .inl (cI, 4, .inl fw0)), (na0, .inl (cI, 4, .inl fn0))]) [0, 1, 2, 4, 5, 3] rfl
  have hDc := hD.sub (ws' := [(mo, .inr (9, [th, .ref al, md, rf, kn])), (al, .inr (4, [mc, .ref ed, .int (nI cc)])), (ed, .inl (cO, 10, .inr (.inr (.inr (.inr ee))))), (a0, .inr (8, [.int 4, .ref wa0, .ref na0])), (wa0, .inl (cI, 4, .inl fw0)), (na0, .inl (cI, 4, .inl fn0))]) [0, 1, 2, 4, 5, 3] (by decide) rfl
  have hFc := va_free (wc := [(mo, .inr (9, [th, .ref al, md, rf, kn])), (al, .inr (4, [mc, .ref ed, .int (nI cc)])), (ed, .inl (cO, 10, .inr (.inr (.inr (.inr ee))))), (a0, .inr (8, [.int 4, .ref wa0, .ref na0])), (wa0, .inl (cI, 4, .inl fw0)), (na0, .inl (cI, 4, .inl fn0))]) hD hS hA [0, 1, 2, 4, 5, 3] rfl
  have hDv := hDc.self (sz := H39.size)
  have hpre := zpre (xs' := []) (av := [.ref mo, .ref a0, .int 1]) hPc hK (hDc.weaken (fun _ _ _ h => h)) hZ hS hFc (fun r hr => by cases hr)
  refine va_callr (va_runV (As := [.ref a0, .int 1]) (rest := [.ref q30]) ⟨hx, hb, hml, hown, hts⟩ (k_tAt0_1 l dC dI cI cB cR cO zk mo al ed cc ee th md rf kn mc a0 wa0 na0 fw0 fn0 H39.size hcc hcc2 hw0 hn0 he0) (cwV 2 hts gX4_textOf_X4_textAt rfl rfl rfl (by decide +kernel) ⟨Nat.le_of_ble_eq_true rfl, Nat.le_of_ble_eq_true rfl⟩) ⟨zblind, (zrecv_9 hK hPc (q0 := 0) rfl), hpre⟩ rfl rfl hl.1 rfl (lv_room (Nat.le_of_ble_eq_true rfl)) dX4_textOf_57 ⟨Nat.le_of_ble_eq_true rfl, Nat.le_of_ble_eq_true rfl⟩) hS (fun q _ h => hFc q h) hFc (fun u r44 t H43 locs ht hvm hw hB hz1 hk1 hS => ?_)
  obtain ⟨⟨hP1, hK1, hD1, hz2⟩, her44⟩ := hB
  rw [ht] at hP1 hz2
  have hPD9 := va_join (wr := [(q30, .inr (1, [.ref v41, .int 0, .int 0, .int (nI 7)])), (v41, .inl (cB, 16, .inl f42))]) (w1 := [(mo, .inr (9, [th, .ref al, md, rf, kn])), (al, .inr (4, [mc, .ref ed, .int (nI cc)])), (ed, .inl (cO, 10, .inr (.inr (.inr (.inr ee))))), (a0, .inr (8, [.int 4, .ref wa0, .ref na0])), (wa0, .inl (cI, 4, .inl fw0)), (na0, .inl (cI, 4, .inl fn0))]) hP hD [0, 1, 2, 4, 5, 3] [6, 7] rfl rfl (by decide) (by decide) hk1 hFc hP1 hD1
  clear hPc hDc hFc hDv hpre hP hD hP1 hK1 hD1
  obtain ⟨hP, hD⟩ := hPD9
  replace hz : s.heap.size + 6 ≤ H43.size := by omega
  clear hz2
  replace hP : va_P (dC, dI) vwCl [(q30, .inr (1, [.ref v41, .int 0, .int 0, .int (nI 7)])), (v41, .inl (cB, 16, .inl f42)), (mo, .inr (9, [th, .ref al, md, rf, kn])), (al, .inr (4, [mc, .ref ed, .int (nI cc)])), (ed, .inl (cO, 10, .inr (.inr (.inr (.inr ee))))), (a0, .inr (8, [.int 4, .ref wa0, .ref na0])), (wa0, .inl (cI, 4, .inl fw0)), (na0, .inl (cI, 4, .inl fn0))] H43 := hP
  replace hD : va_D A [(q30, .inr (1, [.ref v41, .int 0, .int 0, .int (nI 7)])), (v41, .inl (cB, 16, .inl f42)), (mo, .inr (9, [th, .ref al, md, rf, kn])), (al, .inr (4, [mc, .ref ed, .int (nI cc)])), (ed, .inl (cO, 10, .inr (.inr (.inr (.inr ee))))), (a0, .inr (8, [.int 4, .ref wa0, .ref na0])), (wa0, .inl (cI, 4, .inl fw0)), (na0, .inl (cI, 4, .inl fn0))] := hD
  refine W.widen (k := 6) (n := 65580) (by omega) (by omega) ?_
  obtain rfl := her44.symm
  have hPc := hP.sub (ws' := [(q30, .inr (1, [.ref v41, .int 0, .int 0, .int (nI 7)])), (v41, .inl (cB, 16, .inl f42))]) [0, 1] rfl
  have hDc := hD.sub (ws' := [(q30, .inr (1, [.ref v41, .int 0, .int 0, .int (nI 7)])), (v41, .inl (cB, 16, .inl f42))]) [0, 1] (by decide) rfl
  have hFc := va_free (wc := [(q30, .inr (1, [.ref v41, .int 0, .int 0, .int (nI 7)])), (v41, .inl (cB, 16, .inl f42))]) hD hS hA [0, 1] rfl
  have hDv := hDc.self (sz := H43.size)
  have hx0 : zS ((zk 5), (zk 15), 4, (fun j => (zByt.getD 4 []).getD j 0)) (va_A [(q30, .inr (1, [.ref v41, .int 0, .int 0, .int (nI 7)])), (v41, .inl (cB, 16, .inl f42))] H43.size) s H43 := zc4 hZ hS hFc
  have hpre := zpre (xs' := [((zk 5), (zk 15), 4, (fun j => (zByt.getD 4 []).getD j 0))]) (av := [.ref q30, .ref (zk 5)]) hPc hK (hDc.weaken (fun _ _ _ h => h)) hZ hS hFc (fun r hr => by cases hr with | head => exact hx0 | tail _ h => cases h)
  refine va_callr (va_runV (As := [.ref (zk 5)]) (rest := []) ⟨hx, hb, hml, hown, hts⟩ (k_apA l dC dI cI cB cR cO zk q30 v41 (zk 5) (zk 15) 4 16 7 (fun j => (zByt.getD 4 []).getD j 0) f42 (.int 0) H43.size (by decide) (by decide) (by decide) hff42 (by decide)) (cwV 1 hts gX4_textOf_J4_append_15ec4 rfl rfl rfl (by decide +kernel) ⟨Nat.le_of_ble_eq_true rfl, Nat.le_of_ble_eq_true rfl⟩) ⟨zblind, (zrecv_1 hK hPc (q0 := 0) rfl), hpre⟩ rfl rfl hl.1 rfl (lv_room (Nat.le_of_ble_eq_true rfl)) dX4_textOf_60 ⟨Nat.le_of_ble_eq_true rfl, Nat.le_of_ble_eq_true rfl⟩) hS (fun q _ h => hFc q h) hFc (fun u r46 t H45 locs ht hvm hw hB hz1 hk1 hS => ?_)
  obtain ⟨v47, f48, ⟨hP1, hK1, hD1, hz2⟩, hff48, her46⟩ := hB
  rw [ht] at hP1 hz2
  have hPD9 := va_join (wr := [(mo, .inr (9, [th, .ref al, md, rf, kn])), (al, .inr (4, [mc, .ref ed, .int (nI cc)])), (ed, .inl (cO, 10, .inr (.inr (.inr (.inr ee))))), (a0, .inr (8, [.int 4, .ref wa0, .ref na0])), (wa0, .inl (cI, 4, .inl fw0)), (na0, .inl (cI, 4, .inl fn0))]) (w1 := [(q30, .inr (1, [.ref v47, .int 0, .int 0, .int (nI 11)])), (v47, .inl (cB, 16, .inl f48))]) hP hD [0, 1] [2, 3, 4, 5, 6, 7] rfl rfl (by decide) (by decide) hk1 hFc hP1 hD1
  clear hPc hDc hFc hDv hpre hP hD hP1 hK1 hD1
  obtain ⟨hP, hD⟩ := hPD9
  replace hz : s.heap.size + 6 ≤ H45.size := by omega
  clear hz2
  replace hP : va_P (dC, dI) vwCl [(mo, .inr (9, [th, .ref al, md, rf, kn])), (al, .inr (4, [mc, .ref ed, .int (nI cc)])), (ed, .inl (cO, 10, .inr (.inr (.inr (.inr ee))))), (a0, .inr (8, [.int 4, .ref wa0, .ref na0])), (wa0, .inl (cI, 4, .inl fw0)), (na0, .inl (cI, 4, .inl fn0)), (q30, .inr (1, [.ref v47, .int 0, .int 0, .int (nI 11)])), (v47, .inl (cB, 16, .inl f48))] H45 := hP
  replace hD : va_D A [(mo, .inr (9, [th, .ref al, md, rf, kn])), (al, .inr (4, [mc, .ref ed, .int (nI cc)])), (ed, .inl (cO, 10, .inr (.inr (.inr (.inr ee))))), (a0, .inr (8, [.int 4, .ref wa0, .ref na0])), (wa0, .inl (cI, 4, .inl fw0)), (na0, .inl (cI, 4, .inl fn0)), (q30, .inr (1, [.ref v47, .int 0, .int 0, .int (nI 11)])), (v47, .inl (cB, 16, .inl f48))] := hD
  refine W.widen (k := 6) (n := 65580) (by omega) (by omega) ?_
  obtain rfl := her46.symm
  have hPc := hP.sub (ws' := [(q30, .inr (1, [.ref v47, .int 0, .int 0, .int (nI 11)])), (v47, .inl (cB, 16, .inl f48))]) [6, 7] rfl
  have hDc := hD.sub (ws' := [(q30, .inr (1, [.ref v47, .int 0, .int 0, .int (nI 11)])), (v47, .inl (cB, 16, .inl f48))]) [6, 7] (by decide) rfl
  have hFc := va_free (wc := [(q30, .inr (1, [.ref v47, .int 0, .int 0, .int (nI 11)])), (v47, .inl (cB, 16, .inl f48))]) hD hS hA [6, 7] rfl
  have hDv := hDc.self (sz := H45.size)
  have hpre := zpre (xs' := []) (av := [.ref q30]) hPc hK (hDc.weaken (fun _ _ _ h => h)) hZ hS hFc (fun r hr => by cases hr)
  refine va_callr (va_runV (As := []) (rest := []) ⟨hx, hb, hml, hown, hts⟩ (k_toS l dC dI cI cB cR cO zk q30 v47 16 11 f48 (.int 0) H45.size (by decide) (by decide) hff48) (cwV 0 hts gX4_textOf_J4_toString_0e30d rfl rfl rfl (by decide +kernel) ⟨Nat.le_of_ble_eq_true rfl, Nat.le_of_ble_eq_true rfl⟩) ⟨zblind, (zrecv_1 hK hPc (q0 := 0) rfl), hpre⟩ rfl rfl hl.1 rfl (lv_room (Nat.le_of_ble_eq_true rfl)) dX4_textOf_63 ⟨Nat.le_of_ble_eq_true rfl, Nat.le_of_ble_eq_true rfl⟩) hS (fun q _ h => hFc q h) hFc (fun u r50 t H49 locs ht hvm hw hB hz1 hk1 hS => ?_)
  obtain ⟨b51, g52, ⟨hP1, hK1, hD1, hz2⟩, hfg52⟩ := hB
  rw [ht] at hP1 hz2
  have hPD9 := va_join (wr := [(mo, .inr (9, [th, .ref al, md, rf, kn])), (al, .inr (4, [mc, .ref ed, .int (nI cc)])), (ed, .inl (cO, 10, .inr (.inr (.inr (.inr ee))))), (a0, .inr (8, [.int 4, .ref wa0, .ref na0])), (wa0, .inl (cI, 4, .inl fw0)), (na0, .inl (cI, 4, .inl fn0))]) (w1 := [(r50, .inr (0, [.ref b51, .int 0, .int 0, .int 0])), (b51, .inl (cB, 11, .inl g52)), (q30, .inr (1, [.ref v47, .int 0, .int 0, .int (nI 11)])), (v47, .inl (cB, 16, .inl f48))]) hP hD [6, 7] [0, 1, 2, 3, 4, 5] rfl rfl (by decide) (by decide) hk1 hFc hP1 hD1
  clear hPc hDc hFc hDv hpre hP hD hP1 hK1 hD1
  obtain ⟨hP, hD⟩ := hPD9
  replace hz : s.heap.size + 8 ≤ H49.size := by omega
  clear hz2
  replace hP : va_P (dC, dI) vwCl [(mo, .inr (9, [th, .ref al, md, rf, kn])), (al, .inr (4, [mc, .ref ed, .int (nI cc)])), (ed, .inl (cO, 10, .inr (.inr (.inr (.inr ee))))), (a0, .inr (8, [.int 4, .ref wa0, .ref na0])), (wa0, .inl (cI, 4, .inl fw0)), (na0, .inl (cI, 4, .inl fn0)), (r50, .inr (0, [.ref b51, .int 0, .int 0, .int 0])), (b51, .inl (cB, 11, .inl g52)), (q30, .inr (1, [.ref v47, .int 0, .int 0, .int (nI 11)])), (v47, .inl (cB, 16, .inl f48))] H49 := hP
  replace hD : va_D A [(mo, .inr (9, [th, .ref al, md, rf, kn])), (al, .inr (4, [mc, .ref ed, .int (nI cc)])), (ed, .inl (cO, 10, .inr (.inr (.inr (.inr ee))))), (a0, .inr (8, [.int 4, .ref wa0, .ref na0])), (wa0, .inl (cI, 4, .inl fw0)), (na0, .inl (cI, 4, .inl fn0)), (r50, .inr (0, [.ref b51, .int 0, .int 0, .int 0])), (b51, .inl (cB, 11, .inl g52)), (q30, .inr (1, [.ref v47, .int 0, .int 0, .int (nI 11)])), (v47, .inl (cB, 16, .inl f48))] := hD
  refine W.widen (k := 8) (n := 131120) (by omega) (by omega) ?_
  have hP := hP.sub (ws' := [(mo, .inr (9, [th, .ref al, md, rf, kn])), (al, .inr (4, [mc, .ref ed, .int (nI cc)])), (ed, .inl (cO, 10, .inr (.inr (.inr (.inr ee))))), (a0, .inr (8, [.int 4, .ref wa0, .ref na0])), (wa0, .inl (cI, 4, .inl fw0)), (na0, .inl (cI, 4, .inl fn0)), (r50, .inr (0, [.ref b51, .int 0, .int 0, .int 0])), (b51, .inl (cB, 11, .inl g52))]) [0, 1, 2, 3, 4, 5, 6, 7] rfl
  have hD := hD.sub (ws' := [(mo, .inr (9, [th, .ref al, md, rf, kn])), (al, .inr (4, [mc, .ref ed, .int (nI cc)])), (ed, .inl (cO, 10, .inr (.inr (.inr (.inr ee))))), (a0, .inr (8, [.int 4, .ref wa0, .ref na0])), (wa0, .inl (cI, 4, .inl fw0)), (na0, .inl (cI, 4, .inl fn0)), (r50, .inr (0, [.ref b51, .int 0, .int 0, .int 0])), (b51, .inl (cB, 11, .inl g52))]) [0, 1, 2, 3, 4, 5, 6, 7] (by decide) rfl
  refine lv_astore_n (lv' := [(3, .ref r50), (4, .int 1), (2, .ref a0), (0, .ref mo), (1, .int 0)]) hx hb dX4_textOf_66 rfl hl (by decide) rfl (fun ls hl => ?_)
  refine lv_iinc (v := 2) (lv' := [(4, .int 2), (3, .ref r50), (2, .ref a0), (0, .ref mo), (1, .int 0)]) hx hb dX4_textOf_67 hl (k := 1) rfl (by decide) (by decide) rfl (fun ls hl => ?_)
  refine lv_goto (tgt := 18) hx hb dX4_textOf_70 (by decide) ?_
  refine lv_iload hx hb dX4_textOf_18 (lv_at hl 0 rfl) ?_
  refine lv_aload_n hx hb dX4_textOf_20 rfl (lv_at hl 2 rfl) ?_
  have hPc := hP.sub (ws' := [(a0, .inr (8, [.int 4, .ref wa0, .ref na0])), (wa0, .inl (cI, 4, .inl fw0))]) [3, 4] rfl
  have hDc := hD.sub (ws' := [(a0, .inr (8, [.int 4, .ref wa0, .ref na0])), (wa0, .inl (cI, 4, .inl fw0))]) [3, 4] (by decide) rfl
  have hFc := va_free (wc := [(a0, .inr (8, [.int 4, .ref wa0, .ref na0])), (wa0, .inl (cI, 4, .inl fw0))]) hD hS hA [3, 4] rfl
  have hDv := hDc.self (sz := H49.size)
  have hpre := zpre (xs' := []) (av := [.ref a0]) hPc hK (hDc.weaken (fun _ _ _ h => h)) hZ hS hFc (fun r hr => by cases hr)
  refine va_calli (va_runV (As := []) (rest := [.int 2]) ⟨hx, hb, hml, hown, hts⟩ (k_rlen l dC dI cI cB cR cO zk a0 wa0 na0 fw0 H49.size ) (cwV 0 hts gX4_textOf_X3_length rfl rfl rfl (by decide +kernel) ⟨Nat.le_of_ble_eq_true rfl, Nat.le_of_ble_eq_true rfl⟩) ⟨zblind, (zrecv_8 hK hPc (q0 := 0) rfl), hpre⟩ rfl rfl hl.1 rfl (lv_room (Nat.le_of_ble_eq_true rfl)) dX4_textOf_21 ⟨Nat.le_of_ble_eq_true rfl, Nat.le_of_ble_eq_true rfl⟩) hS (fun q _ h => hFc q h) hFc (fun r54 u t H53 locs ht hvm hw hB hz1 hk1 hS => ?_)
  obtain rfl : 4 = r54 := (show r54 = 4 from hw).symm
  obtain ⟨hP1, hK1, hD1, hz2⟩ := hB
  rw [ht] at hP1 hz2
  have hPD9 := va_join (wr := [(mo, .inr (9, [th, .ref al, md, rf, kn])), (al, .inr (4, [mc, .ref ed, .int (nI cc)])), (ed, .inl (cO, 10, .inr (.inr (.inr (.inr ee))))), (na0, .inl (cI, 4, .inl fn0)), (r50, .inr (0, [.ref b51, .int 0, .int 0, .int 0])), (b51, .inl (cB, 11, .inl g52))]) (w1 := [(a0, .inr (8, [.int 4, .ref wa0, .ref na0])), (wa0, .inl (cI, 4, .inl fw0))]) hP hD [3, 4] [0, 1, 2, 5, 6, 7] rfl rfl (by decide) (by decide) hk1 hFc hP1 hD1
  clear hPc hDc hFc hDv hpre hP hD hP1 hK1 hD1
  obtain ⟨hP, hD⟩ := hPD9
  replace hz : s.heap.size + 8 ≤ H53.size := by omega
  clear hz2
  replace hP : va_P (dC, dI) vwCl [(mo, .inr (9, [th, .ref al, md, rf, kn])), (al, .inr (4, [mc, .ref ed, .int (nI cc)])), (ed, .inl (cO, 10, .inr (.inr (.inr (.inr ee))))), (na0, .inl (cI, 4, .inl fn0)), (r50, .inr (0, [.ref b51, .int 0, .int 0, .int 0])), (b51, .inl (cB, 11, .inl g52)), (a0, .inr (8, [.int 4, .ref wa0, .ref na0])), (wa0, .inl (cI, 4, .inl fw0))] H53 := hP
  replace hD : va_D A [(mo, .inr (9, [th, .ref al, md, rf, kn])), (al, .inr (4, [mc, .ref ed, .int (nI cc)])), (ed, .inl (cO, 10, .inr (.inr (.inr (.inr ee))))), (na0, .inl (cI, 4, .inl fn0)), (r50, .inr (0, [.ref b51, .int 0, .int 0, .int 0])), (b51, .inl (cB, 11, .inl g52)), (a0, .inr (8, [.int 4, .ref wa0, .ref na0])), (wa0, .inl (cI, 4, .inl fw0))] := hD
  refine W.widen (k := 8) (n := 131120) (by omega) (by omega) ?_
  refine lv_icmp_ge (tgt := 73) hx hb dX4_textOf_24 (by decide) (fun c9 => ?_) (fun c9 => ?_)
  · exact absurd c9 (by decide)
  refine zw_new (ci := 1) (fs := [.null, .int 0, .int 0, .int 0]) (C := RJ4) (T := TJ4) (N := 4) hx hb hts hi_X4_textOf_J4 tyJ4 tyJ4_ok hown (hts (.classLink RX4 165 RJ4) (List.mem_cons_of_mem _ zw_1388)) (hts (.instantiable RJ4 4) (List.mem_cons_of_mem _ zw_139)) (hts (.initialized RJ4) (List.mem_cons_of_mem _ zw_47)) hK hP hD hS hA rfl (fun j hj => by rcases (show j = 0 ∨ j = 1 ∨ j = 2 ∨ j = 3 by omega) with rfl | rfl | rfl | rfl <;> rfl) (Nat.le_of_ble_eq_true rfl) (Nat.le_of_ble_eq_true rfl) dX4_textOf_27 hz (fun q55 H56 hP hD hS hz => ?_)
  replace hP : va_P (dC, dI) vwCl [(mo, .inr (9, [th, .ref al, md, rf, kn])), (al, .inr (4, [mc, .ref ed, .int (nI cc)])), (ed, .inl (cO, 10, .inr (.inr (.inr (.inr ee))))), (na0, .inl (cI, 4, .inl fn0)), (r50, .inr (0, [.ref b51, .int 0, .int 0, .int 0])), (b51, .inl (cB, 11, .inl g52)), (a0, .inr (8, [.int 4, .ref wa0, .ref na0])), (wa0, .inl (cI, 4, .inl fw0)), (q55, .inr (1, [.null, .int 0, .int 0, .int 0]))] H56 := hP
  replace hD : va_D A [(mo, .inr (9, [th, .ref al, md, rf, kn])), (al, .inr (4, [mc, .ref ed, .int (nI cc)])), (ed, .inl (cO, 10, .inr (.inr (.inr (.inr ee))))), (na0, .inl (cI, 4, .inl fn0)), (r50, .inr (0, [.ref b51, .int 0, .int 0, .int 0])), (b51, .inl (cB, 11, .inl g52)), (a0, .inr (8, [.int 4, .ref wa0, .ref na0])), (wa0, .inl (cI, 4, .inl fw0)), (q55, .inr (1, [.null, .int 0, .int 0, .int 0]))] := hD
  refine W.widen (k := 9) (n := 131124) (by omega) (by omega) ?_
  refine lv_dup hx hb dX4_textOf_30 rfl ?_
  have hPc := hP.sub (ws' := [(q55, .inr (1, [.null, .int 0, .int 0, .int 0]))]) [8] rfl
  have hDc := hD.sub (ws' := [(q55, .inr (1, [.null, .int 0, .int 0, .int 0]))]) [8] (by decide) rfl
  have hFc := va_free (wc := [(q55, .inr (1, [.null, .int 0, .int 0, .int 0]))]) hD hS hA [8] rfl
  have hDv := hDc.self (sz := H56.size)
  have hpre := zpre (xs' := []) (av := [.ref q55]) hPc hK (hDc.weaken (fun _ _ _ h => h)) hZ hS hFc (fun r hr => by cases hr)
  refine va_callv (va_runI (As := []) (rest := [.ref q55]) ⟨hx, hb, hml, hown, hts⟩ (k_init4 l dC dI cI cB cR cO zk q55 H56.size ) (cwI 0 hts gX4_textOf_J4_init_da8c8 rfl rfl rfl (hts (.initialized RJ4) (List.mem_cons_of_mem _ zw_47)) (hts (.methodLink RX4 167 yJ4_init_da8c8) (List.mem_cons_of_mem _ zw_1389)) (hts (.instanceMethod yJ4_init_da8c8) (List.mem_cons_of_mem _ zw_141)) rfl (by decide +kernel) ⟨Nat.le_of_ble_eq_true rfl, Nat.le_of_ble_eq_true rfl⟩) ⟨zblind, hpre⟩ rfl rfl hl.1 rfl (lv_room (Nat.le_of_ble_eq_true rfl)) dX4_textOf_31 ⟨Nat.le_of_ble_eq_true rfl, Nat.le_of_ble_eq_true rfl⟩) hS (fun q _ h => hFc q h) hFc (fun u t H57 locs ht hvm hw hB hz1 hk1 hS => ?_)
  obtain ⟨w59, ⟨hP1, hK1, hD1, hz2⟩⟩ := hB
  rw [ht] at hP1 hz2
  have hPD9 := va_join (wr := [(mo, .inr (9, [th, .ref al, md, rf, kn])), (al, .inr (4, [mc, .ref ed, .int (nI cc)])), (ed, .inl (cO, 10, .inr (.inr (.inr (.inr ee))))), (na0, .inl (cI, 4, .inl fn0)), (r50, .inr (0, [.ref b51, .int 0, .int 0, .int 0])), (b51, .inl (cB, 11, .inl g52)), (a0, .inr (8, [.int 4, .ref wa0, .ref na0])), (wa0, .inl (cI, 4, .inl fw0))]) (w1 := [(q55, .inr (1, [.ref w59, .int 0, .int 0, .int 0])), (w59, .inl (cB, 16, .inl (fun _ => 0)))]) hP hD [8] [0, 1, 2, 3, 4, 5, 6, 7] rfl rfl (by decide) (by decide) hk1 hFc hP1 hD1
  clear hPc hDc hFc hDv hpre hP hD hP1 hK1 hD1
  obtain ⟨hP, hD⟩ := hPD9
  replace hz : s.heap.size + 10 ≤ H57.size := by omega
  clear hz2
  replace hP : va_P (dC, dI) vwCl [(mo, .inr (9, [th, .ref al, md, rf, kn])), (al, .inr (4, [mc, .ref ed, .int (nI cc)])), (ed, .inl (cO, 10, .inr (.inr (.inr (.inr ee))))), (na0, .inl (cI, 4, .inl fn0)), (r50, .inr (0, [.ref b51, .int 0, .int 0, .int 0])), (b51, .inl (cB, 11, .inl g52)), (a0, .inr (8, [.int 4, .ref wa0, .ref na0])), (wa0, .inl (cI, 4, .inl fw0)), (q55, .inr (1, [.ref w59, .int 0, .int 0, .int 0])), (w59, .inl (cB, 16, .inl (fun _ => 0)))] H57 := hP
  replace hD : va_D A [(mo, .inr (9, [th, .ref al, md, rf, kn])), (al, .inr (4, [mc, .ref ed, .int (nI cc)])), (ed, .inl (cO, 10, .inr (.inr (.inr (.inr ee))))), (na0, .inl (cI, 4, .inl fn0)), (r50, .inr (0, [.ref b51, .int 0, .int 0, .int 0])), (b51, .inl (cB, 11, .inl g52)), (a0, .inr (8, [.int 4, .ref wa0, .ref na0])), (wa0, .inl (cI, 4, .inl fw0)), (q55, .inr (1, [.ref w59, .int 0, .int 0, .int 0])), (w59, .inl (cB, 16, .inl (fun _ => 0)))] := hD
  refine W.widen (k := 10) (n := 131140) (by omega) (by omega) ?_
  refine lv_aload_n hx hb dX4_textOf_34 rfl (lv_at hl 1 rfl) ?_
  have hPc := hP.sub (ws' := [(q55, .inr (1, [.ref w59, .int 0, .int 0, .int 0])), (w59, .inl (cB, 16, .inl (fun _ => 0)))]) [8, 9] rfl
  have hDc := hD.sub (ws' := [(q55, .inr (1, [.ref w59, .int 0, .int 0, .int 0])), (w59, .inl (cB, 16, .inl (fun _ => 0)))]) [8, 9] (by decide) rfl
  have hFc := va_free (wc := [(q55, .inr (1, [.ref w59, .int 0, .int 0, .int 0])), (w59, .inl (cB, 16, .inl (fun _ => 0)))]) hD hS hA [8, 9] rfl
  have hDv := hDc.self (sz := H57.size)
  have hx0 : zS (r50, b51, 11, g52) (va_A [(q55, .inr (1, [.ref w59, .int 0, .int 0, .int 0])), (w59, .inl (cB, 16, .inl (fun _ => 0)))] H57.size) s H57 := zS.ofW hts hi_X4_textOf_J0 hK hP 4 5 1 rfl rfl rfl hfg52 (znot hP hD [8, 9] rfl 4 rfl (by decide)) (znot hP hD [8, 9] rfl 5 rfl (by decide))
  have hpre := zpre (xs' := [(r50, b51, 11, g52)]) (av := [.ref q55, .ref r50]) hPc hK (hDc.weaken (fun _ _ _ h => h)) hZ hS hFc (fun r hr => by cases hr with | head => exact hx0 | tail _ h => cases h)
  refine va_callr (va_runV (As := [.ref r50]) (rest := []) ⟨hx, hb, hml, hown, hts⟩ (k_apA l dC dI cI cB cR cO zk q55 w59 r50 b51 11 16 0 g52 (fun _ => 0) (.int 0) H57.size (by decide) (by decide) (by decide) sb_fit0 (by decide)) (cwV 1 hts gX4_textOf_J4_append_15ec4 rfl rfl rfl (by decide +kernel) ⟨Nat.le_of_ble_eq_true rfl, Nat.le_of_ble_eq_true rfl⟩) ⟨zblind, (zrecv_1 hK hPc (q0 := 0) rfl), hpre⟩ rfl rfl hl.1 rfl (lv_room (Nat.le_of_ble_eq_true rfl)) dX4_textOf_35 ⟨Nat.le_of_ble_eq_true rfl, Nat.le_of_ble_eq_true rfl⟩) hS (fun q _ h => hFc q h) hFc (fun u r61 t H60 locs ht hvm hw hB hz1 hk1 hS => ?_)
  obtain ⟨v62, f63, ⟨hP1, hK1, hD1, hz2⟩, hff63, her61⟩ := hB
  rw [ht] at hP1 hz2
  have hPD9 := va_join (wr := [(mo, .inr (9, [th, .ref al, md, rf, kn])), (al, .inr (4, [mc, .ref ed, .int (nI cc)])), (ed, .inl (cO, 10, .inr (.inr (.inr (.inr ee))))), (na0, .inl (cI, 4, .inl fn0)), (r50, .inr (0, [.ref b51, .int 0, .int 0, .int 0])), (b51, .inl (cB, 11, .inl g52)), (a0, .inr (8, [.int 4, .ref wa0, .ref na0])), (wa0, .inl (cI, 4, .inl fw0))]) (w1 := [(q55, .inr (1, [.ref v62, .int 0, .int 0, .int (nI 11)])), (v62, .inl (cB, 16, .inl f63))]) hP hD [8, 9] [0, 1, 2, 3, 4, 5, 6, 7] rfl rfl (by decide) (by decide) hk1 hFc hP1 hD1
  clear hPc hDc hFc hDv hpre hP hD hP1 hK1 hD1
  obtain ⟨hP, hD⟩ := hPD9
  replace hz : s.heap.size + 10 ≤ H60.size := by omega
  clear hz2
  replace hP : va_P (dC, dI) vwCl [(mo, .inr (9, [th, .ref al, md, rf, kn])), (al, .inr (4, [mc, .ref ed, .int (nI cc)])), (ed, .inl (cO, 10, .inr (.inr (.inr (.inr ee))))), (na0, .inl (cI, 4, .inl fn0)), (r50, .inr (0, [.ref b51, .int 0, .int 0, .int 0])), (b51, .inl (cB, 11, .inl g52)), (a0, .inr (8, [.int 4, .ref wa0, .ref na0])), (wa0, .inl (cI, 4, .inl fw0)), (q55, .inr (1, [.ref v62, .int 0, .int 0, .int (nI 11)])), (v62, .inl (cB, 16, .inl f63))] H60 := hP
  replace hD : va_D A [(mo, .inr (9, [th, .ref al, md, rf, kn])), (al, .inr (4, [mc, .ref ed, .int (nI cc)])), (ed, .inl (cO, 10, .inr (.inr (.inr (.inr ee))))), (na0, .inl (cI, 4, .inl fn0)), (r50, .inr (0, [.ref b51, .int 0, .int 0, .int 0])), (b51, .inl (cB, 11, .inl g52)), (a0, .inr (8, [.int 4, .ref wa0, .ref na0])), (wa0, .inl (cI, 4, .inl fw0)), (q55, .inr (1, [.ref v62, .int 0, .int 0, .int (nI 11)])), (v62, .inl (cB, 16, .inl f63))] := hD
  refine W.widen (k := 10) (n := 131140) (by omega) (by omega) ?_
  obtain rfl := her61.symm
  have hP := hP.sub (ws' := [(mo, .inr (9, [th, .ref al, md, rf, kn])), (al, .inr (4, [mc, .ref ed, .int (nI cc)])), (ed, .inl (cO, 10, .inr (.inr (.inr (.inr ee))))), (na0, .inl (cI, 4, .inl fn0)), (a0, .inr (8, [.int 4, .ref wa0, .ref na0])), (wa0, .inl (cI, 4, .inl fw0)), (q55, .inr (1, [.ref v62, .int 0, .int 0, .int (nI 11)])), (v62, .inl (cB, 16, .inl f63))]) [0, 1, 2, 3, 6, 7, 8, 9] rfl
  have hD := hD.sub (ws' := [(mo, .inr (9, [th, .ref al, md, rf, kn])), (al, .inr (4, [mc, .ref ed, .int (nI cc)])), (ed, .inl (cO, 10, .inr (.inr (.inr (.inr ee))))), (na0, .inl (cI, 4, .inl fn0)), (a0, .inr (8, [.int 4, .ref wa0, .ref na0])), (wa0, .inl (cI, 4, .inl fw0)), (q55, .inr (1, [.ref v62, .int 0, .int 0, .int (nI 11)])), (v62, .inl (cB, 16, .inl f63))]) [0, 1, 2, 3, 6, 7, 8, 9] (by decide) rfl
  refine lv_iload hx hb dX4_textOf_38 (lv_at hl 0 rfl) ?_
  refine lv_if_le (tgt := 48) hx hb dX4_textOf_40 (by decide) (fun c9 => ?_) (fun c9 => ?_)
  · exact absurd c9 (by decide)
  refine va_ldcS (own := RX4) (tx := ", ") (q := zk 3) hx hb hown (zl2 hZ) dX4_textOf_43 ?_
  refine lv_goto (tgt := 50) hx hb dX4_textOf_45 (by decide) ?_
  have hPc := hP.sub (ws' := [(q55, .inr (1, [.ref v62, .int 0, .int 0, .int (nI 11)])), (v62, .inl (cB, 16, .inl f63))]) [6, 7] rfl
  have hDc := hD.sub (ws' := [(q55, .inr (1, [.ref v62, .int 0, .int 0, .int (nI 11)])), (v62, .inl (cB, 16, .inl f63))]) [6, 7] (by decide) rfl
  have hFc := va_free (wc := [(q55, .inr (1, [.ref v62, .int 0, .int 0, .int (nI 11)])), (v62, .inl (cB, 16, .inl f63))]) hD hS hA [6, 7] rfl
  have hDv := hDc.self (sz := H60.size)
  have hx0 : zS ((zk 3), (zk 13), 2, (fun j => (zByt.getD 2 []).getD j 0)) (va_A [(q55, .inr (1, [.ref v62, .int 0, .int 0, .int (nI 11)])), (v62, .inl (cB, 16, .inl f63))] H60.size) s H60 := zc2 hZ hS hFc
  have hpre := zpre (xs' := [((zk 3), (zk 13), 2, (fun j => (zByt.getD 2 []).getD j 0))]) (av := [.ref q55, .ref (zk 3)]) hPc hK (hDc.weaken (fun _ _ _ h => h)) hZ hS hFc (fun r hr => by cases hr with | head => exact hx0 | tail _ h => cases h)
  refine va_callr (va_runV (As := [.ref (zk 3)]) (rest := []) ⟨hx, hb, hml, hown, hts⟩ (k_apA l dC dI cI cB cR cO zk q55 v62 (zk 3) (zk 13) 2 16 11 (fun j => (zByt.getD 2 []).getD j 0) f63 (.int 0) H60.size (by decide) (by decide) (by decide) hff63 (by decide)) (cwV 1 hts gX4_textOf_J4_append_15ec4 rfl rfl rfl (by decide +kernel) ⟨Nat.le_of_ble_eq_true rfl, Nat.le_of_ble_eq_true rfl⟩) ⟨zblind, (zrecv_1 hK hPc (q0 := 0) rfl), hpre⟩ rfl rfl hl.1 rfl (lv_room (Nat.le_of_ble_eq_true rfl)) dX4_textOf_50 ⟨Nat.le_of_ble_eq_true rfl, Nat.le_of_ble_eq_true rfl⟩) hS (fun q _ h => hFc q h) hFc (fun u r65 t H64 locs ht hvm hw hB hz1 hk1 hS => ?_)
  obtain ⟨v66, f67, ⟨hP1, hK1, hD1, hz2⟩, hff67, her65⟩ := hB
  rw [ht] at hP1 hz2
  have hPD9 := va_join (wr := [(mo, .inr (9, [th, .ref al, md, rf, kn])), (al, .inr (4, [mc, .ref ed, .int (nI cc)])), (ed, .inl (cO, 10, .inr (.inr (.inr (.inr ee))))), (na0, .inl (cI, 4, .inl fn0)), (a0, .inr (8, [.int 4, .ref wa0, .ref na0])), (wa0, .inl (cI, 4, .inl fw0))]) (w1 := [(q55, .inr (1, [.ref v66, .int 0, .int 0, .int (nI 13)])), (v66, .inl (cB, 16, .inl f67))]) hP hD [6, 7] [0, 1, 2, 3, 4, 5] rfl rfl (by decide) (by decide) hk1 hFc hP1 hD1
  clear hPc hDc hFc hDv hpre hP hD hP1 hK1 hD1
  obtain ⟨hP, hD⟩ := hPD9
  replace hz : s.heap.size + 10 ≤ H64.size := by omega
  clear hz2
  replace hP : va_P (dC, dI) vwCl [(mo, .inr (9, [th, .ref al, md, rf, kn])), (al, .inr (4, [mc, .ref ed, .int (nI cc)])), (ed, .inl (cO, 10, .inr (.inr (.inr (.inr ee))))), (na0, .inl (cI, 4, .inl fn0)), (a0, .inr (8, [.int 4, .ref wa0, .ref na0])), (wa0, .inl (cI, 4, .inl fw0)), (q55, .inr (1, [.ref v66, .int 0, .int 0, .int (nI 13)])), (v66, .inl (cB, 16, .inl f67))] H64 := hP
  replace hD : va_D A [(mo, .inr (9, [th, .ref al, md, rf, kn])), (al, .inr (4, [mc, .ref ed, .int (nI cc)])), (ed, .inl (cO, 10, .inr (.inr (.inr (.inr ee))))), (na0, .inl (cI, 4, .inl fn0)), (a0, .inr (8, [.int 4, .ref wa0, .ref na0])), (wa0, .inl (cI, 4, .inl fw0)), (q55, .inr (1, [.ref v66, .int 0, .int 0, .int (nI 13)])), (v66, .inl (cB, 16, .inl f67))] := hD
  refine W.widen (k := 10) (n := 131140) (by omega) (by omega) ?_
  obtain rfl := her65.symm
  refine lv_aload_n hx hb dX4_textOf_53 rfl (lv_at hl 3 rfl) ?_
  refine lv_aload_n hx hb dX4_textOf_54 rfl (lv_at hl 2 rfl) ?_
  refine lv_iload hx hb dX4_textOf_55 (lv_at hl 0 rfl) ?_
  have hPc := hP.sub (ws' := [(mo, .inr (9, [th, .ref al, md, rf, kn])), (al, .inr (4, [mc, .ref ed, .int (nI cc)])), (ed, .inl (cO, 10, .inr (.inr (.inr (.inr ee))))), (a0, .inr (8, [.int 4, .ref wa0, .ref na0])), (wa0, .inl (cI, 4, .inl fw0)), (na0, .inl (cI, 4, .inl fn0))]) [0, 1, 2, 4, 5, 3] rfl
  have hDc := hD.sub (ws' := [(mo, .inr (9, [th, .ref al, md, rf, kn])), (al, .inr (4, [mc, .ref ed, .int (nI cc)])), (ed, .inl (cO, 10, .inr (.inr (.inr (.inr ee))))), (a0, .inr (8, [.int 4, .ref wa0, .ref na0])), (wa0, .inl (cI, 4, .inl fw0)), (na0, .inl (cI, 4, .inl fn0))]) [0, 1, 2, 4, 5, 3] (by decide) rfl
  have hFc := va_free (wc := [(mo, .inr (9, [th, .ref al, md, rf, kn])), (al, .inr (4, [mc, .ref ed, .int (nI cc)])), (ed, .inl (cO, 10, .inr (.inr (.inr (.inr ee))))), (a0, .inr (8, [.int 4, .ref wa0, .ref na0])), (wa0, .inl (cI, 4, .inl fw0)), (na0, .inl (cI, 4, .inl fn0))]) hD hS hA [0, 1, 2, 4, 5, 3] rfl
  have hDv := hDc.self (sz := H64.size)
  have hpre := zpre (xs' := []) (av := [.ref mo, .ref a0, .int 2]) hPc hK (hDc.weaken (fun _ _ _ h => h)) hZ hS hFc (fun r hr => by cases hr)
  refine va_callr (va_runV (As := [.ref a0, .int 2]) (rest := [.ref q55]) ⟨hx, hb, hml, hown, hts⟩ (k_tAt0_2 l dC dI cI cB cR cO zk mo al ed cc ee th md rf kn mc a0 wa0 na0 fw0 fn0 H64.size hcc hcc2 hw0 hn0 he0) (cwV 2 hts gX4_textOf_X4_textAt rfl rfl rfl (by decide +kernel) ⟨Nat.le_of_ble_eq_true rfl, Nat.le_of_ble_eq_true rfl⟩) ⟨zblind, (zrecv_9 hK hPc (q0 := 0) rfl), hpre⟩ rfl rfl hl.1 rfl (lv_room (Nat.le_of_ble_eq_true rfl)) dX4_textOf_57 ⟨Nat.le_of_ble_eq_true rfl, Nat.le_of_ble_eq_true rfl⟩) hS (fun q _ h => hFc q h) hFc (fun u r69 t H68 locs ht hvm hw hB hz1 hk1 hS => ?_)
  obtain ⟨⟨hP1, hK1, hD1, hz2⟩, her69⟩ := hB
  rw [ht] at hP1 hz2
  have hPD9 := va_join (wr := [(q55, .inr (1, [.ref v66, .int 0, .int 0, .int (nI 13)])), (v66, .inl (cB, 16, .inl f67))]) (w1 := [(mo, .inr (9, [th, .ref al, md, rf, kn])), (al, .inr (4, [mc, .ref ed, .int (nI cc)])), (ed, .inl (cO, 10, .inr (.inr (.inr (.inr ee))))), (a0, .inr (8, [.int 4, .ref wa0, .ref na0])), (wa0, .inl (cI, 4, .inl fw0)), (na0, .inl (cI, 4, .inl fn0))]) hP hD [0, 1, 2, 4, 5, 3] [6, 7] rfl rfl (by decide) (by decide) hk1 hFc hP1 hD1
  clear hPc hDc hFc hDv hpre hP hD hP1 hK1 hD1
  obtain ⟨hP, hD⟩ := hPD9
  replace hz : s.heap.size + 10 ≤ H68.size := by omega
  clear hz2
  replace hP : va_P (dC, dI) vwCl [(q55, .inr (1, [.ref v66, .int 0, .int 0, .int (nI 13)])), (v66, .inl (cB, 16, .inl f67)), (mo, .inr (9, [th, .ref al, md, rf, kn])), (al, .inr (4, [mc, .ref ed, .int (nI cc)])), (ed, .inl (cO, 10, .inr (.inr (.inr (.inr ee))))), (a0, .inr (8, [.int 4, .ref wa0, .ref na0])), (wa0, .inl (cI, 4, .inl fw0)), (na0, .inl (cI, 4, .inl fn0))] H68 := hP
  replace hD : va_D A [(q55, .inr (1, [.ref v66, .int 0, .int 0, .int (nI 13)])), (v66, .inl (cB, 16, .inl f67)), (mo, .inr (9, [th, .ref al, md, rf, kn])), (al, .inr (4, [mc, .ref ed, .int (nI cc)])), (ed, .inl (cO, 10, .inr (.inr (.inr (.inr ee))))), (a0, .inr (8, [.int 4, .ref wa0, .ref na0])), (wa0, .inl (cI, 4, .inl fw0)), (na0, .inl (cI, 4, .inl fn0))] := hD
  refine W.widen (k := 10) (n := 131140) (by omega) (by omega) ?_
  obtain rfl := her69.symm
  have hPc := hP.sub (ws' := [(q55, .inr (1, [.ref v66, .int 0, .int 0, .int (nI 13)])), (v66, .inl (cB, 16, .inl f67))]) [0, 1] rfl
  have hDc := hD.sub (ws' := [(q55, .inr (1, [.ref v66, .int 0, .int 0, .int (nI 13)])), (v66, .inl (cB, 16, .inl f67))]) [0, 1] (by decide) rfl
  have hFc := va_free (wc := [(q55, .inr (1, [.ref v66, .int 0, .int 0, .int (nI 13)])), (v66, .inl (cB, 16, .inl f67))]) hD hS hA [0, 1] rfl
  have hDv := hDc.self (sz := H68.size)
  have hx0 : zS ((zk 5), (zk 15), 4, (fun j => (zByt.getD 4 []).getD j 0)) (va_A [(q55, .inr (1, [.ref v66, .int 0, .int 0, .int (nI 13)])), (v66, .inl (cB, 16, .inl f67))] H68.size) s H68 := zc4 hZ hS hFc
  have hpre := zpre (xs' := [((zk 5), (zk 15), 4, (fun j => (zByt.getD 4 []).getD j 0))]) (av := [.ref q55, .ref (zk 5)]) hPc hK (hDc.weaken (fun _ _ _ h => h)) hZ hS hFc (fun r hr => by cases hr with | head => exact hx0 | tail _ h => cases h)
  refine va_callr (va_runV (As := [.ref (zk 5)]) (rest := []) ⟨hx, hb, hml, hown, hts⟩ (k_apB l dC dI cI cB cR cO zk q55 v66 (zk 5) (zk 15) 4 16 13 (fun j => (zByt.getD 4 []).getD j 0) f67 (.int 0) H68.size (by decide) (by decide) (by decide) hff67 (by decide) (by decide)) (cwV 1 hts gX4_textOf_J4_append_15ec4 rfl rfl rfl (by decide +kernel) ⟨Nat.le_of_ble_eq_true rfl, Nat.le_of_ble_eq_true rfl⟩) ⟨zblind, (zrecv_1 hK hPc (q0 := 0) rfl), hpre⟩ rfl rfl hl.1 rfl (lv_room (Nat.le_of_ble_eq_true rfl)) dX4_textOf_60 ⟨Nat.le_of_ble_eq_true rfl, Nat.le_of_ble_eq_true rfl⟩) hS (fun q _ h => hFc q h) hFc (fun u r71 t H70 locs ht hvm hw hB hz1 hk1 hS => ?_)
  obtain ⟨v72, f73, ⟨hP1, hK1, hD1, hz2⟩, hff73, her71⟩ := hB
  rw [ht] at hP1 hz2
  have hPD9 := va_join (wr := [(mo, .inr (9, [th, .ref al, md, rf, kn])), (al, .inr (4, [mc, .ref ed, .int (nI cc)])), (ed, .inl (cO, 10, .inr (.inr (.inr (.inr ee))))), (a0, .inr (8, [.int 4, .ref wa0, .ref na0])), (wa0, .inl (cI, 4, .inl fw0)), (na0, .inl (cI, 4, .inl fn0))]) (w1 := [(q55, .inr (1, [.ref v72, .int 0, .int 0, .int (nI 17)])), (v72, .inl (cB, 34, .inl f73))]) hP hD [0, 1] [2, 3, 4, 5, 6, 7] rfl rfl (by decide) (by decide) hk1 hFc hP1 hD1
  clear hPc hDc hFc hDv hpre hP hD hP1 hK1 hD1
  obtain ⟨hP, hD⟩ := hPD9
  replace hz : s.heap.size + 10 ≤ H70.size := by omega
  clear hz2
  replace hP : va_P (dC, dI) vwCl [(mo, .inr (9, [th, .ref al, md, rf, kn])), (al, .inr (4, [mc, .ref ed, .int (nI cc)])), (ed, .inl (cO, 10, .inr (.inr (.inr (.inr ee))))), (a0, .inr (8, [.int 4, .ref wa0, .ref na0])), (wa0, .inl (cI, 4, .inl fw0)), (na0, .inl (cI, 4, .inl fn0)), (q55, .inr (1, [.ref v72, .int 0, .int 0, .int (nI 17)])), (v72, .inl (cB, 34, .inl f73))] H70 := hP
  replace hD : va_D A [(mo, .inr (9, [th, .ref al, md, rf, kn])), (al, .inr (4, [mc, .ref ed, .int (nI cc)])), (ed, .inl (cO, 10, .inr (.inr (.inr (.inr ee))))), (a0, .inr (8, [.int 4, .ref wa0, .ref na0])), (wa0, .inl (cI, 4, .inl fw0)), (na0, .inl (cI, 4, .inl fn0)), (q55, .inr (1, [.ref v72, .int 0, .int 0, .int (nI 17)])), (v72, .inl (cB, 34, .inl f73))] := hD
  refine W.widen (k := 11) (n := 196676) (by omega) (by omega) ?_
  obtain rfl := her71.symm
  have hPc := hP.sub (ws' := [(q55, .inr (1, [.ref v72, .int 0, .int 0, .int (nI 17)])), (v72, .inl (cB, 34, .inl f73))]) [6, 7] rfl
  have hDc := hD.sub (ws' := [(q55, .inr (1, [.ref v72, .int 0, .int 0, .int (nI 17)])), (v72, .inl (cB, 34, .inl f73))]) [6, 7] (by decide) rfl
  have hFc := va_free (wc := [(q55, .inr (1, [.ref v72, .int 0, .int 0, .int (nI 17)])), (v72, .inl (cB, 34, .inl f73))]) hD hS hA [6, 7] rfl
  have hDv := hDc.self (sz := H70.size)
  have hpre := zpre (xs' := []) (av := [.ref q55]) hPc hK (hDc.weaken (fun _ _ _ h => h)) hZ hS hFc (fun r hr => by cases hr)
  refine va_callr (va_runV (As := []) (rest := []) ⟨hx, hb, hml, hown, hts⟩ (k_toS l dC dI cI cB cR cO zk q55 v72 34 17 f73 (.int 0) H70.size (by decide) (by decide) hff73) (cwV 0 hts gX4_textOf_J4_toString_0e30d rfl rfl rfl (by decide +kernel) ⟨Nat.le_of_ble_eq_true rfl, Nat.le_of_ble_eq_true rfl⟩) ⟨zblind, (zrecv_1 hK hPc (q0 := 0) rfl), hpre⟩ rfl rfl hl.1 rfl (lv_room (Nat.le_of_ble_eq_true rfl)) dX4_textOf_63 ⟨Nat.le_of_ble_eq_true rfl, Nat.le_of_ble_eq_true rfl⟩) hS (fun q _ h => hFc q h) hFc (fun u r75 t H74 locs ht hvm hw hB hz1 hk1 hS => ?_)
  obtain ⟨b76, g77, ⟨hP1, hK1, hD1, hz2⟩, hfg77⟩ := hB
  rw [ht] at hP1 hz2
  have hPD9 := va_join (wr := [(mo, .inr (9, [th, .ref al, md, rf, kn])), (al, .inr (4, [mc, .ref ed, .int (nI cc)])), (ed, .inl (cO, 10, .inr (.inr (.inr (.inr ee))))), (a0, .inr (8, [.int 4, .ref wa0, .ref na0])), (wa0, .inl (cI, 4, .inl fw0)), (na0, .inl (cI, 4, .inl fn0))]) (w1 := [(r75, .inr (0, [.ref b76, .int 0, .int 0, .int 0])), (b76, .inl (cB, 17, .inl g77)), (q55, .inr (1, [.ref v72, .int 0, .int 0, .int (nI 17)])), (v72, .inl (cB, 34, .inl f73))]) hP hD [6, 7] [0, 1, 2, 3, 4, 5] rfl rfl (by decide) (by decide) hk1 hFc hP1 hD1
  clear hPc hDc hFc hDv hpre hP hD hP1 hK1 hD1
  obtain ⟨hP, hD⟩ := hPD9
  replace hz : s.heap.size + 12 ≤ H74.size := by omega
  clear hz2
  replace hP : va_P (dC, dI) vwCl [(mo, .inr (9, [th, .ref al, md, rf, kn])), (al, .inr (4, [mc, .ref ed, .int (nI cc)])), (ed, .inl (cO, 10, .inr (.inr (.inr (.inr ee))))), (a0, .inr (8, [.int 4, .ref wa0, .ref na0])), (wa0, .inl (cI, 4, .inl fw0)), (na0, .inl (cI, 4, .inl fn0)), (r75, .inr (0, [.ref b76, .int 0, .int 0, .int 0])), (b76, .inl (cB, 17, .inl g77)), (q55, .inr (1, [.ref v72, .int 0, .int 0, .int (nI 17)])), (v72, .inl (cB, 34, .inl f73))] H74 := hP
  replace hD : va_D A [(mo, .inr (9, [th, .ref al, md, rf, kn])), (al, .inr (4, [mc, .ref ed, .int (nI cc)])), (ed, .inl (cO, 10, .inr (.inr (.inr (.inr ee))))), (a0, .inr (8, [.int 4, .ref wa0, .ref na0])), (wa0, .inl (cI, 4, .inl fw0)), (na0, .inl (cI, 4, .inl fn0)), (r75, .inr (0, [.ref b76, .int 0, .int 0, .int 0])), (b76, .inl (cB, 17, .inl g77)), (q55, .inr (1, [.ref v72, .int 0, .int 0, .int (nI 17)])), (v72, .inl (cB, 34, .inl f73))] := hD
  refine W.widen (k := 13) (n := 262216) (by omega) (by omega) ?_
  have hP := hP.sub (ws' := [(mo, .inr (9, [th, .ref al, md, rf, kn])), (al, .inr (4, [mc, .ref ed, .int (nI cc)])), (ed, .inl (cO, 10, .inr (.inr (.inr (.inr ee))))), (a0, .inr (8, [.int 4, .ref wa0, .ref na0])), (wa0, .inl (cI, 4, .inl fw0)), (na0, .inl (cI, 4, .inl fn0)), (r75, .inr (0, [.ref b76, .int 0, .int 0, .int 0])), (b76, .inl (cB, 17, .inl g77))]) [0, 1, 2, 3, 4, 5, 6, 7] rfl
  have hD := hD.sub (ws' := [(mo, .inr (9, [th, .ref al, md, rf, kn])), (al, .inr (4, [mc, .ref ed, .int (nI cc)])), (ed, .inl (cO, 10, .inr (.inr (.inr (.inr ee))))), (a0, .inr (8, [.int 4, .ref wa0, .ref na0])), (wa0, .inl (cI, 4, .inl fw0)), (na0, .inl (cI, 4, .inl fn0)), (r75, .inr (0, [.ref b76, .int 0, .int 0, .int 0])), (b76, .inl (cB, 17, .inl g77))]) [0, 1, 2, 3, 4, 5, 6, 7] (by decide) rfl
  refine lv_astore_n (lv' := [(3, .ref r75), (4, .int 2), (2, .ref a0), (0, .ref mo), (1, .int 0)]) hx hb dX4_textOf_66 rfl hl (by decide) rfl (fun ls hl => ?_)
  refine lv_iinc (v := 3) (lv' := [(4, .int 3), (3, .ref r75), (2, .ref a0), (0, .ref mo), (1, .int 0)]) hx hb dX4_textOf_67 hl (k := 1) rfl (by decide) (by decide) rfl (fun ls hl => ?_)
  refine lv_goto (tgt := 18) hx hb dX4_textOf_70 (by decide) ?_
  refine lv_iload hx hb dX4_textOf_18 (lv_at hl 0 rfl) ?_
  refine lv_aload_n hx hb dX4_textOf_20 rfl (lv_at hl 2 rfl) ?_
  have hPc := hP.sub (ws' := [(a0, .inr (8, [.int 4, .ref wa0, .ref na0])), (wa0, .inl (cI, 4, .inl fw0))]) [3, 4] rfl
  have hDc := hD.sub (ws' := [(a0, .inr (8, [.int 4, .ref wa0, .ref na0])), (wa0, .inl (cI, 4, .inl fw0))]) [3, 4] (by decide) rfl
  have hFc := va_free (wc := [(a0, .inr (8, [.int 4, .ref wa0, .ref na0])), (wa0, .inl (cI, 4, .inl fw0))]) hD hS hA [3, 4] rfl
  have hDv := hDc.self (sz := H74.size)
  have hpre := zpre (xs' := []) (av := [.ref a0]) hPc hK (hDc.weaken (fun _ _ _ h => h)) hZ hS hFc (fun r hr => by cases hr)
  refine va_calli (va_runV (As := []) (rest := [.int 3]) ⟨hx, hb, hml, hown, hts⟩ (k_rlen l dC dI cI cB cR cO zk a0 wa0 na0 fw0 H74.size ) (cwV 0 hts gX4_textOf_X3_length rfl rfl rfl (by decide +kernel) ⟨Nat.le_of_ble_eq_true rfl, Nat.le_of_ble_eq_true rfl⟩) ⟨zblind, (zrecv_8 hK hPc (q0 := 0) rfl), hpre⟩ rfl rfl hl.1 rfl (lv_room (Nat.le_of_ble_eq_true rfl)) dX4_textOf_21 ⟨Nat.le_of_ble_eq_true rfl, Nat.le_of_ble_eq_true rfl⟩) hS (fun q _ h => hFc q h) hFc (fun r79 u t H78 locs ht hvm hw hB hz1 hk1 hS => ?_)
  obtain rfl : 4 = r79 := (show r79 = 4 from hw).symm
  obtain ⟨hP1, hK1, hD1, hz2⟩ := hB
  rw [ht] at hP1 hz2
  have hPD9 := va_join (wr := [(mo, .inr (9, [th, .ref al, md, rf, kn])), (al, .inr (4, [mc, .ref ed, .int (nI cc)])), (ed, .inl (cO, 10, .inr (.inr (.inr (.inr ee))))), (na0, .inl (cI, 4, .inl fn0)), (r75, .inr (0, [.ref b76, .int 0, .int 0, .int 0])), (b76, .inl (cB, 17, .inl g77))]) (w1 := [(a0, .inr (8, [.int 4, .ref wa0, .ref na0])), (wa0, .inl (cI, 4, .inl fw0))]) hP hD [3, 4] [0, 1, 2, 5, 6, 7] rfl rfl (by decide) (by decide) hk1 hFc hP1 hD1
  clear hPc hDc hFc hDv hpre hP hD hP1 hK1 hD1
  obtain ⟨hP, hD⟩ := hPD9
  replace hz : s.heap.size + 12 ≤ H78.size := by omega
  clear hz2
  replace hP : va_P (dC, dI) vwCl [(mo, .inr (9, [th, .ref al, md, rf, kn])), (al, .inr (4, [mc, .ref ed, .int (nI cc)])), (ed, .inl (cO, 10, .inr (.inr (.inr (.inr ee))))), (na0, .inl (cI, 4, .inl fn0)), (r75, .inr (0, [.ref b76, .int 0, .int 0, .int 0])), (b76, .inl (cB, 17, .inl g77)), (a0, .inr (8, [.int 4, .ref wa0, .ref na0])), (wa0, .inl (cI, 4, .inl fw0))] H78 := hP
  replace hD : va_D A [(mo, .inr (9, [th, .ref al, md, rf, kn])), (al, .inr (4, [mc, .ref ed, .int (nI cc)])), (ed, .inl (cO, 10, .inr (.inr (.inr (.inr ee))))), (na0, .inl (cI, 4, .inl fn0)), (r75, .inr (0, [.ref b76, .int 0, .int 0, .int 0])), (b76, .inl (cB, 17, .inl g77)), (a0, .inr (8, [.int 4, .ref wa0, .ref na0])), (wa0, .inl (cI, 4, .inl fw0))] := hD
  refine W.widen (k := 13) (n := 262216) (by omega) (by omega) ?_
  refine lv_icmp_ge (tgt := 73) hx hb dX4_textOf_24 (by decide) (fun c9 => ?_) (fun c9 => ?_)
  · exact absurd c9 (by decide)
  refine zw_new (ci := 1) (fs := [.null, .int 0, .int 0, .int 0]) (C := RJ4) (T := TJ4) (N := 4) hx hb hts hi_X4_textOf_J4 tyJ4 tyJ4_ok hown (hts (.classLink RX4 165 RJ4) (List.mem_cons_of_mem _ zw_1388)) (hts (.instantiable RJ4 4) (List.mem_cons_of_mem _ zw_139)) (hts (.initialized RJ4) (List.mem_cons_of_mem _ zw_47)) hK hP hD hS hA rfl (fun j hj => by rcases (show j = 0 ∨ j = 1 ∨ j = 2 ∨ j = 3 by omega) with rfl | rfl | rfl | rfl <;> rfl) (Nat.le_of_ble_eq_true rfl) (Nat.le_of_ble_eq_true rfl) dX4_textOf_27 hz (fun q80 H81 hP hD hS hz => ?_)
  replace hP : va_P (dC, dI) vwCl [(mo, .inr (9, [th, .ref al, md, rf, kn])), (al, .inr (4, [mc, .ref ed, .int (nI cc)])), (ed, .inl (cO, 10, .inr (.inr (.inr (.inr ee))))), (na0, .inl (cI, 4, .inl fn0)), (r75, .inr (0, [.ref b76, .int 0, .int 0, .int 0])), (b76, .inl (cB, 17, .inl g77)), (a0, .inr (8, [.int 4, .ref wa0, .ref na0])), (wa0, .inl (cI, 4, .inl fw0)), (q80, .inr (1, [.null, .int 0, .int 0, .int 0]))] H81 := hP
  replace hD : va_D A [(mo, .inr (9, [th, .ref al, md, rf, kn])), (al, .inr (4, [mc, .ref ed, .int (nI cc)])), (ed, .inl (cO, 10, .inr (.inr (.inr (.inr ee))))), (na0, .inl (cI, 4, .inl fn0)), (r75, .inr (0, [.ref b76, .int 0, .int 0, .int 0])), (b76, .inl (cB, 17, .inl g77)), (a0, .inr (8, [.int 4, .ref wa0, .ref na0])), (wa0, .inl (cI, 4, .inl fw0)), (q80, .inr (1, [.null, .int 0, .int 0, .int 0]))] := hD
  refine W.widen (k := 14) (n := 262220) (by omega) (by omega) ?_
  refine lv_dup hx hb dX4_textOf_30 rfl ?_
  have hPc := hP.sub (ws' := [(q80, .inr (1, [.null, .int 0, .int 0, .int 0]))]) [8] rfl
  have hDc := hD.sub (ws' := [(q80, .inr (1, [.null, .int 0, .int 0, .int 0]))]) [8] (by decide) rfl
  have hFc := va_free (wc := [(q80, .inr (1, [.null, .int 0, .int 0, .int 0]))]) hD hS hA [8] rfl
  have hDv := hDc.self (sz := H81.size)
  have hpre := zpre (xs' := []) (av := [.ref q80]) hPc hK (hDc.weaken (fun _ _ _ h => h)) hZ hS hFc (fun r hr => by cases hr)
  refine va_callv (va_runI (As := []) (rest := [.ref q80]) ⟨hx, hb, hml, hown, hts⟩ (k_init4 l dC dI cI cB cR cO zk q80 H81.size ) (cwI 0 hts gX4_textOf_J4_init_da8c8 rfl rfl rfl (hts (.initialized RJ4) (List.mem_cons_of_mem _ zw_47)) (hts (.methodLink RX4 167 yJ4_init_da8c8) (List.mem_cons_of_mem _ zw_1389)) (hts (.instanceMethod yJ4_init_da8c8) (List.mem_cons_of_mem _ zw_141)) rfl (by decide +kernel) ⟨Nat.le_of_ble_eq_true rfl, Nat.le_of_ble_eq_true rfl⟩) ⟨zblind, hpre⟩ rfl rfl hl.1 rfl (lv_room (Nat.le_of_ble_eq_true rfl)) dX4_textOf_31 ⟨Nat.le_of_ble_eq_true rfl, Nat.le_of_ble_eq_true rfl⟩) hS (fun q _ h => hFc q h) hFc (fun u t H82 locs ht hvm hw hB hz1 hk1 hS => ?_)
  obtain ⟨w84, ⟨hP1, hK1, hD1, hz2⟩⟩ := hB
  rw [ht] at hP1 hz2
  have hPD9 := va_join (wr := [(mo, .inr (9, [th, .ref al, md, rf, kn])), (al, .inr (4, [mc, .ref ed, .int (nI cc)])), (ed, .inl (cO, 10, .inr (.inr (.inr (.inr ee))))), (na0, .inl (cI, 4, .inl fn0)), (r75, .inr (0, [.ref b76, .int 0, .int 0, .int 0])), (b76, .inl (cB, 17, .inl g77)), (a0, .inr (8, [.int 4, .ref wa0, .ref na0])), (wa0, .inl (cI, 4, .inl fw0))]) (w1 := [(q80, .inr (1, [.ref w84, .int 0, .int 0, .int 0])), (w84, .inl (cB, 16, .inl (fun _ => 0)))]) hP hD [8] [0, 1, 2, 3, 4, 5, 6, 7] rfl rfl (by decide) (by decide) hk1 hFc hP1 hD1
  clear hPc hDc hFc hDv hpre hP hD hP1 hK1 hD1
  obtain ⟨hP, hD⟩ := hPD9
  replace hz : s.heap.size + 14 ≤ H82.size := by omega
  clear hz2
  replace hP : va_P (dC, dI) vwCl [(mo, .inr (9, [th, .ref al, md, rf, kn])), (al, .inr (4, [mc, .ref ed, .int (nI cc)])), (ed, .inl (cO, 10, .inr (.inr (.inr (.inr ee))))), (na0, .inl (cI, 4, .inl fn0)), (r75, .inr (0, [.ref b76, .int 0, .int 0, .int 0])), (b76, .inl (cB, 17, .inl g77)), (a0, .inr (8, [.int 4, .ref wa0, .ref na0])), (wa0, .inl (cI, 4, .inl fw0)), (q80, .inr (1, [.ref w84, .int 0, .int 0, .int 0])), (w84, .inl (cB, 16, .inl (fun _ => 0)))] H82 := hP
  replace hD : va_D A [(mo, .inr (9, [th, .ref al, md, rf, kn])), (al, .inr (4, [mc, .ref ed, .int (nI cc)])), (ed, .inl (cO, 10, .inr (.inr (.inr (.inr ee))))), (na0, .inl (cI, 4, .inl fn0)), (r75, .inr (0, [.ref b76, .int 0, .int 0, .int 0])), (b76, .inl (cB, 17, .inl g77)), (a0, .inr (8, [.int 4, .ref wa0, .ref na0])), (wa0, .inl (cI, 4, .inl fw0)), (q80, .inr (1, [.ref w84, .int 0, .int 0, .int 0])), (w84, .inl (cB, 16, .inl (fun _ => 0)))] := hD
  refine W.widen (k := 15) (n := 262236) (by omega) (by omega) ?_
  refine lv_aload_n hx hb dX4_textOf_34 rfl (lv_at hl 1 rfl) ?_
  have hPc := hP.sub (ws' := [(q80, .inr (1, [.ref w84, .int 0, .int 0, .int 0])), (w84, .inl (cB, 16, .inl (fun _ => 0)))]) [8, 9] rfl
  have hDc := hD.sub (ws' := [(q80, .inr (1, [.ref w84, .int 0, .int 0, .int 0])), (w84, .inl (cB, 16, .inl (fun _ => 0)))]) [8, 9] (by decide) rfl
  have hFc := va_free (wc := [(q80, .inr (1, [.ref w84, .int 0, .int 0, .int 0])), (w84, .inl (cB, 16, .inl (fun _ => 0)))]) hD hS hA [8, 9] rfl
  have hDv := hDc.self (sz := H82.size)
  have hx0 : zS (r75, b76, 17, g77) (va_A [(q80, .inr (1, [.ref w84, .int 0, .int 0, .int 0])), (w84, .inl (cB, 16, .inl (fun _ => 0)))] H82.size) s H82 := zS.ofW hts hi_X4_textOf_J0 hK hP 4 5 1 rfl rfl rfl hfg77 (znot hP hD [8, 9] rfl 4 rfl (by decide)) (znot hP hD [8, 9] rfl 5 rfl (by decide))
  have hpre := zpre (xs' := [(r75, b76, 17, g77)]) (av := [.ref q80, .ref r75]) hPc hK (hDc.weaken (fun _ _ _ h => h)) hZ hS hFc (fun r hr => by cases hr with | head => exact hx0 | tail _ h => cases h)
  refine va_callr (va_runV (As := [.ref r75]) (rest := []) ⟨hx, hb, hml, hown, hts⟩ (k_apB l dC dI cI cB cR cO zk q80 w84 r75 b76 17 16 0 g77 (fun _ => 0) (.int 0) H82.size (by decide) (by decide) (by decide) sb_fit0 (by decide) (by decide)) (cwV 1 hts gX4_textOf_J4_append_15ec4 rfl rfl rfl (by decide +kernel) ⟨Nat.le_of_ble_eq_true rfl, Nat.le_of_ble_eq_true rfl⟩) ⟨zblind, (zrecv_1 hK hPc (q0 := 0) rfl), hpre⟩ rfl rfl hl.1 rfl (lv_room (Nat.le_of_ble_eq_true rfl)) dX4_textOf_35 ⟨Nat.le_of_ble_eq_true rfl, Nat.le_of_ble_eq_true rfl⟩) hS (fun q _ h => hFc q h) hFc (fun u r86 t H85 locs ht hvm hw hB hz1 hk1 hS => ?_)
  obtain ⟨v87, f88, ⟨hP1, hK1, hD1, hz2⟩, hff88, her86⟩ := hB
  rw [ht] at hP1 hz2
  have hPD9 := va_join (wr := [(mo, .inr (9, [th, .ref al, md, rf, kn])), (al, .inr (4, [mc, .ref ed, .int (nI cc)])), (ed, .inl (cO, 10, .inr (.inr (.inr (.inr ee))))), (na0, .inl (cI, 4, .inl fn0)), (r75, .inr (0, [.ref b76, .int 0, .int 0, .int 0])), (b76, .inl (cB, 17, .inl g77)), (a0, .inr (8, [.int 4, .ref wa0, .ref na0])), (wa0, .inl (cI, 4, .inl fw0))]) (w1 := [(q80, .inr (1, [.ref v87, .int 0, .int 0, .int (nI 17)])), (v87, .inl (cB, 34, .inl f88))]) hP hD [8, 9] [0, 1, 2, 3, 4, 5, 6, 7] rfl rfl (by decide) (by decide) hk1 hFc hP1 hD1
  clear hPc hDc hFc hDv hpre hP hD hP1 hK1 hD1
  obtain ⟨hP, hD⟩ := hPD9
  replace hz : s.heap.size + 14 ≤ H85.size := by omega
  clear hz2
  replace hP : va_P (dC, dI) vwCl [(mo, .inr (9, [th, .ref al, md, rf, kn])), (al, .inr (4, [mc, .ref ed, .int (nI cc)])), (ed, .inl (cO, 10, .inr (.inr (.inr (.inr ee))))), (na0, .inl (cI, 4, .inl fn0)), (r75, .inr (0, [.ref b76, .int 0, .int 0, .int 0])), (b76, .inl (cB, 17, .inl g77)), (a0, .inr (8, [.int 4, .ref wa0, .ref na0])), (wa0, .inl (cI, 4, .inl fw0)), (q80, .inr (1, [.ref v87, .int 0, .int 0, .int (nI 17)])), (v87, .inl (cB, 34, .inl f88))] H85 := hP
  replace hD : va_D A [(mo, .inr (9, [th, .ref al, md, rf, kn])), (al, .inr (4, [mc, .ref ed, .int (nI cc)])), (ed, .inl (cO, 10, .inr (.inr (.inr (.inr ee))))), (na0, .inl (cI, 4, .inl fn0)), (r75, .inr (0, [.ref b76, .int 0, .int 0, .int 0])), (b76, .inl (cB, 17, .inl g77)), (a0, .inr (8, [.int 4, .ref wa0, .ref na0])), (wa0, .inl (cI, 4, .inl fw0)), (q80, .inr (1, [.ref v87, .int 0, .int 0, .int (nI 17)])), (v87, .inl (cB, 34, .inl f88))] := hD
  refine W.widen (k := 16) (n := 327772) (by omega) (by omega) ?_
  obtain rfl := her86.symm
  have hP := hP.sub (ws' := [(mo, .inr (9, [th, .ref al, md, rf, kn])), (al, .inr (4, [mc, .ref ed, .int (nI cc)])), (ed, .inl (cO, 10, .inr (.inr (.inr (.inr ee))))), (na0, .inl (cI, 4, .inl fn0)), (a0, .inr (8, [.int 4, .ref wa0, .ref na0])), (wa0, .inl (cI, 4, .inl fw0)), (q80, .inr (1, [.ref v87, .int 0, .int 0, .int (nI 17)])), (v87, .inl (cB, 34, .inl f88))]) [0, 1, 2, 3, 6, 7, 8, 9] rfl
  have hD := hD.sub (ws' := [(mo, .inr (9, [th, .ref al, md, rf, kn])), (al, .inr (4, [mc, .ref ed, .int (nI cc)])), (ed, .inl (cO, 10, .inr (.inr (.inr (.inr ee))))), (na0, .inl (cI, 4, .inl fn0)), (a0, .inr (8, [.int 4, .ref wa0, .ref na0])), (wa0, .inl (cI, 4, .inl fw0)), (q80, .inr (1, [.ref v87, .int 0, .int 0, .int (nI 17)])), (v87, .inl (cB, 34, .inl f88))]) [0, 1, 2, 3, 6, 7, 8, 9] (by decide) rfl
  refine lv_iload hx hb dX4_textOf_38 (lv_at hl 0 rfl) ?_
  refine lv_if_le (tgt := 48) hx hb dX4_textOf_40 (by decide) (fun c9 => ?_) (fun c9 => ?_)
  · exact absurd c9 (by decide)
  refine va_ldcS (own := RX4) (tx := ", ") (q := zk 3) hx hb hown (zl2 hZ) dX4_textOf_43 ?_
  refine lv_goto (tgt := 50) hx hb dX4_textOf_45 (by decide) ?_
  have hPc := hP.sub (ws' := [(q80, .inr (1, [.ref v87, .int 0, .int 0, .int (nI 17)])), (v87, .inl (cB, 34, .inl f88))]) [6, 7] rfl
  have hDc := hD.sub (ws' := [(q80, .inr (1, [.ref v87, .int 0, .int 0, .int (nI 17)])), (v87, .inl (cB, 34, .inl f88))]) [6, 7] (by decide) rfl
  have hFc := va_free (wc := [(q80, .inr (1, [.ref v87, .int 0, .int 0, .int (nI 17)])), (v87, .inl (cB, 34, .inl f88))]) hD hS hA [6, 7] rfl
  have hDv := hDc.self (sz := H85.size)
  have hx0 : zS ((zk 3), (zk 13), 2, (fun j => (zByt.getD 2 []).getD j 0)) (va_A [(q80, .inr (1, [.ref v87, .int 0, .int 0, .int (nI 17)])), (v87, .inl (cB, 34, .inl f88))] H85.size) s H85 := zc2 hZ hS hFc
  have hpre := zpre (xs' := [((zk 3), (zk 13), 2, (fun j => (zByt.getD 2 []).getD j 0))]) (av := [.ref q80, .ref (zk 3)]) hPc hK (hDc.weaken (fun _ _ _ h => h)) hZ hS hFc (fun r hr => by cases hr with | head => exact hx0 | tail _ h => cases h)
  refine va_callr (va_runV (As := [.ref (zk 3)]) (rest := []) ⟨hx, hb, hml, hown, hts⟩ (k_apA l dC dI cI cB cR cO zk q80 v87 (zk 3) (zk 13) 2 34 17 (fun j => (zByt.getD 2 []).getD j 0) f88 (.int 0) H85.size (by decide) (by decide) (by decide) hff88 (by decide)) (cwV 1 hts gX4_textOf_J4_append_15ec4 rfl rfl rfl (by decide +kernel) ⟨Nat.le_of_ble_eq_true rfl, Nat.le_of_ble_eq_true rfl⟩) ⟨zblind, (zrecv_1 hK hPc (q0 := 0) rfl), hpre⟩ rfl rfl hl.1 rfl (lv_room (Nat.le_of_ble_eq_true rfl)) dX4_textOf_50 ⟨Nat.le_of_ble_eq_true rfl, Nat.le_of_ble_eq_true rfl⟩) hS (fun q _ h => hFc q h) hFc (fun u r90 t H89 locs ht hvm hw hB hz1 hk1 hS => ?_)
  obtain ⟨v91, f92, ⟨hP1, hK1, hD1, hz2⟩, hff92, her90⟩ := hB
  rw [ht] at hP1 hz2
  have hPD9 := va_join (wr := [(mo, .inr (9, [th, .ref al, md, rf, kn])), (al, .inr (4, [mc, .ref ed, .int (nI cc)])), (ed, .inl (cO, 10, .inr (.inr (.inr (.inr ee))))), (na0, .inl (cI, 4, .inl fn0)), (a0, .inr (8, [.int 4, .ref wa0, .ref na0])), (wa0, .inl (cI, 4, .inl fw0))]) (w1 := [(q80, .inr (1, [.ref v91, .int 0, .int 0, .int (nI 19)])), (v91, .inl (cB, 34, .inl f92))]) hP hD [6, 7] [0, 1, 2, 3, 4, 5] rfl rfl (by decide) (by decide) hk1 hFc hP1 hD1
  clear hPc hDc hFc hDv hpre hP hD hP1 hK1 hD1
  obtain ⟨hP, hD⟩ := hPD9
  replace hz : s.heap.size + 14 ≤ H89.size := by omega
  clear hz2
  replace hP : va_P (dC, dI) vwCl [(mo, .inr (9, [th, .ref al, md, rf, kn])), (al, .inr (4, [mc, .ref ed, .int (nI cc)])), (ed, .inl (cO, 10, .inr (.inr (.inr (.inr ee))))), (na0, .inl (cI, 4, .inl fn0)), (a0, .inr (8, [.int 4, .ref wa0, .ref na0])), (wa0, .inl (cI, 4, .inl fw0)), (q80, .inr (1, [.ref v91, .int 0, .int 0, .int (nI 19)])), (v91, .inl (cB, 34, .inl f92))] H89 := hP
  replace hD : va_D A [(mo, .inr (9, [th, .ref al, md, rf, kn])), (al, .inr (4, [mc, .ref ed, .int (nI cc)])), (ed, .inl (cO, 10, .inr (.inr (.inr (.inr ee))))), (na0, .inl (cI, 4, .inl fn0)), (a0, .inr (8, [.int 4, .ref wa0, .ref na0])), (wa0, .inl (cI, 4, .inl fw0)), (q80, .inr (1, [.ref v91, .int 0, .int 0, .int (nI 19)])), (v91, .inl (cB, 34, .inl f92))] := hD
  refine W.widen (k := 16) (n := 327772) (by omega) (by omega) ?_
  obtain rfl := her90.symm
  refine lv_aload_n hx hb dX4_textOf_53 rfl (lv_at hl 3 rfl) ?_
  refine lv_aload_n hx hb dX4_textOf_54 rfl (lv_at hl 2 rfl) ?_
  refine lv_iload hx hb dX4_textOf_55 (lv_at hl 0 rfl) ?_
  have hPc := hP.sub (ws' := [(mo, .inr (9, [th, .ref al, md, rf, kn])), (al, .inr (4, [mc, .ref ed, .int (nI cc)])), (ed, .inl (cO, 10, .inr (.inr (.inr (.inr ee))))), (a0, .inr (8, [.int 4, .ref wa0, .ref na0])), (wa0, .inl (cI, 4, .inl fw0)), (na0, .inl (cI, 4, .inl fn0))]) [0, 1, 2, 4, 5, 3] rfl
  have hDc := hD.sub (ws' := [(mo, .inr (9, [th, .ref al, md, rf, kn])), (al, .inr (4, [mc, .ref ed, .int (nI cc)])), (ed, .inl (cO, 10, .inr (.inr (.inr (.inr ee))))), (a0, .inr (8, [.int 4, .ref wa0, .ref na0])), (wa0, .inl (cI, 4, .inl fw0)), (na0, .inl (cI, 4, .inl fn0))]) [0, 1, 2, 4, 5, 3] (by decide) rfl
  have hFc := va_free (wc := [(mo, .inr (9, [th, .ref al, md, rf, kn])), (al, .inr (4, [mc, .ref ed, .int (nI cc)])), (ed, .inl (cO, 10, .inr (.inr (.inr (.inr ee))))), (a0, .inr (8, [.int 4, .ref wa0, .ref na0])), (wa0, .inl (cI, 4, .inl fw0)), (na0, .inl (cI, 4, .inl fn0))]) hD hS hA [0, 1, 2, 4, 5, 3] rfl
  have hDv := hDc.self (sz := H89.size)
  have hpre := zpre (xs' := []) (av := [.ref mo, .ref a0, .int 3]) hPc hK (hDc.weaken (fun _ _ _ h => h)) hZ hS hFc (fun r hr => by cases hr)
  refine va_callr (va_runV (As := [.ref a0, .int 3]) (rest := [.ref q80]) ⟨hx, hb, hml, hown, hts⟩ (k_tAt0_3 l dC dI cI cB cR cO zk mo al ed cc ee th md rf kn mc a0 wa0 na0 fw0 fn0 H89.size hcc hcc2 hw0 hn0 he0) (cwV 2 hts gX4_textOf_X4_textAt rfl rfl rfl (by decide +kernel) ⟨Nat.le_of_ble_eq_true rfl, Nat.le_of_ble_eq_true rfl⟩) ⟨zblind, (zrecv_9 hK hPc (q0 := 0) rfl), hpre⟩ rfl rfl hl.1 rfl (lv_room (Nat.le_of_ble_eq_true rfl)) dX4_textOf_57 ⟨Nat.le_of_ble_eq_true rfl, Nat.le_of_ble_eq_true rfl⟩) hS (fun q _ h => hFc q h) hFc (fun u r94 t H93 locs ht hvm hw hB hz1 hk1 hS => ?_)
  obtain ⟨⟨hP1, hK1, hD1, hz2⟩, her94⟩ := hB
  rw [ht] at hP1 hz2
  have hPD9 := va_join (wr := [(q80, .inr (1, [.ref v91, .int 0, .int 0, .int (nI 19)])), (v91, .inl (cB, 34, .inl f92))]) (w1 := [(mo, .inr (9, [th, .ref al, md, rf, kn])), (al, .inr (4, [mc, .ref ed, .int (nI cc)])), (ed, .inl (cO, 10, .inr (.inr (.inr (.inr ee))))), (a0, .inr (8, [.int 4, .ref wa0, .ref na0])), (wa0, .inl (cI, 4, .inl fw0)), (na0, .inl (cI, 4, .inl fn0))]) hP hD [0, 1, 2, 4, 5, 3] [6, 7] rfl rfl (by decide) (by decide) hk1 hFc hP1 hD1
  clear hPc hDc hFc hDv hpre hP hD hP1 hK1 hD1
  obtain ⟨hP, hD⟩ := hPD9
  replace hz : s.heap.size + 14 ≤ H93.size := by omega
  clear hz2
  replace hP : va_P (dC, dI) vwCl [(q80, .inr (1, [.ref v91, .int 0, .int 0, .int (nI 19)])), (v91, .inl (cB, 34, .inl f92)), (mo, .inr (9, [th, .ref al, md, rf, kn])), (al, .inr (4, [mc, .ref ed, .int (nI cc)])), (ed, .inl (cO, 10, .inr (.inr (.inr (.inr ee))))), (a0, .inr (8, [.int 4, .ref wa0, .ref na0])), (wa0, .inl (cI, 4, .inl fw0)), (na0, .inl (cI, 4, .inl fn0))] H93 := hP
  replace hD : va_D A [(q80, .inr (1, [.ref v91, .int 0, .int 0, .int (nI 19)])), (v91, .inl (cB, 34, .inl f92)), (mo, .inr (9, [th, .ref al, md, rf, kn])), (al, .inr (4, [mc, .ref ed, .int (nI cc)])), (ed, .inl (cO, 10, .inr (.inr (.inr (.inr ee))))), (a0, .inr (8, [.int 4, .ref wa0, .ref na0])), (wa0, .inl (cI, 4, .inl fw0)), (na0, .inl (cI, 4, .inl fn0))] := hD
  refine W.widen (k := 16) (n := 327772) (by omega) (by omega) ?_
  obtain rfl := her94.symm
  have hPc := hP.sub (ws' := [(q80, .inr (1, [.ref v91, .int 0, .int 0, .int (nI 19)])), (v91, .inl (cB, 34, .inl f92))]) [0, 1] rfl
  have hDc := hD.sub (ws' := [(q80, .inr (1, [.ref v91, .int 0, .int 0, .int (nI 19)])), (v91, .inl (cB, 34, .inl f92))]) [0, 1] (by decide) rfl
  have hFc := va_free (wc := [(q80, .inr (1, [.ref v91, .int 0, .int 0, .int (nI 19)])), (v91, .inl (cB, 34, .inl f92))]) hD hS hA [0, 1] rfl
  have hDv := hDc.self (sz := H93.size)
  have hx0 : zS ((zk 5), (zk 15), 4, (fun j => (zByt.getD 4 []).getD j 0)) (va_A [(q80, .inr (1, [.ref v91, .int 0, .int 0, .int (nI 19)])), (v91, .inl (cB, 34, .inl f92))] H93.size) s H93 := zc4 hZ hS hFc
  have hpre := zpre (xs' := [((zk 5), (zk 15), 4, (fun j => (zByt.getD 4 []).getD j 0))]) (av := [.ref q80, .ref (zk 5)]) hPc hK (hDc.weaken (fun _ _ _ h => h)) hZ hS hFc (fun r hr => by cases hr with | head => exact hx0 | tail _ h => cases h)
  refine va_callr (va_runV (As := [.ref (zk 5)]) (rest := []) ⟨hx, hb, hml, hown, hts⟩ (k_apA l dC dI cI cB cR cO zk q80 v91 (zk 5) (zk 15) 4 34 19 (fun j => (zByt.getD 4 []).getD j 0) f92 (.int 0) H93.size (by decide) (by decide) (by decide) hff92 (by decide)) (cwV 1 hts gX4_textOf_J4_append_15ec4 rfl rfl rfl (by decide +kernel) ⟨Nat.le_of_ble_eq_true rfl, Nat.le_of_ble_eq_true rfl⟩) ⟨zblind, (zrecv_1 hK hPc (q0 := 0) rfl), hpre⟩ rfl rfl hl.1 rfl (lv_room (Nat.le_of_ble_eq_true rfl)) dX4_textOf_60 ⟨Nat.le_of_ble_eq_true rfl, Nat.le_of_ble_eq_true rfl⟩) hS (fun q _ h => hFc q h) hFc (fun u r96 t H95 locs ht hvm hw hB hz1 hk1 hS => ?_)
  obtain ⟨v97, f98, ⟨hP1, hK1, hD1, hz2⟩, hff98, her96⟩ := hB
  rw [ht] at hP1 hz2
  have hPD9 := va_join (wr := [(mo, .inr (9, [th, .ref al, md, rf, kn])), (al, .inr (4, [mc, .ref ed, .int (nI cc)])), (ed, .inl (cO, 10, .inr (.inr (.inr (.inr ee))))), (a0, .inr (8, [.int 4, .ref wa0, .ref na0])), (wa0, .inl (cI, 4, .inl fw0)), (na0, .inl (cI, 4, .inl fn0))]) (w1 := [(q80, .inr (1, [.ref v97, .int 0, .int 0, .int (nI 23)])), (v97, .inl (cB, 34, .inl f98))]) hP hD [0, 1] [2, 3, 4, 5, 6, 7] rfl rfl (by decide) (by decide) hk1 hFc hP1 hD1
  clear hPc hDc hFc hDv hpre hP hD hP1 hK1 hD1
  obtain ⟨hP, hD⟩ := hPD9
  replace hz : s.heap.size + 14 ≤ H95.size := by omega
  clear hz2
  replace hP : va_P (dC, dI) vwCl [(mo, .inr (9, [th, .ref al, md, rf, kn])), (al, .inr (4, [mc, .ref ed, .int (nI cc)])), (ed, .inl (cO, 10, .inr (.inr (.inr (.inr ee))))), (a0, .inr (8, [.int 4, .ref wa0, .ref na0])), (wa0, .inl (cI, 4, .inl fw0)), (na0, .inl (cI, 4, .inl fn0)), (q80, .inr (1, [.ref v97, .int 0, .int 0, .int (nI 23)])), (v97, .inl (cB, 34, .inl f98))] H95 := hP
  replace hD : va_D A [(mo, .inr (9, [th, .ref al, md, rf, kn])), (al, .inr (4, [mc, .ref ed, .int (nI cc)])), (ed, .inl (cO, 10, .inr (.inr (.inr (.inr ee))))), (a0, .inr (8, [.int 4, .ref wa0, .ref na0])), (wa0, .inl (cI, 4, .inl fw0)), (na0, .inl (cI, 4, .inl fn0)), (q80, .inr (1, [.ref v97, .int 0, .int 0, .int (nI 23)])), (v97, .inl (cB, 34, .inl f98))] := hD
  refine W.widen (k := 16) (n := 327772) (by omega) (by omega) ?_
  obtain rfl := her96.symm
  have hPc := hP.sub (ws' := [(q80, .inr (1, [.ref v97, .int 0, .int 0, .int (nI 23)])), (v97, .inl (cB, 34, .inl f98))]) [6, 7] rfl
  have hDc := hD.sub (ws' := [(q80, .inr (1, [.ref v97, .int 0, .int 0, .int (nI 23)])), (v97, .inl (cB, 34, .inl f98))]) [6, 7] (by decide) rfl
  have hFc := va_free (wc := [(q80, .inr (1, [.ref v97, .int 0, .int 0, .int (nI 23)])), (v97, .inl (cB, 34, .inl f98))]) hD hS hA [6, 7] rfl
  have hDv := hDc.self (sz := H95.size)
  have hpre := zpre (xs' := []) (av := [.ref q80]) hPc hK (hDc.weaken (fun _ _ _ h => h)) hZ hS hFc (fun r hr => by cases hr)
  refine va_callr (va_runV (As := []) (rest := []) ⟨hx, hb, hml, hown, hts⟩ (k_toS l dC dI cI cB cR cO zk q80 v97 34 23 f98 (.int 0) H95.size (by decide) (by decide) hff98) (cwV 0 hts gX4_textOf_J4_toString_0e30d rfl rfl rfl (by decide +kernel) ⟨Nat.le_of_ble_eq_true rfl, Nat.le_of_ble_eq_true rfl⟩) ⟨zblind, (zrecv_1 hK hPc (q0 := 0) rfl), hpre⟩ rfl rfl hl.1 rfl (lv_room (Nat.le_of_ble_eq_true rfl)) dX4_textOf_63 ⟨Nat.le_of_ble_eq_true rfl, Nat.le_of_ble_eq_true rfl⟩) hS (fun q _ h => hFc q h) hFc (fun u r100 t H99 locs ht hvm hw hB hz1 hk1 hS => ?_)
  obtain ⟨b101, g102, ⟨hP1, hK1, hD1, hz2⟩, hfg102⟩ := hB
  rw [ht] at hP1 hz2
  have hPD9 := va_join (wr := [(mo, .inr (9, [th, .ref al, md, rf, kn])), (al, .inr (4, [mc, .ref ed, .int (nI cc)])), (ed, .inl (cO, 10, .inr (.inr (.inr (.inr ee))))), (a0, .inr (8, [.int 4, .ref wa0, .ref na0])), (wa0, .inl (cI, 4, .inl fw0)), (na0, .inl (cI, 4, .inl fn0))]) (w1 := [(r100, .inr (0, [.ref b101, .int 0, .int 0, .int 0])), (b101, .inl (cB, 23, .inl g102)), (q80, .inr (1, [.ref v97, .int 0, .int 0, .int (nI 23)])), (v97, .inl (cB, 34, .inl f98))]) hP hD [6, 7] [0, 1, 2, 3, 4, 5] rfl rfl (by decide) (by decide) hk1 hFc hP1 hD1
  clear hPc hDc hFc hDv hpre hP hD hP1 hK1 hD1
  obtain ⟨hP, hD⟩ := hPD9
  replace hz : s.heap.size + 16 ≤ H99.size := by omega
  clear hz2
  replace hP : va_P (dC, dI) vwCl [(mo, .inr (9, [th, .ref al, md, rf, kn])), (al, .inr (4, [mc, .ref ed, .int (nI cc)])), (ed, .inl (cO, 10, .inr (.inr (.inr (.inr ee))))), (a0, .inr (8, [.int 4, .ref wa0, .ref na0])), (wa0, .inl (cI, 4, .inl fw0)), (na0, .inl (cI, 4, .inl fn0)), (r100, .inr (0, [.ref b101, .int 0, .int 0, .int 0])), (b101, .inl (cB, 23, .inl g102)), (q80, .inr (1, [.ref v97, .int 0, .int 0, .int (nI 23)])), (v97, .inl (cB, 34, .inl f98))] H99 := hP
  replace hD : va_D A [(mo, .inr (9, [th, .ref al, md, rf, kn])), (al, .inr (4, [mc, .ref ed, .int (nI cc)])), (ed, .inl (cO, 10, .inr (.inr (.inr (.inr ee))))), (a0, .inr (8, [.int 4, .ref wa0, .ref na0])), (wa0, .inl (cI, 4, .inl fw0)), (na0, .inl (cI, 4, .inl fn0)), (r100, .inr (0, [.ref b101, .int 0, .int 0, .int 0])), (b101, .inl (cB, 23, .inl g102)), (q80, .inr (1, [.ref v97, .int 0, .int 0, .int (nI 23)])), (v97, .inl (cB, 34, .inl f98))] := hD
  refine W.widen (k := 18) (n := 393312) (by omega) (by omega) ?_
  have hP := hP.sub (ws' := [(mo, .inr (9, [th, .ref al, md, rf, kn])), (al, .inr (4, [mc, .ref ed, .int (nI cc)])), (ed, .inl (cO, 10, .inr (.inr (.inr (.inr ee))))), (a0, .inr (8, [.int 4, .ref wa0, .ref na0])), (wa0, .inl (cI, 4, .inl fw0)), (na0, .inl (cI, 4, .inl fn0)), (r100, .inr (0, [.ref b101, .int 0, .int 0, .int 0])), (b101, .inl (cB, 23, .inl g102))]) [0, 1, 2, 3, 4, 5, 6, 7] rfl
  have hD := hD.sub (ws' := [(mo, .inr (9, [th, .ref al, md, rf, kn])), (al, .inr (4, [mc, .ref ed, .int (nI cc)])), (ed, .inl (cO, 10, .inr (.inr (.inr (.inr ee))))), (a0, .inr (8, [.int 4, .ref wa0, .ref na0])), (wa0, .inl (cI, 4, .inl fw0)), (na0, .inl (cI, 4, .inl fn0)), (r100, .inr (0, [.ref b101, .int 0, .int 0, .int 0])), (b101, .inl (cB, 23, .inl g102))]) [0, 1, 2, 3, 4, 5, 6, 7] (by decide) rfl
  refine lv_astore_n (lv' := [(3, .ref r100), (4, .int 3), (2, .ref a0), (0, .ref mo), (1, .int 0)]) hx hb dX4_textOf_66 rfl hl (by decide) rfl (fun ls hl => ?_)
  refine lv_iinc (v := 4) (lv' := [(4, .int 4), (3, .ref r100), (2, .ref a0), (0, .ref mo), (1, .int 0)]) hx hb dX4_textOf_67 hl (k := 1) rfl (by decide) (by decide) rfl (fun ls hl => ?_)
  refine lv_goto (tgt := 18) hx hb dX4_textOf_70 (by decide) ?_
  refine lv_iload hx hb dX4_textOf_18 (lv_at hl 0 rfl) ?_
  refine lv_aload_n hx hb dX4_textOf_20 rfl (lv_at hl 2 rfl) ?_
  have hPc := hP.sub (ws' := [(a0, .inr (8, [.int 4, .ref wa0, .ref na0])), (wa0, .inl (cI, 4, .inl fw0))]) [3, 4] rfl
  have hDc := hD.sub (ws' := [(a0, .inr (8, [.int 4, .ref wa0, .ref na0])), (wa0, .inl (cI, 4, .inl fw0))]) [3, 4] (by decide) rfl
  have hFc := va_free (wc := [(a0, .inr (8, [.int 4, .ref wa0, .ref na0])), (wa0, .inl (cI, 4, .inl fw0))]) hD hS hA [3, 4] rfl
  have hDv := hDc.self (sz := H99.size)
  have hpre := zpre (xs' := []) (av := [.ref a0]) hPc hK (hDc.weaken (fun _ _ _ h => h)) hZ hS hFc (fun r hr => by cases hr)
  refine va_calli (va_runV (As := []) (rest := [.int 4]) ⟨hx, hb, hml, hown, hts⟩ (k_rlen l dC dI cI cB cR cO zk a0 wa0 na0 fw0 H99.size ) (cwV 0 hts gX4_textOf_X3_length rfl rfl rfl (by decide +kernel) ⟨Nat.le_of_ble_eq_true rfl, Nat.le_of_ble_eq_true rfl⟩) ⟨zblind, (zrecv_8 hK hPc (q0 := 0) rfl), hpre⟩ rfl rfl hl.1 rfl (lv_room (Nat.le_of_ble_eq_true rfl)) dX4_textOf_21 ⟨Nat.le_of_ble_eq_true rfl, Nat.le_of_ble_eq_true rfl⟩) hS (fun q _ h => hFc q h) hFc (fun r104 u t H103 locs ht hvm hw hB hz1 hk1 hS => ?_)
  obtain rfl : 4 = r104 := (show r104 = 4 from hw).symm
  obtain ⟨hP1, hK1, hD1, hz2⟩ := hB
  rw [ht] at hP1 hz2
  have hPD9 := va_join (wr := [(mo, .inr (9, [th, .ref al, md, rf, kn])), (al, .inr (4, [mc, .ref ed, .int (nI cc)])), (ed, .inl (cO, 10, .inr (.inr (.inr (.inr ee))))), (na0, .inl (cI, 4, .inl fn0)), (r100, .inr (0, [.ref b101, .int 0, .int 0, .int 0])), (b101, .inl (cB, 23, .inl g102))]) (w1 := [(a0, .inr (8, [.int 4, .ref wa0, .ref na0])), (wa0, .inl (cI, 4, .inl fw0))]) hP hD [3, 4] [0, 1, 2, 5, 6, 7] rfl rfl (by decide) (by decide) hk1 hFc hP1 hD1
  clear hPc hDc hFc hDv hpre hP hD hP1 hK1 hD1
  obtain ⟨hP, hD⟩ := hPD9
  replace hz : s.heap.size + 16 ≤ H103.size := by omega
  clear hz2
  replace hP : va_P (dC, dI) vwCl [(mo, .inr (9, [th, .ref al, md, rf, kn])), (al, .inr (4, [mc, .ref ed, .int (nI cc)])), (ed, .inl (cO, 10, .inr (.inr (.inr (.inr ee))))), (na0, .inl (cI, 4, .inl fn0)), (r100, .inr (0, [.ref b101, .int 0, .int 0, .int 0])), (b101, .inl (cB, 23, .inl g102)), (a0, .inr (8, [.int 4, .ref wa0, .ref na0])), (wa0, .inl (cI, 4, .inl fw0))] H103 := hP
  replace hD : va_D A [(mo, .inr (9, [th, .ref al, md, rf, kn])), (al, .inr (4, [mc, .ref ed, .int (nI cc)])), (ed, .inl (cO, 10, .inr (.inr (.inr (.inr ee))))), (na0, .inl (cI, 4, .inl fn0)), (r100, .inr (0, [.ref b101, .int 0, .int 0, .int 0])), (b101, .inl (cB, 23, .inl g102)), (a0, .inr (8, [.int 4, .ref wa0, .ref na0])), (wa0, .inl (cI, 4, .inl fw0))] := hD
  refine W.widen (k := 18) (n := 393312) (by omega) (by omega) ?_
  refine lv_icmp_ge (tgt := 73) hx hb dX4_textOf_24 (by decide) (fun c9 => ?_) (fun c9 => ?_)
  rotate_left
  · exact absurd (by decide) c9
  refine zw_new (ci := 1) (fs := [.null, .int 0, .int 0, .int 0]) (C := RJ4) (T := TJ4) (N := 4) hx hb hts hi_X4_textOf_J4 tyJ4 tyJ4_ok hown (hts (.classLink RX4 165 RJ4) (List.mem_cons_of_mem _ zw_1388)) (hts (.instantiable RJ4 4) (List.mem_cons_of_mem _ zw_139)) (hts (.initialized RJ4) (List.mem_cons_of_mem _ zw_47)) hK hP hD hS hA rfl (fun j hj => by rcases (show j = 0 ∨ j = 1 ∨ j = 2 ∨ j = 3 by omega) with rfl | rfl | rfl | rfl <;> rfl) (Nat.le_of_ble_eq_true rfl) (Nat.le_of_ble_eq_true rfl) dX4_textOf_73 hz (fun q105 H106 hP hD hS hz => ?_)
  replace hP : va_P (dC, dI) vwCl [(mo, .inr (9, [th, .ref al, md, rf, kn])), (al, .inr (4, [mc, .ref ed, .int (nI cc)])), (ed, .inl (cO, 10, .inr (.inr (.inr (.inr ee))))), (na0, .inl (cI, 4, .inl fn0)), (r100, .inr (0, [.ref b101, .int 0, .int 0, .int 0])), (b101, .inl (cB, 23, .inl g102)), (a0, .inr (8, [.int 4, .ref wa0, .ref na0])), (wa0, .inl (cI, 4, .inl fw0)), (q105, .inr (1, [.null, .int 0, .int 0, .int 0]))] H106 := hP
  replace hD : va_D A [(mo, .inr (9, [th, .ref al, md, rf, kn])), (al, .inr (4, [mc, .ref ed, .int (nI cc)])), (ed, .inl (cO, 10, .inr (.inr (.inr (.inr ee))))), (na0, .inl (cI, 4, .inl fn0)), (r100, .inr (0, [.ref b101, .int 0, .int 0, .int 0])), (b101, .inl (cB, 23, .inl g102)), (a0, .inr (8, [.int 4, .ref wa0, .ref na0])), (wa0, .inl (cI, 4, .inl fw0)), (q105, .inr (1, [.null, .int 0, .int 0, .int 0]))] := hD
  refine W.widen (k := 19) (n := 393316) (by omega) (by omega) ?_
  refine lv_dup hx hb dX4_textOf_76 rfl ?_
  have hPc := hP.sub (ws' := [(q105, .inr (1, [.null, .int 0, .int 0, .int 0]))]) [8] rfl
  have hDc := hD.sub (ws' := [(q105, .inr (1, [.null, .int 0, .int 0, .int 0]))]) [8] (by decide) rfl
  have hFc := va_free (wc := [(q105, .inr (1, [.null, .int 0, .int 0, .int 0]))]) hD hS hA [8] rfl
  have hDv := hDc.self (sz := H106.size)
  have hpre := zpre (xs' := []) (av := [.ref q105]) hPc hK (hDc.weaken (fun _ _ _ h => h)) hZ hS hFc (fun r hr => by cases hr)
  refine va_callv (va_runI (As := []) (rest := [.ref q105]) ⟨hx, hb, hml, hown, hts⟩ (k_init4 l dC dI cI cB cR cO zk q105 H106.size ) (cwI 0 hts gX4_textOf_J4_init_da8c8 rfl rfl rfl (hts (.initialized RJ4) (List.mem_cons_of_mem _ zw_47)) (hts (.methodLink RX4 167 yJ4_init_da8c8) (List.mem_cons_of_mem _ zw_1389)) (hts (.instanceMethod yJ4_init_da8c8) (List.mem_cons_of_mem _ zw_141)) rfl (by decide +kernel) ⟨Nat.le_of_ble_eq_true rfl, Nat.le_of_ble_eq_true rfl⟩) ⟨zblind, hpre⟩ rfl rfl hl.1 rfl (lv_room (Nat.le_of_ble_eq_true rfl)) dX4_textOf_77 ⟨Nat.le_of_ble_eq_true rfl, Nat.le_of_ble_eq_true rfl⟩) hS (fun q _ h => hFc q h) hFc (fun u t H107 locs ht hvm hw hB hz1 hk1 hS => ?_)
  obtain ⟨w109, ⟨hP1, hK1, hD1, hz2⟩⟩ := hB
  rw [ht] at hP1 hz2
  have hPD9 := va_join (wr := [(mo, .inr (9, [th, .ref al, md, rf, kn])), (al, .inr (4, [mc, .ref ed, .int (nI cc)])), (ed, .inl (cO, 10, .inr (.inr (.inr (.inr ee))))), (na0, .inl (cI, 4, .inl fn0)), (r100, .inr (0, [.ref b101, .int 0, .int 0, .int 0])), (b101, .inl (cB, 23, .inl g102)), (a0, .inr (8, [.int 4, .ref wa0, .ref na0])), (wa0, .inl (cI, 4, .inl fw0))]) (w1 := [(q105, .inr (1, [.ref w109, .int 0, .int 0, .int 0])), (w109, .inl (cB, 16, .inl (fun _ => 0)))]) hP hD [8] [0, 1, 2, 3, 4, 5, 6, 7] rfl rfl (by decide) (by decide) hk1 hFc hP1 hD1
  clear hPc hDc hFc hDv hpre hP hD hP1 hK1 hD1
  obtain ⟨hP, hD⟩ := hPD9
  replace hz : s.heap.size + 18 ≤ H107.size := by omega
  clear hz2
  replace hP : va_P (dC, dI) vwCl [(mo, .inr (9, [th, .ref al, md, rf, kn])), (al, .inr (4, [mc, .ref ed, .int (nI cc)])), (ed, .inl (cO, 10, .inr (.inr (.inr (.inr ee))))), (na0, .inl (cI, 4, .inl fn0)), (r100, .inr (0, [.ref b101, .int 0, .int 0, .int 0])), (b101, .inl (cB, 23, .inl g102)), (a0, .inr (8, [.int 4, .ref wa0, .ref na0])), (wa0, .inl (cI, 4, .inl fw0)), (q105, .inr (1, [.ref w109, .int 0, .int 0, .int 0])), (w109, .inl (cB, 16, .inl (fun _ => 0)))] H107 := hP
  replace hD : va_D A [(mo, .inr (9, [th, .ref al, md, rf, kn])), (al, .inr (4, [mc, .ref ed, .int (nI cc)])), (ed, .inl (cO, 10, .inr (.inr (.inr (.inr ee))))), (na0, .inl (cI, 4, .inl fn0)), (r100, .inr (0, [.ref b101, .int 0, .int 0, .int 0])), (b101, .inl (cB, 23, .inl g102)), (a0, .inr (8, [.int 4, .ref wa0, .ref na0])), (wa0, .inl (cI, 4, .inl fw0)), (q105, .inr (1, [.ref w109, .int 0, .int 0, .int 0])), (w109, .inl (cB, 16, .inl (fun _ => 0)))] := hD
  refine W.widen (k := 20) (n := 393332) (by omega) (by omega) ?_
  refine lv_aload_n hx hb dX4_textOf_80 rfl (lv_at hl 1 rfl) ?_
  have hPc := hP.sub (ws' := [(q105, .inr (1, [.ref w109, .int 0, .int 0, .int 0])), (w109, .inl (cB, 16, .inl (fun _ => 0)))]) [8, 9] rfl
  have hDc := hD.sub (ws' := [(q105, .inr (1, [.ref w109, .int 0, .int 0, .int 0])), (w109, .inl (cB, 16, .inl (fun _ => 0)))]) [8, 9] (by decide) rfl
  have hFc := va_free (wc := [(q105, .inr (1, [.ref w109, .int 0, .int 0, .int 0])), (w109, .inl (cB, 16, .inl (fun _ => 0)))]) hD hS hA [8, 9] rfl
  have hDv := hDc.self (sz := H107.size)
  have hx0 : zS (r100, b101, 23, g102) (va_A [(q105, .inr (1, [.ref w109, .int 0, .int 0, .int 0])), (w109, .inl (cB, 16, .inl (fun _ => 0)))] H107.size) s H107 := zS.ofW hts hi_X4_textOf_J0 hK hP 4 5 1 rfl rfl rfl hfg102 (znot hP hD [8, 9] rfl 4 rfl (by decide)) (znot hP hD [8, 9] rfl 5 rfl (by decide))
  have hpre := zpre (xs' := [(r100, b101, 23, g102)]) (av := [.ref q105, .ref r100]) hPc hK (hDc.weaken (fun _ _ _ h => h)) hZ hS hFc (fun r hr => by cases hr with | head => exact hx0 | tail _ h => cases h)
  refine va_callr (va_runV (As := [.ref r100]) (rest := []) ⟨hx, hb, hml, hown, hts⟩ (k_apB l dC dI cI cB cR cO zk q105 w109 r100 b101 23 16 0 g102 (fun _ => 0) (.int 0) H107.size (by decide) (by decide) (by decide) sb_fit0 (by decide) (by decide)) (cwV 1 hts gX4_textOf_J4_append_15ec4 rfl rfl rfl (by decide +kernel) ⟨Nat.le_of_ble_eq_true rfl, Nat.le_of_ble_eq_true rfl⟩) ⟨zblind, (zrecv_1 hK hPc (q0 := 0) rfl), hpre⟩ rfl rfl hl.1 rfl (lv_room (Nat.le_of_ble_eq_true rfl)) dX4_textOf_81 ⟨Nat.le_of_ble_eq_true rfl, Nat.le_of_ble_eq_true rfl⟩) hS (fun q _ h => hFc q h) hFc (fun u r111 t H110 locs ht hvm hw hB hz1 hk1 hS => ?_)
  obtain ⟨v112, f113, ⟨hP1, hK1, hD1, hz2⟩, hff113, her111⟩ := hB
  rw [ht] at hP1 hz2
  have hPD9 := va_join (wr := [(mo, .inr (9, [th, .ref al, md, rf, kn])), (al, .inr (4, [mc, .ref ed, .int (nI cc)])), (ed, .inl (cO, 10, .inr (.inr (.inr (.inr ee))))), (na0, .inl (cI, 4, .inl fn0)), (r100, .inr (0, [.ref b101, .int 0, .int 0, .int 0])), (b101, .inl (cB, 23, .inl g102)), (a0, .inr (8, [.int 4, .ref wa0, .ref na0])), (wa0, .inl (cI, 4, .inl fw0))]) (w1 := [(q105, .inr (1, [.ref v112, .int 0, .int 0, .int (nI 23)])), (v112, .inl (cB, 34, .inl f113))]) hP hD [8, 9] [0, 1, 2, 3, 4, 5, 6, 7] rfl rfl (by decide) (by decide) hk1 hFc hP1 hD1
  clear hPc hDc hFc hDv hpre hP hD hP1 hK1 hD1
  obtain ⟨hP, hD⟩ := hPD9
  replace hz : s.heap.size + 18 ≤ H110.size := by omega
  clear hz2
  replace hP : va_P (dC, dI) vwCl [(mo, .inr (9, [th, .ref al, md, rf, kn])), (al, .inr (4, [mc, .ref ed, .int (nI cc)])), (ed, .inl (cO, 10, .inr (.inr (.inr (.inr ee))))), (na0, .inl (cI, 4, .inl fn0)), (r100, .inr (0, [.ref b101, .int 0, .int 0, .int 0])), (b101, .inl (cB, 23, .inl g102)), (a0, .inr (8, [.int 4, .ref wa0, .ref na0])), (wa0, .inl (cI, 4, .inl fw0)), (q105, .inr (1, [.ref v112, .int 0, .int 0, .int (nI 23)])), (v112, .inl (cB, 34, .inl f113))] H110 := hP
  replace hD : va_D A [(mo, .inr (9, [th, .ref al, md, rf, kn])), (al, .inr (4, [mc, .ref ed, .int (nI cc)])), (ed, .inl (cO, 10, .inr (.inr (.inr (.inr ee))))), (na0, .inl (cI, 4, .inl fn0)), (r100, .inr (0, [.ref b101, .int 0, .int 0, .int 0])), (b101, .inl (cB, 23, .inl g102)), (a0, .inr (8, [.int 4, .ref wa0, .ref na0])), (wa0, .inl (cI, 4, .inl fw0)), (q105, .inr (1, [.ref v112, .int 0, .int 0, .int (nI 23)])), (v112, .inl (cB, 34, .inl f113))] := hD
  refine W.widen (k := 21) (n := 458868) (by omega) (by omega) ?_
  obtain rfl := her111.symm
  have hP := hP.sub (ws' := [(mo, .inr (9, [th, .ref al, md, rf, kn])), (al, .inr (4, [mc, .ref ed, .int (nI cc)])), (ed, .inl (cO, 10, .inr (.inr (.inr (.inr ee))))), (na0, .inl (cI, 4, .inl fn0)), (a0, .inr (8, [.int 4, .ref wa0, .ref na0])), (wa0, .inl (cI, 4, .inl fw0)), (q105, .inr (1, [.ref v112, .int 0, .int 0, .int (nI 23)])), (v112, .inl (cB, 34, .inl f113))]) [0, 1, 2, 3, 6, 7, 8, 9] rfl
  have hD := hD.sub (ws' := [(mo, .inr (9, [th, .ref al, md, rf, kn])), (al, .inr (4, [mc, .ref ed, .int (nI cc)])), (ed, .inl (cO, 10, .inr (.inr (.inr (.inr ee))))), (na0, .inl (cI, 4, .inl fn0)), (a0, .inr (8, [.int 4, .ref wa0, .ref na0])), (wa0, .inl (cI, 4, .inl fw0)), (q105, .inr (1, [.ref v112, .int 0, .int 0, .int (nI 23)])), (v112, .inl (cB, 34, .inl f113))]) [0, 1, 2, 3, 6, 7, 8, 9] (by decide) rfl
  refine va_ldcS (own := RX4) (tx := "]") (q := zk 2) hx hb hown (zl1 hZ) dX4_textOf_84 ?_
  have hPc := hP.sub (ws' := [(q105, .inr (1, [.ref v112, .int 0, .int 0, .int (nI 23)])), (v112, .inl (cB, 34, .inl f113))]) [6, 7] rfl
  have hDc := hD.sub (ws' := [(q105, .inr (1, [.ref v112, .int 0, .int 0, .int (nI 23)])), (v112, .inl (cB, 34, .inl f113))]) [6, 7] (by decide) rfl
  have hFc := va_free (wc := [(q105, .inr (1, [.ref v112, .int 0, .int 0, .int (nI 23)])), (v112, .inl (cB, 34, .inl f113))]) hD hS hA [6, 7] rfl
  have hDv := hDc.self (sz := H110.size)
  have hx0 : zS ((zk 2), (zk 12), 1, (fun j => (zByt.getD 1 []).getD j 0)) (va_A [(q105, .inr (1, [.ref v112, .int 0, .int 0, .int (nI 23)])), (v112, .inl (cB, 34, .inl f113))] H110.size) s H110 := zc1 hZ hS hFc
  have hpre := zpre (xs' := [((zk 2), (zk 12), 1, (fun j => (zByt.getD 1 []).getD j 0))]) (av := [.ref q105, .ref (zk 2)]) hPc hK (hDc.weaken (fun _ _ _ h => h)) hZ hS hFc (fun r hr => by cases hr with | head => exact hx0 | tail _ h => cases h)
  refine va_callr (va_runV (As := [.ref (zk 2)]) (rest := []) ⟨hx, hb, hml, hown, hts⟩ (k_apA l dC dI cI cB cR cO zk q105 v112 (zk 2) (zk 12) 1 34 23 (fun j => (zByt.getD 1 []).getD j 0) f113 (.int 0) H110.size (by decide) (by decide) (by decide) hff113 (by decide)) (cwV 1 hts gX4_textOf_J4_append_15ec4 rfl rfl rfl (by decide +kernel) ⟨Nat.le_of_ble_eq_true rfl, Nat.le_of_ble_eq_true rfl⟩) ⟨zblind, (zrecv_1 hK hPc (q0 := 0) rfl), hpre⟩ rfl rfl hl.1 rfl (lv_room (Nat.le_of_ble_eq_true rfl)) dX4_textOf_86 ⟨Nat.le_of_ble_eq_true rfl, Nat.le_of_ble_eq_true rfl⟩) hS (fun q _ h => hFc q h) hFc (fun u r115 t H114 locs ht hvm hw hB hz1 hk1 hS => ?_)
  obtain ⟨v116, f117, ⟨hP1, hK1, hD1, hz2⟩, hff117, her115⟩ := hB
  rw [ht] at hP1 hz2
  have hPD9 := va_join (wr := [(mo, .inr (9, [th, .ref al, md, rf, kn])), (al, .inr (4, [mc, .ref ed, .int (nI cc)])), (ed, .inl (cO, 10, .inr (.inr (.inr (.inr ee))))), (na0, .inl (cI, 4, .inl fn0)), (a0, .inr (8, [.int 4, .ref wa0, .ref na0])), (wa0, .inl (cI, 4, .inl fw0))]) (w1 := [(q105, .inr (1, [.ref v116, .int 0, .int 0, .int (nI 24)])), (v116, .inl (cB, 34, .inl f117))]) hP hD [6, 7] [0, 1, 2, 3, 4, 5] rfl rfl (by decide) (by decide) hk1 hFc hP1 hD1
  clear hPc hDc hFc hDv hpre hP hD hP1 hK1 hD1
  obtain ⟨hP, hD⟩ := hPD9
  replace hz : s.heap.size + 18 ≤ H114.size := by omega
  clear hz2
  replace hP : va_P (dC, dI) vwCl [(mo, .inr (9, [th, .ref al, md, rf, kn])), (al, .inr (4, [mc, .ref ed, .int (nI cc)])), (ed, .inl (cO, 10, .inr (.inr (.inr (.inr ee))))), (na0, .inl (cI, 4, .inl fn0)), (a0, .inr (8, [.int 4, .ref wa0, .ref na0])), (wa0, .inl (cI, 4, .inl fw0)), (q105, .inr (1, [.ref v116, .int 0, .int 0, .int (nI 24)])), (v116, .inl (cB, 34, .inl f117))] H114 := hP
  replace hD : va_D A [(mo, .inr (9, [th, .ref al, md, rf, kn])), (al, .inr (4, [mc, .ref ed, .int (nI cc)])), (ed, .inl (cO, 10, .inr (.inr (.inr (.inr ee))))), (na0, .inl (cI, 4, .inl fn0)), (a0, .inr (8, [.int 4, .ref wa0, .ref na0])), (wa0, .inl (cI, 4, .inl fw0)), (q105, .inr (1, [.ref v116, .int 0, .int 0, .int (nI 24)])), (v116, .inl (cB, 34, .inl f117))] := hD
  refine W.widen (k := 21) (n := 458868) (by omega) (by omega) ?_
  obtain rfl := her115.symm
  have hPc := hP.sub (ws' := [(q105, .inr (1, [.ref v116, .int 0, .int 0, .int (nI 24)])), (v116, .inl (cB, 34, .inl f117))]) [6, 7] rfl
  have hDc := hD.sub (ws' := [(q105, .inr (1, [.ref v116, .int 0, .int 0, .int (nI 24)])), (v116, .inl (cB, 34, .inl f117))]) [6, 7] (by decide) rfl
  have hFc := va_free (wc := [(q105, .inr (1, [.ref v116, .int 0, .int 0, .int (nI 24)])), (v116, .inl (cB, 34, .inl f117))]) hD hS hA [6, 7] rfl
  have hDv := hDc.self (sz := H114.size)
  have hpre := zpre (xs' := []) (av := [.ref q105]) hPc hK (hDc.weaken (fun _ _ _ h => h)) hZ hS hFc (fun r hr => by cases hr)
  refine va_callr (va_runV (As := []) (rest := []) ⟨hx, hb, hml, hown, hts⟩ (k_toS l dC dI cI cB cR cO zk q105 v116 34 24 f117 (.int 0) H114.size (by decide) (by decide) hff117) (cwV 0 hts gX4_textOf_J4_toString_0e30d rfl rfl rfl (by decide +kernel) ⟨Nat.le_of_ble_eq_true rfl, Nat.le_of_ble_eq_true rfl⟩) ⟨zblind, (zrecv_1 hK hPc (q0 := 0) rfl), hpre⟩ rfl rfl hl.1 rfl (lv_room (Nat.le_of_ble_eq_true rfl)) dX4_textOf_89 ⟨Nat.le_of_ble_eq_true rfl, Nat.le_of_ble_eq_true rfl⟩) hS (fun q _ h => hFc q h) hFc (fun u r119 t H118 locs ht hvm hw hB hz1 hk1 hS => ?_)
  obtain ⟨b120, g121, ⟨hP1, hK1, hD1, hz2⟩, hfg121⟩ := hB
  rw [ht] at hP1 hz2
  have hPD9 := va_join (wr := [(mo, .inr (9, [th, .ref al, md, rf, kn])), (al, .inr (4, [mc, .ref ed, .int (nI cc)])), (ed, .inl (cO, 10, .inr (.inr (.inr (.inr ee))))), (na0, .inl (cI, 4, .inl fn0)), (a0, .inr (8, [.int 4, .ref wa0, .ref na0])), (wa0, .inl (cI, 4, .inl fw0))]) (w1 := [(r119, .inr (0, [.ref b120, .int 0, .int 0, .int 0])), (b120, .inl (cB, 24, .inl g121)), (q105, .inr (1, [.ref v116, .int 0, .int 0, .int (nI 24)])), (v116, .inl (cB, 34, .inl f117))]) hP hD [6, 7] [0, 1, 2, 3, 4, 5] rfl rfl (by decide) (by decide) hk1 hFc hP1 hD1
  clear hPc hDc hFc hDv hpre hP hD hP1 hK1 hD1
  obtain ⟨hP, hD⟩ := hPD9
  replace hz : s.heap.size + 20 ≤ H118.size := by omega
  clear hz2
  replace hP : va_P (dC, dI) vwCl [(mo, .inr (9, [th, .ref al, md, rf, kn])), (al, .inr (4, [mc, .ref ed, .int (nI cc)])), (ed, .inl (cO, 10, .inr (.inr (.inr (.inr ee))))), (na0, .inl (cI, 4, .inl fn0)), (a0, .inr (8, [.int 4, .ref wa0, .ref na0])), (wa0, .inl (cI, 4, .inl fw0)), (r119, .inr (0, [.ref b120, .int 0, .int 0, .int 0])), (b120, .inl (cB, 24, .inl g121)), (q105, .inr (1, [.ref v116, .int 0, .int 0, .int (nI 24)])), (v116, .inl (cB, 34, .inl f117))] H118 := hP
  replace hD : va_D A [(mo, .inr (9, [th, .ref al, md, rf, kn])), (al, .inr (4, [mc, .ref ed, .int (nI cc)])), (ed, .inl (cO, 10, .inr (.inr (.inr (.inr ee))))), (na0, .inl (cI, 4, .inl fn0)), (a0, .inr (8, [.int 4, .ref wa0, .ref na0])), (wa0, .inl (cI, 4, .inl fw0)), (r119, .inr (0, [.ref b120, .int 0, .int 0, .int 0])), (b120, .inl (cB, 24, .inl g121)), (q105, .inr (1, [.ref v116, .int 0, .int 0, .int (nI 24)])), (v116, .inl (cB, 34, .inl f117))] := hD
  refine W.widen (k := 23) (n := 524408) (by omega) (by omega) ?_
  have hP := hP.sub (ws' := [(mo, .inr (9, [th, .ref al, md, rf, kn])), (al, .inr (4, [mc, .ref ed, .int (nI cc)])), (ed, .inl (cO, 10, .inr (.inr (.inr (.inr ee))))), (na0, .inl (cI, 4, .inl fn0)), (a0, .inr (8, [.int 4, .ref wa0, .ref na0])), (wa0, .inl (cI, 4, .inl fw0)), (r119, .inr (0, [.ref b120, .int 0, .int 0, .int 0])), (b120, .inl (cB, 24, .inl g121))]) [0, 1, 2, 3, 4, 5, 6, 7] rfl
  have hD := hD.sub (ws' := [(mo, .inr (9, [th, .ref al, md, rf, kn])), (al, .inr (4, [mc, .ref ed, .int (nI cc)])), (ed, .inl (cO, 10, .inr (.inr (.inr (.inr ee))))), (na0, .inl (cI, 4, .inl fn0)), (a0, .inr (8, [.int 4, .ref wa0, .ref na0])), (wa0, .inl (cI, 4, .inl fw0)), (r119, .inr (0, [.ref b120, .int 0, .int 0, .int 0])), (b120, .inl (cB, 24, .inl g121))]) [0, 1, 2, 3, 4, 5, 6, 7] (by decide) rfl
  have hP9 := hP.sub (ws' := [(r119, .inr (0, [.ref b120, .int 0, .int 0, .int 0])), (b120, .inl (cB, 24, .inl g121)), (mo, .inr (9, [th, .ref al, md, rf, kn])), (al, .inr (4, [mc, .ref ed, .int (nI cc)])), (ed, .inl (cO, 10, .inr (.inr (.inr (.inr ee))))), (a0, .inr (8, [.int 4, .ref wa0, .ref na0])), (wa0, .inl (cI, 4, .inl fw0)), (na0, .inl (cI, 4, .inl fn0))]) [6, 7, 0, 1, 2, 4, 5, 3] rfl
  have hD9 := hD.sub (ws' := [(r119, .inr (0, [.ref b120, .int 0, .int 0, .int 0])), (b120, .inl (cB, 24, .inl g121)), (mo, .inr (9, [th, .ref al, md, rf, kn])), (al, .inr (4, [mc, .ref ed, .int (nI cc)])), (ed, .inl (cO, 10, .inr (.inr (.inr (.inr ee))))), (a0, .inr (8, [.int 4, .ref wa0, .ref na0])), (wa0, .inl (cI, 4, .inl fw0)), (na0, .inl (cI, 4, .inl fn0))]) [6, 7, 0, 1, 2, 4, 5, 3] (by decide) rfl
  exact W.aret hx hb hr (by first | exact Or.inl ⟨_, rfl⟩ | exact Or.inr ⟨_, rfl⟩) (Or.inr ⟨_, rfl⟩) (fun t ht hW => ⟨⟨(), _, rfl, trivial, ⟨_, _, ⟨by rw [ht]; exact hP9, va_K.moved hW.alike hK, hD9, by rw [ht]; exact hz⟩, hfg121⟩⟩, hS.F ht⟩) hS.2.2 dX4_textOf_92
