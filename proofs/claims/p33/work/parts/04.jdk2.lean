theorem hi_J5_init_d00df_J4 : ∀ w ∈ u_ws RJ4 TJ4 4, w ∈ wsJ5_init_d00df := fun w h => List.mem_cons_of_mem _ (zhi_J4 w h)
set_option maxHeartbeats 4000000 in
set_option maxRecDepth 100000 in
theorem k_init5 (l : Launch) (dC : Nat → ClassId) (dI : Nat → Nat → Nat) (cI cB cR cO : ClassId) (zk : Nat → Nat) (h0 : Nat) (sz : Nat)  : Met l yJ5_init_d00df wsJ5_init_d00df ({ frames := 1, cells := 1, slots := 16, locals := 60 }) (va_Pc [.ref h0, .int 16] (zPre (dC, dI) (zT cI cB cR cO) zk [] [(h0, .inr (1, [.null, .int 0, .int 0, .int 0]))] sz)) (va_Qv (fun _ : Unit => True) (fun _ t => ∃ v1, zEnd (dC, dI) (zT cI cB cR cO) (va_A [(h0, .inr (1, [.null, .int 0, .int 0, .int 0]))] sz) [(h0, .inr (1, [.ref v1, .int 0, .int 0, .int 0])), (v1, .inl (cB, 16, .inl (fun _ => 0)))] sz 1 t) (va_A [(h0, .inr (1, [.null, .int 0, .int 0, .int 0]))] sz)) 1 16 (va_A [(h0, .inr (1, [.null, .int 0, .int 0, .int 0]))] sz) := by
  refine Met.ofW (cc := cJ5_init_d00df) (maxL := 2) (ret := none) (by decide) rfl ?_
  intro p e s mY args below meth c s₁ B hml hv
  obtain ⟨rfl, hsz, hP, hK, hD0, hZ⟩ := hv
  have hx := B.exec
  have hb := B.bytes
  have hr := B.returns
  have hts := atoms_spec (ws := wsJ5_init_d00df) B.pre
  have hown : s.vm.findClass RJ5 = some mY.cls := findClass_of_methodNamed B.named
  have hlocks := B.notSynchronized
  have hin : meth.name = "<init>" := (name_of_methodNamed B.named B.method).1
  subst hsz
  have hD := hD0.self (sz := s.heap.size)
  generalize hAe : va_A [(h0, .inr (1, [.null, .int 0, .int 0, .int 0]))] s.heap.size = A at hD hZ ⊢
  have hA : ∀ q : Nat, s.heap.size ≤ q → A q := fun q h => by rw [← hAe]; exact Or.inr h
  have hS : va_S A s.heap s.heap [] := va_S.rf
  have hz : s.heap.size + 0 ≤ s.heap.size := Nat.le_refl _
  have hl := lv_entry ([.ref h0, .int 16]) (n := 2) (Nat.le_of_ble_eq_true rfl)
  rw [lg_entry_eq]
  generalize (lg_sl ([.ref h0, .int 16]) ++ List.replicate (2 - (lg_sl ([.ref h0, .int 16])).length) Slot.unset).toArray = ls at hl ⊢
  have hl : lv_has ls 2 [(0, .ref h0), (1, .int 16)] := hl
  have hP : va_P (dC, dI) vwCl [(h0, .inr (1, [.null, .int 0, .int 0, .int 0]))] s.heap := hP
  have hD : va_D A [(h0, .inr (1, [.null, .int 0, .int 0, .int 0]))] := hD
  refine lv_aload_n hx hb dJ5_init_d00df_0 rfl (lv_at hl 0 rfl) ?_
  refine W.objInit hx hb hown (hts (.methodLink RJ5 3 objectInit) (List.mem_cons_of_mem _ zw_146)) (hts (.instanceMethod objectInit) (List.mem_cons_of_mem _ zw_77)) (hts (.code objectInit ⟨#[0xb1]⟩ 1 none) (List.mem_cons_of_mem _ zw_78)) rfl (by rw [hml]; exact hl.1) rfl dJ5_init_d00df_1 (Nat.le_of_ble_eq_true rfl) (Nat.le_of_ble_eq_true rfl) ?_
  refine W.eq (g2 := F0 mY 4 ls []) rfl ?_
  refine va_gets hx hb hZ.1.1 hS hown (hts (.fieldLink RJ5 18 "java/lang/String" "COMPACT_STRINGS" "Z") (List.mem_cons_of_mem _ zw_147)) (fun _ h9 => h9) dJ5_init_d00df_4 ?_
  refine lv_if_eq (tgt := 25) hx hb dJ5_init_d00df_7 (by decide) (fun c9 => ?_) (fun c9 => ?_)
  · exact absurd c9 (by decide)
  refine lv_aload_n hx hb dJ5_init_d00df_10 rfl (lv_at hl 0 rfl) ?_
  refine lv_iload_n hx hb dJ5_init_d00df_11 rfl (lv_at hl 1 rfl) ?_
  refine zw_newa (atype := .byte) (ty := .byte) (N' := 16) hx hb (hts (.arrayClass .byte) (List.mem_cons_of_mem _ zw_170)) rfl (by first | exact Or.inl rfl | exact Or.inr rfl) hK hP hD hS hA 1 rfl (by decide) (by decide) (Nat.le_of_ble_eq_true rfl) (Nat.le_of_ble_eq_true rfl) (Nat.le_of_ble_eq_true rfl) dJ5_init_d00df_12 hz (fun q1 H2 hP hD hS hz => ?_)
  replace hP : va_P (dC, dI) vwCl [(h0, .inr (1, [.null, .int 0, .int 0, .int 0])), (q1, .inl (cB, 16, .inl (fun _ => 0)))] H2 := hP
  replace hD : va_D A [(h0, .inr (1, [.null, .int 0, .int 0, .int 0])), (q1, .inl (cB, 16, .inl (fun _ => 0)))] := hD
  refine W.widen (k := 1) (n := 16) (by omega) (by omega) ?_
  refine va_put (D := (dC, dI)) (ci := 1) (v := .ref q1) (ty := .array .byte) (C := RJ4) (T := TJ4) (N := 4) hx hb hts hi_J5_init_d00df_J4 tyJ4 tyJ4_ok nmJ4 hown hK hP hD (zS0 hS) 0 rfl rfl 0 (by decide) (hts (.fieldLink RJ5 15 "java/lang/AbstractStringBuilder" "value" "[B") (List.mem_cons_of_mem _ zw_156)) (fun _ h9 => h9) rfl (by decide +kernel) rfl rfl (Nat.le_of_ble_eq_true rfl) dJ5_init_d00df_14 (fun H3 locs hP hD hS1 => ?_)
  have hz : s.heap.size + 1 ≤ H3.size := Nat.le_trans hz hS1.1
  have hS := zSS hS hS1
  replace hP : va_P (dC, dI) vwCl [(h0, .inr (1, [.ref q1, .int 0, .int 0, .int 0])), (q1, .inl (cB, 16, .inl (fun _ => 0)))] H3 := hP
  replace hD : va_D A [(h0, .inr (1, [.ref q1, .int 0, .int 0, .int 0])), (q1, .inl (cB, 16, .inl (fun _ => 0)))] := hD
  refine lv_aload_n hx hb dJ5_init_d00df_17 rfl (lv_at hl 0 rfl) ?_
  refine lv_iconst (v := 0) hx hb dJ5_init_d00df_18 (by decide) ?_
  refine va_put (D := (dC, dI)) (ci := 1) (v := .int 0) (ty := .byte) (C := RJ4) (T := TJ4) (N := 4) hx hb hts hi_J5_init_d00df_J4 tyJ4 tyJ4_ok nmJ4 hown hK hP hD (zS0 hS) 0 rfl rfl 1 (by decide) (hts (.fieldLink RJ5 22 "java/lang/AbstractStringBuilder" "coder" "B") (List.mem_cons_of_mem _ zw_157)) (fun _ h9 => h9) rfl (by decide +kernel) rfl rfl (Nat.le_of_ble_eq_true rfl) dJ5_init_d00df_19 (fun H4 locs hP hD hS1 => ?_)
  have hz : s.heap.size + 1 ≤ H4.size := Nat.le_trans hz hS1.1
  have hS := zSS hS hS1
  replace hP : va_P (dC, dI) vwCl [(h0, .inr (1, [.ref q1, .int 0, .int 0, .int 0])), (q1, .inl (cB, 16, .inl (fun _ => 0)))] H4 := hP
  replace hD : va_D A [(h0, .inr (1, [.ref q1, .int 0, .int 0, .int 0])), (q1, .inl (cB, 16, .inl (fun _ => 0)))] := hD
  refine lv_goto (tgt := 38) hx hb dJ5_init_d00df_22 (by decide) ?_
  have hP9 := hP.sub (ws' := [(h0, .inr (1, [.ref q1, .int 0, .int 0, .int 0])), (q1, .inl (cB, 16, .inl (fun _ => 0)))]) [0, 1] rfl
  have hD9 := hD.sub (ws' := [(h0, .inr (1, [.ref q1, .int 0, .int 0, .int 0])), (q1, .inl (cB, 16, .inl (fun _ => 0)))]) [0, 1] (by decide) rfl
  exact W.vret hx hb hr (fun t ht hW => ⟨⟨(), rfl, trivial, ⟨_, ⟨by rw [ht]; exact hP9, va_K.moved hW.alike hK, hD9, by rw [ht]; exact hz⟩⟩⟩, hS.F ht⟩) hS.2.2 dJ5_init_d00df_38

set_option maxHeartbeats 4000000 in
set_option maxRecDepth 100000 in
theorem k_init4 (l : Launch) (dC : Nat → ClassId) (dI : Nat → Nat → Nat) (cI cB cR cO : ClassId) (zk : Nat → Nat) (h0 : Nat) (sz : Nat)  : Met l yJ4_init_da8c8 wsJ4_init_da8c8 ({ frames := 2, cells := 1, slots := 16, locals := 81 }) (va_Pc [.ref h0] (zPre (dC, dI) (zT cI cB cR cO) zk [] [(h0, .inr (1, [.null, .int 0, .int 0, .int 0]))] sz)) (va_Qv (fun _ : Unit => True) (fun _ t => ∃ v1, zEnd (dC, dI) (zT cI cB cR cO) (va_A [(h0, .inr (1, [.null, .int 0, .int 0, .int 0]))] sz) [(h0, .inr (1, [.ref v1, .int 0, .int 0, .int 0])), (v1, .inl (cB, 16, .inl (fun _ => 0)))] sz 1 t) (va_A [(h0, .inr (1, [.null, .int 0, .int 0, .int 0]))] sz)) 1 16 (va_A [(h0, .inr (1, [.null, .int 0, .int 0, .int 0]))] sz) := by
  refine Met.ofW (cc := cJ4_init_da8c8) (maxL := 1) (ret := none) (by decide) rfl ?_
  intro p e s mY args below meth c s₁ B hml hv
  obtain ⟨rfl, hsz, hP, hK, hD0, hZ⟩ := hv
  have hx := B.exec
  have hb := B.bytes
  have hr := B.returns
  have hts := atoms_spec (ws := wsJ4_init_da8c8) B.pre
  have hown : s.vm.findClass RJ4 = some mY.cls := findClass_of_methodNamed B.named
  have hlocks := B.notSynchronized
  have hin : meth.name = "<init>" := (name_of_methodNamed B.named B.method).1
  subst hsz
  have hD := hD0.self (sz := s.heap.size)
  generalize hAe : va_A [(h0, .inr (1, [.null, .int 0, .int 0, .int 0]))] s.heap.size = A at hD hZ ⊢
  have hA : ∀ q : Nat, s.heap.size ≤ q → A q := fun q h => by rw [← hAe]; exact Or.inr h
  have hS : va_S A s.heap s.heap [] := va_S.rf
  have hz : s.heap.size + 0 ≤ s.heap.size := Nat.le_refl _
  have hl := lv_entry ([.ref h0]) (n := 1) (Nat.le_of_ble_eq_true rfl)
  rw [lg_entry_eq]
  generalize (lg_sl ([.ref h0]) ++ List.replicate (1 - (lg_sl ([.ref h0])).length) Slot.unset).toArray = ls at hl ⊢
  have hl : lv_has ls 1 [(0, .ref h0)] := hl
  have hP : va_P (dC, dI) vwCl [(h0, .inr (1, [.null, .int 0, .int 0, .int 0]))] s.heap := hP
  have hD : va_D A [(h0, .inr (1, [.null, .int 0, .int 0, .int 0]))] := hD
  refine lv_aload_n hx hb dJ4_init_da8c8_0 rfl (lv_at hl 0 rfl) ?_
  refine lv_bipush (v := 16) hx hb dJ4_init_da8c8_1 (by decide) ?_
  have hPc := hP.sub (ws' := [(h0, .inr (1, [.null, .int 0, .int 0, .int 0]))]) [0] rfl
  have hDc := hD.sub (ws' := [(h0, .inr (1, [.null, .int 0, .int 0, .int 0]))]) [0] (by decide) rfl
  have hFc := va_free (wc := [(h0, .inr (1, [.null, .int 0, .int 0, .int 0]))]) hD hS hA [0] rfl
  have hDv := hDc.self (sz := s.heap.size)
  have hpre := zpre (xs' := []) (av := [.ref h0, .int 16]) hPc hK (hDc.weaken (fun _ _ _ h => h)) hZ hS hFc (fun r hr => by cases hr)
  refine va_callv (va_runI (As := [.int 16]) (rest := []) ⟨hx, hb, hml, hown, hts⟩ (k_init5 l dC dI cI cB cR cO zk h0 s.heap.size ) (cwI 1 hts gJ4_init_da8c8_J5_init_d00df rfl rfl rfl (hts (.initialized RJ5) (List.mem_cons_of_mem _ zw_46)) (hts (.methodLink RJ4 1 yJ5_init_d00df) (List.mem_cons_of_mem _ zw_143)) (hts (.instanceMethod yJ5_init_d00df) (List.mem_cons_of_mem _ zw_144)) rfl (by decide +kernel) ⟨Nat.le_of_ble_eq_true rfl, Nat.le_of_ble_eq_true rfl⟩) ⟨zblind, hpre⟩ rfl rfl hl.1 rfl (lv_room (Nat.le_of_ble_eq_true rfl)) dJ4_init_da8c8_3 ⟨Nat.le_of_ble_eq_true rfl, Nat.le_of_ble_eq_true rfl⟩) hS (fun q _ h => hFc q h) hFc (fun u t H1 locs ht hvm hw hB hz1 hk1 hS => ?_)
  obtain ⟨w3, ⟨hP1, hK1, hD1, hz2⟩⟩ := hB
  rw [ht] at hP1 hz2
  have hPD9 := va_join (wr := []) (w1 := [(h0, .inr (1, [.ref w3, .int 0, .int 0, .int 0])), (w3, .inl (cB, 16, .inl (fun _ => 0)))]) hP hD [0] [] rfl rfl (by decide) (by decide) hk1 hFc hP1 hD1
  clear hPc hDc hFc hDv hpre hP hD hP1 hK1 hD1
  obtain ⟨hP, hD⟩ := hPD9
  replace hz : s.heap.size + 1 ≤ H1.size := by omega
  clear hz2
  replace hP : va_P (dC, dI) vwCl [(h0, .inr (1, [.ref w3, .int 0, .int 0, .int 0])), (w3, .inl (cB, 16, .inl (fun _ => 0)))] H1 := hP
  replace hD : va_D A [(h0, .inr (1, [.ref w3, .int 0, .int 0, .int 0])), (w3, .inl (cB, 16, .inl (fun _ => 0)))] := hD
  refine W.widen (k := 1) (n := 16) (by omega) (by omega) ?_
  have hP9 := hP.sub (ws' := [(h0, .inr (1, [.ref w3, .int 0, .int 0, .int 0])), (w3, .inl (cB, 16, .inl (fun _ => 0)))]) [0, 1] rfl
  have hD9 := hD.sub (ws' := [(h0, .inr (1, [.ref w3, .int 0, .int 0, .int 0])), (w3, .inl (cB, 16, .inl (fun _ => 0)))]) [0, 1] (by decide) rfl
  exact W.vret hx hb hr (fun t ht hW => ⟨⟨(), rfl, trivial, ⟨_, ⟨by rw [ht]; exact hP9, va_K.moved hW.alike hK, hD9, by rw [ht]; exact hz⟩⟩⟩, hS.F ht⟩) hS.2.2 dJ4_init_da8c8_6

set_option maxHeartbeats 4000000 in
set_option maxRecDepth 100000 in
theorem k_apA (l : Launch) (dC : Nat → ClassId) (dI : Nat → Nat → Nat) (cI cB cR cO : ClassId) (zk : Nat → Nat) (h0 v0 k v n m c0 : Nat) (f g : Nat → Int32) (ml : Value) (sz : Nat) (hm : m ≤ 65536) (hcm : c0 ≤ m) (hn : n ≤ 65536) (hg : sb_Fit g) (hfit : c0 + n ≤ m) : Met l yJ4_append_15ec4 wsJ4_append_15ec4 ({ frames := 4, cells := 0, slots := 0, locals := 167 }) (va_Pc [.ref h0, .ref k] (zPre (dC, dI) (zT cI cB cR cO) zk [(k, v, n, f)] [(h0, .inr (1, [.ref v0, .int 0, ml, .int (nI c0)])), (v0, .inl (cB, m, .inl g))] sz)) (va_Qr (fun _ : Unit => True) (fun _ ra t => ∃ v3, ∃ (f3 : Nat → Int32), zEnd (dC, dI) (zT cI cB cR cO) (va_A [(h0, .inr (1, [.ref v0, .int 0, ml, .int (nI c0)])), (v0, .inl (cB, m, .inl g))] sz) [(h0, .inr (1, [.ref v3, .int 0, ml, .int (nI (c0 + n))])), (v3, .inl (cB, m, .inl f3))] sz 0 t ∧ sb_Fit f3 ∧ ra = h0) (va_A [(h0, .inr (1, [.ref v0, .int 0, ml, .int (nI c0)])), (v0, .inl (cB, m, .inl g))] sz)) 0 0 (va_A [(h0, .inr (1, [.ref v0, .int 0, ml, .int (nI c0)])), (v0, .inl (cB, m, .inl g))] sz) := by
  refine Met.ofW (cc := cJ4_append_15ec4) (maxL := 2) (ret := (some (.object "java/lang/StringBuilder"))) (by decide) rfl ?_
  intro p e s mY args below meth c s₁ B hml hv
  obtain ⟨rfl, hsz, hP, hK, hD0, hZ⟩ := hv
  have hx := B.exec
  have hb := B.bytes
  have hr := B.returns
  have hts := atoms_spec (ws := wsJ4_append_15ec4) B.pre
  have hown : s.vm.findClass RJ4 = some mY.cls := findClass_of_methodNamed B.named
  have hlocks := B.notSynchronized
  subst hsz
  have hD := hD0.self (sz := s.heap.size)
  generalize hAe : va_A [(h0, .inr (1, [.ref v0, .int 0, ml, .int (nI c0)])), (v0, .inl (cB, m, .inl g))] s.heap.size = A at hD hZ ⊢
  have hA : ∀ q : Nat, s.heap.size ≤ q → A q := fun q h => by rw [← hAe]; exact Or.inr h
  have hS : va_S A s.heap s.heap [] := va_S.rf
  have hz : s.heap.size + 0 ≤ s.heap.size := Nat.le_refl _
  have hl := lv_entry ([.ref h0, .ref k]) (n := 2) (Nat.le_of_ble_eq_true rfl)
  rw [lg_entry_eq]
  generalize (lg_sl ([.ref h0, .ref k]) ++ List.replicate (2 - (lg_sl ([.ref h0, .ref k])).length) Slot.unset).toArray = ls at hl ⊢
  have hl : lv_has ls 2 [(0, .ref h0), (1, .ref k)] := hl
  have hP : va_P (dC, dI) vwCl [(h0, .inr (1, [.ref v0, .int 0, ml, .int (nI c0)])), (v0, .inl (cB, m, .inl g))] s.heap := hP
  have hD : va_D A [(h0, .inr (1, [.ref v0, .int 0, ml, .int (nI c0)])), (v0, .inl (cB, m, .inl g))] := hD
  refine lv_aload_n hx hb dJ4_append_15ec4_0 rfl (lv_at hl 0 rfl) ?_
  refine lv_aload_n hx hb dJ4_append_15ec4_1 rfl (lv_at hl 1 rfl) ?_
  have hPc := hP.sub (ws' := [(h0, .inr (1, [.ref v0, .int 0, ml, .int (nI c0)])), (v0, .inl (cB, m, .inl g))]) [0, 1] rfl
  have hDc := hD.sub (ws' := [(h0, .inr (1, [.ref v0, .int 0, ml, .int (nI c0)])), (v0, .inl (cB, m, .inl g))]) [0, 1] (by decide) rfl
  have hFc := va_free (wc := [(h0, .inr (1, [.ref v0, .int 0, ml, .int (nI c0)])), (v0, .inl (cB, m, .inl g))]) hD hS hA [0, 1] rfl
  have hDv := hDc.self (sz := s.heap.size)
  have hx0 : zS (k, v, n, f) (va_A [(h0, .inr (1, [.ref v0, .int 0, ml, .int (nI c0)])), (v0, .inl (cB, m, .inl g))] s.heap.size) s s.heap := zR.x hZ hS hFc List.mem_cons_self
  have hpre := zpre (xs' := [(k, v, n, f)]) (av := [.ref h0, .ref k]) hPc hK (hDc.weaken (fun _ _ _ h => h)) hZ hS hFc (fun r hr => by cases hr with | head => exact hx0 | tail _ h => cases h)
  refine va_callr (va_runSU (As := [.ref k]) (rest := []) (hK.1 1 _ rfl).2 ⟨hx, hb, hml, hown, hts⟩ (k_appA l dC dI cI cB cR cO zk h0 v0 k v n m c0 f g ml s.heap.size hm hcm hn hg hfit) (va_cwSU 1 hts gJ4_append_15ec4_J5_append_cf1ce_s29 rfl rfl rfl (by decide +kernel) ⟨Nat.le_of_ble_eq_true rfl, Nat.le_of_ble_eq_true rfl⟩) ⟨zblind, (zrecv_1 hK hPc (q0 := 0) rfl), hpre⟩ rfl rfl hl.1 rfl (lv_room (Nat.le_of_ble_eq_true rfl)) dJ4_append_15ec4_2 ⟨Nat.le_of_ble_eq_true rfl, Nat.le_of_ble_eq_true rfl⟩) hS (fun q _ h => hFc q h) hFc (fun u r2 t H1 locs ht hvm hw hB hz1 hk1 hS => ?_)
  obtain ⟨v3, f3, ⟨hP1, hK1, hD1, hz2⟩, hf3, he3⟩ := hB
  rw [ht] at hP1 hz2
  have hPD9 := va_join (wr := []) (w1 := [(h0, .inr (1, [.ref v3, .int 0, ml, .int (nI (c0 + n))])), (v3, .inl (cB, m, .inl f3))]) hP hD [0, 1] [] rfl rfl (by decide) (by decide) hk1 hFc hP1 hD1
  clear hPc hDc hFc hDv hpre hP hD hP1 hK1 hD1
  obtain ⟨hP, hD⟩ := hPD9
  replace hz : s.heap.size + 0 ≤ H1.size := by omega
  clear hz2
  replace hP : va_P (dC, dI) vwCl [(h0, .inr (1, [.ref v3, .int 0, ml, .int (nI (c0 + n))])), (v3, .inl (cB, m, .inl f3))] H1 := hP
  replace hD : va_D A [(h0, .inr (1, [.ref v3, .int 0, ml, .int (nI (c0 + n))])), (v3, .inl (cB, m, .inl f3))] := hD
  refine W.widen (k := 0) (n := 0) (by omega) (by omega) ?_
  refine lv_pop hx hb dJ4_append_15ec4_5 rfl ?_
  refine lv_aload_n hx hb dJ4_append_15ec4_6 rfl (lv_at hl 0 rfl) ?_
  have hP9 := hP.sub (ws' := [(h0, .inr (1, [.ref v3, .int 0, ml, .int (nI (c0 + n))])), (v3, .inl (cB, m, .inl f3))]) [0, 1] rfl
  have hD9 := hD.sub (ws' := [(h0, .inr (1, [.ref v3, .int 0, ml, .int (nI (c0 + n))])), (v3, .inl (cB, m, .inl f3))]) [0, 1] (by decide) rfl
  exact W.aret hx hb hr (by first | exact Or.inl ⟨_, rfl⟩ | exact Or.inr ⟨_, rfl⟩) (Or.inr ⟨_, rfl⟩) (fun t ht hW => ⟨⟨(), _, rfl, trivial, ⟨_, _, ⟨by rw [ht]; exact hP9, va_K.moved hW.alike hK, hD9, by rw [ht]; exact hz⟩, hf3, rfl⟩⟩, hS.F ht⟩) hS.2.2 dJ4_append_15ec4_7

set_option maxHeartbeats 4000000 in
set_option maxRecDepth 100000 in
theorem k_apB (l : Launch) (dC : Nat → ClassId) (dI : Nat → Nat → Nat) (cI cB cR cO : ClassId) (zk : Nat → Nat) (h0 v0 k v n m c0 : Nat) (f g : Nat → Int32) (ml : Value) (sz : Nat) (hm : m ≤ 65536) (hcm : c0 ≤ m) (hn : n ≤ 65536) (hg : sb_Fit g) (hgr : m < c0 + n) (hcap : zcap (c0 + n) m ≤ 65536) : Met l yJ4_append_15ec4 wsJ4_append_15ec4 ({ frames := 5, cells := 1, slots := 65536, locals := 167 }) (va_Pc [.ref h0, .ref k] (zPre (dC, dI) (zT cI cB cR cO) zk [(k, v, n, f)] [(h0, .inr (1, [.ref v0, .int 0, ml, .int (nI c0)])), (v0, .inl (cB, m, .inl g))] sz)) (va_Qr (fun _ : Unit => True) (fun _ ra t => ∃ v3, ∃ (f3 : Nat → Int32), zEnd (dC, dI) (zT cI cB cR cO) (va_A [(h0, .inr (1, [.ref v0, .int 0, ml, .int (nI c0)])), (v0, .inl (cB, m, .inl g))] sz) [(h0, .inr (1, [.ref v3, .int 0, ml, .int (nI (c0 + n))])), (v3, .inl (cB, zcap (c0 + n) m, .inl f3))] sz 0 t ∧ sb_Fit f3 ∧ ra = h0) (va_A [(h0, .inr (1, [.ref v0, .int 0, ml, .int (nI c0)])), (v0, .inl (cB, m, .inl g))] sz)) 1 65536 (va_A [(h0, .inr (1, [.ref v0, .int 0, ml, .int (nI c0)])), (v0, .inl (cB, m, .inl g))] sz) := by
  refine Met.ofW (cc := cJ4_append_15ec4) (maxL := 2) (ret := (some (.object "java/lang/StringBuilder"))) (by decide) rfl ?_
  intro p e s mY args below meth c s₁ B hml hv
  obtain ⟨rfl, hsz, hP, hK, hD0, hZ⟩ := hv
  have hx := B.exec
  have hb := B.bytes
  have hr := B.returns
  have hts := atoms_spec (ws := wsJ4_append_15ec4) B.pre
  have hown : s.vm.findClass RJ4 = some mY.cls := findClass_of_methodNamed B.named
  have hlocks := B.notSynchronized
  subst hsz
  have hD := hD0.self (sz := s.heap.size)
  generalize hAe : va_A [(h0, .inr (1, [.ref v0, .int 0, ml, .int (nI c0)])), (v0, .inl (cB, m, .inl g))] s.heap.size = A at hD hZ ⊢
  have hA : ∀ q : Nat, s.heap.size ≤ q → A q := fun q h => by rw [← hAe]; exact Or.inr h
  have hS : va_S A s.heap s.heap [] := va_S.rf
  have hz : s.heap.size + 0 ≤ s.heap.size := Nat.le_refl _
  have hl := lv_entry ([.ref h0, .ref k]) (n := 2) (Nat.le_of_ble_eq_true rfl)
  rw [lg_entry_eq]
  generalize (lg_sl ([.ref h0, .ref k]) ++ List.replicate (2 - (lg_sl ([.ref h0, .ref k])).length) Slot.unset).toArray = ls at hl ⊢
  have hl : lv_has ls 2 [(0, .ref h0), (1, .ref k)] := hl
  have hP : va_P (dC, dI) vwCl [(h0, .inr (1, [.ref v0, .int 0, ml, .int (nI c0)])), (v0, .inl (cB, m, .inl g))] s.heap := hP
  have hD : va_D A [(h0, .inr (1, [.ref v0, .int 0, ml, .int (nI c0)])), (v0, .inl (cB, m, .inl g))] := hD
  refine lv_aload_n hx hb dJ4_append_15ec4_0 rfl (lv_at hl 0 rfl) ?_
  refine lv_aload_n hx hb dJ4_append_15ec4_1 rfl (lv_at hl 1 rfl) ?_
  have hPc := hP.sub (ws' := [(h0, .inr (1, [.ref v0, .int 0, ml, .int (nI c0)])), (v0, .inl (cB, m, .inl g))]) [0, 1] rfl
  have hDc := hD.sub (ws' := [(h0, .inr (1, [.ref v0, .int 0, ml, .int (nI c0)])), (v0, .inl (cB, m, .inl g))]) [0, 1] (by decide) rfl
  have hFc := va_free (wc := [(h0, .inr (1, [.ref v0, .int 0, ml, .int (nI c0)])), (v0, .inl (cB, m, .inl g))]) hD hS hA [0, 1] rfl
  have hDv := hDc.self (sz := s.heap.size)
  have hx0 : zS (k, v, n, f) (va_A [(h0, .inr (1, [.ref v0, .int 0, ml, .int (nI c0)])), (v0, .inl (cB, m, .inl g))] s.heap.size) s s.heap := zR.x hZ hS hFc List.mem_cons_self
  have hpre := zpre (xs' := [(k, v, n, f)]) (av := [.ref h0, .ref k]) hPc hK (hDc.weaken (fun _ _ _ h => h)) hZ hS hFc (fun r hr => by cases hr with | head => exact hx0 | tail _ h => cases h)
  refine va_callr (va_runSU (As := [.ref k]) (rest := []) (hK.1 1 _ rfl).2 ⟨hx, hb, hml, hown, hts⟩ (k_appB l dC dI cI cB cR cO zk h0 v0 k v n m c0 f g ml s.heap.size hm hcm hn hg hgr hcap) (va_cwSU 1 hts gJ4_append_15ec4_J5_append_cf1ce_s29 rfl rfl rfl (by decide +kernel) ⟨Nat.le_of_ble_eq_true rfl, Nat.le_of_ble_eq_true rfl⟩) ⟨zblind, (zrecv_1 hK hPc (q0 := 0) rfl), hpre⟩ rfl rfl hl.1 rfl (lv_room (Nat.le_of_ble_eq_true rfl)) dJ4_append_15ec4_2 ⟨Nat.le_of_ble_eq_true rfl, Nat.le_of_ble_eq_true rfl⟩) hS (fun q _ h => hFc q h) hFc (fun u r2 t H1 locs ht hvm hw hB hz1 hk1 hS => ?_)
  obtain ⟨v3, f3, ⟨hP1, hK1, hD1, hz2⟩, hf3, he3⟩ := hB
  rw [ht] at hP1 hz2
  have hPD9 := va_join (wr := []) (w1 := [(h0, .inr (1, [.ref v3, .int 0, ml, .int (nI (c0 + n))])), (v3, .inl (cB, zcap (c0 + n) m, .inl f3))]) hP hD [0, 1] [] rfl rfl (by decide) (by decide) hk1 hFc hP1 hD1
  clear hPc hDc hFc hDv hpre hP hD hP1 hK1 hD1
  obtain ⟨hP, hD⟩ := hPD9
  replace hz : s.heap.size + 0 ≤ H1.size := by omega
  clear hz2
  replace hP : va_P (dC, dI) vwCl [(h0, .inr (1, [.ref v3, .int 0, ml, .int (nI (c0 + n))])), (v3, .inl (cB, zcap (c0 + n) m, .inl f3))] H1 := hP
  replace hD : va_D A [(h0, .inr (1, [.ref v3, .int 0, ml, .int (nI (c0 + n))])), (v3, .inl (cB, zcap (c0 + n) m, .inl f3))] := hD
  refine W.widen (k := 1) (n := 65536) (by omega) (by omega) ?_
  refine lv_pop hx hb dJ4_append_15ec4_5 rfl ?_
  refine lv_aload_n hx hb dJ4_append_15ec4_6 rfl (lv_at hl 0 rfl) ?_
  have hP9 := hP.sub (ws' := [(h0, .inr (1, [.ref v3, .int 0, ml, .int (nI (c0 + n))])), (v3, .inl (cB, zcap (c0 + n) m, .inl f3))]) [0, 1] rfl
  have hD9 := hD.sub (ws' := [(h0, .inr (1, [.ref v3, .int 0, ml, .int (nI (c0 + n))])), (v3, .inl (cB, zcap (c0 + n) m, .inl f3))]) [0, 1] (by decide) rfl
  exact W.aret hx hb hr (by first | exact Or.inl ⟨_, rfl⟩ | exact Or.inr ⟨_, rfl⟩) (Or.inr ⟨_, rfl⟩) (fun t ht hW => ⟨⟨(), _, rfl, trivial, ⟨_, _, ⟨by rw [ht]; exact hP9, va_K.moved hW.alike hK, hD9, by rw [ht]; exact hz⟩, hf3, rfl⟩⟩, hS.F ht⟩) hS.2.2 dJ4_append_15ec4_7

theorem hi_J5_getValue_6d5f1_J4 : ∀ w ∈ u_ws RJ4 TJ4 4, w ∈ wsJ5_getValue_6d5f1 := fun w h => List.mem_cons_of_mem _ (zhi_J4 w h)
set_option maxHeartbeats 4000000 in
set_option maxRecDepth 100000 in
theorem k_getV (l : Launch) (dC : Nat → ClassId) (dI : Nat → Nat → Nat) (cI cB cR cO : ClassId) (zk : Nat → Nat) (h0 v0 : Nat) (ml cn : Value) (sz : Nat)  : Met l yJ5_getValue_6d5f1 wsJ5_getValue_6d5f1 ({ frames := 0, cells := 0, slots := 0, locals := 0 }) (va_Pc [.ref h0] (zPre (dC, dI) (zT cI cB cR cO) zk [] [(h0, .inr (1, [.ref v0, .int 0, ml, cn]))] sz)) (va_Qr (fun _ : Unit => True) (fun _ ra t => zEnd (dC, dI) (zT cI cB cR cO) (va_A [(h0, .inr (1, [.ref v0, .int 0, ml, cn]))] sz) [(h0, .inr (1, [.ref v0, .int 0, ml, cn]))] sz 0 t ∧ ra = v0) (va_A [(h0, .inr (1, [.ref v0, .int 0, ml, cn]))] sz)) 0 0 (va_A [(h0, .inr (1, [.ref v0, .int 0, ml, cn]))] sz) := by
  refine Met.ofW (cc := cJ5_getValue_6d5f1) (maxL := 1) (ret := (some (.array .byte))) (by decide) rfl ?_
  intro p e s mY args below meth c s₁ B hml hv
  obtain ⟨rfl, hsz, hP, hK, hD0, hZ⟩ := hv
  have hx := B.exec
  have hb := B.bytes
  have hr := B.returns
  have hts := atoms_spec (ws := wsJ5_getValue_6d5f1) B.pre
  have hown : s.vm.findClass RJ5 = some mY.cls := findClass_of_methodNamed B.named
  have hlocks := B.notSynchronized
  subst hsz
  have hD := hD0.self (sz := s.heap.size)
  generalize hAe : va_A [(h0, .inr (1, [.ref v0, .int 0, ml, cn]))] s.heap.size = A at hD hZ ⊢
  have hA : ∀ q : Nat, s.heap.size ≤ q → A q := fun q h => by rw [← hAe]; exact Or.inr h
  have hS : va_S A s.heap s.heap [] := va_S.rf
  have hz : s.heap.size + 0 ≤ s.heap.size := Nat.le_refl _
  have hl := lv_entry ([.ref h0]) (n := 1) (Nat.le_of_ble_eq_true rfl)
  rw [lg_entry_eq]
  generalize (lg_sl ([.ref h0]) ++ List.replicate (1 - (lg_sl ([.ref h0])).length) Slot.unset).toArray = ls at hl ⊢
  have hl : lv_has ls 1 [(0, .ref h0)] := hl
  have hP : va_P (dC, dI) vwCl [(h0, .inr (1, [.ref v0, .int 0, ml, cn]))] s.heap := hP
  have hD : va_D A [(h0, .inr (1, [.ref v0, .int 0, ml, cn]))] := hD
  refine lv_aload_n hx hb dJ5_getValue_6d5f1_0 rfl (lv_at hl 0 rfl) ?_
  refine va_get (D := (dC, dI)) (ci := 1) (v := .ref v0) (C := RJ4) (T := TJ4) (N := 4) hx hb hts hi_J5_getValue_6d5f1_J4 hown hK hP 0 rfl rfl 0 (by decide) (hts (.fieldLink RJ5 15 "java/lang/AbstractStringBuilder" "value" "[B") (List.mem_cons_of_mem _ zw_156)) (fun _ h9 => h9) rfl dJ5_getValue_6d5f1_1 ?_
  have hP9 := hP.sub (ws' := [(h0, .inr (1, [.ref v0, .int 0, ml, cn]))]) [0] rfl
  have hD9 := hD.sub (ws' := [(h0, .inr (1, [.ref v0, .int 0, ml, cn]))]) [0] (by decide) rfl
  exact W.aret hx hb hr (by first | exact Or.inl ⟨_, rfl⟩ | exact Or.inr ⟨_, rfl⟩) (Or.inr ⟨_, rfl⟩) (fun t ht hW => ⟨⟨(), _, rfl, trivial, ⟨⟨by rw [ht]; exact hP9, va_K.moved hW.alike hK, hD9, by rw [ht]; exact hz⟩, rfl⟩⟩, hS.F ht⟩) hS.2.2 dJ5_getValue_6d5f1_4

theorem hi_J5_length_8abf5_J4 : ∀ w ∈ u_ws RJ4 TJ4 4, w ∈ wsJ5_length_8abf5 := fun w h => List.mem_cons_of_mem _ (zhi_J4 w h)
set_option maxHeartbeats 4000000 in
set_option maxRecDepth 100000 in
theorem k_len5 (l : Launch) (dC : Nat → ClassId) (dI : Nat → Nat → Nat) (cI cB cR cO : ClassId) (zk : Nat → Nat) (h0 v0 : Nat) (ml : Value) (cn : Int32) (sz : Nat)  : Met l yJ5_length_8abf5 wsJ5_length_8abf5 ({ frames := 0, cells := 0, slots := 0, locals := 0 }) (va_Pc [.ref h0] (zPre (dC, dI) (zT cI cB cR cO) zk [] [(h0, .inr (1, [.ref v0, .int 0, ml, .int cn]))] sz)) (va_Qi (fun r (_ : Unit) => r = cn) (fun _ t => zEnd (dC, dI) (zT cI cB cR cO) (va_A [(h0, .inr (1, [.ref v0, .int 0, ml, .int cn]))] sz) [(h0, .inr (1, [.ref v0, .int 0, ml, .int cn]))] sz 0 t) (va_A [(h0, .inr (1, [.ref v0, .int 0, ml, .int cn]))] sz)) 0 0 (va_A [(h0, .inr (1, [.ref v0, .int 0, ml, .int cn]))] sz) := by
  refine Met.ofW (cc := cJ5_length_8abf5) (maxL := 1) (ret := (some .int)) (by decide) rfl ?_
  intro p e s mY args below meth c s₁ B hml hv
  obtain ⟨rfl, hsz, hP, hK, hD0, hZ⟩ := hv
  have hx := B.exec
  have hb := B.bytes
  have hr := B.returns
  have hts := atoms_spec (ws := wsJ5_length_8abf5) B.pre
  have hown : s.vm.findClass RJ5 = some mY.cls := findClass_of_methodNamed B.named
  have hlocks := B.notSynchronized
  subst hsz
  have hD := hD0.self (sz := s.heap.size)
  generalize hAe : va_A [(h0, .inr (1, [.ref v0, .int 0, ml, .int cn]))] s.heap.size = A at hD hZ ⊢
  have hA : ∀ q : Nat, s.heap.size ≤ q → A q := fun q h => by rw [← hAe]; exact Or.inr h
  have hS : va_S A s.heap s.heap [] := va_S.rf
  have hz : s.heap.size + 0 ≤ s.heap.size := Nat.le_refl _
  have hl := lv_entry ([.ref h0]) (n := 1) (Nat.le_of_ble_eq_true rfl)
  rw [lg_entry_eq]
  generalize (lg_sl ([.ref h0]) ++ List.replicate (1 - (lg_sl ([.ref h0])).length) Slot.unset).toArray = ls at hl ⊢
  have hl : lv_has ls 1 [(0, .ref h0)] := hl
  have hP : va_P (dC, dI) vwCl [(h0, .inr (1, [.ref v0, .int 0, ml, .int cn]))] s.heap := hP
  have hD : va_D A [(h0, .inr (1, [.ref v0, .int 0, ml, .int cn]))] := hD
  refine lv_aload_n hx hb dJ5_length_8abf5_0 rfl (lv_at hl 0 rfl) ?_
  refine va_get (D := (dC, dI)) (ci := 1) (v := .int cn) (C := RJ4) (T := TJ4) (N := 4) hx hb hts hi_J5_length_8abf5_J4 hown hK hP 0 rfl rfl 3 (by decide) (hts (.fieldLink RJ5 79 "java/lang/AbstractStringBuilder" "count" "I") (List.mem_cons_of_mem _ zw_160)) (fun _ h9 => h9) rfl dJ5_length_8abf5_1 ?_
  have hP9 := hP.sub (ws' := [(h0, .inr (1, [.ref v0, .int 0, ml, .int cn]))]) [0] rfl
  have hD9 := hD.sub (ws' := [(h0, .inr (1, [.ref v0, .int 0, ml, .int cn]))]) [0] (by decide) rfl
  exact W.iret (v := cn) hx hb hr (fun t ht hW => ⟨⟨_, (), rfl, rfl, ⟨by rw [ht]; exact hP9, va_K.moved hW.alike hK, hD9, by rw [ht]; exact hz⟩⟩, hS.F ht⟩) hS.2.2 dJ5_length_8abf5_4

set_option maxHeartbeats 4000000 in
set_option maxRecDepth 100000 in
theorem k_len4 (l : Launch) (dC : Nat → ClassId) (dI : Nat → Nat → Nat) (cI cB cR cO : ClassId) (zk : Nat → Nat) (h0 v0 : Nat) (ml : Value) (cn : Int32) (sz : Nat)  : Met l yJ4_length_8abf5 wsJ4_length_8abf5 ({ frames := 1, cells := 0, slots := 0, locals := 20 }) (va_Pc [.ref h0] (zPre (dC, dI) (zT cI cB cR cO) zk [] [(h0, .inr (1, [.ref v0, .int 0, ml, .int cn]))] sz)) (va_Qi (fun r (_ : Unit) => r = cn) (fun _ t => zEnd (dC, dI) (zT cI cB cR cO) (va_A [(h0, .inr (1, [.ref v0, .int 0, ml, .int cn]))] sz) [(h0, .inr (1, [.ref v0, .int 0, ml, .int cn]))] sz 0 t) (va_A [(h0, .inr (1, [.ref v0, .int 0, ml, .int cn]))] sz)) 0 0 (va_A [(h0, .inr (1, [.ref v0, .int 0, ml, .int cn]))] sz) := by
  refine Met.ofW (cc := cJ4_length_8abf5) (maxL := 1) (ret := (some .int)) (by decide) rfl ?_
  intro p e s mY args below meth c s₁ B hml hv
  obtain ⟨rfl, hsz, hP, hK, hD0, hZ⟩ := hv
  have hx := B.exec
  have hb := B.bytes
  have hr := B.returns
  have hts := atoms_spec (ws := wsJ4_length_8abf5) B.pre
  have hown : s.vm.findClass RJ4 = some mY.cls := findClass_of_methodNamed B.named
  have hlocks := B.notSynchronized
  subst hsz
  have hD := hD0.self (sz := s.heap.size)
  generalize hAe : va_A [(h0, .inr (1, [.ref v0, .int 0, ml, .int cn]))] s.heap.size = A at hD hZ ⊢
  have hA : ∀ q : Nat, s.heap.size ≤ q → A q := fun q h => by rw [← hAe]; exact Or.inr h
  have hS : va_S A s.heap s.heap [] := va_S.rf
  have hz : s.heap.size + 0 ≤ s.heap.size := Nat.le_refl _
  have hl := lv_entry ([.ref h0]) (n := 1) (Nat.le_of_ble_eq_true rfl)
  rw [lg_entry_eq]
  generalize (lg_sl ([.ref h0]) ++ List.replicate (1 - (lg_sl ([.ref h0])).length) Slot.unset).toArray = ls at hl ⊢
  have hl : lv_has ls 1 [(0, .ref h0)] := hl
  have hP : va_P (dC, dI) vwCl [(h0, .inr (1, [.ref v0, .int 0, ml, .int cn]))] s.heap := hP
  have hD : va_D A [(h0, .inr (1, [.ref v0, .int 0, ml, .int cn]))] := hD
  refine lv_aload_n hx hb dJ4_length_8abf5_0 rfl (lv_at hl 0 rfl) ?_
  have hPc := hP.sub (ws' := [(h0, .inr (1, [.ref v0, .int 0, ml, .int cn]))]) [0] rfl
  have hDc := hD.sub (ws' := [(h0, .inr (1, [.ref v0, .int 0, ml, .int cn]))]) [0] (by decide) rfl
  have hFc := va_free (wc := [(h0, .inr (1, [.ref v0, .int 0, ml, .int cn]))]) hD hS hA [0] rfl
  have hDv := hDc.self (sz := s.heap.size)
  have hpre := zpre (xs' := []) (av := [.ref h0]) hPc hK (hDc.weaken (fun _ _ _ h => h)) hZ hS hFc (fun r hr => by cases hr)
  refine va_calli (va_runSU (As := []) (rest := []) (hK.1 1 _ rfl).2 ⟨hx, hb, hml, hown, hts⟩ (k_len5 l dC dI cI cB cR cO zk h0 v0 ml cn s.heap.size ) (va_cwSU 0 hts gJ4_length_8abf5_J5_length_8abf5_s343 rfl rfl rfl (by decide +kernel) ⟨Nat.le_of_ble_eq_true rfl, Nat.le_of_ble_eq_true rfl⟩) ⟨zblind, (zrecv_1 hK hPc (q0 := 0) rfl), hpre⟩ rfl rfl hl.1 rfl (lv_room (Nat.le_of_ble_eq_true rfl)) dJ4_length_8abf5_1 ⟨Nat.le_of_ble_eq_true rfl, Nat.le_of_ble_eq_true rfl⟩) hS (fun q _ h => hFc q h) hFc (fun r2 u t H1 locs ht hvm hw hB hz1 hk1 hS => ?_)
  obtain rfl : cn = r2 := (show r2 = cn from hw).symm
  obtain ⟨hP1, hK1, hD1, hz2⟩ := hB
  rw [ht] at hP1 hz2
  have hPD9 := va_join (wr := []) (w1 := [(h0, .inr (1, [.ref v0, .int 0, ml, .int cn]))]) hP hD [0] [] rfl rfl (by decide) (by decide) hk1 hFc hP1 hD1
  clear hPc hDc hFc hDv hpre hP hD hP1 hK1 hD1
  obtain ⟨hP, hD⟩ := hPD9
  replace hz : s.heap.size + 0 ≤ H1.size := by omega
  clear hz2
  replace hP : va_P (dC, dI) vwCl [(h0, .inr (1, [.ref v0, .int 0, ml, .int cn]))] H1 := hP
  replace hD : va_D A [(h0, .inr (1, [.ref v0, .int 0, ml, .int cn]))] := hD
  refine W.widen (k := 0) (n := 0) (by omega) (by omega) ?_
  have hP9 := hP.sub (ws' := [(h0, .inr (1, [.ref v0, .int 0, ml, .int cn]))]) [0] rfl
  have hD9 := hD.sub (ws' := [(h0, .inr (1, [.ref v0, .int 0, ml, .int cn]))]) [0] (by decide) rfl
  exact W.iret (v := cn) hx hb hr (fun t ht hW => ⟨⟨_, (), rfl, rfl, ⟨by rw [ht]; exact hP9, va_K.moved hW.alike hK, hD9, by rw [ht]; exact hz⟩⟩, hS.F ht⟩) hS.2.2 dJ4_length_8abf5_4

set_option maxHeartbeats 4000000 in
set_option maxRecDepth 100000 in
theorem k_chkL (l : Launch) (dC : Nat → ClassId) (dI : Nat → Nat → Nat) (cI cB cR cO : ClassId) (zk : Nat → Nat) (n : Nat) (sz : Nat) (hn : n ≤ 65536) : Met l yJ7_checkLength_df160 wsJ7_checkLength_df160 ({ frames := 0, cells := 0, slots := 0, locals := 0 }) (va_Pc [.int 0, .int (nI n)] (zPre (dC, dI) (zT cI cB cR cO) zk [] [] sz)) (va_Qv (fun _ : Unit => True) (fun _ t => zEnd (dC, dI) (zT cI cB cR cO) (va_A [] sz) [] sz 0 t) (va_A [] sz)) 0 0 (va_A [] sz) := by
  refine Met.ofW (cc := cJ7_checkLength_df160) (maxL := 2) (ret := none) (by decide) rfl ?_
  intro p e s mY args below meth c s₁ B hml hv
  obtain ⟨rfl, hsz, hP, hK, hD0, hZ⟩ := hv
  have hx := B.exec
  have hb := B.bytes
  have hr := B.returns
  have hts := atoms_spec (ws := wsJ7_checkLength_df160) B.pre
  have hown : s.vm.findClass RJ7 = some mY.cls := findClass_of_methodNamed B.named
  have hlocks := B.notSynchronized
  subst hsz
  have hD := hD0.self (sz := s.heap.size)
  generalize hAe : va_A [] s.heap.size = A at hD hZ ⊢
  have hA : ∀ q : Nat, s.heap.size ≤ q → A q := fun q h => by rw [← hAe]; exact Or.inr h
  have hS : va_S A s.heap s.heap [] := va_S.rf
  have hz : s.heap.size + 0 ≤ s.heap.size := Nat.le_refl _
  have hl := lv_entry ([.int 0, .int (nI n)]) (n := 2) (Nat.le_of_ble_eq_true rfl)
  rw [lg_entry_eq]
  generalize (lg_sl ([.int 0, .int (nI n)]) ++ List.replicate (2 - (lg_sl ([.int 0, .int (nI n)])).length) Slot.unset).toArray = ls at hl ⊢
  have hl : lv_has ls 2 [(0, .int 0), (1, .int (nI n))] := hl
  have hP : va_P (dC, dI) vwCl [] s.heap := hP
  have hD : va_D A [] := hD
  refine lv_iload_n hx hb dJ7_checkLength_df160_0 rfl (lv_at hl 1 rfl) ?_
  refine lv_iload_n hx hb dJ7_checkLength_df160_1 rfl (lv_at hl 0 rfl) ?_
  refine lv_icmp_ge (tgt := 37) hx hb dJ7_checkLength_df160_2 (by decide) (fun c9 => ?_) (fun c9 => ?_)
  rotate_left
  · exact absurd (nI_pos' (by omega)) c9
  have hP9 := hP.sub (ws' := []) [] rfl
  have hD9 := hD.sub (ws' := []) [] (by decide) rfl
  exact W.vret hx hb hr (fun t ht hW => ⟨⟨(), rfl, trivial, ⟨by rw [ht]; exact hP9, va_K.moved hW.alike hK, hD9, by rw [ht]; exact hz⟩⟩, hS.F ht⟩) hS.2.2 dJ7_checkLength_df160_37

set_option maxHeartbeats 4000000 in
set_option maxRecDepth 100000 in
theorem k_corB (l : Launch) (dC : Nat → ClassId) (dI : Nat → Nat → Nat) (cI cB cR cO : ClassId) (zk : Nat → Nat) (v0 m n : Nat) (f : Nat → Int32) (sz : Nat) (hm : m ≤ 65536) (hnm : n < m) (hf : sb_Fit f) : Met l yJ7_copyOfRangeByte_39247 wsJ7_copyOfRangeByte_39247 ({ frames := 1, cells := 1, slots := 65536, locals := 100 }) (va_Pc [.ref v0, .int 0, .int (nI n)] (zPre (dC, dI) (zT cI cB cR cO) zk [] [(v0, .inl (cB, m, .inl f))] sz)) (va_Qr (fun _ : Unit => True) (fun _ ra t => zEnd (dC, dI) (zT cI cB cR cO) (va_A [(v0, .inl (cB, m, .inl f))] sz) [(v0, .inl (cB, m, .inl f)), (ra, .inl (cB, n, .inl (va_cpy f (fun _ => 0) 0 0 n)))] sz 1 t) (va_A [(v0, .inl (cB, m, .inl f))] sz)) 1 65536 (va_A [(v0, .inl (cB, m, .inl f))] sz) := by
  refine Met.ofW (cc := cJ7_copyOfRangeByte_39247) (maxL := 5) (ret := (some (.array .byte))) (by decide) rfl ?_
  intro p e s mY args below meth c s₁ B hml hv
  obtain ⟨rfl, hsz, hP, hK, hD0, hZ⟩ := hv
  have hx := B.exec
  have hb := B.bytes
  have hr := B.returns
  have hts := atoms_spec (ws := wsJ7_copyOfRangeByte_39247) B.pre
  have hown : s.vm.findClass RJ7 = some mY.cls := findClass_of_methodNamed B.named
  have hlocks := B.notSynchronized
  subst hsz
  have hD := hD0.self (sz := s.heap.size)
  generalize hAe : va_A [(v0, .inl (cB, m, .inl f))] s.heap.size = A at hD hZ ⊢
  have hA : ∀ q : Nat, s.heap.size ≤ q → A q := fun q h => by rw [← hAe]; exact Or.inr h
  have hS : va_S A s.heap s.heap [] := va_S.rf
  have hz : s.heap.size + 0 ≤ s.heap.size := Nat.le_refl _
  have hl := lv_entry ([.ref v0, .int 0, .int (nI n)]) (n := 5) (Nat.le_of_ble_eq_true rfl)
  rw [lg_entry_eq]
  generalize (lg_sl ([.ref v0, .int 0, .int (nI n)]) ++ List.replicate (5 - (lg_sl ([.ref v0, .int 0, .int (nI n)])).length) Slot.unset).toArray = ls at hl ⊢
  have hl : lv_has ls 5 [(0, .ref v0), (1, .int 0), (2, .int (nI n))] := hl
  have hP : va_P (dC, dI) vwCl [(v0, .inl (cB, m, .inl f))] s.heap := hP
  have hD : va_D A [(v0, .inl (cB, m, .inl f))] := hD
  refine lv_iload_n hx hb dJ7_copyOfRangeByte_39247_0 rfl (lv_at hl 1 rfl) ?_
  refine lv_iload_n hx hb dJ7_copyOfRangeByte_39247_1 rfl (lv_at hl 2 rfl) ?_
  have hPc := hP.sub (ws' := []) [] rfl
  have hDc := hD.sub (ws' := []) [] (by decide) rfl
  have hFc := va_free (wc := []) hD hS hA [] rfl
  have hDv := hDc.self (sz := s.heap.size)
  have hpre := zpre (xs' := []) (av := [.int 0, .int (nI n)]) hPc hK (hDc.weaken (fun _ _ _ h => h)) hZ hS hFc (fun r hr => by cases hr)
  refine va_callv (va_runS (As := [.int 0, .int (nI n)]) (rest := []) ⟨hx, hb, hml, hown, hts⟩ (k_chkL l dC dI cI cB cR cO zk n s.heap.size (by omega)) (va_cwS 2 hts gJ7_copyOfRangeByte_39247_J7_checkLength_df160 rfl rfl rfl (by decide +kernel) ⟨Nat.le_of_ble_eq_true rfl, Nat.le_of_ble_eq_true rfl⟩) ⟨zblind, hpre⟩ rfl rfl hl.1 rfl (lv_room (Nat.le_of_ble_eq_true rfl)) dJ7_copyOfRangeByte_39247_2 ⟨Nat.le_of_ble_eq_true rfl, Nat.le_of_ble_eq_true rfl⟩) hS (fun q _ h => hFc q h) hFc (fun u t H1 locs ht hvm hw hB hz1 hk1 hS => ?_)
  obtain ⟨hP1, hK1, hD1, hz2⟩ := hB
  rw [ht] at hP1 hz2
  have hPD9 := va_join (wr := [(v0, .inl (cB, m, .inl f))]) (w1 := []) hP hD [] [0] rfl rfl (by decide) (by decide) hk1 hFc hP1 hD1
  clear hPc hDc hFc hDv hpre hP hD hP1 hK1 hD1
  obtain ⟨hP, hD⟩ := hPD9
  replace hz : s.heap.size + 0 ≤ H1.size := by omega
  clear hz2
  replace hP : va_P (dC, dI) vwCl [(v0, .inl (cB, m, .inl f))] H1 := hP
  replace hD : va_D A [(v0, .inl (cB, m, .inl f))] := hD
  refine W.widen (k := 0) (n := 0) (by omega) (by omega) ?_
  refine lv_iload_n hx hb dJ7_copyOfRangeByte_39247_5 rfl (lv_at hl 2 rfl) ?_
  refine lv_iload_n hx hb dJ7_copyOfRangeByte_39247_6 rfl (lv_at hl 1 rfl) ?_
  refine lv_isub hx hb dJ7_copyOfRangeByte_39247_7 ?_
  refine lv_topi (fun v3 ev3 => ?_)
  obtain rfl : v3 = nI n := ev3.trans (Int32.sub_zero _)
  refine lv_istore_n (lv' := [(3, .int (nI n)), (0, .ref v0), (1, .int 0), (2, .int (nI n))]) hx hb dJ7_copyOfRangeByte_39247_8 rfl hl (by decide) rfl (fun ls hl => ?_)
  refine lv_iload_n hx hb dJ7_copyOfRangeByte_39247_9 rfl (lv_at hl 0 rfl) ?_
  refine zw_newa (atype := .byte) (ty := .byte) (N' := n) hx hb (hts (.arrayClass .byte) (List.mem_cons_of_mem _ zw_170)) rfl (by first | exact Or.inl rfl | exact Or.inr rfl) hK hP hD hS hA 1 rfl (nI_pos (by omega)) (nI_clamp (by omega)) (show n * 1 ≤ 536870912 by omega) (Nat.le_of_ble_eq_true rfl) (show 0 + n ≤ 65536 by omega) dJ7_copyOfRangeByte_39247_10 hz (fun q4 H5 hP hD hS hz => ?_)
  replace hP : va_P (dC, dI) vwCl [(v0, .inl (cB, m, .inl f)), (q4, .inl (cB, n, .inl (fun _ => 0)))] H5 := hP
  replace hD : va_D A [(v0, .inl (cB, m, .inl f)), (q4, .inl (cB, n, .inl (fun _ => 0)))] := hD
  refine W.widen (k := 1) (n := 65536) (by omega) (by omega) ?_
  refine lv_astore (lv' := [(4, .ref q4), (3, .int (nI n)), (0, .ref v0), (1, .int 0), (2, .int (nI n))]) hx hb dJ7_copyOfRangeByte_39247_12 hl (by decide) rfl (fun ls hl => ?_)
  refine lv_aload_n hx hb dJ7_copyOfRangeByte_39247_14 rfl (lv_at hl 2 rfl) ?_
  refine lv_iload_n hx hb dJ7_copyOfRangeByte_39247_15 rfl (lv_at hl 3 rfl) ?_
  refine lv_aload hx hb dJ7_copyOfRangeByte_39247_16 (lv_at hl 0 rfl) ?_
  refine lv_iconst (v := 0) hx hb dJ7_copyOfRangeByte_39247_18 (by decide) ?_
  refine lv_aload_n hx hb dJ7_copyOfRangeByte_39247_19 rfl (lv_at hl 2 rfl) ?_
  refine va_alen (D := (dC, dI)) (cl := vwCl) (v := nI m) hx hb hK hP 0 1 rfl rfl rfl dJ7_copyOfRangeByte_39247_20 ?_
  refine lv_iload_n hx hb dJ7_copyOfRangeByte_39247_21 rfl (lv_at hl 3 rfl) ?_
  refine lv_isub hx hb dJ7_copyOfRangeByte_39247_22 ?_
  refine lv_topi (fun v6 ev6 => ?_)
  obtain rfl : v6 = nI m := ev6.trans (Int32.sub_zero _)
  refine lv_iload_n hx hb dJ7_copyOfRangeByte_39247_23 rfl (lv_at hl 1 rfl) ?_
  refine va_mmin (x := (nI m)) (y := (nI n)) hx hb (hml.trans hl.1.symm) hown (hts (.methodLink RJ7 304 Lib.Math.min.name) (List.mem_cons_of_mem _ zw_288)) (hts (.static Lib.Math.min.name) (List.mem_cons_of_mem _ zw_289)) (hts (.initialized "java/lang/Math") (List.mem_cons_of_mem _ zw_58)) (hts (.code Lib.Math.min.name Lib.Math.min.code 2 (some .int)) (List.mem_cons_of_mem _ zw_290)) (Nat.le_of_ble_eq_true rfl) (Nat.le_of_ble_eq_true rfl) (Nat.le_of_ble_eq_true rfl) (Nat.le_of_ble_eq_true rfl) dJ7_copyOfRangeByte_39247_24 ?_
  refine lv_topi (fun v7 ev7 => ?_)
  obtain rfl : v7 = nI n := ev7.trans (if_pos (nI_lt hnm (by omega)))
  refine va_copyi (D := (dC, dI)) (cl := vwCl) hx hb (hml.trans hl.1.symm) hown (hts (.methodLink RJ7 150 arraycopyName) (List.mem_cons_of_mem _ zw_291)) (hts (.native arraycopyName) (List.mem_cons_of_mem _ zw_293)) (hts (.static arraycopyName) (List.mem_cons_of_mem _ zw_292)) (hts (.initialized "java/lang/System") (List.mem_cons_of_mem _ zw_60)) hK hP hD (zS0 hS) 0 1 1 1 rfl rfl rfl rfl rfl (by decide) (by decide) (nI_pos (by omega)) (by show 0 + (nI n : Int32).toNatClampNeg ≤ m; rw [nI_clamp (n := n) (by omega)]; omega) (by show 0 + (nI n : Int32).toNatClampNeg ≤ n; rw [nI_clamp (n := n) (by omega)]; omega) (fun i _ => hf _) (Nat.le_of_ble_eq_true rfl) (Nat.le_of_ble_eq_true rfl) dJ7_copyOfRangeByte_39247_27 (fun H8 locs hP hD hS1 => ?_)
  have hz : s.heap.size + 1 ≤ H8.size := Nat.le_trans hz hS1.1
  have hS := zSS hS hS1
  rw [nI_clamp (n := n) (by omega)] at hP hD
  replace hP : va_P (dC, dI) vwCl [(v0, .inl (cB, m, .inl f)), (q4, .inl (cB, n, .inl (va_cpy f (fun _ => 0) 0 0 n)))] H8 := hP
  replace hD : va_D A [(v0, .inl (cB, m, .inl f)), (q4, .inl (cB, n, .inl (va_cpy f (fun _ => 0) 0 0 n)))] := hD
  refine lv_aload hx hb dJ7_copyOfRangeByte_39247_30 (lv_at hl 0 rfl) ?_
  have hP9 := hP.sub (ws' := [(v0, .inl (cB, m, .inl f)), (q4, .inl (cB, n, .inl (va_cpy f (fun _ => 0) 0 0 n)))]) [0, 1] rfl
  have hD9 := hD.sub (ws' := [(v0, .inl (cB, m, .inl f)), (q4, .inl (cB, n, .inl (va_cpy f (fun _ => 0) 0 0 n)))]) [0, 1] (by decide) rfl
  exact W.aret hx hb hr (by first | exact Or.inl ⟨_, rfl⟩ | exact Or.inr ⟨_, rfl⟩) (Or.inr ⟨_, rfl⟩) (fun t ht hW => ⟨⟨(), _, rfl, trivial, ⟨by rw [ht]; exact hP9, va_K.moved hW.alike hK, hD9, by rw [ht]; exact hz⟩⟩, hS.F ht⟩) hS.2.2 dJ7_copyOfRangeByte_39247_32

set_option maxHeartbeats 4000000 in
set_option maxRecDepth 100000 in
theorem k_cor (l : Launch) (dC : Nat → ClassId) (dI : Nat → Nat → Nat) (cI cB cR cO : ClassId) (zk : Nat → Nat) (v0 m n : Nat) (f : Nat → Int32) (sz : Nat) (hm : m ≤ 65536) (hnm : n < m) (hf : sb_Fit f) : Met l yJ7_copyOfRange_39247 wsJ7_copyOfRange_39247 ({ frames := 2, cells := 1, slots := 65536, locals := 124 }) (va_Pc [.ref v0, .int 0, .int (nI n)] (zPre (dC, dI) (zT cI cB cR cO) zk [] [(v0, .inl (cB, m, .inl f))] sz)) (va_Qr (fun _ : Unit => True) (fun _ ra t => zEnd (dC, dI) (zT cI cB cR cO) (va_A [(v0, .inl (cB, m, .inl f))] sz) [(v0, .inl (cB, m, .inl f)), (ra, .inl (cB, n, .inl (va_cpy f (fun _ => 0) 0 0 n)))] sz 1 t) (va_A [(v0, .inl (cB, m, .inl f))] sz)) 1 65536 (va_A [(v0, .inl (cB, m, .inl f))] sz) := by
  refine Met.ofW (cc := cJ7_copyOfRange_39247) (maxL := 3) (ret := (some (.array .byte))) (by decide) rfl ?_
  intro p e s mY args below meth c s₁ B hml hv
  obtain ⟨rfl, hsz, hP, hK, hD0, hZ⟩ := hv
  have hx := B.exec
  have hb := B.bytes
  have hr := B.returns
  have hts := atoms_spec (ws := wsJ7_copyOfRange_39247) B.pre
  have hown : s.vm.findClass RJ7 = some mY.cls := findClass_of_methodNamed B.named
  have hlocks := B.notSynchronized
  subst hsz
  have hD := hD0.self (sz := s.heap.size)
  generalize hAe : va_A [(v0, .inl (cB, m, .inl f))] s.heap.size = A at hD hZ ⊢
  have hA : ∀ q : Nat, s.heap.size ≤ q → A q := fun q h => by rw [← hAe]; exact Or.inr h
  have hS : va_S A s.heap s.heap [] := va_S.rf
  have hz : s.heap.size + 0 ≤ s.heap.size := Nat.le_refl _
  have hl := lv_entry ([.ref v0, .int 0, .int (nI n)]) (n := 3) (Nat.le_of_ble_eq_true rfl)
  rw [lg_entry_eq]
  generalize (lg_sl ([.ref v0, .int 0, .int (nI n)]) ++ List.replicate (3 - (lg_sl ([.ref v0, .int 0, .int (nI n)])).length) Slot.unset).toArray = ls at hl ⊢
  have hl : lv_has ls 3 [(0, .ref v0), (1, .int 0), (2, .int (nI n))] := hl
  have hP : va_P (dC, dI) vwCl [(v0, .inl (cB, m, .inl f))] s.heap := hP
  have hD : va_D A [(v0, .inl (cB, m, .inl f))] := hD
  refine lv_iload_n hx hb dJ7_copyOfRange_39247_0 rfl (lv_at hl 1 rfl) ?_
  refine lv_if_ne (tgt := 10) hx hb dJ7_copyOfRange_39247_1 (by decide) (fun c9 => ?_) (fun c9 => ?_)
  · exact absurd (by decide) c9
  refine lv_iload_n hx hb dJ7_copyOfRange_39247_4 rfl (lv_at hl 2 rfl) ?_
  refine lv_aload_n hx hb dJ7_copyOfRange_39247_5 rfl (lv_at hl 0 rfl) ?_
  refine va_alen (D := (dC, dI)) (cl := vwCl) (v := nI m) hx hb hK hP 0 1 rfl rfl rfl dJ7_copyOfRange_39247_6 ?_
  refine lv_icmp_eq (tgt := 17) hx hb dJ7_copyOfRange_39247_7 (by decide) (fun c9 => ?_) (fun c9 => ?_)
  · exact absurd c9 (fun e9 => absurd ((nI_eq (by omega) (by omega)).mp e9) (by omega))
  refine lv_aload_n hx hb dJ7_copyOfRange_39247_10 rfl (lv_at hl 0 rfl) ?_
  refine lv_iload_n hx hb dJ7_copyOfRange_39247_11 rfl (lv_at hl 1 rfl) ?_
  refine lv_iload_n hx hb dJ7_copyOfRange_39247_12 rfl (lv_at hl 2 rfl) ?_
  have hPc := hP.sub (ws' := [(v0, .inl (cB, m, .inl f))]) [0] rfl
  have hDc := hD.sub (ws' := [(v0, .inl (cB, m, .inl f))]) [0] (by decide) rfl
  have hFc := va_free (wc := [(v0, .inl (cB, m, .inl f))]) hD hS hA [0] rfl
  have hDv := hDc.self (sz := s.heap.size)
  have hpre := zpre (xs' := []) (av := [.ref v0, .int 0, .int (nI n)]) hPc hK (hDc.weaken (fun _ _ _ h => h)) hZ hS hFc (fun r hr => by cases hr)
  refine va_callr (va_runS (As := [.ref v0, .int 0, .int (nI n)]) (rest := []) ⟨hx, hb, hml, hown, hts⟩ (k_corB l dC dI cI cB cR cO zk v0 m n f s.heap.size hm hnm hf) (va_cwS 3 hts gJ7_copyOfRange_39247_J7_copyOfRangeByte_39247 rfl rfl rfl (by decide +kernel) ⟨Nat.le_of_ble_eq_true rfl, Nat.le_of_ble_eq_true rfl⟩) ⟨zblind, hpre⟩ rfl rfl hl.1 rfl (lv_room (Nat.le_of_ble_eq_true rfl)) dJ7_copyOfRange_39247_13 ⟨Nat.le_of_ble_eq_true rfl, Nat.le_of_ble_eq_true rfl⟩) hS (fun q _ h => hFc q h) hFc (fun u r2 t H1 locs ht hvm hw hB hz1 hk1 hS => ?_)
  obtain ⟨hP1, hK1, hD1, hz2⟩ := hB
  rw [ht] at hP1 hz2
  have hPD9 := va_join (wr := []) (w1 := [(v0, .inl (cB, m, .inl f)), (r2, .inl (cB, n, .inl (va_cpy f (fun _ => 0) 0 0 n)))]) hP hD [0] [] rfl rfl (by decide) (by decide) hk1 hFc hP1 hD1
  clear hPc hDc hFc hDv hpre hP hD hP1 hK1 hD1
  obtain ⟨hP, hD⟩ := hPD9
  replace hz : s.heap.size + 1 ≤ H1.size := by omega
  clear hz2
  replace hP : va_P (dC, dI) vwCl [(v0, .inl (cB, m, .inl f)), (r2, .inl (cB, n, .inl (va_cpy f (fun _ => 0) 0 0 n)))] H1 := hP
  replace hD : va_D A [(v0, .inl (cB, m, .inl f)), (r2, .inl (cB, n, .inl (va_cpy f (fun _ => 0) 0 0 n)))] := hD
  refine W.widen (k := 1) (n := 65536) (by omega) (by omega) ?_
  have hP9 := hP.sub (ws' := [(v0, .inl (cB, m, .inl f)), (r2, .inl (cB, n, .inl (va_cpy f (fun _ => 0) 0 0 n)))]) [0, 1] rfl
  have hD9 := hD.sub (ws' := [(v0, .inl (cB, m, .inl f)), (r2, .inl (cB, n, .inl (va_cpy f (fun _ => 0) 0 0 n)))]) [0, 1] (by decide) rfl
  exact W.aret hx hb hr (by first | exact Or.inl ⟨_, rfl⟩ | exact Or.inr ⟨_, rfl⟩) (Or.inr ⟨_, rfl⟩) (fun t ht hW => ⟨⟨(), _, rfl, trivial, ⟨by rw [ht]; exact hP9, va_K.moved hW.alike hK, hD9, by rw [ht]; exact hz⟩⟩, hS.F ht⟩) hS.2.2 dJ7_copyOfRange_39247_16

set_option maxHeartbeats 4000000 in
set_option maxRecDepth 100000 in
theorem k_corC (l : Launch) (dC : Nat → ClassId) (dI : Nat → Nat → Nat) (cI cB cR cO : ClassId) (zk : Nat → Nat) (v0 m : Nat) (f : Nat → Int32) (sz : Nat) (hm : m ≤ 65536) (hf : sb_Fit f) : Met l yJ7_copyOfRange_39247 wsJ7_copyOfRange_39247 ({ frames := 1, cells := 1, slots := 65536, locals := 60 }) (va_Pc [.ref v0, .int 0, .int (nI m)] (zPre (dC, dI) (zT cI cB cR cO) zk [] [(v0, .inl (cB, m, .inl f))] sz)) (va_Qr (fun _ : Unit => True) (fun _ ra t => zEnd (dC, dI) (zT cI cB cR cO) (va_A [(v0, .inl (cB, m, .inl f))] sz) [(v0, .inl (cB, m, .inl f)), (ra, .inl (cB, m, .inl f))] sz 1 t) (va_A [(v0, .inl (cB, m, .inl f))] sz)) 1 65536 (va_A [(v0, .inl (cB, m, .inl f))] sz) := by
  refine Met.ofW (cc := cJ7_copyOfRange_39247) (maxL := 3) (ret := (some (.array .byte))) (by decide) rfl ?_
  intro p e s mY args below meth c s₁ B hml hv
  obtain ⟨rfl, hsz, hP, hK, hD0, hZ⟩ := hv
  have hx := B.exec
  have hb := B.bytes
  have hr := B.returns
  have hts := atoms_spec (ws := wsJ7_copyOfRange_39247) B.pre
  have hown : s.vm.findClass RJ7 = some mY.cls := findClass_of_methodNamed B.named
  have hlocks := B.notSynchronized
  subst hsz
  have hD := hD0.self (sz := s.heap.size)
  generalize hAe : va_A [(v0, .inl (cB, m, .inl f))] s.heap.size = A at hD hZ ⊢
  have hA : ∀ q : Nat, s.heap.size ≤ q → A q := fun q h => by rw [← hAe]; exact Or.inr h
  have hS : va_S A s.heap s.heap [] := va_S.rf
  have hz : s.heap.size + 0 ≤ s.heap.size := Nat.le_refl _
  have hl := lv_entry ([.ref v0, .int 0, .int (nI m)]) (n := 3) (Nat.le_of_ble_eq_true rfl)
  rw [lg_entry_eq]
  generalize (lg_sl ([.ref v0, .int 0, .int (nI m)]) ++ List.replicate (3 - (lg_sl ([.ref v0, .int 0, .int (nI m)])).length) Slot.unset).toArray = ls at hl ⊢
  have hl : lv_has ls 3 [(0, .ref v0), (1, .int 0), (2, .int (nI m))] := hl
  have hP : va_P (dC, dI) vwCl [(v0, .inl (cB, m, .inl f))] s.heap := hP
  have hD : va_D A [(v0, .inl (cB, m, .inl f))] := hD
  refine lv_iload_n hx hb dJ7_copyOfRange_39247_0 rfl (lv_at hl 1 rfl) ?_
  refine lv_if_ne (tgt := 10) hx hb dJ7_copyOfRange_39247_1 (by decide) (fun c9 => ?_) (fun c9 => ?_)
  · exact absurd (by decide) c9
  refine lv_iload_n hx hb dJ7_copyOfRange_39247_4 rfl (lv_at hl 2 rfl) ?_
  refine lv_aload_n hx hb dJ7_copyOfRange_39247_5 rfl (lv_at hl 0 rfl) ?_
  refine va_alen (D := (dC, dI)) (cl := vwCl) (v := nI m) hx hb hK hP 0 1 rfl rfl rfl dJ7_copyOfRange_39247_6 ?_
  refine lv_icmp_eq (tgt := 17) hx hb dJ7_copyOfRange_39247_7 (by decide) (fun c9 => ?_) (fun c9 => ?_)
  rotate_left
  · exact absurd (rfl) c9
  refine lv_aload_n hx hb dJ7_copyOfRange_39247_17 rfl (lv_at hl 0 rfl) ?_
  have hnmB : s.vm.findClass "[B" = some cB := (hK.2 1 _ rfl).2
  refine va_clone (D := (dC, dI)) (cl := vwCl) (ad := "[B") hx hb (hml.trans hl.1.symm) hown (hts (.methodLink RJ7 310 ⟨"[B", "clone", "()Ljava/lang/Object;"⟩) (List.mem_cons_of_mem _ zw_281)) (hts (.sameMethod "[B" "java/lang/Object" "clone" "()Ljava/lang/Object;") (List.mem_cons_of_mem _ zw_282)) (hts (.native ⟨"java/lang/Object", "clone", "()Ljava/lang/Object;"⟩) (List.mem_cons_of_mem _ zw_283)) (hts (.instanceMethod ⟨"java/lang/Object", "clone", "()Ljava/lang/Object;"⟩) (List.mem_cons_of_mem _ zw_284)) (hts (.selects "[B" ⟨"[B", "clone", "()Ljava/lang/Object;"⟩ ⟨"java/lang/Object", "clone", "()Ljava/lang/Object;"⟩) (List.mem_cons_of_mem _ zw_285)) (zt0 hZ) hK hP hD hS hA 0 1 rfl rfl hnmB (zfitcell hf) (Nat.le_of_ble_eq_true rfl) (Nat.le_of_ble_eq_true rfl) (Nat.le_of_ble_eq_true rfl) (show 0 + m ≤ 65536 by omega) dJ7_copyOfRange_39247_18 (fun q1 H1 hK2 hP hD hS => ?_)
  replace hP : va_P (dC, dI) vwCl [(v0, .inl (cB, m, .inl f)), (q1, .inl (cB, m, .inl f))] H1 := hP
  replace hD : va_D A [(v0, .inl (cB, m, .inl f)), (q1, .inl (cB, m, .inl f))] := hD
  have hz : s.heap.size + 1 ≤ H1.size := by
    have hq1 : A q1 := hD.2 1 _ rfl
    have hq2 := (hP 1 _ rfl).lt
    rw [← hAe] at hq1
    rcases hq1 with ⟨k, e9, h9⟩ | h9
    · match k, h9 with
      | 0, h9 =>
        have h8 : v0 = q1 := congrArg Prod.fst (Option.some.inj h9)
        exact absurd (hD.1 0 1 _ _ rfl rfl h8) (by decide)
      | k + 1, h9 => simp at h9
    · exact Nat.lt_of_le_of_lt h9 hq2
  refine W.widen (k := 1) (n := 65536) (by omega) (by omega) ?_
  refine va_castA hx hb hown (hts (.classLink RJ7 311 "[B") (List.mem_cons_of_mem _ zw_287)) hP 1 rfl hnmB dJ7_copyOfRange_39247_21 ?_
  have hP9 := hP.sub (ws' := [(v0, .inl (cB, m, .inl f)), (q1, .inl (cB, m, .inl f))]) [0, 1] rfl
  have hD9 := hD.sub (ws' := [(v0, .inl (cB, m, .inl f)), (q1, .inl (cB, m, .inl f))]) [0, 1] (by decide) rfl
  exact W.aret hx hb hr (by first | exact Or.inl ⟨_, rfl⟩ | exact Or.inr ⟨_, rfl⟩) (Or.inr ⟨_, rfl⟩) (fun t ht hW => ⟨⟨(), _, rfl, trivial, ⟨by rw [ht]; exact hP9, va_K.moved hW.alike hK, hD9, by rw [ht]; exact hz⟩⟩, hS.F ht⟩) hS.2.2 dJ7_copyOfRange_39247_24

theorem hi_J0_init_db425_J0 : ∀ w ∈ u_ws RJ0 TJ0 4, w ∈ wsJ0_init_db425 := fun w h => List.mem_cons_of_mem _ (zhi_J0 w h)
set_option maxHeartbeats 4000000 in
set_option maxRecDepth 100000 in
theorem k_sinA (l : Launch) (dC : Nat → ClassId) (dI : Nat → Nat → Nat) (cI cB cR cO : ClassId) (zk : Nat → Nat) (k0 h0 v0 m n : Nat) (f : Nat → Int32) (ml : Value) (sz : Nat) (hm : m ≤ 65536) (hnm : n < m) (hf : sb_Fit f) : Met l yJ0_init_db425 wsJ0_init_db425 ({ frames := 3, cells := 1, slots := 65536, locals := 146 }) (va_Pc [.ref k0, .ref h0, .null] (zPre (dC, dI) (zT cI cB cR cO) zk [] [(k0, .inr (0, [.null, .int 0, .int 0, .int 0])), (h0, .inr (1, [.ref v0, .int 0, ml, .int (nI n)])), (v0, .inl (cB, m, .inl f))] sz)) (va_Qv (fun _ : Unit => True) (fun _ t => ∃ b0, zEnd (dC, dI) (zT cI cB cR cO) (va_A [(k0, .inr (0, [.null, .int 0, .int 0, .int 0])), (h0, .inr (1, [.ref v0, .int 0, ml, .int (nI n)])), (v0, .inl (cB, m, .inl f))] sz) [(k0, .inr (0, [.ref b0, .int 0, .int 0, .int 0])), (b0, .inl (cB, n, .inl (va_cpy f (fun _ => 0) 0 0 n))), (h0, .inr (1, [.ref v0, .int 0, ml, .int (nI n)])), (v0, .inl (cB, m, .inl f))] sz 1 t) (va_A [(k0, .inr (0, [.null, .int 0, .int 0, .int 0])), (h0, .inr (1, [.ref v0, .int 0, ml, .int (nI n)])), (v0, .inl (cB, m, .inl f))] sz)) 1 65536 (va_A [(k0, .inr (0, [.null, .int 0, .int 0, .int 0])), (h0, .inr (1, [.ref v0, .int 0, ml, .int (nI n)])), (v0, .inl (cB, m, .inl f))] sz) := by
  refine Met.ofW (cc := cJ0_init_db425) (maxL := 5) (ret := none) (by decide) rfl ?_
  intro p e s mY args below meth c s₁ B hml hv
  obtain ⟨rfl, hsz, hP, hK, hD0, hZ⟩ := hv
  have hx := B.exec
  have hb := B.bytes
  have hr := B.returns
  have hts := atoms_spec (ws := wsJ0_init_db425) B.pre
  have hown : s.vm.findClass RJ0 = some mY.cls := findClass_of_methodNamed B.named
  have hlocks := B.notSynchronized
  have hin : meth.name = "<init>" := (name_of_methodNamed B.named B.method).1
  subst hsz
  have hD := hD0.self (sz := s.heap.size)
  generalize hAe : va_A [(k0, .inr (0, [.null, .int 0, .int 0, .int 0])), (h0, .inr (1, [.ref v0, .int 0, ml, .int (nI n)])), (v0, .inl (cB, m, .inl f))] s.heap.size = A at hD hZ ⊢
  have hA : ∀ q : Nat, s.heap.size ≤ q → A q := fun q h => by rw [← hAe]; exact Or.inr h
  have hS : va_S A s.heap s.heap [] := va_S.rf
  have hz : s.heap.size + 0 ≤ s.heap.size := Nat.le_refl _
  have hl := lv_entry ([.ref k0, .ref h0, .null]) (n := 5) (Nat.le_of_ble_eq_true rfl)
  rw [lg_entry_eq]
  generalize (lg_sl ([.ref k0, .ref h0, .null]) ++ List.replicate (5 - (lg_sl ([.ref k0, .ref h0, .null])).length) Slot.unset).toArray = ls at hl ⊢
  have hl : lv_has ls 5 [(0, .ref k0), (1, .ref h0), (2, .null)] := hl
  have hP : va_P (dC, dI) vwCl [(k0, .inr (0, [.null, .int 0, .int 0, .int 0])), (h0, .inr (1, [.ref v0, .int 0, ml, .int (nI n)])), (v0, .inl (cB, m, .inl f))] s.heap := hP
  have hD : va_D A [(k0, .inr (0, [.null, .int 0, .int 0, .int 0])), (h0, .inr (1, [.ref v0, .int 0, ml, .int (nI n)])), (v0, .inl (cB, m, .inl f))] := hD
  refine lv_aload_n hx hb dJ0_init_db425_0 rfl (lv_at hl 0 rfl) ?_
  refine W.objInit hx hb hown (hts (.methodLink RJ0 1 objectInit) (List.mem_cons_of_mem _ zw_405)) (hts (.instanceMethod objectInit) (List.mem_cons_of_mem _ zw_77)) (hts (.code objectInit ⟨#[0xb1]⟩ 1 none) (List.mem_cons_of_mem _ zw_78)) rfl (by rw [hml]; exact hl.1) rfl dJ0_init_db425_1 (Nat.le_of_ble_eq_true rfl) (Nat.le_of_ble_eq_true rfl) ?_
  refine W.eq (g2 := F0 mY 4 ls []) rfl ?_
  refine lv_aload_n hx hb dJ0_init_db425_4 rfl (lv_at hl 1 rfl) ?_
  have hPc := hP.sub (ws' := [(h0, .inr (1, [.ref v0, .int 0, ml, .int (nI n)]))]) [1] rfl
  have hDc := hD.sub (ws' := [(h0, .inr (1, [.ref v0, .int 0, ml, .int (nI n)]))]) [1] (by decide) rfl
  have hFc := va_free (wc := [(h0, .inr (1, [.ref v0, .int 0, ml, .int (nI n)]))]) hD hS hA [1] rfl
  have hDv := hDc.self (sz := s.heap.size)
  have hpre := zpre (xs' := []) (av := [.ref h0]) hPc hK (hDc.weaken (fun _ _ _ h => h)) hZ hS hFc (fun r hr => by cases hr)
  refine va_callr (va_runU (As := []) (rest := []) ⟨hx, hb, hml, hown, hts⟩ (k_getV l dC dI cI cB cR cO zk h0 v0 ml (.int (nI n)) s.heap.size ) (va_cwU 0 hts gJ0_init_db425_J5_getValue_6d5f1_u552J4 rfl rfl rfl rfl (by decide +kernel) ⟨Nat.le_of_ble_eq_true rfl, Nat.le_of_ble_eq_true rfl⟩) ⟨zblind, (zrecv_1 hK hPc (q0 := 0) rfl), hpre⟩ rfl rfl hl.1 rfl (lv_room (Nat.le_of_ble_eq_true rfl)) dJ0_init_db425_5 ⟨Nat.le_of_ble_eq_true rfl, Nat.le_of_ble_eq_true rfl⟩) hS (fun q _ h => hFc q h) hFc (fun u r2 t H1 locs ht hvm hw hB hz1 hk1 hS => ?_)
  obtain ⟨⟨hP1, hK1, hD1, hz2⟩, her2⟩ := hB
  rw [ht] at hP1 hz2
  have hPD9 := va_join (wr := [(k0, .inr (0, [.null, .int 0, .int 0, .int 0])), (v0, .inl (cB, m, .inl f))]) (w1 := [(h0, .inr (1, [.ref v0, .int 0, ml, .int (nI n)]))]) hP hD [1] [0, 2] rfl rfl (by decide) (by decide) hk1 hFc hP1 hD1
  clear hPc hDc hFc hDv hpre hP hD hP1 hK1 hD1
  obtain ⟨hP, hD⟩ := hPD9
  replace hz : s.heap.size + 0 ≤ H1.size := by omega
  clear hz2
  replace hP : va_P (dC, dI) vwCl [(k0, .inr (0, [.null, .int 0, .int 0, .int 0])), (v0, .inl (cB, m, .inl f)), (h0, .inr (1, [.ref v0, .int 0, ml, .int (nI n)]))] H1 := hP
  replace hD : va_D A [(k0, .inr (0, [.null, .int 0, .int 0, .int 0])), (v0, .inl (cB, m, .inl f)), (h0, .inr (1, [.ref v0, .int 0, ml, .int (nI n)]))] := hD
  refine W.widen (k := 0) (n := 0) (by omega) (by omega) ?_
  obtain rfl := her2.symm
  refine lv_astore_n (lv' := [(3, .ref v0), (0, .ref k0), (1, .ref h0), (2, .null)]) hx hb dJ0_init_db425_8 rfl hl (by decide) rfl (fun ls hl => ?_)
  refine lv_aload_n hx hb dJ0_init_db425_9 rfl (lv_at hl 2 rfl) ?_
  have hPc := hP.sub (ws' := [(h0, .inr (1, [.ref v0, .int 0, ml, .int (nI n)]))]) [2] rfl
  have hDc := hD.sub (ws' := [(h0, .inr (1, [.ref v0, .int 0, ml, .int (nI n)]))]) [2] (by decide) rfl
  have hFc := va_free (wc := [(h0, .inr (1, [.ref v0, .int 0, ml, .int (nI n)]))]) hD hS hA [2] rfl
  have hDv := hDc.self (sz := H1.size)
  have hpre := zpre (xs' := []) (av := [.ref h0]) hPc hK (hDc.weaken (fun _ _ _ h => h)) hZ hS hFc (fun r hr => by cases hr)
  refine va_calli (va_runU (As := []) (rest := []) ⟨hx, hb, hml, hown, hts⟩ (k_len4 l dC dI cI cB cR cO zk h0 v0 ml (nI n) H1.size ) (va_cwO 0 hts gJ0_init_db425_J4_length_8abf5_u549J4 rfl rfl rfl (b0 := cJ5_length_8abf5) (m0 := 1) (r0 := (some .int)) (List.mem_cons_of_mem _ zw_418) (by decide +kernel) ⟨Nat.le_of_ble_eq_true rfl, Nat.le_of_ble_eq_true rfl⟩) ⟨zblind, (zrecv_1 hK hPc (q0 := 0) rfl), hpre⟩ rfl rfl hl.1 rfl (lv_room (Nat.le_of_ble_eq_true rfl)) dJ0_init_db425_10 ⟨Nat.le_of_ble_eq_true rfl, Nat.le_of_ble_eq_true rfl⟩) hS (fun q _ h => hFc q h) hFc (fun r4 u t H3 locs ht hvm hw hB hz1 hk1 hS => ?_)
  obtain rfl : (nI n) = r4 := (show r4 = (nI n) from hw).symm
  obtain ⟨hP1, hK1, hD1, hz2⟩ := hB
  rw [ht] at hP1 hz2
  have hPD9 := va_join (wr := [(k0, .inr (0, [.null, .int 0, .int 0, .int 0])), (v0, .inl (cB, m, .inl f))]) (w1 := [(h0, .inr (1, [.ref v0, .int 0, ml, .int (nI n)]))]) hP hD [2] [0, 1] rfl rfl (by decide) (by decide) hk1 hFc hP1 hD1
  clear hPc hDc hFc hDv hpre hP hD hP1 hK1 hD1
  obtain ⟨hP, hD⟩ := hPD9
  replace hz : s.heap.size + 0 ≤ H3.size := by omega
  clear hz2
  replace hP : va_P (dC, dI) vwCl [(k0, .inr (0, [.null, .int 0, .int 0, .int 0])), (v0, .inl (cB, m, .inl f)), (h0, .inr (1, [.ref v0, .int 0, ml, .int (nI n)]))] H3 := hP
  replace hD : va_D A [(k0, .inr (0, [.null, .int 0, .int 0, .int 0])), (v0, .inl (cB, m, .inl f)), (h0, .inr (1, [.ref v0, .int 0, ml, .int (nI n)]))] := hD
  refine W.widen (k := 0) (n := 0) (by omega) (by omega) ?_
  refine lv_istore (lv' := [(4, .int (nI n)), (3, .ref v0), (0, .ref k0), (1, .ref h0), (2, .null)]) hx hb dJ0_init_db425_13 hl (by decide) rfl (fun ls hl => ?_)
  refine lv_aload_n hx hb dJ0_init_db425_15 rfl (lv_at hl 3 rfl) ?_
  have hPc := hP.sub (ws' := [(h0, .inr (1, [.ref v0, .int 0, ml, .int (nI n)]))]) [2] rfl
  have hDc := hD.sub (ws' := [(h0, .inr (1, [.ref v0, .int 0, ml, .int (nI n)]))]) [2] (by decide) rfl
  have hFc := va_free (wc := [(h0, .inr (1, [.ref v0, .int 0, ml, .int (nI n)]))]) hD hS hA [2] rfl
  have hDv := hDc.self (sz := H3.size)
  have hpre := zpre (xs' := []) (av := [.ref h0]) hPc hK (hDc.weaken (fun _ _ _ h => h)) hZ hS hFc (fun r hr => by cases hr)
  refine va_calli (va_runU (As := []) (rest := []) ⟨hx, hb, hml, hown, hts⟩ (k_isLat5 l dC dI cI cB cR cO zk h0 v0 ml (.int (nI n)) H3.size ) (va_cwU 0 hts gJ0_init_db425_J5_isLatin1_aae02_u1047J4 rfl rfl rfl rfl (by decide +kernel) ⟨Nat.le_of_ble_eq_true rfl, Nat.le_of_ble_eq_true rfl⟩) ⟨zblind, (zrecv_1 hK hPc (q0 := 0) rfl), hpre⟩ rfl rfl hl.1 rfl (lv_room (Nat.le_of_ble_eq_true rfl)) dJ0_init_db425_16 ⟨Nat.le_of_ble_eq_true rfl, Nat.le_of_ble_eq_true rfl⟩) hS (fun q _ h => hFc q h) hFc (fun r6 u t H5 locs ht hvm hw hB hz1 hk1 hS => ?_)
  obtain rfl : 1 = r6 := (show r6 = 1 from hw).symm
  obtain ⟨hP1, hK1, hD1, hz2⟩ := hB
  rw [ht] at hP1 hz2
  have hPD9 := va_join (wr := [(k0, .inr (0, [.null, .int 0, .int 0, .int 0])), (v0, .inl (cB, m, .inl f))]) (w1 := [(h0, .inr (1, [.ref v0, .int 0, ml, .int (nI n)]))]) hP hD [2] [0, 1] rfl rfl (by decide) (by decide) hk1 hFc hP1 hD1
  clear hPc hDc hFc hDv hpre hP hD hP1 hK1 hD1
  obtain ⟨hP, hD⟩ := hPD9
  replace hz : s.heap.size + 0 ≤ H5.size := by omega
  clear hz2
  replace hP : va_P (dC, dI) vwCl [(k0, .inr (0, [.null, .int 0, .int 0, .int 0])), (v0, .inl (cB, m, .inl f)), (h0, .inr (1, [.ref v0, .int 0, ml, .int (nI n)]))] H5 := hP
  replace hD : va_D A [(k0, .inr (0, [.null, .int 0, .int 0, .int 0])), (v0, .inl (cB, m, .inl f)), (h0, .inr (1, [.ref v0, .int 0, ml, .int (nI n)]))] := hD
  refine W.widen (k := 0) (n := 0) (by omega) (by omega) ?_
  refine lv_if_eq (tgt := 41) hx hb dJ0_init_db425_19 (by decide) (fun c9 => ?_) (fun c9 => ?_)
  · exact absurd c9 (by decide)
  refine lv_aload_n hx hb dJ0_init_db425_22 rfl (lv_at hl 2 rfl) ?_
  refine lv_iconst (v := 0) hx hb dJ0_init_db425_23 (by decide) ?_
  refine va_putF (D := (dC, dI)) (ci := 0) (v := .int 0) (ty := .byte) (C := RJ0) (T := TJ0) (N := 4) hx hb hts hi_J0_init_db425_J0 tyJ0 tyJ0_ok nmJ0 hown hK hP hD (zS0 hS) 0 rfl rfl 1 (by decide) (hts (.fieldLink RJ0 15 "java/lang/String" "coder" "B") (List.mem_cons_of_mem _ zw_517)) (fun _ h9 => h9) rfl hin rfl (by decide +kernel) rfl rfl (Nat.le_of_ble_eq_true rfl) dJ0_init_db425_24 (fun H7 locs hP hD hS1 => ?_)
  have hz : s.heap.size + 0 ≤ H7.size := Nat.le_trans hz hS1.1
  have hS := zSS hS hS1
  replace hP : va_P (dC, dI) vwCl [(k0, .inr (0, [.null, .int 0, .int 0, .int 0])), (v0, .inl (cB, m, .inl f)), (h0, .inr (1, [.ref v0, .int 0, ml, .int (nI n)]))] H7 := hP
  replace hD : va_D A [(k0, .inr (0, [.null, .int 0, .int 0, .int 0])), (v0, .inl (cB, m, .inl f)), (h0, .inr (1, [.ref v0, .int 0, ml, .int (nI n)]))] := hD
  refine lv_aload_n hx hb dJ0_init_db425_27 rfl (lv_at hl 2 rfl) ?_
  refine lv_aload_n hx hb dJ0_init_db425_28 rfl (lv_at hl 1 rfl) ?_
  refine lv_iconst (v := 0) hx hb dJ0_init_db425_29 (by decide) ?_
  refine lv_iload hx hb dJ0_init_db425_30 (lv_at hl 0 rfl) ?_
  have hPc := hP.sub (ws' := [(v0, .inl (cB, m, .inl f))]) [1] rfl
  have hDc := hD.sub (ws' := [(v0, .inl (cB, m, .inl f))]) [1] (by decide) rfl
  have hFc := va_free (wc := [(v0, .inl (cB, m, .inl f))]) hD hS hA [1] rfl
  have hDv := hDc.self (sz := H7.size)
  have hpre := zpre (xs' := []) (av := [.ref v0, .int 0, .int (nI n)]) hPc hK (hDc.weaken (fun _ _ _ h => h)) hZ hS hFc (fun r hr => by cases hr)
  refine va_callr (va_runS (As := [.ref v0, .int 0, .int (nI n)]) (rest := [.ref k0]) ⟨hx, hb, hml, hown, hts⟩ (k_cor l dC dI cI cB cR cO zk v0 m n f H7.size hm hnm hf) (va_cwS 3 hts gJ0_init_db425_J7_copyOfRange_39247 rfl rfl rfl (by decide +kernel) ⟨Nat.le_of_ble_eq_true rfl, Nat.le_of_ble_eq_true rfl⟩) ⟨zblind, hpre⟩ rfl rfl hl.1 rfl (lv_room (Nat.le_of_ble_eq_true rfl)) dJ0_init_db425_32 ⟨Nat.le_of_ble_eq_true rfl, Nat.le_of_ble_eq_true rfl⟩) hS (fun q _ h => hFc q h) hFc (fun u r9 t H8 locs ht hvm hw hB hz1 hk1 hS => ?_)
  obtain ⟨hP1, hK1, hD1, hz2⟩ := hB
  rw [ht] at hP1 hz2
  have hPD9 := va_join (wr := [(k0, .inr (0, [.null, .int 0, .int 0, .int 0])), (h0, .inr (1, [.ref v0, .int 0, ml, .int (nI n)]))]) (w1 := [(v0, .inl (cB, m, .inl f)), (r9, .inl (cB, n, .inl (va_cpy f (fun _ => 0) 0 0 n)))]) hP hD [1] [0, 2] rfl rfl (by decide) (by decide) hk1 hFc hP1 hD1
  clear hPc hDc hFc hDv hpre hP hD hP1 hK1 hD1
  obtain ⟨hP, hD⟩ := hPD9
  replace hz : s.heap.size + 1 ≤ H8.size := by omega
  clear hz2
  replace hP : va_P (dC, dI) vwCl [(k0, .inr (0, [.null, .int 0, .int 0, .int 0])), (h0, .inr (1, [.ref v0, .int 0, ml, .int (nI n)])), (v0, .inl (cB, m, .inl f)), (r9, .inl (cB, n, .inl (va_cpy f (fun _ => 0) 0 0 n)))] H8 := hP
  replace hD : va_D A [(k0, .inr (0, [.null, .int 0, .int 0, .int 0])), (h0, .inr (1, [.ref v0, .int 0, ml, .int (nI n)])), (v0, .inl (cB, m, .inl f)), (r9, .inl (cB, n, .inl (va_cpy f (fun _ => 0) 0 0 n)))] := hD
  refine W.widen (k := 1) (n := 65536) (by omega) (by omega) ?_
  refine va_putF (D := (dC, dI)) (ci := 0) (v := .ref r9) (ty := .array .byte) (C := RJ0) (T := TJ0) (N := 4) hx hb hts hi_J0_init_db425_J0 tyJ0 tyJ0_ok nmJ0 hown hK hP hD (zS0 hS) 0 rfl rfl 0 (by decide) (hts (.fieldLink RJ0 9 "java/lang/String" "value" "[B") (List.mem_cons_of_mem _ zw_516)) (fun _ h9 => h9) rfl hin rfl (by decide +kernel) rfl rfl (Nat.le_of_ble_eq_true rfl) dJ0_init_db425_35 (fun H10 locs hP hD hS1 => ?_)
  have hz : s.heap.size + 1 ≤ H10.size := Nat.le_trans hz hS1.1
  have hS := zSS hS hS1
  replace hP : va_P (dC, dI) vwCl [(k0, .inr (0, [.ref r9, .int 0, .int 0, .int 0])), (h0, .inr (1, [.ref v0, .int 0, ml, .int (nI n)])), (v0, .inl (cB, m, .inl f)), (r9, .inl (cB, n, .inl (va_cpy f (fun _ => 0) 0 0 n)))] H10 := hP
  replace hD : va_D A [(k0, .inr (0, [.ref r9, .int 0, .int 0, .int 0])), (h0, .inr (1, [.ref v0, .int 0, ml, .int (nI n)])), (v0, .inl (cB, m, .inl f)), (r9, .inl (cB, n, .inl (va_cpy f (fun _ => 0) 0 0 n)))] := hD
  refine lv_goto (tgt := 97) hx hb dJ0_init_db425_38 (by decide) ?_
  have hP9 := hP.sub (ws' := [(k0, .inr (0, [.ref r9, .int 0, .int 0, .int 0])), (r9, .inl (cB, n, .inl (va_cpy f (fun _ => 0) 0 0 n))), (h0, .inr (1, [.ref v0, .int 0, ml, .int (nI n)])), (v0, .inl (cB, m, .inl f))]) [0, 3, 1, 2] rfl
  have hD9 := hD.sub (ws' := [(k0, .inr (0, [.ref r9, .int 0, .int 0, .int 0])), (r9, .inl (cB, n, .inl (va_cpy f (fun _ => 0) 0 0 n))), (h0, .inr (1, [.ref v0, .int 0, ml, .int (nI n)])), (v0, .inl (cB, m, .inl f))]) [0, 3, 1, 2] (by decide) rfl
  exact W.vret hx hb hr (fun t ht hW => ⟨⟨(), rfl, trivial, ⟨_, ⟨by rw [ht]; exact hP9, va_K.moved hW.alike hK, hD9, by rw [ht]; exact hz⟩⟩⟩, hS.F ht⟩) hS.2.2 dJ0_init_db425_97

set_option maxHeartbeats 4000000 in
set_option maxRecDepth 100000 in
theorem k_sinB (l : Launch) (dC : Nat → ClassId) (dI : Nat → Nat → Nat) (cI cB cR cO : ClassId) (zk : Nat → Nat) (k0 h0 v0 m n : Nat) (f : Nat → Int32) (ml : Value) (sz : Nat) (hm : m ≤ 65536) (hnm : n < m) (hf : sb_Fit f) : Met l yJ0_init_81219 wsJ0_init_81219 ({ frames := 4, cells := 1, slots := 65536, locals := 170 }) (va_Pc [.ref k0, .ref h0] (zPre (dC, dI) (zT cI cB cR cO) zk [] [(k0, .inr (0, [.null, .int 0, .int 0, .int 0])), (h0, .inr (1, [.ref v0, .int 0, ml, .int (nI n)])), (v0, .inl (cB, m, .inl f))] sz)) (va_Qv (fun _ : Unit => True) (fun _ t => ∃ b0, zEnd (dC, dI) (zT cI cB cR cO) (va_A [(k0, .inr (0, [.null, .int 0, .int 0, .int 0])), (h0, .inr (1, [.ref v0, .int 0, ml, .int (nI n)])), (v0, .inl (cB, m, .inl f))] sz) [(k0, .inr (0, [.ref b0, .int 0, .int 0, .int 0])), (b0, .inl (cB, n, .inl (va_cpy f (fun _ => 0) 0 0 n))), (h0, .inr (1, [.ref v0, .int 0, ml, .int (nI n)])), (v0, .inl (cB, m, .inl f))] sz 1 t) (va_A [(k0, .inr (0, [.null, .int 0, .int 0, .int 0])), (h0, .inr (1, [.ref v0, .int 0, ml, .int (nI n)])), (v0, .inl (cB, m, .inl f))] sz)) 1 65536 (va_A [(k0, .inr (0, [.null, .int 0, .int 0, .int 0])), (h0, .inr (1, [.ref v0, .int 0, ml, .int (nI n)])), (v0, .inl (cB, m, .inl f))] sz) := by
  refine Met.ofW (cc := cJ0_init_81219) (maxL := 2) (ret := none) (by decide) rfl ?_
  intro p e s mY args below meth c s₁ B hml hv
  obtain ⟨rfl, hsz, hP, hK, hD0, hZ⟩ := hv
  have hx := B.exec
  have hb := B.bytes
  have hr := B.returns
  have hts := atoms_spec (ws := wsJ0_init_81219) B.pre
  have hown : s.vm.findClass RJ0 = some mY.cls := findClass_of_methodNamed B.named
  have hlocks := B.notSynchronized
  have hin : meth.name = "<init>" := (name_of_methodNamed B.named B.method).1
  subst hsz
  have hD := hD0.self (sz := s.heap.size)
  generalize hAe : va_A [(k0, .inr (0, [.null, .int 0, .int 0, .int 0])), (h0, .inr (1, [.ref v0, .int 0, ml, .int (nI n)])), (v0, .inl (cB, m, .inl f))] s.heap.size = A at hD hZ ⊢
  have hA : ∀ q : Nat, s.heap.size ≤ q → A q := fun q h => by rw [← hAe]; exact Or.inr h
  have hS : va_S A s.heap s.heap [] := va_S.rf
  have hz : s.heap.size + 0 ≤ s.heap.size := Nat.le_refl _
  have hl := lv_entry ([.ref k0, .ref h0]) (n := 2) (Nat.le_of_ble_eq_true rfl)
  rw [lg_entry_eq]
  generalize (lg_sl ([.ref k0, .ref h0]) ++ List.replicate (2 - (lg_sl ([.ref k0, .ref h0])).length) Slot.unset).toArray = ls at hl ⊢
  have hl : lv_has ls 2 [(0, .ref k0), (1, .ref h0)] := hl
  have hP : va_P (dC, dI) vwCl [(k0, .inr (0, [.null, .int 0, .int 0, .int 0])), (h0, .inr (1, [.ref v0, .int 0, ml, .int (nI n)])), (v0, .inl (cB, m, .inl f))] s.heap := hP
  have hD : va_D A [(k0, .inr (0, [.null, .int 0, .int 0, .int 0])), (h0, .inr (1, [.ref v0, .int 0, ml, .int (nI n)])), (v0, .inl (cB, m, .inl f))] := hD
  refine lv_aload_n hx hb dJ0_init_81219_0 rfl (lv_at hl 0 rfl) ?_
  refine lv_aload_n hx hb dJ0_init_81219_1 rfl (lv_at hl 1 rfl) ?_
  refine lv_null hx hb dJ0_init_81219_2 ?_
  have hPc := hP.sub (ws' := [(k0, .inr (0, [.null, .int 0, .int 0, .int 0])), (h0, .inr (1, [.ref v0, .int 0, ml, .int (nI n)])), (v0, .inl (cB, m, .inl f))]) [0, 1, 2] rfl
  have hDc := hD.sub (ws' := [(k0, .inr (0, [.null, .int 0, .int 0, .int 0])), (h0, .inr (1, [.ref v0, .int 0, ml, .int (nI n)])), (v0, .inl (cB, m, .inl f))]) [0, 1, 2] (by decide) rfl
  have hFc := va_free (wc := [(k0, .inr (0, [.null, .int 0, .int 0, .int 0])), (h0, .inr (1, [.ref v0, .int 0, ml, .int (nI n)])), (v0, .inl (cB, m, .inl f))]) hD hS hA [0, 1, 2] rfl
  have hDv := hDc.self (sz := s.heap.size)
  have hpre := zpre (xs' := []) (av := [.ref k0, .ref h0, .null]) hPc hK (hDc.weaken (fun _ _ _ h => h)) hZ hS hFc (fun r hr => by cases hr)
  refine va_callv (va_runI (As := [.ref h0, .null]) (rest := []) ⟨hx, hb, hml, hown, hts⟩ (k_sinA l dC dI cI cB cR cO zk k0 h0 v0 m n f ml s.heap.size hm hnm hf) (cwI 2 hts gJ0_init_81219_J0_init_db425 rfl rfl rfl (hts (.initialized RJ0) (List.mem_cons_of_mem _ zw_48)) (hts (.methodLink RJ0 489 yJ0_init_db425) (List.mem_cons_of_mem _ zw_402)) (hts (.instanceMethod yJ0_init_db425) (List.mem_cons_of_mem _ zw_403)) rfl (by decide +kernel) ⟨Nat.le_of_ble_eq_true rfl, Nat.le_of_ble_eq_true rfl⟩) ⟨zblind, hpre⟩ rfl rfl hl.1 rfl (lv_room (Nat.le_of_ble_eq_true rfl)) dJ0_init_81219_3 ⟨Nat.le_of_ble_eq_true rfl, Nat.le_of_ble_eq_true rfl⟩) hS (fun q _ h => hFc q h) hFc (fun u t H1 locs ht hvm hw hB hz1 hk1 hS => ?_)
  obtain ⟨b3, ⟨hP1, hK1, hD1, hz2⟩⟩ := hB
  rw [ht] at hP1 hz2
  have hPD9 := va_join (wr := []) (w1 := [(k0, .inr (0, [.ref b3, .int 0, .int 0, .int 0])), (b3, .inl (cB, n, .inl (va_cpy f (fun _ => 0) 0 0 n))), (h0, .inr (1, [.ref v0, .int 0, ml, .int (nI n)])), (v0, .inl (cB, m, .inl f))]) hP hD [0, 1, 2] [] rfl rfl (by decide) (by decide) hk1 hFc hP1 hD1
  clear hPc hDc hFc hDv hpre hP hD hP1 hK1 hD1
  obtain ⟨hP, hD⟩ := hPD9
  replace hz : s.heap.size + 1 ≤ H1.size := by omega
  clear hz2
  replace hP : va_P (dC, dI) vwCl [(k0, .inr (0, [.ref b3, .int 0, .int 0, .int 0])), (b3, .inl (cB, n, .inl (va_cpy f (fun _ => 0) 0 0 n))), (h0, .inr (1, [.ref v0, .int 0, ml, .int (nI n)])), (v0, .inl (cB, m, .inl f))] H1 := hP
  replace hD : va_D A [(k0, .inr (0, [.ref b3, .int 0, .int 0, .int 0])), (b3, .inl (cB, n, .inl (va_cpy f (fun _ => 0) 0 0 n))), (h0, .inr (1, [.ref v0, .int 0, ml, .int (nI n)])), (v0, .inl (cB, m, .inl f))] := hD
  refine W.widen (k := 1) (n := 65536) (by omega) (by omega) ?_
  have hP9 := hP.sub (ws' := [(k0, .inr (0, [.ref b3, .int 0, .int 0, .int 0])), (b3, .inl (cB, n, .inl (va_cpy f (fun _ => 0) 0 0 n))), (h0, .inr (1, [.ref v0, .int 0, ml, .int (nI n)])), (v0, .inl (cB, m, .inl f))]) [0, 1, 2, 3] rfl
  have hD9 := hD.sub (ws' := [(k0, .inr (0, [.ref b3, .int 0, .int 0, .int 0])), (b3, .inl (cB, n, .inl (va_cpy f (fun _ => 0) 0 0 n))), (h0, .inr (1, [.ref v0, .int 0, ml, .int (nI n)])), (v0, .inl (cB, m, .inl f))]) [0, 1, 2, 3] (by decide) rfl
  exact W.vret hx hb hr (fun t ht hW => ⟨⟨(), rfl, trivial, ⟨_, ⟨by rw [ht]; exact hP9, va_K.moved hW.alike hK, hD9, by rw [ht]; exact hz⟩⟩⟩, hS.F ht⟩) hS.2.2 dJ0_init_81219_6

theorem hi_J4_toString_0e30d_J0 : ∀ w ∈ u_ws RJ0 TJ0 4, w ∈ wsJ4_toString_0e30d := fun w h => List.mem_cons_of_mem _ (zhi_J0 w h)
set_option maxHeartbeats 4000000 in
set_option maxRecDepth 100000 in
theorem k_toS (l : Launch) (dC : Nat → ClassId) (dI : Nat → Nat → Nat) (cI cB cR cO : ClassId) (zk : Nat → Nat) (h0 v0 m n : Nat) (f : Nat → Int32) (ml : Value) (sz : Nat) (hm : m ≤ 65536) (hnm : n < m) (hf : sb_Fit f) : Met l yJ4_toString_0e30d wsJ4_toString_0e30d ({ frames := 5, cells := 2, slots := 65540, locals := 191 }) (va_Pc [.ref h0] (zPre (dC, dI) (zT cI cB cR cO) zk [] [(h0, .inr (1, [.ref v0, .int 0, ml, .int (nI n)])), (v0, .inl (cB, m, .inl f))] sz)) (va_Qr (fun _ : Unit => True) (fun _ ra t => ∃ b0, ∃ (g0 : Nat → Int32), zEnd (dC, dI) (zT cI cB cR cO) (va_A [(h0, .inr (1, [.ref v0, .int 0, ml, .int (nI n)])), (v0, .inl (cB, m, .inl f))] sz) [(ra, .inr (0, [.ref b0, .int 0, .int 0, .int 0])), (b0, .inl (cB, n, .inl g0)), (h0, .inr (1, [.ref v0, .int 0, ml, .int (nI n)])), (v0, .inl (cB, m, .inl f))] sz 2 t ∧ sb_Fit g0) (va_A [(h0, .inr (1, [.ref v0, .int 0, ml, .int (nI n)])), (v0, .inl (cB, m, .inl f))] sz)) 2 65540 (va_A [(h0, .inr (1, [.ref v0, .int 0, ml, .int (nI n)])), (v0, .inl (cB, m, .inl f))] sz) := by
  refine Met.ofW (cc := cJ4_toString_0e30d) (maxL := 1) (ret := (some (.object "java/lang/String"))) (by decide) rfl ?_
  intro p e s mY args below meth c s₁ B hml hv
  obtain ⟨rfl, hsz, hP, hK, hD0, hZ⟩ := hv
  have hx := B.exec
  have hb := B.bytes
  have hr := B.returns
  have hts := atoms_spec (ws := wsJ4_toString_0e30d) B.pre
  have hown : s.vm.findClass RJ4 = some mY.cls := findClass_of_methodNamed B.named
  have hlocks := B.notSynchronized
  subst hsz
  have hD := hD0.self (sz := s.heap.size)
  generalize hAe : va_A [(h0, .inr (1, [.ref v0, .int 0, ml, .int (nI n)])), (v0, .inl (cB, m, .inl f))] s.heap.size = A at hD hZ ⊢
  have hA : ∀ q : Nat, s.heap.size ≤ q → A q := fun q h => by rw [← hAe]; exact Or.inr h
  have hS : va_S A s.heap s.heap [] := va_S.rf
  have hz : s.heap.size + 0 ≤ s.heap.size := Nat.le_refl _
  have hl := lv_entry ([.ref h0]) (n := 1) (Nat.le_of_ble_eq_true rfl)
  rw [lg_entry_eq]
  generalize (lg_sl ([.ref h0]) ++ List.replicate (1 - (lg_sl ([.ref h0])).length) Slot.unset).toArray = ls at hl ⊢
  have hl : lv_has ls 1 [(0, .ref h0)] := hl
  have hP : va_P (dC, dI) vwCl [(h0, .inr (1, [.ref v0, .int 0, ml, .int (nI n)])), (v0, .inl (cB, m, .inl f))] s.heap := hP
  have hD : va_D A [(h0, .inr (1, [.ref v0, .int 0, ml, .int (nI n)])), (v0, .inl (cB, m, .inl f))] := hD
  refine zw_new (ci := 0) (fs := [.null, .int 0, .int 0, .int 0]) (C := RJ0) (T := TJ0) (N := 4) hx hb hts hi_J4_toString_0e30d_J0 tyJ0 tyJ0_ok hown (hts (.classLink RJ4 18 RJ0) (List.mem_cons_of_mem _ zw_397)) (hts (.instantiable RJ0 4) (List.mem_cons_of_mem _ zw_398)) (hts (.initialized RJ0) (List.mem_cons_of_mem _ zw_48)) hK hP hD hS hA rfl (fun j hj => by rcases (show j = 0 ∨ j = 1 ∨ j = 2 ∨ j = 3 by omega) with rfl | rfl | rfl | rfl <;> rfl) (Nat.le_of_ble_eq_true rfl) (Nat.le_of_ble_eq_true rfl) dJ4_toString_0e30d_0 hz (fun q1 H2 hP hD hS hz => ?_)
  replace hP : va_P (dC, dI) vwCl [(h0, .inr (1, [.ref v0, .int 0, ml, .int (nI n)])), (v0, .inl (cB, m, .inl f)), (q1, .inr (0, [.null, .int 0, .int 0, .int 0]))] H2 := hP
  replace hD : va_D A [(h0, .inr (1, [.ref v0, .int 0, ml, .int (nI n)])), (v0, .inl (cB, m, .inl f)), (q1, .inr (0, [.null, .int 0, .int 0, .int 0]))] := hD
  refine W.widen (k := 1) (n := 4) (by omega) (by omega) ?_
  refine lv_dup hx hb dJ4_toString_0e30d_3 rfl ?_
  refine lv_aload_n hx hb dJ4_toString_0e30d_4 rfl (lv_at hl 0 rfl) ?_
  have hPc := hP.sub (ws' := [(q1, .inr (0, [.null, .int 0, .int 0, .int 0])), (h0, .inr (1, [.ref v0, .int 0, ml, .int (nI n)])), (v0, .inl (cB, m, .inl f))]) [2, 0, 1] rfl
  have hDc := hD.sub (ws' := [(q1, .inr (0, [.null, .int 0, .int 0, .int 0])), (h0, .inr (1, [.ref v0, .int 0, ml, .int (nI n)])), (v0, .inl (cB, m, .inl f))]) [2, 0, 1] (by decide) rfl
  have hFc := va_free (wc := [(q1, .inr (0, [.null, .int 0, .int 0, .int 0])), (h0, .inr (1, [.ref v0, .int 0, ml, .int (nI n)])), (v0, .inl (cB, m, .inl f))]) hD hS hA [2, 0, 1] rfl
  have hDv := hDc.self (sz := H2.size)
  have hpre := zpre (xs' := []) (av := [.ref q1, .ref h0]) hPc hK (hDc.weaken (fun _ _ _ h => h)) hZ hS hFc (fun r hr => by cases hr)
  refine va_callv (va_runI (As := [.ref h0]) (rest := [.ref q1]) ⟨hx, hb, hml, hown, hts⟩ (k_sinB l dC dI cI cB cR cO zk q1 h0 v0 m n f ml H2.size hm hnm hf) (cwI 1 hts gJ4_toString_0e30d_J0_init_81219 rfl rfl rfl (hts (.initialized RJ0) (List.mem_cons_of_mem _ zw_48)) (hts (.methodLink RJ4 137 yJ0_init_81219) (List.mem_cons_of_mem _ zw_399)) (hts (.instanceMethod yJ0_init_81219) (List.mem_cons_of_mem _ zw_400)) rfl (by decide +kernel) ⟨Nat.le_of_ble_eq_true rfl, Nat.le_of_ble_eq_true rfl⟩) ⟨zblind, hpre⟩ rfl rfl hl.1 rfl (lv_room (Nat.le_of_ble_eq_true rfl)) dJ4_toString_0e30d_5 ⟨Nat.le_of_ble_eq_true rfl, Nat.le_of_ble_eq_true rfl⟩) hS (fun q _ h => hFc q h) hFc (fun u t H3 locs ht hvm hw hB hz1 hk1 hS => ?_)
  obtain ⟨b5, ⟨hP1, hK1, hD1, hz2⟩⟩ := hB
  rw [ht] at hP1 hz2
  have hPD9 := va_join (wr := []) (w1 := [(q1, .inr (0, [.ref b5, .int 0, .int 0, .int 0])), (b5, .inl (cB, n, .inl (va_cpy f (fun _ => 0) 0 0 n))), (h0, .inr (1, [.ref v0, .int 0, ml, .int (nI n)])), (v0, .inl (cB, m, .inl f))]) hP hD [2, 0, 1] [] rfl rfl (by decide) (by decide) hk1 hFc hP1 hD1
  clear hPc hDc hFc hDv hpre hP hD hP1 hK1 hD1
  obtain ⟨hP, hD⟩ := hPD9
  replace hz : s.heap.size + 2 ≤ H3.size := by omega
  clear hz2
  replace hP : va_P (dC, dI) vwCl [(q1, .inr (0, [.ref b5, .int 0, .int 0, .int 0])), (b5, .inl (cB, n, .inl (va_cpy f (fun _ => 0) 0 0 n))), (h0, .inr (1, [.ref v0, .int 0, ml, .int (nI n)])), (v0, .inl (cB, m, .inl f))] H3 := hP
  replace hD : va_D A [(q1, .inr (0, [.ref b5, .int 0, .int 0, .int 0])), (b5, .inl (cB, n, .inl (va_cpy f (fun _ => 0) 0 0 n))), (h0, .inr (1, [.ref v0, .int 0, ml, .int (nI n)])), (v0, .inl (cB, m, .inl f))] := hD
  refine W.widen (k := 2) (n := 65540) (by omega) (by omega) ?_
  have hP9 := hP.sub (ws' := [(q1, .inr (0, [.ref b5, .int 0, .int 0, .int 0])), (b5, .inl (cB, n, .inl (va_cpy f (fun _ => 0) 0 0 n))), (h0, .inr (1, [.ref v0, .int 0, ml, .int (nI n)])), (v0, .inl (cB, m, .inl f))]) [0, 1, 2, 3] rfl
  have hD9 := hD.sub (ws' := [(q1, .inr (0, [.ref b5, .int 0, .int 0, .int 0])), (b5, .inl (cB, n, .inl (va_cpy f (fun _ => 0) 0 0 n))), (h0, .inr (1, [.ref v0, .int 0, ml, .int (nI n)])), (v0, .inl (cB, m, .inl f))]) [0, 1, 2, 3] (by decide) rfl
  exact W.aret hx hb hr (by first | exact Or.inl ⟨_, rfl⟩ | exact Or.inr ⟨_, rfl⟩) (Or.inr ⟨_, rfl⟩) (fun t ht hW => ⟨⟨(), _, rfl, trivial, ⟨_, _, ⟨by rw [ht]; exact hP9, va_K.moved hW.alike hK, hD9, by rw [ht]; exact hz⟩, sb_fitC hf sb_fit0⟩⟩, hS.F ht⟩) hS.2.2 dJ4_toString_0e30d_8

set_option maxHeartbeats 4000000 in
set_option maxRecDepth 100000 in
theorem k_sinAC (l : Launch) (dC : Nat → ClassId) (dI : Nat → Nat → Nat) (cI cB cR cO : ClassId) (zk : Nat → Nat) (k0 h0 v0 m : Nat) (f : Nat → Int32) (ml : Value) (sz : Nat) (hm : m ≤ 65536) (hf : sb_Fit f) : Met l yJ0_init_db425 wsJ0_init_db425 ({ frames := 2, cells := 1, slots := 65536, locals := 82 }) (va_Pc [.ref k0, .ref h0, .null] (zPre (dC, dI) (zT cI cB cR cO) zk [] [(k0, .inr (0, [.null, .int 0, .int 0, .int 0])), (h0, .inr (1, [.ref v0, .int 0, ml, .int (nI m)])), (v0, .inl (cB, m, .inl f))] sz)) (va_Qv (fun _ : Unit => True) (fun _ t => ∃ b0, zEnd (dC, dI) (zT cI cB cR cO) (va_A [(k0, .inr (0, [.null, .int 0, .int 0, .int 0])), (h0, .inr (1, [.ref v0, .int 0, ml, .int (nI m)])), (v0, .inl (cB, m, .inl f))] sz) [(k0, .inr (0, [.ref b0, .int 0, .int 0, .int 0])), (b0, .inl (cB, m, .inl f)), (h0, .inr (1, [.ref v0, .int 0, ml, .int (nI m)])), (v0, .inl (cB, m, .inl f))] sz 1 t) (va_A [(k0, .inr (0, [.null, .int 0, .int 0, .int 0])), (h0, .inr (1, [.ref v0, .int 0, ml, .int (nI m)])), (v0, .inl (cB, m, .inl f))] sz)) 1 65536 (va_A [(k0, .inr (0, [.null, .int 0, .int 0, .int 0])), (h0, .inr (1, [.ref v0, .int 0, ml, .int (nI m)])), (v0, .inl (cB, m, .inl f))] sz) := by
  refine Met.ofW (cc := cJ0_init_db425) (maxL := 5) (ret := none) (by decide) rfl ?_
  intro p e s mY args below meth c s₁ B hml hv
  obtain ⟨rfl, hsz, hP, hK, hD0, hZ⟩ := hv
  have hx := B.exec
  have hb := B.bytes
  have hr := B.returns
  have hts := atoms_spec (ws := wsJ0_init_db425) B.pre
  have hown : s.vm.findClass RJ0 = some mY.cls := findClass_of_methodNamed B.named
  have hlocks := B.notSynchronized
  have hin : meth.name = "<init>" := (name_of_methodNamed B.named B.method).1
  subst hsz
  have hD := hD0.self (sz := s.heap.size)
  generalize hAe : va_A [(k0, .inr (0, [.null, .int 0, .int 0, .int 0])), (h0, .inr (1, [.ref v0, .int 0, ml, .int (nI m)])), (v0, .inl (cB, m, .inl f))] s.heap.size = A at hD hZ ⊢
  have hA : ∀ q : Nat, s.heap.size ≤ q → A q := fun q h => by rw [← hAe]; exact Or.inr h
  have hS : va_S A s.heap s.heap [] := va_S.rf
  have hz : s.heap.size + 0 ≤ s.heap.size := Nat.le_refl _
  have hl := lv_entry ([.ref k0, .ref h0, .null]) (n := 5) (Nat.le_of_ble_eq_true rfl)
  rw [lg_entry_eq]
  generalize (lg_sl ([.ref k0, .ref h0, .null]) ++ List.replicate (5 - (lg_sl ([.ref k0, .ref h0, .null])).length) Slot.unset).toArray = ls at hl ⊢
  have hl : lv_has ls 5 [(0, .ref k0), (1, .ref h0), (2, .null)] := hl
  have hP : va_P (dC, dI) vwCl [(k0, .inr (0, [.null, .int 0, .int 0, .int 0])), (h0, .inr (1, [.ref v0, .int 0, ml, .int (nI m)])), (v0, .inl (cB, m, .inl f))] s.heap := hP
  have hD : va_D A [(k0, .inr (0, [.null, .int 0, .int 0, .int 0])), (h0, .inr (1, [.ref v0, .int 0, ml, .int (nI m)])), (v0, .inl (cB, m, .inl f))] := hD
  refine lv_aload_n hx hb dJ0_init_db425_0 rfl (lv_at hl 0 rfl) ?_
  refine W.objInit hx hb hown (hts (.methodLink RJ0 1 objectInit) (List.mem_cons_of_mem _ zw_405)) (hts (.instanceMethod objectInit) (List.mem_cons_of_mem _ zw_77)) (hts (.code objectInit ⟨#[0xb1]⟩ 1 none) (List.mem_cons_of_mem _ zw_78)) rfl (by rw [hml]; exact hl.1) rfl dJ0_init_db425_1 (Nat.le_of_ble_eq_true rfl) (Nat.le_of_ble_eq_true rfl) ?_
  refine W.eq (g2 := F0 mY 4 ls []) rfl ?_
  refine lv_aload_n hx hb dJ0_init_db425_4 rfl (lv_at hl 1 rfl) ?_
  have hPc := hP.sub (ws' := [(h0, .inr (1, [.ref v0, .int 0, ml, .int (nI m)]))]) [1] rfl
  have hDc := hD.sub (ws' := [(h0, .inr (1, [.ref v0, .int 0, ml, .int (nI m)]))]) [1] (by decide) rfl
  have hFc := va_free (wc := [(h0, .inr (1, [.ref v0, .int 0, ml, .int (nI m)]))]) hD hS hA [1] rfl
  have hDv := hDc.self (sz := s.heap.size)
  have hpre := zpre (xs' := []) (av := [.ref h0]) hPc hK (hDc.weaken (fun _ _ _ h => h)) hZ hS hFc (fun r hr => by cases hr)
  refine va_callr (va_runU (As := []) (rest := []) ⟨hx, hb, hml, hown, hts⟩ (k_getV l dC dI cI cB cR cO zk h0 v0 ml (.int (nI m)) s.heap.size ) (va_cwU 0 hts gJ0_init_db425_J5_getValue_6d5f1_u552J4 rfl rfl rfl rfl (by decide +kernel) ⟨Nat.le_of_ble_eq_true rfl, Nat.le_of_ble_eq_true rfl⟩) ⟨zblind, (zrecv_1 hK hPc (q0 := 0) rfl), hpre⟩ rfl rfl hl.1 rfl (lv_room (Nat.le_of_ble_eq_true rfl)) dJ0_init_db425_5 ⟨Nat.le_of_ble_eq_true rfl, Nat.le_of_ble_eq_true rfl⟩) hS (fun q _ h => hFc q h) hFc (fun u r2 t H1 locs ht hvm hw hB hz1 hk1 hS => ?_)
  obtain ⟨⟨hP1, hK1, hD1, hz2⟩, her2⟩ := hB
  rw [ht] at hP1 hz2
  have hPD9 := va_join (wr := [(k0, .inr (0, [.null, .int 0, .int 0, .int 0])), (v0, .inl (cB, m, .inl f))]) (w1 := [(h0, .inr (1, [.ref v0, .int 0, ml, .int (nI m)]))]) hP hD [1] [0, 2] rfl rfl (by decide) (by decide) hk1 hFc hP1 hD1
  clear hPc hDc hFc hDv hpre hP hD hP1 hK1 hD1
  obtain ⟨hP, hD⟩ := hPD9
  replace hz : s.heap.size + 0 ≤ H1.size := by omega
  clear hz2
  replace hP : va_P (dC, dI) vwCl [(k0, .inr (0, [.null, .int 0, .int 0, .int 0])), (v0, .inl (cB, m, .inl f)), (h0, .inr (1, [.ref v0, .int 0, ml, .int (nI m)]))] H1 := hP
  replace hD : va_D A [(k0, .inr (0, [.null, .int 0, .int 0, .int 0])), (v0, .inl (cB, m, .inl f)), (h0, .inr (1, [.ref v0, .int 0, ml, .int (nI m)]))] := hD
  refine W.widen (k := 0) (n := 0) (by omega) (by omega) ?_
  obtain rfl := her2.symm
  refine lv_astore_n (lv' := [(3, .ref v0), (0, .ref k0), (1, .ref h0), (2, .null)]) hx hb dJ0_init_db425_8 rfl hl (by decide) rfl (fun ls hl => ?_)
  refine lv_aload_n hx hb dJ0_init_db425_9 rfl (lv_at hl 2 rfl) ?_
  have hPc := hP.sub (ws' := [(h0, .inr (1, [.ref v0, .int 0, ml, .int (nI m)]))]) [2] rfl
  have hDc := hD.sub (ws' := [(h0, .inr (1, [.ref v0, .int 0, ml, .int (nI m)]))]) [2] (by decide) rfl
  have hFc := va_free (wc := [(h0, .inr (1, [.ref v0, .int 0, ml, .int (nI m)]))]) hD hS hA [2] rfl
  have hDv := hDc.self (sz := H1.size)
  have hpre := zpre (xs' := []) (av := [.ref h0]) hPc hK (hDc.weaken (fun _ _ _ h => h)) hZ hS hFc (fun r hr => by cases hr)
  refine va_calli (va_runU (As := []) (rest := []) ⟨hx, hb, hml, hown, hts⟩ (k_len4 l dC dI cI cB cR cO zk h0 v0 ml (nI m) H1.size ) (va_cwO 0 hts gJ0_init_db425_J4_length_8abf5_u549J4 rfl rfl rfl (b0 := cJ5_length_8abf5) (m0 := 1) (r0 := (some .int)) (List.mem_cons_of_mem _ zw_418) (by decide +kernel) ⟨Nat.le_of_ble_eq_true rfl, Nat.le_of_ble_eq_true rfl⟩) ⟨zblind, (zrecv_1 hK hPc (q0 := 0) rfl), hpre⟩ rfl rfl hl.1 rfl (lv_room (Nat.le_of_ble_eq_true rfl)) dJ0_init_db425_10 ⟨Nat.le_of_ble_eq_true rfl, Nat.le_of_ble_eq_true rfl⟩) hS (fun q _ h => hFc q h) hFc (fun r4 u t H3 locs ht hvm hw hB hz1 hk1 hS => ?_)
  obtain rfl : (nI m) = r4 := (show r4 = (nI m) from hw).symm
  obtain ⟨hP1, hK1, hD1, hz2⟩ := hB
  rw [ht] at hP1 hz2
  have hPD9 := va_join (wr := [(k0, .inr (0, [.null, .int 0, .int 0, .int 0])), (v0, .inl (cB, m, .inl f))]) (w1 := [(h0, .inr (1, [.ref v0, .int 0, ml, .int (nI m)]))]) hP hD [2] [0, 1] rfl rfl (by decide) (by decide) hk1 hFc hP1 hD1
  clear hPc hDc hFc hDv hpre hP hD hP1 hK1 hD1
  obtain ⟨hP, hD⟩ := hPD9
  replace hz : s.heap.size + 0 ≤ H3.size := by omega
  clear hz2
  replace hP : va_P (dC, dI) vwCl [(k0, .inr (0, [.null, .int 0, .int 0, .int 0])), (v0, .inl (cB, m, .inl f)), (h0, .inr (1, [.ref v0, .int 0, ml, .int (nI m)]))] H3 := hP
  replace hD : va_D A [(k0, .inr (0, [.null, .int 0, .int 0, .int 0])), (v0, .inl (cB, m, .inl f)), (h0, .inr (1, [.ref v0, .int 0, ml, .int (nI m)]))] := hD
  refine W.widen (k := 0) (n := 0) (by omega) (by omega) ?_
  refine lv_istore (lv' := [(4, .int (nI m)), (3, .ref v0), (0, .ref k0), (1, .ref h0), (2, .null)]) hx hb dJ0_init_db425_13 hl (by decide) rfl (fun ls hl => ?_)
  refine lv_aload_n hx hb dJ0_init_db425_15 rfl (lv_at hl 3 rfl) ?_
  have hPc := hP.sub (ws' := [(h0, .inr (1, [.ref v0, .int 0, ml, .int (nI m)]))]) [2] rfl
  have hDc := hD.sub (ws' := [(h0, .inr (1, [.ref v0, .int 0, ml, .int (nI m)]))]) [2] (by decide) rfl
  have hFc := va_free (wc := [(h0, .inr (1, [.ref v0, .int 0, ml, .int (nI m)]))]) hD hS hA [2] rfl
  have hDv := hDc.self (sz := H3.size)
  have hpre := zpre (xs' := []) (av := [.ref h0]) hPc hK (hDc.weaken (fun _ _ _ h => h)) hZ hS hFc (fun r hr => by cases hr)
  refine va_calli (va_runU (As := []) (rest := []) ⟨hx, hb, hml, hown, hts⟩ (k_isLat5 l dC dI cI cB cR cO zk h0 v0 ml (.int (nI m)) H3.size ) (va_cwU 0 hts gJ0_init_db425_J5_isLatin1_aae02_u1047J4 rfl rfl rfl rfl (by decide +kernel) ⟨Nat.le_of_ble_eq_true rfl, Nat.le_of_ble_eq_true rfl⟩) ⟨zblind, (zrecv_1 hK hPc (q0 := 0) rfl), hpre⟩ rfl rfl hl.1 rfl (lv_room (Nat.le_of_ble_eq_true rfl)) dJ0_init_db425_16 ⟨Nat.le_of_ble_eq_true rfl, Nat.le_of_ble_eq_true rfl⟩) hS (fun q _ h => hFc q h) hFc (fun r6 u t H5 locs ht hvm hw hB hz1 hk1 hS => ?_)
  obtain rfl : 1 = r6 := (show r6 = 1 from hw).symm
  obtain ⟨hP1, hK1, hD1, hz2⟩ := hB
  rw [ht] at hP1 hz2
  have hPD9 := va_join (wr := [(k0, .inr (0, [.null, .int 0, .int 0, .int 0])), (v0, .inl (cB, m, .inl f))]) (w1 := [(h0, .inr (1, [.ref v0, .int 0, ml, .int (nI m)]))]) hP hD [2] [0, 1] rfl rfl (by decide) (by decide) hk1 hFc hP1 hD1
  clear hPc hDc hFc hDv hpre hP hD hP1 hK1 hD1
  obtain ⟨hP, hD⟩ := hPD9
  replace hz : s.heap.size + 0 ≤ H5.size := by omega
  clear hz2
  replace hP : va_P (dC, dI) vwCl [(k0, .inr (0, [.null, .int 0, .int 0, .int 0])), (v0, .inl (cB, m, .inl f)), (h0, .inr (1, [.ref v0, .int 0, ml, .int (nI m)]))] H5 := hP
  replace hD : va_D A [(k0, .inr (0, [.null, .int 0, .int 0, .int 0])), (v0, .inl (cB, m, .inl f)), (h0, .inr (1, [.ref v0, .int 0, ml, .int (nI m)]))] := hD
  refine W.widen (k := 0) (n := 0) (by omega) (by omega) ?_
  refine lv_if_eq (tgt := 41) hx hb dJ0_init_db425_19 (by decide) (fun c9 => ?_) (fun c9 => ?_)
  · exact absurd c9 (by decide)
  refine lv_aload_n hx hb dJ0_init_db425_22 rfl (lv_at hl 2 rfl) ?_
  refine lv_iconst (v := 0) hx hb dJ0_init_db425_23 (by decide) ?_
  refine va_putF (D := (dC, dI)) (ci := 0) (v := .int 0) (ty := .byte) (C := RJ0) (T := TJ0) (N := 4) hx hb hts hi_J0_init_db425_J0 tyJ0 tyJ0_ok nmJ0 hown hK hP hD (zS0 hS) 0 rfl rfl 1 (by decide) (hts (.fieldLink RJ0 15 "java/lang/String" "coder" "B") (List.mem_cons_of_mem _ zw_517)) (fun _ h9 => h9) rfl hin rfl (by decide +kernel) rfl rfl (Nat.le_of_ble_eq_true rfl) dJ0_init_db425_24 (fun H7 locs hP hD hS1 => ?_)
  have hz : s.heap.size + 0 ≤ H7.size := Nat.le_trans hz hS1.1
  have hS := zSS hS hS1
  replace hP : va_P (dC, dI) vwCl [(k0, .inr (0, [.null, .int 0, .int 0, .int 0])), (v0, .inl (cB, m, .inl f)), (h0, .inr (1, [.ref v0, .int 0, ml, .int (nI m)]))] H7 := hP
  replace hD : va_D A [(k0, .inr (0, [.null, .int 0, .int 0, .int 0])), (v0, .inl (cB, m, .inl f)), (h0, .inr (1, [.ref v0, .int 0, ml, .int (nI m)]))] := hD
  refine lv_aload_n hx hb dJ0_init_db425_27 rfl (lv_at hl 2 rfl) ?_
  refine lv_aload_n hx hb dJ0_init_db425_28 rfl (lv_at hl 1 rfl) ?_
  refine lv_iconst (v := 0) hx hb dJ0_init_db425_29 (by decide) ?_
  refine lv_iload hx hb dJ0_init_db425_30 (lv_at hl 0 rfl) ?_
  have hPc := hP.sub (ws' := [(v0, .inl (cB, m, .inl f))]) [1] rfl
  have hDc := hD.sub (ws' := [(v0, .inl (cB, m, .inl f))]) [1] (by decide) rfl
  have hFc := va_free (wc := [(v0, .inl (cB, m, .inl f))]) hD hS hA [1] rfl
  have hDv := hDc.self (sz := H7.size)
  have hpre := zpre (xs' := []) (av := [.ref v0, .int 0, .int (nI m)]) hPc hK (hDc.weaken (fun _ _ _ h => h)) hZ hS hFc (fun r hr => by cases hr)
  refine va_callr (va_runS (As := [.ref v0, .int 0, .int (nI m)]) (rest := [.ref k0]) ⟨hx, hb, hml, hown, hts⟩ (k_corC l dC dI cI cB cR cO zk v0 m f H7.size hm hf) (va_cwS 3 hts gJ0_init_db425_J7_copyOfRange_39247 rfl rfl rfl (by decide +kernel) ⟨Nat.le_of_ble_eq_true rfl, Nat.le_of_ble_eq_true rfl⟩) ⟨zblind, hpre⟩ rfl rfl hl.1 rfl (lv_room (Nat.le_of_ble_eq_true rfl)) dJ0_init_db425_32 ⟨Nat.le_of_ble_eq_true rfl, Nat.le_of_ble_eq_true rfl⟩) hS (fun q _ h => hFc q h) hFc (fun u r9 t H8 locs ht hvm hw hB hz1 hk1 hS => ?_)
  obtain ⟨hP1, hK1, hD1, hz2⟩ := hB
  rw [ht] at hP1 hz2
  have hPD9 := va_join (wr := [(k0, .inr (0, [.null, .int 0, .int 0, .int 0])), (h0, .inr (1, [.ref v0, .int 0, ml, .int (nI m)]))]) (w1 := [(v0, .inl (cB, m, .inl f)), (r9, .inl (cB, m, .inl f))]) hP hD [1] [0, 2] rfl rfl (by decide) (by decide) hk1 hFc hP1 hD1
  clear hPc hDc hFc hDv hpre hP hD hP1 hK1 hD1
  obtain ⟨hP, hD⟩ := hPD9
  replace hz : s.heap.size + 1 ≤ H8.size := by omega
  clear hz2
  replace hP : va_P (dC, dI) vwCl [(k0, .inr (0, [.null, .int 0, .int 0, .int 0])), (h0, .inr (1, [.ref v0, .int 0, ml, .int (nI m)])), (v0, .inl (cB, m, .inl f)), (r9, .inl (cB, m, .inl f))] H8 := hP
  replace hD : va_D A [(k0, .inr (0, [.null, .int 0, .int 0, .int 0])), (h0, .inr (1, [.ref v0, .int 0, ml, .int (nI m)])), (v0, .inl (cB, m, .inl f)), (r9, .inl (cB, m, .inl f))] := hD
  refine W.widen (k := 1) (n := 65536) (by omega) (by omega) ?_
  refine va_putF (D := (dC, dI)) (ci := 0) (v := .ref r9) (ty := .array .byte) (C := RJ0) (T := TJ0) (N := 4) hx hb hts hi_J0_init_db425_J0 tyJ0 tyJ0_ok nmJ0 hown hK hP hD (zS0 hS) 0 rfl rfl 0 (by decide) (hts (.fieldLink RJ0 9 "java/lang/String" "value" "[B") (List.mem_cons_of_mem _ zw_516)) (fun _ h9 => h9) rfl hin rfl (by decide +kernel) rfl rfl (Nat.le_of_ble_eq_true rfl) dJ0_init_db425_35 (fun H10 locs hP hD hS1 => ?_)
  have hz : s.heap.size + 1 ≤ H10.size := Nat.le_trans hz hS1.1
  have hS := zSS hS hS1
  replace hP : va_P (dC, dI) vwCl [(k0, .inr (0, [.ref r9, .int 0, .int 0, .int 0])), (h0, .inr (1, [.ref v0, .int 0, ml, .int (nI m)])), (v0, .inl (cB, m, .inl f)), (r9, .inl (cB, m, .inl f))] H10 := hP
  replace hD : va_D A [(k0, .inr (0, [.ref r9, .int 0, .int 0, .int 0])), (h0, .inr (1, [.ref v0, .int 0, ml, .int (nI m)])), (v0, .inl (cB, m, .inl f)), (r9, .inl (cB, m, .inl f))] := hD
  refine lv_goto (tgt := 97) hx hb dJ0_init_db425_38 (by decide) ?_
  have hP9 := hP.sub (ws' := [(k0, .inr (0, [.ref r9, .int 0, .int 0, .int 0])), (r9, .inl (cB, m, .inl f)), (h0, .inr (1, [.ref v0, .int 0, ml, .int (nI m)])), (v0, .inl (cB, m, .inl f))]) [0, 3, 1, 2] rfl
  have hD9 := hD.sub (ws' := [(k0, .inr (0, [.ref r9, .int 0, .int 0, .int 0])), (r9, .inl (cB, m, .inl f)), (h0, .inr (1, [.ref v0, .int 0, ml, .int (nI m)])), (v0, .inl (cB, m, .inl f))]) [0, 3, 1, 2] (by decide) rfl
  exact W.vret hx hb hr (fun t ht hW => ⟨⟨(), rfl, trivial, ⟨_, ⟨by rw [ht]; exact hP9, va_K.moved hW.alike hK, hD9, by rw [ht]; exact hz⟩⟩⟩, hS.F ht⟩) hS.2.2 dJ0_init_db425_97

set_option maxHeartbeats 4000000 in
set_option maxRecDepth 100000 in
theorem k_sinBC (l : Launch) (dC : Nat → ClassId) (dI : Nat → Nat → Nat) (cI cB cR cO : ClassId) (zk : Nat → Nat) (k0 h0 v0 m : Nat) (f : Nat → Int32) (ml : Value) (sz : Nat) (hm : m ≤ 65536) (hf : sb_Fit f) : Met l yJ0_init_81219 wsJ0_init_81219 ({ frames := 3, cells := 1, slots := 65536, locals := 106 }) (va_Pc [.ref k0, .ref h0] (zPre (dC, dI) (zT cI cB cR cO) zk [] [(k0, .inr (0, [.null, .int 0, .int 0, .int 0])), (h0, .inr (1, [.ref v0, .int 0, ml, .int (nI m)])), (v0, .inl (cB, m, .inl f))] sz)) (va_Qv (fun _ : Unit => True) (fun _ t => ∃ b0, zEnd (dC, dI) (zT cI cB cR cO) (va_A [(k0, .inr (0, [.null, .int 0, .int 0, .int 0])), (h0, .inr (1, [.ref v0, .int 0, ml, .int (nI m)])), (v0, .inl (cB, m, .inl f))] sz) [(k0, .inr (0, [.ref b0, .int 0, .int 0, .int 0])), (b0, .inl (cB, m, .inl f)), (h0, .inr (1, [.ref v0, .int 0, ml, .int (nI m)])), (v0, .inl (cB, m, .inl f))] sz 1 t) (va_A [(k0, .inr (0, [.null, .int 0, .int 0, .int 0])), (h0, .inr (1, [.ref v0, .int 0, ml, .int (nI m)])), (v0, .inl (cB, m, .inl f))] sz)) 1 65536 (va_A [(k0, .inr (0, [.null, .int 0, .int 0, .int 0])), (h0, .inr (1, [.ref v0, .int 0, ml, .int (nI m)])), (v0, .inl (cB, m, .inl f))] sz) := by
  refine Met.ofW (cc := cJ0_init_81219) (maxL := 2) (ret := none) (by decide) rfl ?_
  intro p e s mY args below meth c s₁ B hml hv
  obtain ⟨rfl, hsz, hP, hK, hD0, hZ⟩ := hv
  have hx := B.exec
  have hb := B.bytes
  have hr := B.returns
  have hts := atoms_spec (ws := wsJ0_init_81219) B.pre
  have hown : s.vm.findClass RJ0 = some mY.cls := findClass_of_methodNamed B.named
  have hlocks := B.notSynchronized
  have hin : meth.name = "<init>" := (name_of_methodNamed B.named B.method).1
  subst hsz
  have hD := hD0.self (sz := s.heap.size)
  generalize hAe : va_A [(k0, .inr (0, [.null, .int 0, .int 0, .int 0])), (h0, .inr (1, [.ref v0, .int 0, ml, .int (nI m)])), (v0, .inl (cB, m, .inl f))] s.heap.size = A at hD hZ ⊢
  have hA : ∀ q : Nat, s.heap.size ≤ q → A q := fun q h => by rw [← hAe]; exact Or.inr h
  have hS : va_S A s.heap s.heap [] := va_S.rf
  have hz : s.heap.size + 0 ≤ s.heap.size := Nat.le_refl _
  have hl := lv_entry ([.ref k0, .ref h0]) (n := 2) (Nat.le_of_ble_eq_true rfl)
  rw [lg_entry_eq]
  generalize (lg_sl ([.ref k0, .ref h0]) ++ List.replicate (2 - (lg_sl ([.ref k0, .ref h0])).length) Slot.unset).toArray = ls at hl ⊢
  have hl : lv_has ls 2 [(0, .ref k0), (1, .ref h0)] := hl
  have hP : va_P (dC, dI) vwCl [(k0, .inr (0, [.null, .int 0, .int 0, .int 0])), (h0, .inr (1, [.ref v0, .int 0, ml, .int (nI m)])), (v0, .inl (cB, m, .inl f))] s.heap := hP
  have hD : va_D A [(k0, .inr (0, [.null, .int 0, .int 0, .int 0])), (h0, .inr (1, [.ref v0, .int 0, ml, .int (nI m)])), (v0, .inl (cB, m, .inl f))] := hD
  refine lv_aload_n hx hb dJ0_init_81219_0 rfl (lv_at hl 0 rfl) ?_
  refine lv_aload_n hx hb dJ0_init_81219_1 rfl (lv_at hl 1 rfl) ?_
  refine lv_null hx hb dJ0_init_81219_2 ?_
  have hPc := hP.sub (ws' := [(k0, .inr (0, [.null, .int 0, .int 0, .int 0])), (h0, .inr (1, [.ref v0, .int 0, ml, .int (nI m)])), (v0, .inl (cB, m, .inl f))]) [0, 1, 2] rfl
  have hDc := hD.sub (ws' := [(k0, .inr (0, [.null, .int 0, .int 0, .int 0])), (h0, .inr (1, [.ref v0, .int 0, ml, .int (nI m)])), (v0, .inl (cB, m, .inl f))]) [0, 1, 2] (by decide) rfl
  have hFc := va_free (wc := [(k0, .inr (0, [.null, .int 0, .int 0, .int 0])), (h0, .inr (1, [.ref v0, .int 0, ml, .int (nI m)])), (v0, .inl (cB, m, .inl f))]) hD hS hA [0, 1, 2] rfl
  have hDv := hDc.self (sz := s.heap.size)
  have hpre := zpre (xs' := []) (av := [.ref k0, .ref h0, .null]) hPc hK (hDc.weaken (fun _ _ _ h => h)) hZ hS hFc (fun r hr => by cases hr)
  refine va_callv (va_runI (As := [.ref h0, .null]) (rest := []) ⟨hx, hb, hml, hown, hts⟩ (k_sinAC l dC dI cI cB cR cO zk k0 h0 v0 m f ml s.heap.size hm hf) (cwI 2 hts gJ0_init_81219_J0_init_db425 rfl rfl rfl (hts (.initialized RJ0) (List.mem_cons_of_mem _ zw_48)) (hts (.methodLink RJ0 489 yJ0_init_db425) (List.mem_cons_of_mem _ zw_402)) (hts (.instanceMethod yJ0_init_db425) (List.mem_cons_of_mem _ zw_403)) rfl (by decide +kernel) ⟨Nat.le_of_ble_eq_true rfl, Nat.le_of_ble_eq_true rfl⟩) ⟨zblind, hpre⟩ rfl rfl hl.1 rfl (lv_room (Nat.le_of_ble_eq_true rfl)) dJ0_init_81219_3 ⟨Nat.le_of_ble_eq_true rfl, Nat.le_of_ble_eq_true rfl⟩) hS (fun q _ h => hFc q h) hFc (fun u t H1 locs ht hvm hw hB hz1 hk1 hS => ?_)
  obtain ⟨b3, ⟨hP1, hK1, hD1, hz2⟩⟩ := hB
  rw [ht] at hP1 hz2
  have hPD9 := va_join (wr := []) (w1 := [(k0, .inr (0, [.ref b3, .int 0, .int 0, .int 0])), (b3, .inl (cB, m, .inl f)), (h0, .inr (1, [.ref v0, .int 0, ml, .int (nI m)])), (v0, .inl (cB, m, .inl f))]) hP hD [0, 1, 2] [] rfl rfl (by decide) (by decide) hk1 hFc hP1 hD1
  clear hPc hDc hFc hDv hpre hP hD hP1 hK1 hD1
  obtain ⟨hP, hD⟩ := hPD9
  replace hz : s.heap.size + 1 ≤ H1.size := by omega
  clear hz2
  replace hP : va_P (dC, dI) vwCl [(k0, .inr (0, [.ref b3, .int 0, .int 0, .int 0])), (b3, .inl (cB, m, .inl f)), (h0, .inr (1, [.ref v0, .int 0, ml, .int (nI m)])), (v0, .inl (cB, m, .inl f))] H1 := hP
  replace hD : va_D A [(k0, .inr (0, [.ref b3, .int 0, .int 0, .int 0])), (b3, .inl (cB, m, .inl f)), (h0, .inr (1, [.ref v0, .int 0, ml, .int (nI m)])), (v0, .inl (cB, m, .inl f))] := hD
  refine W.widen (k := 1) (n := 65536) (by omega) (by omega) ?_
  have hP9 := hP.sub (ws' := [(k0, .inr (0, [.ref b3, .int 0, .int 0, .int 0])), (b3, .inl (cB, m, .inl f)), (h0, .inr (1, [.ref v0, .int 0, ml, .int (nI m)])), (v0, .inl (cB, m, .inl f))]) [0, 1, 2, 3] rfl
  have hD9 := hD.sub (ws' := [(k0, .inr (0, [.ref b3, .int 0, .int 0, .int 0])), (b3, .inl (cB, m, .inl f)), (h0, .inr (1, [.ref v0, .int 0, ml, .int (nI m)])), (v0, .inl (cB, m, .inl f))]) [0, 1, 2, 3] (by decide) rfl
  exact W.vret hx hb hr (fun t ht hW => ⟨⟨(), rfl, trivial, ⟨_, ⟨by rw [ht]; exact hP9, va_K.moved hW.alike hK, hD9, by rw [ht]; exact hz⟩⟩⟩, hS.F ht⟩) hS.2.2 dJ0_init_81219_6

set_option maxHeartbeats 4000000 in
set_option maxRecDepth 100000 in
theorem k_toSC (l : Launch) (dC : Nat → ClassId) (dI : Nat → Nat → Nat) (cI cB cR cO : ClassId) (zk : Nat → Nat) (h0 v0 m : Nat) (f : Nat → Int32) (ml : Value) (sz : Nat) (hm : m ≤ 65536) (hf : sb_Fit f) : Met l yJ4_toString_0e30d wsJ4_toString_0e30d ({ frames := 4, cells := 2, slots := 65540, locals := 127 }) (va_Pc [.ref h0] (zPre (dC, dI) (zT cI cB cR cO) zk [] [(h0, .inr (1, [.ref v0, .int 0, ml, .int (nI m)])), (v0, .inl (cB, m, .inl f))] sz)) (va_Qr (fun _ : Unit => True) (fun _ ra t => ∃ b0, ∃ (g0 : Nat → Int32), zEnd (dC, dI) (zT cI cB cR cO) (va_A [(h0, .inr (1, [.ref v0, .int 0, ml, .int (nI m)])), (v0, .inl (cB, m, .inl f))] sz) [(ra, .inr (0, [.ref b0, .int 0, .int 0, .int 0])), (b0, .inl (cB, m, .inl g0)), (h0, .inr (1, [.ref v0, .int 0, ml, .int (nI m)])), (v0, .inl (cB, m, .inl f))] sz 2 t ∧ sb_Fit g0) (va_A [(h0, .inr (1, [.ref v0, .int 0, ml, .int (nI m)])), (v0, .inl (cB, m, .inl f))] sz)) 2 65540 (va_A [(h0, .inr (1, [.ref v0, .int 0, ml, .int (nI m)])), (v0, .inl (cB, m, .inl f))] sz) := by
  refine Met.ofW (cc := cJ4_toString_0e30d) (maxL := 1) (ret := (some (.object "java/lang/String"))) (by decide) rfl ?_
  intro p e s mY args below meth c s₁ B hml hv
  obtain ⟨rfl, hsz, hP, hK, hD0, hZ⟩ := hv
  have hx := B.exec
  have hb := B.bytes
  have hr := B.returns
  have hts := atoms_spec (ws := wsJ4_toString_0e30d) B.pre
  have hown : s.vm.findClass RJ4 = some mY.cls := findClass_of_methodNamed B.named
  have hlocks := B.notSynchronized
  subst hsz
  have hD := hD0.self (sz := s.heap.size)
  generalize hAe : va_A [(h0, .inr (1, [.ref v0, .int 0, ml, .int (nI m)])), (v0, .inl (cB, m, .inl f))] s.heap.size = A at hD hZ ⊢
  have hA : ∀ q : Nat, s.heap.size ≤ q → A q := fun q h => by rw [← hAe]; exact Or.inr h
  have hS : va_S A s.heap s.heap [] := va_S.rf
  have hz : s.heap.size + 0 ≤ s.heap.size := Nat.le_refl _
  have hl := lv_entry ([.ref h0]) (n := 1) (Nat.le_of_ble_eq_true rfl)
  rw [lg_entry_eq]
  generalize (lg_sl ([.ref h0]) ++ List.replicate (1 - (lg_sl ([.ref h0])).length) Slot.unset).toArray = ls at hl ⊢
  have hl : lv_has ls 1 [(0, .ref h0)] := hl
  have hP : va_P (dC, dI) vwCl [(h0, .inr (1, [.ref v0, .int 0, ml, .int (nI m)])), (v0, .inl (cB, m, .inl f))] s.heap := hP
  have hD : va_D A [(h0, .inr (1, [.ref v0, .int 0, ml, .int (nI m)])), (v0, .inl (cB, m, .inl f))] := hD
  refine zw_new (ci := 0) (fs := [.null, .int 0, .int 0, .int 0]) (C := RJ0) (T := TJ0) (N := 4) hx hb hts hi_J4_toString_0e30d_J0 tyJ0 tyJ0_ok hown (hts (.classLink RJ4 18 RJ0) (List.mem_cons_of_mem _ zw_397)) (hts (.instantiable RJ0 4) (List.mem_cons_of_mem _ zw_398)) (hts (.initialized RJ0) (List.mem_cons_of_mem _ zw_48)) hK hP hD hS hA rfl (fun j hj => by rcases (show j = 0 ∨ j = 1 ∨ j = 2 ∨ j = 3 by omega) with rfl | rfl | rfl | rfl <;> rfl) (Nat.le_of_ble_eq_true rfl) (Nat.le_of_ble_eq_true rfl) dJ4_toString_0e30d_0 hz (fun q1 H2 hP hD hS hz => ?_)
  replace hP : va_P (dC, dI) vwCl [(h0, .inr (1, [.ref v0, .int 0, ml, .int (nI m)])), (v0, .inl (cB, m, .inl f)), (q1, .inr (0, [.null, .int 0, .int 0, .int 0]))] H2 := hP
  replace hD : va_D A [(h0, .inr (1, [.ref v0, .int 0, ml, .int (nI m)])), (v0, .inl (cB, m, .inl f)), (q1, .inr (0, [.null, .int 0, .int 0, .int 0]))] := hD
  refine W.widen (k := 1) (n := 4) (by omega) (by omega) ?_
  refine lv_dup hx hb dJ4_toString_0e30d_3 rfl ?_
  refine lv_aload_n hx hb dJ4_toString_0e30d_4 rfl (lv_at hl 0 rfl) ?_
  have hPc := hP.sub (ws' := [(q1, .inr (0, [.null, .int 0, .int 0, .int 0])), (h0, .inr (1, [.ref v0, .int 0, ml, .int (nI m)])), (v0, .inl (cB, m, .inl f))]) [2, 0, 1] rfl
  have hDc := hD.sub (ws' := [(q1, .inr (0, [.null, .int 0, .int 0, .int 0])), (h0, .inr (1, [.ref v0, .int 0, ml, .int (nI m)])), (v0, .inl (cB, m, .inl f))]) [2, 0, 1] (by decide) rfl
  have hFc := va_free (wc := [(q1, .inr (0, [.null, .int 0, .int 0, .int 0])), (h0, .inr (1, [.ref v0, .int 0, ml, .int (nI m)])), (v0, .inl (cB, m, .inl f))]) hD hS hA [2, 0, 1] rfl
  have hDv := hDc.self (sz := H2.size)
  have hpre := zpre (xs' := []) (av := [.ref q1, .ref h0]) hPc hK (hDc.weaken (fun _ _ _ h => h)) hZ hS hFc (fun r hr => by cases hr)
  refine va_callv (va_runI (As := [.ref h0]) (rest := [.ref q1]) ⟨hx, hb, hml, hown, hts⟩ (k_sinBC l dC dI cI cB cR cO zk q1 h0 v0 m f ml H2.size hm hf) (cwI 1 hts gJ4_toString_0e30d_J0_init_81219 rfl rfl rfl (hts (.initialized RJ0) (List.mem_cons_of_mem _ zw_48)) (hts (.methodLink RJ4 137 yJ0_init_81219) (List.mem_cons_of_mem _ zw_399)) (hts (.instanceMethod yJ0_init_81219) (List.mem_cons_of_mem _ zw_400)) rfl (by decide +kernel) ⟨Nat.le_of_ble_eq_true rfl, Nat.le_of_ble_eq_true rfl⟩) ⟨zblind, hpre⟩ rfl rfl hl.1 rfl (lv_room (Nat.le_of_ble_eq_true rfl)) dJ4_toString_0e30d_5 ⟨Nat.le_of_ble_eq_true rfl, Nat.le_of_ble_eq_true rfl⟩) hS (fun q _ h => hFc q h) hFc (fun u t H3 locs ht hvm hw hB hz1 hk1 hS => ?_)
  obtain ⟨b5, ⟨hP1, hK1, hD1, hz2⟩⟩ := hB
  rw [ht] at hP1 hz2
  have hPD9 := va_join (wr := []) (w1 := [(q1, .inr (0, [.ref b5, .int 0, .int 0, .int 0])), (b5, .inl (cB, m, .inl f)), (h0, .inr (1, [.ref v0, .int 0, ml, .int (nI m)])), (v0, .inl (cB, m, .inl f))]) hP hD [2, 0, 1] [] rfl rfl (by decide) (by decide) hk1 hFc hP1 hD1
  clear hPc hDc hFc hDv hpre hP hD hP1 hK1 hD1
  obtain ⟨hP, hD⟩ := hPD9
  replace hz : s.heap.size + 2 ≤ H3.size := by omega
  clear hz2
  replace hP : va_P (dC, dI) vwCl [(q1, .inr (0, [.ref b5, .int 0, .int 0, .int 0])), (b5, .inl (cB, m, .inl f)), (h0, .inr (1, [.ref v0, .int 0, ml, .int (nI m)])), (v0, .inl (cB, m, .inl f))] H3 := hP
  replace hD : va_D A [(q1, .inr (0, [.ref b5, .int 0, .int 0, .int 0])), (b5, .inl (cB, m, .inl f)), (h0, .inr (1, [.ref v0, .int 0, ml, .int (nI m)])), (v0, .inl (cB, m, .inl f))] := hD
  refine W.widen (k := 2) (n := 65540) (by omega) (by omega) ?_
  have hP9 := hP.sub (ws' := [(q1, .inr (0, [.ref b5, .int 0, .int 0, .int 0])), (b5, .inl (cB, m, .inl f)), (h0, .inr (1, [.ref v0, .int 0, ml, .int (nI m)])), (v0, .inl (cB, m, .inl f))]) [0, 1, 2, 3] rfl
  have hD9 := hD.sub (ws' := [(q1, .inr (0, [.ref b5, .int 0, .int 0, .int 0])), (b5, .inl (cB, m, .inl f)), (h0, .inr (1, [.ref v0, .int 0, ml, .int (nI m)])), (v0, .inl (cB, m, .inl f))]) [0, 1, 2, 3] (by decide) rfl
  exact W.aret hx hb hr (by first | exact Or.inl ⟨_, rfl⟩ | exact Or.inr ⟨_, rfl⟩) (Or.inr ⟨_, rfl⟩) (fun t ht hW => ⟨⟨(), _, rfl, trivial, ⟨_, _, ⟨by rw [ht]; exact hP9, va_K.moved hW.alike hK, hD9, by rw [ht]; exact hz⟩, hf⟩⟩, hS.F ht⟩) hS.2.2 dJ4_toString_0e30d_8
