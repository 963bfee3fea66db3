set_option maxHeartbeats 4000000 in
set_option maxRecDepth 100000 in
theorem k_oin (l : Launch) (dC : Nat → ClassId) (dI : Nat → Nat → Nat) (cI cB cR cO : ClassId) (zk : Nat → Nat) (ou : Nat) (sz : Nat)  : Met l yX2_init wsX2_init ({ frames := 1, cells := 0, slots := 0, locals := 60 }) (va_Pc [.ref ou] (zPre (dC, dI) (zT cI cB cR cO) zk [] [(ou, .inr (7, [.long 0, .null]))] sz)) (va_Qv (fun _ : Unit => True) (fun _ t => zEnd (dC, dI) (zT cI cB cR cO) (va_A [(ou, .inr (7, [.long 0, .null]))] sz) [(ou, .inr (7, [.long 0, .null]))] sz 0 t) (va_A [(ou, .inr (7, [.long 0, .null]))] sz)) 0 0 (va_A [(ou, .inr (7, [.long 0, .null]))] sz) := by
  refine Met.ofW (cc := cX2_init) (maxL := 1) (ret := none) (by decide) rfl ?_
  intro p e s mY args below meth c s₁ B hml hv
  obtain ⟨rfl, hsz, hP, hK, hD0, hZ⟩ := hv
  have hx := B.exec
  have hb := B.bytes
  have hr := B.returns
  have hts := atoms_spec (ws := wsX2_init) B.pre
  have hown : s.vm.findClass RX2 = some mY.cls := findClass_of_methodNamed B.named
  have hlocks := B.notSynchronized
  have hin : meth.name = "<init>" := (name_of_methodNamed B.named B.method).1
  subst hsz
  have hD := hD0.self (sz := s.heap.size)
  generalize hAe : va_A [(ou, .inr (7, [.long 0, .null]))] s.heap.size = A at hD hZ ⊢
  have hA : ∀ q : Nat, s.heap.size ≤ q → A q := fun q h => by rw [← hAe]; exact Or.inr h
  have hS : va_S A s.heap s.heap [] := va_S.rf
  have hz : s.heap.size + 0 ≤ s.heap.size := Nat.le_refl _
  have hl := lv_entry ([.ref ou]) (n := 1) (Nat.le_of_ble_eq_true rfl)
  rw [lg_entry_eq]
  generalize (lg_sl ([.ref ou]) ++ List.replicate (1 - (lg_sl ([.ref ou])).length) Slot.unset).toArray = ls at hl ⊢
  have hl : lv_has ls 1 [(0, .ref ou)] := hl
  have hP : va_P (dC, dI) vwCl [(ou, .inr (7, [.long 0, .null]))] s.heap := hP
  have hD : va_D A [(ou, .inr (7, [.long 0, .null]))] := hD
  refine lv_aload_n hx hb dX2_init_0 rfl (lv_at hl 0 rfl) ?_
  refine W.objInit hx hb hown (hts (.methodLink RX2 1 objectInit) (List.mem_cons_of_mem _ zw_775)) (hts (.instanceMethod objectInit) (List.mem_cons_of_mem _ zw_77)) (hts (.code objectInit ⟨#[0xb1]⟩ 1 none) (List.mem_cons_of_mem _ zw_78)) rfl (by rw [hml]; exact hl.1) rfl dX2_init_1 (Nat.le_of_ble_eq_true rfl) (Nat.le_of_ble_eq_true rfl) ?_
  refine W.eq (g2 := F0 mY 4 ls []) rfl ?_
  have hP9 := hP.sub (ws' := [(ou, .inr (7, [.long 0, .null]))]) [0] rfl
  have hD9 := hD.sub (ws' := [(ou, .inr (7, [.long 0, .null]))]) [0] (by decide) rfl
  exact W.vret hx hb hr (fun t ht hW => ⟨⟨(), rfl, trivial, ⟨by rw [ht]; exact hP9, va_K.moved hW.alike hK, hD9, by rw [ht]; exact hz⟩⟩, hS.F ht⟩) hS.2.2 dX2_init_4

theorem hi_X4_thrown_X4 : ∀ w ∈ u_ws RX4 TX4 5, w ∈ wsX4_thrown := fun w h => List.mem_cons_of_mem _ (zhi_X4 w h)
set_option maxHeartbeats 4000000 in
set_option maxRecDepth 100000 in
theorem k_thM (l : Launch) (dC : Nat → ClassId) (dI : Nat → Nat → Nat) (cI cB cR cO : ClassId) (zk : Nat → Nat) (mo : Nat) (md rf kn : Value) (am : Nat) (sz : Nat)  : Met l yX4_thrown wsX4_thrown ({ frames := 0, cells := 0, slots := 0, locals := 0 }) (va_Pc [.ref mo] (zPre (dC, dI) (zT cI cB cR cO) zk [] [(mo, .inr (9, [.int 0, .ref am, md, rf, kn]))] sz)) (va_Qi (fun r (_ : Unit) => r = 0) (fun _ t => zEnd (dC, dI) (zT cI cB cR cO) (va_A [(mo, .inr (9, [.int 0, .ref am, md, rf, kn]))] sz) [(mo, .inr (9, [.int 0, .ref am, md, rf, kn]))] sz 0 t) (va_A [(mo, .inr (9, [.int 0, .ref am, md, rf, kn]))] sz)) 0 0 (va_A [(mo, .inr (9, [.int 0, .ref am, md, rf, kn]))] sz) := by
  refine Met.ofW (cc := cX4_thrown) (maxL := 1) (ret := (some .int)) (by decide) rfl ?_
  intro p e s mY args below meth c s₁ B hml hv
  obtain ⟨rfl, hsz, hP, hK, hD0, hZ⟩ := hv
  have hx := B.exec
  have hb := B.bytes
  have hr := B.returns
  have hts := atoms_spec (ws := wsX4_thrown) B.pre
  have hown : s.vm.findClass RX4 = some mY.cls := findClass_of_methodNamed B.named
  have hlocks := B.notSynchronized
  subst hsz
  have hD := hD0.self (sz := s.heap.size)
  generalize hAe : va_A [(mo, .inr (9, [.int 0, .ref am, md, rf, kn]))] s.heap.size = A at hD hZ ⊢
  have hA : ∀ q : Nat, s.heap.size ≤ q → A q := fun q h => by rw [← hAe]; exact Or.inr h
  have hS : va_S A s.heap s.heap [] := va_S.rf
  have hz : s.heap.size + 0 ≤ s.heap.size := Nat.le_refl _
  have hl := lv_entry ([.ref mo]) (n := 1) (Nat.le_of_ble_eq_true rfl)
  rw [lg_entry_eq]
  generalize (lg_sl ([.ref mo]) ++ List.replicate (1 - (lg_sl ([.ref mo])).length) Slot.unset).toArray = ls at hl ⊢
  have hl : lv_has ls 1 [(0, .ref mo)] := hl
  have hP : va_P (dC, dI) vwCl [(mo, .inr (9, [.int 0, .ref am, md, rf, kn]))] s.heap := hP
  have hD : va_D A [(mo, .inr (9, [.int 0, .ref am, md, rf, kn]))] := hD
  refine lv_aload_n hx hb dX4_thrown_0 rfl (lv_at hl 0 rfl) ?_
  refine va_get (D := (dC, dI)) (ci := 9) (v := .int 0) (C := RX4) (T := TX4) (N := 5) hx hb hts hi_X4_thrown_X4 hown hK hP 0 rfl rfl 0 (by decide) (hts (.fieldLink RX4 16 "DeeprowsModel" "thrown" "I") (List.mem_cons_of_mem _ zw_1133)) (fun _ h9 => h9) rfl dX4_thrown_1 ?_
  have hP9 := hP.sub (ws' := [(mo, .inr (9, [.int 0, .ref am, md, rf, kn]))]) [0] rfl
  have hD9 := hD.sub (ws' := [(mo, .inr (9, [.int 0, .ref am, md, rf, kn]))]) [0] (by decide) rfl
  exact W.iret (v := 0) hx hb hr (fun t ht hW => ⟨⟨_, (), rfl, rfl, ⟨by rw [ht]; exact hP9, va_K.moved hW.alike hK, hD9, by rw [ht]; exact hz⟩⟩, hS.F ht⟩) hS.2.2 dX4_thrown_4

set_option maxHeartbeats 4000000 in
set_option maxRecDepth 100000 in
theorem k_eqL (l : Launch) (dC : Nat → ClassId) (dI : Nat → Nat → Nat) (cI cB cR cO : ClassId) (zk : Nat → Nat) (v uu n : Nat) (f g : Nat → Int32) (sz : Nat) (hn : n ≤ 65536) {L : List Int32} (hf : zCt n L f) (hg : zCt n L g) : Met l yJ1_equals_b5fdf wsJ1_equals_b5fdf ({ frames := 0, cells := 0, slots := 0, locals := 0 }) (va_Pc [.ref v, .ref uu] (zPre (dC, dI) (zT cI cB cR cO) zk [] [(v, .inl (cB, n, .inl f)), (uu, .inl (cB, n, .inl g))] sz)) (va_Qi (fun r (_ : Unit) => r = 1) (fun _ t => zEnd (dC, dI) (zT cI cB cR cO) (va_A [(v, .inl (cB, n, .inl f)), (uu, .inl (cB, n, .inl g))] sz) [(v, .inl (cB, n, .inl f)), (uu, .inl (cB, n, .inl g))] sz 0 t) (va_A [(v, .inl (cB, n, .inl f)), (uu, .inl (cB, n, .inl g))] sz)) 0 0 (va_A [(v, .inl (cB, n, .inl f)), (uu, .inl (cB, n, .inl g))] sz) := by
  refine Met.ofW (cc := cJ1_equals_b5fdf) (maxL := 3) (ret := (some .boolean)) (by decide) rfl ?_
  intro p e s mY args below meth c s₁ B hml hv
  obtain ⟨rfl, hsz, hP, hK, hD0, hZ⟩ := hv
  have hx := B.exec
  have hb := B.bytes
  have hr := B.returns
  have hts := atoms_spec (ws := wsJ1_equals_b5fdf) B.pre
  have hown : s.vm.findClass RJ1 = some mY.cls := findClass_of_methodNamed B.named
  have hlocks := B.notSynchronized
  subst hsz
  have hD := hD0.self (sz := s.heap.size)
  generalize hAe : va_A [(v, .inl (cB, n, .inl f)), (uu, .inl (cB, n, .inl g))] s.heap.size = A at hD hZ ⊢
  have hA : ∀ q : Nat, s.heap.size ≤ q → A q := fun q h => by rw [← hAe]; exact Or.inr h
  have hS : va_S A s.heap s.heap [] := va_S.rf
  have hz : s.heap.size + 0 ≤ s.heap.size := Nat.le_refl _
  have hl := lv_entry ([.ref v, .ref uu]) (n := 3) (Nat.le_of_ble_eq_true rfl)
  rw [lg_entry_eq]
  generalize (lg_sl ([.ref v, .ref uu]) ++ List.replicate (3 - (lg_sl ([.ref v, .ref uu])).length) Slot.unset).toArray = ls at hl ⊢
  have hl : lv_has ls 3 [(0, .ref v), (1, .ref uu)] := hl
  have hP : va_P (dC, dI) vwCl [(v, .inl (cB, n, .inl f)), (uu, .inl (cB, n, .inl g))] s.heap := hP
  have hD : va_D A [(v, .inl (cB, n, .inl f)), (uu, .inl (cB, n, .inl g))] := hD
  refine lv_aload_n hx hb dJ1_equals_b5fdf_0 rfl (lv_at hl 0 rfl) ?_
  refine va_alen (D := (dC, dI)) (cl := vwCl) (v := nI n) hx hb hK hP 0 1 rfl rfl rfl dJ1_equals_b5fdf_1 ?_
  refine lv_aload_n hx hb dJ1_equals_b5fdf_2 rfl (lv_at hl 1 rfl) ?_
  refine va_alen (D := (dC, dI)) (cl := vwCl) (v := nI n) hx hb hK hP 1 1 rfl rfl rfl dJ1_equals_b5fdf_3 ?_
  refine lv_icmp_ne (tgt := 34) hx hb dJ1_equals_b5fdf_4 (by decide) (fun c9 => ?_) (fun c9 => ?_)
  · exact absurd (rfl) c9
  refine lv_iconst (v := 0) hx hb dJ1_equals_b5fdf_7 (by decide) ?_
  refine lv_istore_n (lv' := [(2, .int 0), (0, .ref v), (1, .ref uu)]) hx hb dJ1_equals_b5fdf_8 rfl hl (by decide) rfl (fun ls hl => ?_)
  have e0 : (0 : Int32) = nI 0 := by decide
  rw [e0] at hl
  refine zloop (Wf := fun z => W p l e _ s mY _ below meth c s.heap [] 0 0 _ (F0 mY 9 z [])) (n := n) (I := fun i ls => lv_has ls 3 [(2, .int (nI i)), (0, .ref v), (1, .ref uu)]) ?_ ?_ 0 (Nat.zero_le _) ls hl
  · intro ls hl
    show W p l e _ s mY _ below meth c s.heap [] 0 0 _ (F0 mY 9 ls [])
    refine lv_iload_n hx hb dJ1_equals_b5fdf_9 rfl (lv_at hl 0 rfl) ?_
    refine lv_aload_n hx hb dJ1_equals_b5fdf_10 rfl (lv_at hl 1 rfl) ?_
    refine va_alen (D := (dC, dI)) (cl := vwCl) (v := nI n) hx hb hK hP 0 1 rfl rfl rfl dJ1_equals_b5fdf_11 ?_
    refine lv_icmp_ge (tgt := 32) hx hb dJ1_equals_b5fdf_12 (by decide) (fun c9 => ?_) (fun c9 => ?_)
    rotate_left
    · exact absurd (Int32.le_refl (nI n)) c9
    refine lv_iconst (v := 1) hx hb dJ1_equals_b5fdf_32 (by decide) ?_
    have hP9 := hP.sub (ws' := [(v, .inl (cB, n, .inl f)), (uu, .inl (cB, n, .inl g))]) [0, 1] rfl
    have hD9 := hD.sub (ws' := [(v, .inl (cB, n, .inl f)), (uu, .inl (cB, n, .inl g))]) [0, 1] (by decide) rfl
    exact W.zret (v := 1) hx hb hr (by decide +kernel) (fun t ht hW => ⟨⟨_, (), rfl, rfl, ⟨by rw [ht]; exact hP9, va_K.moved hW.alike hK, hD9, by rw [ht]; exact hz⟩⟩, hS.F ht⟩) hS.2.2 dJ1_equals_b5fdf_33
  · intro i hi ih ls hl
    show W p l e _ s mY _ below meth c s.heap [] 0 0 _ (F0 mY 9 ls [])
    refine lv_iload_n hx hb dJ1_equals_b5fdf_9 rfl (lv_at hl 0 rfl) ?_
    refine lv_aload_n hx hb dJ1_equals_b5fdf_10 rfl (lv_at hl 1 rfl) ?_
    refine va_alen (D := (dC, dI)) (cl := vwCl) (v := nI n) hx hb hK hP 0 1 rfl rfl rfl dJ1_equals_b5fdf_11 ?_
    refine lv_icmp_ge (tgt := 32) hx hb dJ1_equals_b5fdf_12 (by decide) (fun c9 => ?_) (fun c9 => ?_)
    · exact absurd c9 (Int32.not_le.mpr (nI_lt hi (by omega)))
    refine lv_aload_n hx hb dJ1_equals_b5fdf_15 rfl (lv_at hl 1 rfl) ?_
    refine lv_iload_n hx hb dJ1_equals_b5fdf_16 rfl (lv_at hl 0 rfl) ?_
    refine va_bald (D := (dC, dI)) (cl := vwCl) hx hb hK hP 0 1 rfl rfl (vp_in_nI hi (by omega)) dJ1_equals_b5fdf_17 ?_
    refine lv_aload_n hx hb dJ1_equals_b5fdf_18 rfl (lv_at hl 2 rfl) ?_
    refine lv_iload_n hx hb dJ1_equals_b5fdf_19 rfl (lv_at hl 0 rfl) ?_
    refine va_bald (D := (dC, dI)) (cl := vwCl) hx hb hK hP 1 1 rfl rfl (vp_in_nI hi (by omega)) dJ1_equals_b5fdf_20 ?_
    refine lv_icmp_eq (tgt := 26) hx hb dJ1_equals_b5fdf_21 (by decide) (fun c9 => ?_) (fun c9 => ?_)
    rotate_left
    · exact absurd (by rw [nI_clamp (n := i) (by omega)]; exact zCt.same hf hg hi) c9
    refine lv_iinc (v := nI (i + 1)) (lv' := [(2, .int (nI (i + 1))), (0, .ref v), (1, .ref uu)]) hx hb dJ1_equals_b5fdf_26 hl (k := 0) rfl (show nI i + Int32.ofInt 1 = nI (i + 1) from nI_add i 1) (by decide) rfl (fun ls hl => ?_)
    refine lv_goto (tgt := 9) hx hb dJ1_equals_b5fdf_29 (by decide) ?_
    exact ih ls hl

theorem hi_J0_equals_9ea2d_J0 : ∀ w ∈ u_ws RJ0 TJ0 4, w ∈ wsJ0_equals_9ea2d := fun w h => List.mem_cons_of_mem _ (zhi_J0 w h)
set_option maxHeartbeats 4000000 in
set_option maxRecDepth 100000 in
theorem k_eqS (l : Launch) (dC : Nat → ClassId) (dI : Nat → Nat → Nat) (cI cB cR cO : ClassId) (zk : Nat → Nat) (k v o uu n : Nat) (f g : Nat → Int32) (sz : Nat) (hn : n ≤ 65536) {L : List Int32} (hf : zCt n L f) (hg : zCt n L g) : Met l yJ0_equals_9ea2d wsJ0_equals_9ea2d ({ frames := 1, cells := 0, slots := 0, locals := 22 }) (va_Pc [.ref k, .ref o] (zPre (dC, dI) (zT cI cB cR cO) zk [] [(k, .inr (0, [.ref v, .int 0, .int 0, .int 0])), (v, .inl (cB, n, .inl f)), (o, .inr (0, [.ref uu, .int 0, .int 0, .int 0])), (uu, .inl (cB, n, .inl g))] sz)) (va_Qi (fun r (_ : Unit) => r = 1) (fun _ t => zEnd (dC, dI) (zT cI cB cR cO) (va_A [(k, .inr (0, [.ref v, .int 0, .int 0, .int 0])), (v, .inl (cB, n, .inl f)), (o, .inr (0, [.ref uu, .int 0, .int 0, .int 0])), (uu, .inl (cB, n, .inl g))] sz) [(k, .inr (0, [.ref v, .int 0, .int 0, .int 0])), (v, .inl (cB, n, .inl f)), (o, .inr (0, [.ref uu, .int 0, .int 0, .int 0])), (uu, .inl (cB, n, .inl g))] sz 0 t) (va_A [(k, .inr (0, [.ref v, .int 0, .int 0, .int 0])), (v, .inl (cB, n, .inl f)), (o, .inr (0, [.ref uu, .int 0, .int 0, .int 0])), (uu, .inl (cB, n, .inl g))] sz)) 0 0 (va_A [(k, .inr (0, [.ref v, .int 0, .int 0, .int 0])), (v, .inl (cB, n, .inl f)), (o, .inr (0, [.ref uu, .int 0, .int 0, .int 0])), (uu, .inl (cB, n, .inl g))] sz) := by
  refine Met.ofW (cc := cJ0_equals_9ea2d) (maxL := 3) (ret := (some .boolean)) (by decide) rfl ?_
  intro p e s mY args below meth c s₁ B hml hv
  obtain ⟨rfl, hsz, hP, hK, hD0, hZ⟩ := hv
  have hx := B.exec
  have hb := B.bytes
  have hr := B.returns
  have hts := atoms_spec (ws := wsJ0_equals_9ea2d) B.pre
  have hown : s.vm.findClass RJ0 = some mY.cls := findClass_of_methodNamed B.named
  have hlocks := B.notSynchronized
  subst hsz
  have hD := hD0.self (sz := s.heap.size)
  generalize hAe : va_A [(k, .inr (0, [.ref v, .int 0, .int 0, .int 0])), (v, .inl (cB, n, .inl f)), (o, .inr (0, [.ref uu, .int 0, .int 0, .int 0])), (uu, .inl (cB, n, .inl g))] s.heap.size = A at hD hZ ⊢
  have hA : ∀ q : Nat, s.heap.size ≤ q → A q := fun q h => by rw [← hAe]; exact Or.inr h
  have hS : va_S A s.heap s.heap [] := va_S.rf
  have hz : s.heap.size + 0 ≤ s.heap.size := Nat.le_refl _
  have hl := lv_entry ([.ref k, .ref o]) (n := 3) (Nat.le_of_ble_eq_true rfl)
  rw [lg_entry_eq]
  generalize (lg_sl ([.ref k, .ref o]) ++ List.replicate (3 - (lg_sl ([.ref k, .ref o])).length) Slot.unset).toArray = ls at hl ⊢
  have hl : lv_has ls 3 [(0, .ref k), (1, .ref o)] := hl
  have hP : va_P (dC, dI) vwCl [(k, .inr (0, [.ref v, .int 0, .int 0, .int 0])), (v, .inl (cB, n, .inl f)), (o, .inr (0, [.ref uu, .int 0, .int 0, .int 0])), (uu, .inl (cB, n, .inl g))] s.heap := hP
  have hD : va_D A [(k, .inr (0, [.ref v, .int 0, .int 0, .int 0])), (v, .inl (cB, n, .inl f)), (o, .inr (0, [.ref uu, .int 0, .int 0, .int 0])), (uu, .inl (cB, n, .inl g))] := hD
  refine lv_aload_n hx hb dJ0_equals_9ea2d_0 rfl (lv_at hl 0 rfl) ?_
  refine lv_aload_n hx hb dJ0_equals_9ea2d_1 rfl (lv_at hl 1 rfl) ?_
  refine lv_acmp_ne (rx := (some k)) (ry := (some o)) (tgt := 7) hx hb dJ0_equals_9ea2d_2 (by decide) (fun c9 => ?_) (fun c9 => ?_)
  rotate_left
  · exact absurd c9 (fun e9 => absurd (hD.1 0 2 _ _ rfl rfl (Option.some.inj e9)) (by decide))
  refine lv_aload_n hx hb dJ0_equals_9ea2d_7 rfl (lv_at hl 1 rfl) ?_
  refine va_instE hx hb hown (hts (.classLink RJ0 10 "java/lang/String") (List.mem_cons_of_mem _ zw_1472)) (zrecv_0 hK hP (q0 := 2) rfl) dJ0_equals_9ea2d_8 ?_
  refine lv_if_eq (tgt := 54) hx hb dJ0_equals_9ea2d_11 (by decide) (fun c9 => ?_) (fun c9 => ?_)
  · exact absurd c9 (by decide)
  refine lv_aload_n hx hb dJ0_equals_9ea2d_14 rfl (lv_at hl 1 rfl) ?_
  refine va_castE hx hb hown (hts (.classLink RJ0 10 "java/lang/String") (List.mem_cons_of_mem _ zw_1472)) (zrecv_0 hK hP (q0 := 2) rfl) dJ0_equals_9ea2d_15 ?_
  refine lv_astore_n (lv' := [(2, .ref o), (0, .ref k), (1, .ref o)]) hx hb dJ0_equals_9ea2d_18 rfl hl (by decide) rfl (fun ls hl => ?_)
  refine va_gets hx hb hZ.1.1 hS hown (hts (.fieldLink RJ0 38 "java/lang/String" "COMPACT_STRINGS" "Z") (List.mem_cons_of_mem _ zw_333)) (fun _ h9 => h9) dJ0_equals_9ea2d_19 ?_
  refine lv_if_eq (tgt := 36) hx hb dJ0_equals_9ea2d_22 (by decide) (fun c9 => ?_) (fun c9 => ?_)
  · exact absurd c9 (by decide)
  refine lv_aload_n hx hb dJ0_equals_9ea2d_25 rfl (lv_at hl 1 rfl) ?_
  refine va_get (D := (dC, dI)) (ci := 0) (v := .int 0) (C := RJ0) (T := TJ0) (N := 4) hx hb hts hi_J0_equals_9ea2d_J0 hown hK hP 0 rfl rfl 1 (by decide) (hts (.fieldLink RJ0 15 "java/lang/String" "coder" "B") (List.mem_cons_of_mem _ zw_517)) (fun _ h9 => h9) rfl dJ0_equals_9ea2d_26 ?_
  refine lv_aload_n hx hb dJ0_equals_9ea2d_29 rfl (lv_at hl 0 rfl) ?_
  refine va_get (D := (dC, dI)) (ci := 0) (v := .int 0) (C := RJ0) (T := TJ0) (N := 4) hx hb hts hi_J0_equals_9ea2d_J0 hown hK hP 2 rfl rfl 1 (by decide) (hts (.fieldLink RJ0 15 "java/lang/String" "coder" "B") (List.mem_cons_of_mem _ zw_517)) (fun _ h9 => h9) rfl dJ0_equals_9ea2d_30 ?_
  refine lv_icmp_ne (tgt := 54) hx hb dJ0_equals_9ea2d_33 (by decide) (fun c9 => ?_) (fun c9 => ?_)
  · exact absurd (by decide) c9
  refine lv_aload_n hx hb dJ0_equals_9ea2d_36 rfl (lv_at hl 1 rfl) ?_
  refine va_get (D := (dC, dI)) (ci := 0) (v := .ref v) (C := RJ0) (T := TJ0) (N := 4) hx hb hts hi_J0_equals_9ea2d_J0 hown hK hP 0 rfl rfl 0 (by decide) (hts (.fieldLink RJ0 9 "java/lang/String" "value" "[B") (List.mem_cons_of_mem _ zw_516)) (fun _ h9 => h9) rfl dJ0_equals_9ea2d_37 ?_
  refine lv_aload_n hx hb dJ0_equals_9ea2d_40 rfl (lv_at hl 0 rfl) ?_
  refine va_get (D := (dC, dI)) (ci := 0) (v := .ref uu) (C := RJ0) (T := TJ0) (N := 4) hx hb hts hi_J0_equals_9ea2d_J0 hown hK hP 2 rfl rfl 0 (by decide) (hts (.fieldLink RJ0 9 "java/lang/String" "value" "[B") (List.mem_cons_of_mem _ zw_516)) (fun _ h9 => h9) rfl dJ0_equals_9ea2d_41 ?_
  have hPc := hP.sub (ws' := [(v, .inl (cB, n, .inl f)), (uu, .inl (cB, n, .inl g))]) [1, 3] rfl
  have hDc := hD.sub (ws' := [(v, .inl (cB, n, .inl f)), (uu, .inl (cB, n, .inl g))]) [1, 3] (by decide) rfl
  have hFc := va_free (wc := [(v, .inl (cB, n, .inl f)), (uu, .inl (cB, n, .inl g))]) hD hS hA [1, 3] rfl
  have hDv := hDc.self (sz := s.heap.size)
  have hpre := zpre (xs' := []) (av := [.ref v, .ref uu]) hPc hK (hDc.weaken (fun _ _ _ h => h)) hZ hS hFc (fun r hr => by cases hr)
  refine va_calli (va_runS (As := [.ref v, .ref uu]) (rest := []) ⟨hx, hb, hml, hown, hts⟩ (k_eqL l dC dI cI cB cR cO zk v uu n f g s.heap.size hn hf hg) (va_cwS 2 hts gJ0_equals_9ea2d_J1_equals_b5fdf rfl rfl rfl (by decide +kernel) ⟨Nat.le_of_ble_eq_true rfl, Nat.le_of_ble_eq_true rfl⟩) ⟨zblind, hpre⟩ rfl rfl hl.1 rfl (lv_room (Nat.le_of_ble_eq_true rfl)) dJ0_equals_9ea2d_44 ⟨Nat.le_of_ble_eq_true rfl, Nat.le_of_ble_eq_true rfl⟩) hS (fun q _ h => hFc q h) hFc (fun r2 u t H1 locs ht hvm hw hB hz1 hk1 hS => ?_)
  obtain rfl : 1 = r2 := (show r2 = 1 from hw).symm
  obtain ⟨hP1, hK1, hD1, hz2⟩ := hB
  rw [ht] at hP1 hz2
  have hPD9 := va_join (wr := [(k, .inr (0, [.ref v, .int 0, .int 0, .int 0])), (o, .inr (0, [.ref uu, .int 0, .int 0, .int 0]))]) (w1 := [(v, .inl (cB, n, .inl f)), (uu, .inl (cB, n, .inl g))]) hP hD [1, 3] [0, 2] rfl rfl (by decide) (by decide) hk1 hFc hP1 hD1
  clear hPc hDc hFc hDv hpre hP hD hP1 hK1 hD1
  obtain ⟨hP, hD⟩ := hPD9
  replace hz : s.heap.size + 0 ≤ H1.size := by omega
  clear hz2
  replace hP : va_P (dC, dI) vwCl [(k, .inr (0, [.ref v, .int 0, .int 0, .int 0])), (o, .inr (0, [.ref uu, .int 0, .int 0, .int 0])), (v, .inl (cB, n, .inl f)), (uu, .inl (cB, n, .inl g))] H1 := hP
  replace hD : va_D A [(k, .inr (0, [.ref v, .int 0, .int 0, .int 0])), (o, .inr (0, [.ref uu, .int 0, .int 0, .int 0])), (v, .inl (cB, n, .inl f)), (uu, .inl (cB, n, .inl g))] := hD
  refine W.widen (k := 0) (n := 0) (by omega) (by omega) ?_
  refine lv_if_eq (tgt := 54) hx hb dJ0_equals_9ea2d_47 (by decide) (fun c9 => ?_) (fun c9 => ?_)
  · exact absurd c9 (by decide)
  refine lv_iconst (v := 1) hx hb dJ0_equals_9ea2d_50 (by decide) ?_
  refine lv_goto (tgt := 55) hx hb dJ0_equals_9ea2d_51 (by decide) ?_
  have hP9 := hP.sub (ws' := [(k, .inr (0, [.ref v, .int 0, .int 0, .int 0])), (v, .inl (cB, n, .inl f)), (o, .inr (0, [.ref uu, .int 0, .int 0, .int 0])), (uu, .inl (cB, n, .inl g))]) [0, 2, 1, 3] rfl
  have hD9 := hD.sub (ws' := [(k, .inr (0, [.ref v, .int 0, .int 0, .int 0])), (v, .inl (cB, n, .inl f)), (o, .inr (0, [.ref uu, .int 0, .int 0, .int 0])), (uu, .inl (cB, n, .inl g))]) [0, 2, 1, 3] (by decide) rfl
  exact W.zret (v := 1) hx hb hr (by decide +kernel) (fun t ht hW => ⟨⟨_, (), rfl, rfl, ⟨by rw [ht]; exact hP9, va_K.moved hW.alike hK, hD9, by rw [ht]; exact hz⟩⟩, hS.F ht⟩) hS.2.2 dJ0_equals_9ea2d_55
