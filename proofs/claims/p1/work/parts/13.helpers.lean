set_option maxHeartbeats 4000000 in
set_option maxRecDepth 100000 in
theorem k_putH (l : Launch) (dC : Nat → ClassId) (dI : Nat → Nat → Nat) (cI cB cR cO : ClassId) (zk : Nat → Nat) (hfl : l.stackTraces = false) (xo al b1 : Nat) (x1 x2 x3 x4 x5 x7 : Value) (mc : Int32) (p0 p1 p2 : Int32) (ou : Nat) (sz : Nat)  : Met l yL_put wsL_put ({ frames := 8, cells := 1, slots := 6, locals := 135 }) (va_Pc [.ref xo, .int p0, .int p1, .int p2, .ref ou] (zPre (dC, dI) (zT cI cB cR cO) zk [] [(xo, .inr (6, [.ref al, x1, x2, x3, x4, x5, .ref b1, x7])), (al, .inr (4, [.int mc, .ref (zk 0), .int 0]))] sz)) (va_Qi (fun r (_ : Unit) => r = 1) (fun _ t => zEnd (dC, dI) (zT cI cB cR cO) (va_A [(xo, .inr (6, [.ref al, x1, x2, x3, x4, x5, .ref b1, x7])), (al, .inr (4, [.int mc, .ref (zk 0), .int 0]))] sz) [(xo, .inr (6, [.ref al, x1, x2, x3, x4, x5, .ref b1, x7])), (al, .inr (4, [.int mc, .ref (zk 0), .int 0]))] sz 0 t) (va_A [(xo, .inr (6, [.ref al, x1, x2, x3, x4, x5, .ref b1, x7])), (al, .inr (4, [.int mc, .ref (zk 0), .int 0]))] sz)) 1 6 (va_A [(xo, .inr (6, [.ref al, x1, x2, x3, x4, x5, .ref b1, x7])), (al, .inr (4, [.int mc, .ref (zk 0), .int 0]))] sz) := by
  refine zofWHt (cc := cL_put) (maxL := 6) (ret := (some .int)) (by decide) rfl ?_
  intro p e s mY args below meth c s₁ B hml htab hv
  obtain ⟨rfl, hsz, hP, hK, hD0, hZ⟩ := hv
  have hx := B.exec
  have hb := B.bytes
  have hr := B.returns
  have hts := atoms_spec (ws := wsL_put) B.pre
  have hown : s.vm.findClass RL = some mY.cls := findClass_of_methodNamed B.named
  have hlocks := B.notSynchronized
  subst hsz
  have hD := hD0.self (sz := s.heap.size)
  generalize hAe : va_A [(xo, .inr (6, [.ref al, x1, x2, x3, x4, x5, .ref b1, x7])), (al, .inr (4, [.int mc, .ref (zk 0), .int 0]))] s.heap.size = A at hD hZ ⊢
  have hA : ∀ q : Nat, s.heap.size ≤ q → A q := fun q h => by rw [← hAe]; exact Or.inr h
  have hS : va_S A s.heap s.heap [] := va_S.rf
  have hz : s.heap.size + 0 ≤ s.heap.size := Nat.le_refl _
  have hl := lv_entry ([.ref xo, .int p0, .int p1, .int p2, .ref ou]) (n := 6) (Nat.le_of_ble_eq_true rfl)
  rw [lg_entry_eq]
  generalize (lg_sl ([.ref xo, .int p0, .int p1, .int p2, .ref ou]) ++ List.replicate (6 - (lg_sl ([.ref xo, .int p0, .int p1, .int p2, .ref ou])).length) Slot.unset).toArray = ls at hl ⊢
  have hl : lv_has ls 6 [(0, .ref xo), (1, .int p0), (2, .int p1), (3, .int p2), (4, .ref ou)] := hl
  have hP : va_P (dC, dI) vwCl [(xo, .inr (6, [.ref al, x1, x2, x3, x4, x5, .ref b1, x7])), (al, .inr (4, [.int mc, .ref (zk 0), .int 0]))] s.heap := hP
  have hD : va_D A [(xo, .inr (6, [.ref al, x1, x2, x3, x4, x5, .ref b1, x7])), (al, .inr (4, [.int mc, .ref (zk 0), .int 0]))] := hD
  refine lv_aload hx hb dL_put_0 (lv_at hl 4 rfl) ?_
  refine lv_aload_n hx hb dL_put_2 rfl (lv_at hl 0 rfl) ?_
  refine lv_iload_n hx hb dL_put_3 rfl (lv_at hl 1 rfl) ?_
  refine lv_iload_n hx hb dL_put_4 rfl (lv_at hl 2 rfl) ?_
  refine lv_iload_n hx hb dL_put_5 rfl (lv_at hl 3 rfl) ?_
  have hPc := hP.sub (ws' := [(xo, .inr (6, [.ref al, x1, x2, x3, x4, x5, .ref b1, x7])), (al, .inr (4, [.int mc, .ref (zk 0), .int 0]))]) [0, 1] rfl
  have hDc := hD.sub (ws' := [(xo, .inr (6, [.ref al, x1, x2, x3, x4, x5, .ref b1, x7])), (al, .inr (4, [.int mc, .ref (zk 0), .int 0]))]) [0, 1] (by decide) rfl
  have hFc := va_free (wc := [(xo, .inr (6, [.ref al, x1, x2, x3, x4, x5, .ref b1, x7])), (al, .inr (4, [.int mc, .ref (zk 0), .int 0]))]) hD hS hA [0, 1] rfl
  have hDv := hDc.self (sz := s.heap.size)
  have hpre := zpre (xs' := []) (av := [.ref xo, .int p0, .int p1, .int p2]) hPc hK (hDc.weaken (fun _ _ _ h => h)) hZ hS hFc (fun r hr => by cases hr)
  refine vx_calli (vx_runV (As := [.int p0, .int p1, .int p2]) (rest := [.ref ou]) ⟨hx, hb, hml, hown, hts⟩ (k_putX l dC dI cI cB cR cO zk hfl xo al b1 x1 x2 x3 x4 x5 x7 mc p0 p1 p2 s.heap.size ) (cwV 3 hts gL_put_X1_put rfl rfl rfl (by decide +kernel) ⟨(Nat.le_of_ble_eq_true rfl), (Nat.le_of_ble_eq_true rfl)⟩) ⟨zblind, (zrecv_6 hK hPc (q0 := 0) rfl), hpre⟩ rfl rfl hl.1 rfl (lv_room (Nat.le_of_ble_eq_true rfl)) dL_put_6 ⟨(Nat.le_of_ble_eq_true rfl), (Nat.le_of_ble_eq_true rfl)⟩) hS (fun q _ h => hFc q h) hFc (fun q _ h => hFc q h) (fun E9 ce q9 u t H1 locs ht hvm hu hB hz1 hk1 hS hcell hcv hcl => ?_) (fun _ _ _ _ _ _ _ hw9 _ _ _ _ => hw9.elim)
  obtain ⟨hE9, hP1, hK1, hD1, hz2⟩ := hB
  subst hE9
  rw [ht] at hP1 hz2
  have hPD9 := va_join (wr := []) (w1 := [(xo, .inr (6, [.ref al, x1, x2, x3, x4, x5, .ref b1, x7])), (al, .inr (4, [.int mc, .ref (zk 0), .int 0]))]) hP hD [0, 1] [] rfl rfl (by decide) (by decide) hk1 hFc hP1 hD1
  clear hPc hDc hFc hDv hpre hP hD hP1 hK1 hD1
  obtain ⟨hP, hD⟩ := hPD9
  replace hz : s.heap.size + 0 ≤ H1.size := by omega
  clear hz2
  replace hP : va_P (dC, dI) vwCl [(xo, .inr (6, [.ref al, x1, x2, x3, x4, x5, .ref b1, x7])), (al, .inr (4, [.int mc, .ref (zk 0), .int 0]))] H1 := hP
  replace hD : va_D A [(xo, .inr (6, [.ref al, x1, x2, x3, x4, x5, .ref b1, x7])), (al, .inr (4, [.int mc, .ref (zk 0), .int 0]))] := hD
  refine vx_catch hown [] ⟨0, 13, 16, 31⟩ [⟨0, 13, 20, 19⟩] htab (fun z hz9 => absurd hz9 List.not_mem_nil) (by decide) (by decide) (hts (.classLink RL 31 "java/lang/IndexOutOfBoundsException") (List.mem_cons_of_mem _ zw_884)) (zce0 hZ) hcell hcv hcl ?_
  refine W.eq (g2 := F0 mY 16 ls [.ref q9]) rfl ?_
  refine lv_astore (lv' := [(5, .ref q9), (0, .ref xo), (1, .int p0), (2, .int p1), (3, .int p2), (4, .ref ou)]) hx hb dL_put_16 hl (by decide) rfl (fun ls hl => ?_)
  refine lv_iconst (v := 1) hx hb dL_put_18 (by decide) ?_
  have hP9 := hP.sub (ws' := [(xo, .inr (6, [.ref al, x1, x2, x3, x4, x5, .ref b1, x7])), (al, .inr (4, [.int mc, .ref (zk 0), .int 0]))]) [0, 1] rfl
  have hD9 := hD.sub (ws' := [(xo, .inr (6, [.ref al, x1, x2, x3, x4, x5, .ref b1, x7])), (al, .inr (4, [.int mc, .ref (zk 0), .int 0]))]) [0, 1] (by decide) rfl
  exact W.iret (v := 1) hx hb hr (fun t ht hW => ⟨⟨_, (), rfl, rfl, ⟨by rw [ht]; exact hP9, va_K.moved hW.alike hK, hD9, by rw [ht]; exact hz⟩⟩, hS.F ht⟩) hS.2.2 dL_put_19

set_option maxHeartbeats 4000000 in
set_option maxRecDepth 100000 in
theorem k_sayH (l : Launch) (dC : Nat → ClassId) (dI : Nat → Nat → Nat) (cI cB cR cO : ClassId) (zk : Nat → Nat) (hfl : l.stackTraces = false) (xo al b1 : Nat) (x1 x2 x3 x4 x5 x7 : Value) (mc : Int32) (p0 p1 p2 : Int32) (ou : Nat) (sz : Nat)  : Met l yL_say wsL_say ({ frames := 8, cells := 1, slots := 6, locals := 135 }) (va_Pc [.ref xo, .int p0, .int p1, .int p2, .ref ou] (zPre (dC, dI) (zT cI cB cR cO) zk [] [(xo, .inr (6, [.ref al, x1, x2, x3, x4, x5, .ref b1, x7])), (al, .inr (4, [.int mc, .ref (zk 0), .int 0]))] sz)) (va_Qi (fun r (_ : Unit) => r = 1) (fun _ t => zEnd (dC, dI) (zT cI cB cR cO) (va_A [(xo, .inr (6, [.ref al, x1, x2, x3, x4, x5, .ref b1, x7])), (al, .inr (4, [.int mc, .ref (zk 0), .int 0]))] sz) [(xo, .inr (6, [.ref al, x1, x2, x3, x4, x5, .ref b1, x7])), (al, .inr (4, [.int mc, .ref (zk 0), .int 0]))] sz 0 t) (va_A [(xo, .inr (6, [.ref al, x1, x2, x3, x4, x5, .ref b1, x7])), (al, .inr (4, [.int mc, .ref (zk 0), .int 0]))] sz)) 1 6 (va_A [(xo, .inr (6, [.ref al, x1, x2, x3, x4, x5, .ref b1, x7])), (al, .inr (4, [.int mc, .ref (zk 0), .int 0]))] sz) := by
  refine zofWHt (cc := cL_say) (maxL := 6) (ret := (some .int)) (by decide) rfl ?_
  intro p e s mY args below meth c s₁ B hml htab hv
  obtain ⟨rfl, hsz, hP, hK, hD0, hZ⟩ := hv
  have hx := B.exec
  have hb := B.bytes
  have hr := B.returns
  have hts := atoms_spec (ws := wsL_say) B.pre
  have hown : s.vm.findClass RL = some mY.cls := findClass_of_methodNamed B.named
  have hlocks := B.notSynchronized
  subst hsz
  have hD := hD0.self (sz := s.heap.size)
  generalize hAe : va_A [(xo, .inr (6, [.ref al, x1, x2, x3, x4, x5, .ref b1, x7])), (al, .inr (4, [.int mc, .ref (zk 0), .int 0]))] s.heap.size = A at hD hZ ⊢
  have hA : ∀ q : Nat, s.heap.size ≤ q → A q := fun q h => by rw [← hAe]; exact Or.inr h
  have hS : va_S A s.heap s.heap [] := va_S.rf
  have hz : s.heap.size + 0 ≤ s.heap.size := Nat.le_refl _
  have hl := lv_entry ([.ref xo, .int p0, .int p1, .int p2, .ref ou]) (n := 6) (Nat.le_of_ble_eq_true rfl)
  rw [lg_entry_eq]
  generalize (lg_sl ([.ref xo, .int p0, .int p1, .int p2, .ref ou]) ++ List.replicate (6 - (lg_sl ([.ref xo, .int p0, .int p1, .int p2, .ref ou])).length) Slot.unset).toArray = ls at hl ⊢
  have hl : lv_has ls 6 [(0, .ref xo), (1, .int p0), (2, .int p1), (3, .int p2), (4, .ref ou)] := hl
  have hP : va_P (dC, dI) vwCl [(xo, .inr (6, [.ref al, x1, x2, x3, x4, x5, .ref b1, x7])), (al, .inr (4, [.int mc, .ref (zk 0), .int 0]))] s.heap := hP
  have hD : va_D A [(xo, .inr (6, [.ref al, x1, x2, x3, x4, x5, .ref b1, x7])), (al, .inr (4, [.int mc, .ref (zk 0), .int 0]))] := hD
  refine lv_aload hx hb dL_say_0 (lv_at hl 4 rfl) ?_
  refine lv_aload_n hx hb dL_say_2 rfl (lv_at hl 0 rfl) ?_
  refine lv_iload_n hx hb dL_say_3 rfl (lv_at hl 1 rfl) ?_
  refine lv_iload_n hx hb dL_say_4 rfl (lv_at hl 2 rfl) ?_
  refine lv_iload_n hx hb dL_say_5 rfl (lv_at hl 3 rfl) ?_
  have hPc := hP.sub (ws' := [(xo, .inr (6, [.ref al, x1, x2, x3, x4, x5, .ref b1, x7])), (al, .inr (4, [.int mc, .ref (zk 0), .int 0]))]) [0, 1] rfl
  have hDc := hD.sub (ws' := [(xo, .inr (6, [.ref al, x1, x2, x3, x4, x5, .ref b1, x7])), (al, .inr (4, [.int mc, .ref (zk 0), .int 0]))]) [0, 1] (by decide) rfl
  have hFc := va_free (wc := [(xo, .inr (6, [.ref al, x1, x2, x3, x4, x5, .ref b1, x7])), (al, .inr (4, [.int mc, .ref (zk 0), .int 0]))]) hD hS hA [0, 1] rfl
  have hDv := hDc.self (sz := s.heap.size)
  have hpre := zpre (xs' := []) (av := [.ref xo, .int p0, .int p1, .int p2]) hPc hK (hDc.weaken (fun _ _ _ h => h)) hZ hS hFc (fun r hr => by cases hr)
  refine vx_calli (vx_runV (As := [.int p0, .int p1, .int p2]) (rest := [.ref ou]) ⟨hx, hb, hml, hown, hts⟩ (k_sayX l dC dI cI cB cR cO zk hfl xo al b1 x1 x2 x3 x4 x5 x7 mc p0 p1 p2 s.heap.size ) (cwV 3 hts gL_say_X1_say rfl rfl rfl (by decide +kernel) ⟨(Nat.le_of_ble_eq_true rfl), (Nat.le_of_ble_eq_true rfl)⟩) ⟨zblind, (zrecv_6 hK hPc (q0 := 0) rfl), hpre⟩ rfl rfl hl.1 rfl (lv_room (Nat.le_of_ble_eq_true rfl)) dL_say_6 ⟨(Nat.le_of_ble_eq_true rfl), (Nat.le_of_ble_eq_true rfl)⟩) hS (fun q _ h => hFc q h) hFc (fun q _ h => hFc q h) (fun E9 ce q9 u t H1 locs ht hvm hu hB hz1 hk1 hS hcell hcv hcl => ?_) (fun _ _ _ _ _ _ _ hw9 _ _ _ _ => hw9.elim)
  obtain ⟨hE9, hP1, hK1, hD1, hz2⟩ := hB
  subst hE9
  rw [ht] at hP1 hz2
  have hPD9 := va_join (wr := []) (w1 := [(xo, .inr (6, [.ref al, x1, x2, x3, x4, x5, .ref b1, x7])), (al, .inr (4, [.int mc, .ref (zk 0), .int 0]))]) hP hD [0, 1] [] rfl rfl (by decide) (by decide) hk1 hFc hP1 hD1
  clear hPc hDc hFc hDv hpre hP hD hP1 hK1 hD1
  obtain ⟨hP, hD⟩ := hPD9
  replace hz : s.heap.size + 0 ≤ H1.size := by omega
  clear hz2
  replace hP : va_P (dC, dI) vwCl [(xo, .inr (6, [.ref al, x1, x2, x3, x4, x5, .ref b1, x7])), (al, .inr (4, [.int mc, .ref (zk 0), .int 0]))] H1 := hP
  replace hD : va_D A [(xo, .inr (6, [.ref al, x1, x2, x3, x4, x5, .ref b1, x7])), (al, .inr (4, [.int mc, .ref (zk 0), .int 0]))] := hD
  refine vx_catch hown [] ⟨0, 13, 16, 31⟩ [⟨0, 13, 20, 19⟩] htab (fun z hz9 => absurd hz9 List.not_mem_nil) (by decide) (by decide) (hts (.classLink RL 31 "java/lang/IndexOutOfBoundsException") (List.mem_cons_of_mem _ zw_884)) (zce0 hZ) hcell hcv hcl ?_
  refine W.eq (g2 := F0 mY 16 ls [.ref q9]) rfl ?_
  refine lv_astore (lv' := [(5, .ref q9), (0, .ref xo), (1, .int p0), (2, .int p1), (3, .int p2), (4, .ref ou)]) hx hb dL_say_16 hl (by decide) rfl (fun ls hl => ?_)
  refine lv_iconst (v := 1) hx hb dL_say_18 (by decide) ?_
  have hP9 := hP.sub (ws' := [(xo, .inr (6, [.ref al, x1, x2, x3, x4, x5, .ref b1, x7])), (al, .inr (4, [.int mc, .ref (zk 0), .int 0]))]) [0, 1] rfl
  have hD9 := hD.sub (ws' := [(xo, .inr (6, [.ref al, x1, x2, x3, x4, x5, .ref b1, x7])), (al, .inr (4, [.int mc, .ref (zk 0), .int 0]))]) [0, 1] (by decide) rfl
  exact W.iret (v := 1) hx hb hr (fun t ht hW => ⟨⟨_, (), rfl, rfl, ⟨by rw [ht]; exact hP9, va_K.moved hW.alike hK, hD9, by rw [ht]; exact hz⟩⟩, hS.F ht⟩) hS.2.2 dL_say_19

set_option maxHeartbeats 4000000 in
set_option maxRecDepth 100000 in
theorem k_noneH (l : Launch) (dC : Nat → ClassId) (dI : Nat → Nat → Nat) (cI cB cR cO : ClassId) (zk : Nat → Nat) (hfl : l.stackTraces = false) (xo al b1 : Nat) (x1 x2 x3 x4 x5 x7 : Value) (mc : Int32) (p0 p1 : Int32) (ou : Nat) (sz : Nat)  : Met l yL_none wsL_none ({ frames := 8, cells := 1, slots := 6, locals := 134 }) (va_Pc [.ref xo, .int p0, .int p1, .ref ou] (zPre (dC, dI) (zT cI cB cR cO) zk [] [(xo, .inr (6, [.ref al, x1, x2, x3, x4, x5, .ref b1, x7])), (al, .inr (4, [.int mc, .ref (zk 0), .int 0]))] sz)) (va_Qi (fun r (_ : Unit) => r = 1) (fun _ t => zEnd (dC, dI) (zT cI cB cR cO) (va_A [(xo, .inr (6, [.ref al, x1, x2, x3, x4, x5, .ref b1, x7])), (al, .inr (4, [.int mc, .ref (zk 0), .int 0]))] sz) [(xo, .inr (6, [.ref al, x1, x2, x3, x4, x5, .ref b1, x7])), (al, .inr (4, [.int mc, .ref (zk 0), .int 0]))] sz 0 t) (va_A [(xo, .inr (6, [.ref al, x1, x2, x3, x4, x5, .ref b1, x7])), (al, .inr (4, [.int mc, .ref (zk 0), .int 0]))] sz)) 1 6 (va_A [(xo, .inr (6, [.ref al, x1, x2, x3, x4, x5, .ref b1, x7])), (al, .inr (4, [.int mc, .ref (zk 0), .int 0]))] sz) := by
  refine zofWHt (cc := cL_none) (maxL := 5) (ret := (some .int)) (by decide) rfl ?_
  intro p e s mY args below meth c s₁ B hml htab hv
  obtain ⟨rfl, hsz, hP, hK, hD0, hZ⟩ := hv
  have hx := B.exec
  have hb := B.bytes
  have hr := B.returns
  have hts := atoms_spec (ws := wsL_none) B.pre
  have hown : s.vm.findClass RL = some mY.cls := findClass_of_methodNamed B.named
  have hlocks := B.notSynchronized
  subst hsz
  have hD := hD0.self (sz := s.heap.size)
  generalize hAe : va_A [(xo, .inr (6, [.ref al, x1, x2, x3, x4, x5, .ref b1, x7])), (al, .inr (4, [.int mc, .ref (zk 0), .int 0]))] s.heap.size = A at hD hZ ⊢
  have hA : ∀ q : Nat, s.heap.size ≤ q → A q := fun q h => by rw [← hAe]; exact Or.inr h
  have hS : va_S A s.heap s.heap [] := va_S.rf
  have hz : s.heap.size + 0 ≤ s.heap.size := Nat.le_refl _
  have hl := lv_entry ([.ref xo, .int p0, .int p1, .ref ou]) (n := 5) (Nat.le_of_ble_eq_true rfl)
  rw [lg_entry_eq]
  generalize (lg_sl ([.ref xo, .int p0, .int p1, .ref ou]) ++ List.replicate (5 - (lg_sl ([.ref xo, .int p0, .int p1, .ref ou])).length) Slot.unset).toArray = ls at hl ⊢
  have hl : lv_has ls 5 [(0, .ref xo), (1, .int p0), (2, .int p1), (3, .ref ou)] := hl
  have hP : va_P (dC, dI) vwCl [(xo, .inr (6, [.ref al, x1, x2, x3, x4, x5, .ref b1, x7])), (al, .inr (4, [.int mc, .ref (zk 0), .int 0]))] s.heap := hP
  have hD : va_D A [(xo, .inr (6, [.ref al, x1, x2, x3, x4, x5, .ref b1, x7])), (al, .inr (4, [.int mc, .ref (zk 0), .int 0]))] := hD
  refine lv_aload_n hx hb dL_none_0 rfl (lv_at hl 3 rfl) ?_
  refine lv_aload_n hx hb dL_none_1 rfl (lv_at hl 0 rfl) ?_
  refine lv_iload_n hx hb dL_none_2 rfl (lv_at hl 1 rfl) ?_
  refine lv_iload_n hx hb dL_none_3 rfl (lv_at hl 2 rfl) ?_
  have hPc := hP.sub (ws' := [(xo, .inr (6, [.ref al, x1, x2, x3, x4, x5, .ref b1, x7])), (al, .inr (4, [.int mc, .ref (zk 0), .int 0]))]) [0, 1] rfl
  have hDc := hD.sub (ws' := [(xo, .inr (6, [.ref al, x1, x2, x3, x4, x5, .ref b1, x7])), (al, .inr (4, [.int mc, .ref (zk 0), .int 0]))]) [0, 1] (by decide) rfl
  have hFc := va_free (wc := [(xo, .inr (6, [.ref al, x1, x2, x3, x4, x5, .ref b1, x7])), (al, .inr (4, [.int mc, .ref (zk 0), .int 0]))]) hD hS hA [0, 1] rfl
  have hDv := hDc.self (sz := s.heap.size)
  have hpre := zpre (xs' := []) (av := [.ref xo, .int p0, .int p1]) hPc hK (hDc.weaken (fun _ _ _ h => h)) hZ hS hFc (fun r hr => by cases hr)
  refine vx_calli (vx_runV (As := [.int p0, .int p1]) (rest := [.ref ou]) ⟨hx, hb, hml, hown, hts⟩ (k_noneX l dC dI cI cB cR cO zk hfl xo al b1 x1 x2 x3 x4 x5 x7 mc p0 p1 s.heap.size ) (cwV 2 hts gL_none_X1_none rfl rfl rfl (by decide +kernel) ⟨(Nat.le_of_ble_eq_true rfl), (Nat.le_of_ble_eq_true rfl)⟩) ⟨zblind, (zrecv_6 hK hPc (q0 := 0) rfl), hpre⟩ rfl rfl hl.1 rfl (lv_room (Nat.le_of_ble_eq_true rfl)) dL_none_4 ⟨(Nat.le_of_ble_eq_true rfl), (Nat.le_of_ble_eq_true rfl)⟩) hS (fun q _ h => hFc q h) hFc (fun q _ h => hFc q h) (fun E9 ce q9 u t H1 locs ht hvm hu hB hz1 hk1 hS hcell hcv hcl => ?_) (fun _ _ _ _ _ _ _ hw9 _ _ _ _ => hw9.elim)
  obtain ⟨hE9, hP1, hK1, hD1, hz2⟩ := hB
  subst hE9
  rw [ht] at hP1 hz2
  have hPD9 := va_join (wr := []) (w1 := [(xo, .inr (6, [.ref al, x1, x2, x3, x4, x5, .ref b1, x7])), (al, .inr (4, [.int mc, .ref (zk 0), .int 0]))]) hP hD [0, 1] [] rfl rfl (by decide) (by decide) hk1 hFc hP1 hD1
  clear hPc hDc hFc hDv hpre hP hD hP1 hK1 hD1
  obtain ⟨hP, hD⟩ := hPD9
  replace hz : s.heap.size + 0 ≤ H1.size := by omega
  clear hz2
  replace hP : va_P (dC, dI) vwCl [(xo, .inr (6, [.ref al, x1, x2, x3, x4, x5, .ref b1, x7])), (al, .inr (4, [.int mc, .ref (zk 0), .int 0]))] H1 := hP
  replace hD : va_D A [(xo, .inr (6, [.ref al, x1, x2, x3, x4, x5, .ref b1, x7])), (al, .inr (4, [.int mc, .ref (zk 0), .int 0]))] := hD
  refine vx_catch hown [] ⟨0, 11, 14, 31⟩ [⟨0, 11, 18, 19⟩] htab (fun z hz9 => absurd hz9 List.not_mem_nil) (by decide) (by decide) (hts (.classLink RL 31 "java/lang/IndexOutOfBoundsException") (List.mem_cons_of_mem _ zw_884)) (zce0 hZ) hcell hcv hcl ?_
  refine W.eq (g2 := F0 mY 14 ls [.ref q9]) rfl ?_
  refine lv_astore (lv' := [(4, .ref q9), (0, .ref xo), (1, .int p0), (2, .int p1), (3, .ref ou)]) hx hb dL_none_14 hl (by decide) rfl (fun ls hl => ?_)
  refine lv_iconst (v := 1) hx hb dL_none_16 (by decide) ?_
  have hP9 := hP.sub (ws' := [(xo, .inr (6, [.ref al, x1, x2, x3, x4, x5, .ref b1, x7])), (al, .inr (4, [.int mc, .ref (zk 0), .int 0]))]) [0, 1] rfl
  have hD9 := hD.sub (ws' := [(xo, .inr (6, [.ref al, x1, x2, x3, x4, x5, .ref b1, x7])), (al, .inr (4, [.int mc, .ref (zk 0), .int 0]))]) [0, 1] (by decide) rfl
  exact W.iret (v := 1) hx hb hr (fun t ht hW => ⟨⟨_, (), rfl, rfl, ⟨by rw [ht]; exact hP9, va_K.moved hW.alike hK, hD9, by rw [ht]; exact hz⟩⟩, hS.F ht⟩) hS.2.2 dL_none_17

set_option maxHeartbeats 4000000 in
set_option maxRecDepth 100000 in
theorem k_hangH (l : Launch) (dC : Nat → ClassId) (dI : Nat → Nat → Nat) (cI cB cR cO : ClassId) (zk : Nat → Nat) (hfl : l.stackTraces = false) (xo al b1 : Nat) (x1 x2 x3 x4 x5 x7 : Value) (mc : Int32) (p0 p1 p2 : Int32) (ou : Nat) (sz : Nat)  : Met l yL_hang wsL_hang ({ frames := 8, cells := 1, slots := 6, locals := 137 }) (va_Pc [.ref xo, .int p0, .int p1, .int p2, .ref ou] (zPre (dC, dI) (zT cI cB cR cO) zk [] [(xo, .inr (6, [.ref al, x1, x2, x3, x4, x5, .ref b1, x7])), (al, .inr (4, [.int mc, .ref (zk 0), .int 0]))] sz)) (va_Qi (fun r (_ : Unit) => r = 1) (fun _ t => zEnd (dC, dI) (zT cI cB cR cO) (va_A [(xo, .inr (6, [.ref al, x1, x2, x3, x4, x5, .ref b1, x7])), (al, .inr (4, [.int mc, .ref (zk 0), .int 0]))] sz) [(xo, .inr (6, [.ref al, x1, x2, x3, x4, x5, .ref b1, x7])), (al, .inr (4, [.int mc, .ref (zk 0), .int 0]))] sz 0 t) (va_A [(xo, .inr (6, [.ref al, x1, x2, x3, x4, x5, .ref b1, x7])), (al, .inr (4, [.int mc, .ref (zk 0), .int 0]))] sz)) 1 6 (va_A [(xo, .inr (6, [.ref al, x1, x2, x3, x4, x5, .ref b1, x7])), (al, .inr (4, [.int mc, .ref (zk 0), .int 0]))] sz) := by
  refine zofWHt (cc := cL_hang) (maxL := 6) (ret := (some .int)) (by decide) rfl ?_
  intro p e s mY args below meth c s₁ B hml htab hv
  obtain ⟨rfl, hsz, hP, hK, hD0, hZ⟩ := hv
  have hx := B.exec
  have hb := B.bytes
  have hr := B.returns
  have hts := atoms_spec (ws := wsL_hang) B.pre
  have hown : s.vm.findClass RL = some mY.cls := findClass_of_methodNamed B.named
  have hlocks := B.notSynchronized
  subst hsz
  have hD := hD0.self (sz := s.heap.size)
  generalize hAe : va_A [(xo, .inr (6, [.ref al, x1, x2, x3, x4, x5, .ref b1, x7])), (al, .inr (4, [.int mc, .ref (zk 0), .int 0]))] s.heap.size = A at hD hZ ⊢
  have hA : ∀ q : Nat, s.heap.size ≤ q → A q := fun q h => by rw [← hAe]; exact Or.inr h
  have hS : va_S A s.heap s.heap [] := va_S.rf
  have hz : s.heap.size + 0 ≤ s.heap.size := Nat.le_refl _
  have hl := lv_entry ([.ref xo, .int p0, .int p1, .int p2, .ref ou]) (n := 6) (Nat.le_of_ble_eq_true rfl)
  rw [lg_entry_eq]
  generalize (lg_sl ([.ref xo, .int p0, .int p1, .int p2, .ref ou]) ++ List.replicate (6 - (lg_sl ([.ref xo, .int p0, .int p1, .int p2, .ref ou])).length) Slot.unset).toArray = ls at hl ⊢
  have hl : lv_has ls 6 [(0, .ref xo), (1, .int p0), (2, .int p1), (3, .int p2), (4, .ref ou)] := hl
  have hP : va_P (dC, dI) vwCl [(xo, .inr (6, [.ref al, x1, x2, x3, x4, x5, .ref b1, x7])), (al, .inr (4, [.int mc, .ref (zk 0), .int 0]))] s.heap := hP
  have hD : va_D A [(xo, .inr (6, [.ref al, x1, x2, x3, x4, x5, .ref b1, x7])), (al, .inr (4, [.int mc, .ref (zk 0), .int 0]))] := hD
  refine lv_aload hx hb dL_hang_0 (lv_at hl 4 rfl) ?_
  refine lv_aload_n hx hb dL_hang_2 rfl (lv_at hl 0 rfl) ?_
  refine lv_iload_n hx hb dL_hang_3 rfl (lv_at hl 1 rfl) ?_
  refine lv_iload_n hx hb dL_hang_4 rfl (lv_at hl 2 rfl) ?_
  refine lv_iload_n hx hb dL_hang_5 rfl (lv_at hl 3 rfl) ?_
  have hPc := hP.sub (ws' := [(xo, .inr (6, [.ref al, x1, x2, x3, x4, x5, .ref b1, x7])), (al, .inr (4, [.int mc, .ref (zk 0), .int 0]))]) [0, 1] rfl
  have hDc := hD.sub (ws' := [(xo, .inr (6, [.ref al, x1, x2, x3, x4, x5, .ref b1, x7])), (al, .inr (4, [.int mc, .ref (zk 0), .int 0]))]) [0, 1] (by decide) rfl
  have hFc := va_free (wc := [(xo, .inr (6, [.ref al, x1, x2, x3, x4, x5, .ref b1, x7])), (al, .inr (4, [.int mc, .ref (zk 0), .int 0]))]) hD hS hA [0, 1] rfl
  have hDv := hDc.self (sz := s.heap.size)
  have hpre := zpre (xs' := []) (av := [.ref xo, .int p0, .int p1, .int p2]) hPc hK (hDc.weaken (fun _ _ _ h => h)) hZ hS hFc (fun r hr => by cases hr)
  refine vx_calli (vx_runV (As := [.int p0, .int p1, .int p2]) (rest := [.ref ou]) ⟨hx, hb, hml, hown, hts⟩ (k_hangX l dC dI cI cB cR cO zk hfl xo al b1 x1 x2 x3 x4 x5 x7 mc p0 p1 p2 s.heap.size ) (cwV 3 hts gL_hang_X1_hang rfl rfl rfl (by decide +kernel) ⟨(Nat.le_of_ble_eq_true rfl), (Nat.le_of_ble_eq_true rfl)⟩) ⟨zblind, (zrecv_6 hK hPc (q0 := 0) rfl), hpre⟩ rfl rfl hl.1 rfl (lv_room (Nat.le_of_ble_eq_true rfl)) dL_hang_6 ⟨(Nat.le_of_ble_eq_true rfl), (Nat.le_of_ble_eq_true rfl)⟩) hS (fun q _ h => hFc q h) hFc (fun q _ h => hFc q h) (fun E9 ce q9 u t H1 locs ht hvm hu hB hz1 hk1 hS hcell hcv hcl => ?_) (fun _ _ _ _ _ _ _ hw9 _ _ _ _ => hw9.elim)
  obtain ⟨hE9, hP1, hK1, hD1, hz2⟩ := hB
  subst hE9
  rw [ht] at hP1 hz2
  have hPD9 := va_join (wr := []) (w1 := [(xo, .inr (6, [.ref al, x1, x2, x3, x4, x5, .ref b1, x7])), (al, .inr (4, [.int mc, .ref (zk 0), .int 0]))]) hP hD [0, 1] [] rfl rfl (by decide) (by decide) hk1 hFc hP1 hD1
  clear hPc hDc hFc hDv hpre hP hD hP1 hK1 hD1
  obtain ⟨hP, hD⟩ := hPD9
  replace hz : s.heap.size + 0 ≤ H1.size := by omega
  clear hz2
  replace hP : va_P (dC, dI) vwCl [(xo, .inr (6, [.ref al, x1, x2, x3, x4, x5, .ref b1, x7])), (al, .inr (4, [.int mc, .ref (zk 0), .int 0]))] H1 := hP
  replace hD : va_D A [(xo, .inr (6, [.ref al, x1, x2, x3, x4, x5, .ref b1, x7])), (al, .inr (4, [.int mc, .ref (zk 0), .int 0]))] := hD
  refine vx_catch hown [] ⟨0, 13, 16, 31⟩ [⟨0, 13, 20, 19⟩, ⟨0, 13, 24, 21⟩] htab (fun z hz9 => absurd hz9 List.not_mem_nil) (by decide) (by decide) (hts (.classLink RL 31 "java/lang/IndexOutOfBoundsException") (List.mem_cons_of_mem _ zw_884)) (zce0 hZ) hcell hcv hcl ?_
  refine W.eq (g2 := F0 mY 16 ls [.ref q9]) rfl ?_
  refine lv_astore (lv' := [(5, .ref q9), (0, .ref xo), (1, .int p0), (2, .int p1), (3, .int p2), (4, .ref ou)]) hx hb dL_hang_16 hl (by decide) rfl (fun ls hl => ?_)
  refine lv_iconst (v := 1) hx hb dL_hang_18 (by decide) ?_
  have hP9 := hP.sub (ws' := [(xo, .inr (6, [.ref al, x1, x2, x3, x4, x5, .ref b1, x7])), (al, .inr (4, [.int mc, .ref (zk 0), .int 0]))]) [0, 1] rfl
  have hD9 := hD.sub (ws' := [(xo, .inr (6, [.ref al, x1, x2, x3, x4, x5, .ref b1, x7])), (al, .inr (4, [.int mc, .ref (zk 0), .int 0]))]) [0, 1] (by decide) rfl
  exact W.iret (v := 1) hx hb hr (fun t ht hW => ⟨⟨_, (), rfl, rfl, ⟨by rw [ht]; exact hP9, va_K.moved hW.alike hK, hD9, by rw [ht]; exact hz⟩⟩, hS.F ht⟩) hS.2.2 dL_hang_19

set_option maxHeartbeats 4000000 in
set_option maxRecDepth 100000 in
theorem k_swapH (l : Launch) (dC : Nat → ClassId) (dI : Nat → Nat → Nat) (cI cB cR cO : ClassId) (zk : Nat → Nat) (hfl : l.stackTraces = false) (xo al b1 : Nat) (x1 x2 x3 x4 x5 x7 : Value) (mc : Int32) (p0 p1 p2 : Int32) (ou : Nat) (sz : Nat)  : Met l yL_swap wsL_swap ({ frames := 8, cells := 1, slots := 6, locals := 138 }) (va_Pc [.ref xo, .int p0, .int p1, .int p2, .ref ou] (zPre (dC, dI) (zT cI cB cR cO) zk [] [(xo, .inr (6, [.ref al, x1, x2, x3, x4, x5, .ref b1, x7])), (al, .inr (4, [.int mc, .ref (zk 0), .int 0]))] sz)) (va_Qi (fun r (_ : Unit) => r = 1) (fun _ t => zEnd (dC, dI) (zT cI cB cR cO) (va_A [(xo, .inr (6, [.ref al, x1, x2, x3, x4, x5, .ref b1, x7])), (al, .inr (4, [.int mc, .ref (zk 0), .int 0]))] sz) [(xo, .inr (6, [.ref al, x1, x2, x3, x4, x5, .ref b1, x7])), (al, .inr (4, [.int mc, .ref (zk 0), .int 0]))] sz 0 t) (va_A [(xo, .inr (6, [.ref al, x1, x2, x3, x4, x5, .ref b1, x7])), (al, .inr (4, [.int mc, .ref (zk 0), .int 0]))] sz)) 1 6 (va_A [(xo, .inr (6, [.ref al, x1, x2, x3, x4, x5, .ref b1, x7])), (al, .inr (4, [.int mc, .ref (zk 0), .int 0]))] sz) := by
  refine zofWHt (cc := cL_swap) (maxL := 6) (ret := (some .int)) (by decide) rfl ?_
  intro p e s mY args below meth c s₁ B hml htab hv
  obtain ⟨rfl, hsz, hP, hK, hD0, hZ⟩ := hv
  have hx := B.exec
  have hb := B.bytes
  have hr := B.returns
  have hts := atoms_spec (ws := wsL_swap) B.pre
  have hown : s.vm.findClass RL = some mY.cls := findClass_of_methodNamed B.named
  have hlocks := B.notSynchronized
  subst hsz
  have hD := hD0.self (sz := s.heap.size)
  generalize hAe : va_A [(xo, .inr (6, [.ref al, x1, x2, x3, x4, x5, .ref b1, x7])), (al, .inr (4, [.int mc, .ref (zk 0), .int 0]))] s.heap.size = A at hD hZ ⊢
  have hA : ∀ q : Nat, s.heap.size ≤ q → A q := fun q h => by rw [← hAe]; exact Or.inr h
  have hS : va_S A s.heap s.heap [] := va_S.rf
  have hz : s.heap.size + 0 ≤ s.heap.size := Nat.le_refl _
  have hl := lv_entry ([.ref xo, .int p0, .int p1, .int p2, .ref ou]) (n := 6) (Nat.le_of_ble_eq_true rfl)
  rw [lg_entry_eq]
  generalize (lg_sl ([.ref xo, .int p0, .int p1, .int p2, .ref ou]) ++ List.replicate (6 - (lg_sl ([.ref xo, .int p0, .int p1, .int p2, .ref ou])).length) Slot.unset).toArray = ls at hl ⊢
  have hl : lv_has ls 6 [(0, .ref xo), (1, .int p0), (2, .int p1), (3, .int p2), (4, .ref ou)] := hl
  have hP : va_P (dC, dI) vwCl [(xo, .inr (6, [.ref al, x1, x2, x3, x4, x5, .ref b1, x7])), (al, .inr (4, [.int mc, .ref (zk 0), .int 0]))] s.heap := hP
  have hD : va_D A [(xo, .inr (6, [.ref al, x1, x2, x3, x4, x5, .ref b1, x7])), (al, .inr (4, [.int mc, .ref (zk 0), .int 0]))] := hD
  refine lv_aload hx hb dL_swap_0 (lv_at hl 4 rfl) ?_
  refine lv_aload_n hx hb dL_swap_2 rfl (lv_at hl 0 rfl) ?_
  refine lv_iload_n hx hb dL_swap_3 rfl (lv_at hl 1 rfl) ?_
  refine lv_iload_n hx hb dL_swap_4 rfl (lv_at hl 2 rfl) ?_
  refine lv_iload_n hx hb dL_swap_5 rfl (lv_at hl 3 rfl) ?_
  have hPc := hP.sub (ws' := [(xo, .inr (6, [.ref al, x1, x2, x3, x4, x5, .ref b1, x7])), (al, .inr (4, [.int mc, .ref (zk 0), .int 0]))]) [0, 1] rfl
  have hDc := hD.sub (ws' := [(xo, .inr (6, [.ref al, x1, x2, x3, x4, x5, .ref b1, x7])), (al, .inr (4, [.int mc, .ref (zk 0), .int 0]))]) [0, 1] (by decide) rfl
  have hFc := va_free (wc := [(xo, .inr (6, [.ref al, x1, x2, x3, x4, x5, .ref b1, x7])), (al, .inr (4, [.int mc, .ref (zk 0), .int 0]))]) hD hS hA [0, 1] rfl
  have hDv := hDc.self (sz := s.heap.size)
  have hpre := zpre (xs' := []) (av := [.ref xo, .int p0, .int p1, .int p2]) hPc hK (hDc.weaken (fun _ _ _ h => h)) hZ hS hFc (fun r hr => by cases hr)
  refine vx_calli (vx_runV (As := [.int p0, .int p1, .int p2]) (rest := [.ref ou]) ⟨hx, hb, hml, hown, hts⟩ (k_swapX l dC dI cI cB cR cO zk hfl xo al b1 x1 x2 x3 x4 x5 x7 mc p0 p1 p2 s.heap.size ) (cwV 3 hts gL_swap_X1_swap rfl rfl rfl (by decide +kernel) ⟨(Nat.le_of_ble_eq_true rfl), (Nat.le_of_ble_eq_true rfl)⟩) ⟨zblind, (zrecv_6 hK hPc (q0 := 0) rfl), hpre⟩ rfl rfl hl.1 rfl (lv_room (Nat.le_of_ble_eq_true rfl)) dL_swap_6 ⟨(Nat.le_of_ble_eq_true rfl), (Nat.le_of_ble_eq_true rfl)⟩) hS (fun q _ h => hFc q h) hFc (fun q _ h => hFc q h) (fun E9 ce q9 u t H1 locs ht hvm hu hB hz1 hk1 hS hcell hcv hcl => ?_) (fun _ _ _ _ _ _ _ hw9 _ _ _ _ => hw9.elim)
  obtain ⟨hE9, hP1, hK1, hD1, hz2⟩ := hB
  subst hE9
  rw [ht] at hP1 hz2
  have hPD9 := va_join (wr := []) (w1 := [(xo, .inr (6, [.ref al, x1, x2, x3, x4, x5, .ref b1, x7])), (al, .inr (4, [.int mc, .ref (zk 0), .int 0]))]) hP hD [0, 1] [] rfl rfl (by decide) (by decide) hk1 hFc hP1 hD1
  clear hPc hDc hFc hDv hpre hP hD hP1 hK1 hD1
  obtain ⟨hP, hD⟩ := hPD9
  replace hz : s.heap.size + 0 ≤ H1.size := by omega
  clear hz2
  replace hP : va_P (dC, dI) vwCl [(xo, .inr (6, [.ref al, x1, x2, x3, x4, x5, .ref b1, x7])), (al, .inr (4, [.int mc, .ref (zk 0), .int 0]))] H1 := hP
  replace hD : va_D A [(xo, .inr (6, [.ref al, x1, x2, x3, x4, x5, .ref b1, x7])), (al, .inr (4, [.int mc, .ref (zk 0), .int 0]))] := hD
  refine vx_catch hown [] ⟨0, 13, 16, 31⟩ [] htab (fun z hz9 => absurd hz9 List.not_mem_nil) (by decide) (by decide) (hts (.classLink RL 31 "java/lang/IndexOutOfBoundsException") (List.mem_cons_of_mem _ zw_884)) (zce0 hZ) hcell hcv hcl ?_
  refine W.eq (g2 := F0 mY 16 ls [.ref q9]) rfl ?_
  refine lv_astore (lv' := [(5, .ref q9), (0, .ref xo), (1, .int p0), (2, .int p1), (3, .int p2), (4, .ref ou)]) hx hb dL_swap_16 hl (by decide) rfl (fun ls hl => ?_)
  refine lv_iconst (v := 1) hx hb dL_swap_18 (by decide) ?_
  have hP9 := hP.sub (ws' := [(xo, .inr (6, [.ref al, x1, x2, x3, x4, x5, .ref b1, x7])), (al, .inr (4, [.int mc, .ref (zk 0), .int 0]))]) [0, 1] rfl
  have hD9 := hD.sub (ws' := [(xo, .inr (6, [.ref al, x1, x2, x3, x4, x5, .ref b1, x7])), (al, .inr (4, [.int mc, .ref (zk 0), .int 0]))]) [0, 1] (by decide) rfl
  exact W.iret (v := 1) hx hb hr (fun t ht hW => ⟨⟨_, (), rfl, rfl, ⟨by rw [ht]; exact hP9, va_K.moved hW.alike hK, hD9, by rw [ht]; exact hz⟩⟩, hS.F ht⟩) hS.2.2 dL_swap_19

set_option maxHeartbeats 4000000 in
set_option maxRecDepth 100000 in
theorem k_fillH (l : Launch) (dC : Nat → ClassId) (dI : Nat → Nat → Nat) (cI cB cR cO : ClassId) (zk : Nat → Nat) (hfl : l.stackTraces = false) (xo al b1 : Nat) (x1 x2 x3 x4 x5 x7 : Value) (mc : Int32) (p0 p1 : Int32) (ou : Nat) (sz : Nat)  : Met l yL_fill wsL_fill ({ frames := 8, cells := 1, slots := 6, locals := 135 }) (va_Pc [.ref xo, .int p0, .int p1, .ref ou] (zPre (dC, dI) (zT cI cB cR cO) zk [] [(xo, .inr (6, [.ref al, x1, x2, x3, x4, x5, .ref b1, x7])), (al, .inr (4, [.int mc, .ref (zk 0), .int 0]))] sz)) (va_Qi (fun r (_ : Unit) => r = 1) (fun _ t => zEnd (dC, dI) (zT cI cB cR cO) (va_A [(xo, .inr (6, [.ref al, x1, x2, x3, x4, x5, .ref b1, x7])), (al, .inr (4, [.int mc, .ref (zk 0), .int 0]))] sz) [(xo, .inr (6, [.ref al, x1, x2, x3, x4, x5, .ref b1, x7])), (al, .inr (4, [.int mc, .ref (zk 0), .int 0]))] sz 0 t) (va_A [(xo, .inr (6, [.ref al, x1, x2, x3, x4, x5, .ref b1, x7])), (al, .inr (4, [.int mc, .ref (zk 0), .int 0]))] sz)) 1 6 (va_A [(xo, .inr (6, [.ref al, x1, x2, x3, x4, x5, .ref b1, x7])), (al, .inr (4, [.int mc, .ref (zk 0), .int 0]))] sz) := by
  refine zofWHt (cc := cL_fill) (maxL := 5) (ret := (some .int)) (by decide) rfl ?_
  intro p e s mY args below meth c s₁ B hml htab hv
  obtain ⟨rfl, hsz, hP, hK, hD0, hZ⟩ := hv
  have hx := B.exec
  have hb := B.bytes
  have hr := B.returns
  have hts := atoms_spec (ws := wsL_fill) B.pre
  have hown : s.vm.findClass RL = some mY.cls := findClass_of_methodNamed B.named
  have hlocks := B.notSynchronized
  subst hsz
  have hD := hD0.self (sz := s.heap.size)
  generalize hAe : va_A [(xo, .inr (6, [.ref al, x1, x2, x3, x4, x5, .ref b1, x7])), (al, .inr (4, [.int mc, .ref (zk 0), .int 0]))] s.heap.size = A at hD hZ ⊢
  have hA : ∀ q : Nat, s.heap.size ≤ q → A q := fun q h => by rw [← hAe]; exact Or.inr h
  have hS : va_S A s.heap s.heap [] := va_S.rf
  have hz : s.heap.size + 0 ≤ s.heap.size := Nat.le_refl _
  have hl := lv_entry ([.ref xo, .int p0, .int p1, .ref ou]) (n := 5) (Nat.le_of_ble_eq_true rfl)
  rw [lg_entry_eq]
  generalize (lg_sl ([.ref xo, .int p0, .int p1, .ref ou]) ++ List.replicate (5 - (lg_sl ([.ref xo, .int p0, .int p1, .ref ou])).length) Slot.unset).toArray = ls at hl ⊢
  have hl : lv_has ls 5 [(0, .ref xo), (1, .int p0), (2, .int p1), (3, .ref ou)] := hl
  have hP : va_P (dC, dI) vwCl [(xo, .inr (6, [.ref al, x1, x2, x3, x4, x5, .ref b1, x7])), (al, .inr (4, [.int mc, .ref (zk 0), .int 0]))] s.heap := hP
  have hD : va_D A [(xo, .inr (6, [.ref al, x1, x2, x3, x4, x5, .ref b1, x7])), (al, .inr (4, [.int mc, .ref (zk 0), .int 0]))] := hD
  refine lv_aload_n hx hb dL_fill_0 rfl (lv_at hl 3 rfl) ?_
  refine lv_aload_n hx hb dL_fill_1 rfl (lv_at hl 0 rfl) ?_
  refine lv_iload_n hx hb dL_fill_2 rfl (lv_at hl 1 rfl) ?_
  refine lv_iload_n hx hb dL_fill_3 rfl (lv_at hl 2 rfl) ?_
  have hPc := hP.sub (ws' := [(xo, .inr (6, [.ref al, x1, x2, x3, x4, x5, .ref b1, x7])), (al, .inr (4, [.int mc, .ref (zk 0), .int 0]))]) [0, 1] rfl
  have hDc := hD.sub (ws' := [(xo, .inr (6, [.ref al, x1, x2, x3, x4, x5, .ref b1, x7])), (al, .inr (4, [.int mc, .ref (zk 0), .int 0]))]) [0, 1] (by decide) rfl
  have hFc := va_free (wc := [(xo, .inr (6, [.ref al, x1, x2, x3, x4, x5, .ref b1, x7])), (al, .inr (4, [.int mc, .ref (zk 0), .int 0]))]) hD hS hA [0, 1] rfl
  have hDv := hDc.self (sz := s.heap.size)
  have hpre := zpre (xs' := []) (av := [.ref xo, .int p0, .int p1]) hPc hK (hDc.weaken (fun _ _ _ h => h)) hZ hS hFc (fun r hr => by cases hr)
  refine vx_calli (vx_runV (As := [.int p0, .int p1]) (rest := [.ref ou]) ⟨hx, hb, hml, hown, hts⟩ (k_fillX l dC dI cI cB cR cO zk hfl xo al b1 x1 x2 x3 x4 x5 x7 mc p0 p1 s.heap.size ) (cwV 2 hts gL_fill_X1_fill rfl rfl rfl (by decide +kernel) ⟨(Nat.le_of_ble_eq_true rfl), (Nat.le_of_ble_eq_true rfl)⟩) ⟨zblind, (zrecv_6 hK hPc (q0 := 0) rfl), hpre⟩ rfl rfl hl.1 rfl (lv_room (Nat.le_of_ble_eq_true rfl)) dL_fill_4 ⟨(Nat.le_of_ble_eq_true rfl), (Nat.le_of_ble_eq_true rfl)⟩) hS (fun q _ h => hFc q h) hFc (fun q _ h => hFc q h) (fun E9 ce q9 u t H1 locs ht hvm hu hB hz1 hk1 hS hcell hcv hcl => ?_) (fun _ _ _ _ _ _ _ hw9 _ _ _ _ => hw9.elim)
  obtain ⟨hE9, hP1, hK1, hD1, hz2⟩ := hB
  subst hE9
  rw [ht] at hP1 hz2
  have hPD9 := va_join (wr := []) (w1 := [(xo, .inr (6, [.ref al, x1, x2, x3, x4, x5, .ref b1, x7])), (al, .inr (4, [.int mc, .ref (zk 0), .int 0]))]) hP hD [0, 1] [] rfl rfl (by decide) (by decide) hk1 hFc hP1 hD1
  clear hPc hDc hFc hDv hpre hP hD hP1 hK1 hD1
  obtain ⟨hP, hD⟩ := hPD9
  replace hz : s.heap.size + 0 ≤ H1.size := by omega
  clear hz2
  replace hP : va_P (dC, dI) vwCl [(xo, .inr (6, [.ref al, x1, x2, x3, x4, x5, .ref b1, x7])), (al, .inr (4, [.int mc, .ref (zk 0), .int 0]))] H1 := hP
  replace hD : va_D A [(xo, .inr (6, [.ref al, x1, x2, x3, x4, x5, .ref b1, x7])), (al, .inr (4, [.int mc, .ref (zk 0), .int 0]))] := hD
  refine vx_catch hown [] ⟨0, 11, 14, 31⟩ [⟨0, 11, 18, 19⟩] htab (fun z hz9 => absurd hz9 List.not_mem_nil) (by decide) (by decide) (hts (.classLink RL 31 "java/lang/IndexOutOfBoundsException") (List.mem_cons_of_mem _ zw_884)) (zce0 hZ) hcell hcv hcl ?_
  refine W.eq (g2 := F0 mY 14 ls [.ref q9]) rfl ?_
  refine lv_astore (lv' := [(4, .ref q9), (0, .ref xo), (1, .int p0), (2, .int p1), (3, .ref ou)]) hx hb dL_fill_14 hl (by decide) rfl (fun ls hl => ?_)
  refine lv_iconst (v := 1) hx hb dL_fill_16 (by decide) ?_
  have hP9 := hP.sub (ws' := [(xo, .inr (6, [.ref al, x1, x2, x3, x4, x5, .ref b1, x7])), (al, .inr (4, [.int mc, .ref (zk 0), .int 0]))]) [0, 1] rfl
  have hD9 := hD.sub (ws' := [(xo, .inr (6, [.ref al, x1, x2, x3, x4, x5, .ref b1, x7])), (al, .inr (4, [.int mc, .ref (zk 0), .int 0]))]) [0, 1] (by decide) rfl
  exact W.iret (v := 1) hx hb hr (fun t ht hW => ⟨⟨_, (), rfl, rfl, ⟨by rw [ht]; exact hP9, va_K.moved hW.alike hK, hD9, by rw [ht]; exact hz⟩⟩, hS.F ht⟩) hS.2.2 dL_fill_17

set_option maxHeartbeats 4000000 in
set_option maxRecDepth 100000 in
theorem k_fillRowH (l : Launch) (dC : Nat → ClassId) (dI : Nat → Nat → Nat) (cI cB cR cO : ClassId) (zk : Nat → Nat) (hfl : l.stackTraces = false) (xo al b1 : Nat) (x1 x2 x3 x4 x5 x7 : Value) (mc : Int32) (p0 p1 : Int32) (ou : Nat) (sz : Nat)  : Met l yL_fillRow wsL_fillRow ({ frames := 8, cells := 1, slots := 6, locals := 137 }) (va_Pc [.ref xo, .int p0, .int p1, .ref ou] (zPre (dC, dI) (zT cI cB cR cO) zk [] [(xo, .inr (6, [.ref al, x1, x2, x3, x4, x5, .ref b1, x7])), (al, .inr (4, [.int mc, .ref (zk 0), .int 0]))] sz)) (va_Qi (fun r (_ : Unit) => r = 1) (fun _ t => zEnd (dC, dI) (zT cI cB cR cO) (va_A [(xo, .inr (6, [.ref al, x1, x2, x3, x4, x5, .ref b1, x7])), (al, .inr (4, [.int mc, .ref (zk 0), .int 0]))] sz) [(xo, .inr (6, [.ref al, x1, x2, x3, x4, x5, .ref b1, x7])), (al, .inr (4, [.int mc, .ref (zk 0), .int 0]))] sz 0 t) (va_A [(xo, .inr (6, [.ref al, x1, x2, x3, x4, x5, .ref b1, x7])), (al, .inr (4, [.int mc, .ref (zk 0), .int 0]))] sz)) 1 6 (va_A [(xo, .inr (6, [.ref al, x1, x2, x3, x4, x5, .ref b1, x7])), (al, .inr (4, [.int mc, .ref (zk 0), .int 0]))] sz) := by
  refine zofWHt (cc := cL_fillRow) (maxL := 5) (ret := (some .int)) (by decide) rfl ?_
  intro p e s mY args below meth c s₁ B hml htab hv
  obtain ⟨rfl, hsz, hP, hK, hD0, hZ⟩ := hv
  have hx := B.exec
  have hb := B.bytes
  have hr := B.returns
  have hts := atoms_spec (ws := wsL_fillRow) B.pre
  have hown : s.vm.findClass RL = some mY.cls := findClass_of_methodNamed B.named
  have hlocks := B.notSynchronized
  subst hsz
  have hD := hD0.self (sz := s.heap.size)
  generalize hAe : va_A [(xo, .inr (6, [.ref al, x1, x2, x3, x4, x5, .ref b1, x7])), (al, .inr (4, [.int mc, .ref (zk 0), .int 0]))] s.heap.size = A at hD hZ ⊢
  have hA : ∀ q : Nat, s.heap.size ≤ q → A q := fun q h => by rw [← hAe]; exact Or.inr h
  have hS : va_S A s.heap s.heap [] := va_S.rf
  have hz : s.heap.size + 0 ≤ s.heap.size := Nat.le_refl _
  have hl := lv_entry ([.ref xo, .int p0, .int p1, .ref ou]) (n := 5) (Nat.le_of_ble_eq_true rfl)
  rw [lg_entry_eq]
  generalize (lg_sl ([.ref xo, .int p0, .int p1, .ref ou]) ++ List.replicate (5 - (lg_sl ([.ref xo, .int p0, .int p1, .ref ou])).length) Slot.unset).toArray = ls at hl ⊢
  have hl : lv_has ls 5 [(0, .ref xo), (1, .int p0), (2, .int p1), (3, .ref ou)] := hl
  have hP : va_P (dC, dI) vwCl [(xo, .inr (6, [.ref al, x1, x2, x3, x4, x5, .ref b1, x7])), (al, .inr (4, [.int mc, .ref (zk 0), .int 0]))] s.heap := hP
  have hD : va_D A [(xo, .inr (6, [.ref al, x1, x2, x3, x4, x5, .ref b1, x7])), (al, .inr (4, [.int mc, .ref (zk 0), .int 0]))] := hD
  refine lv_aload_n hx hb dL_fillRow_0 rfl (lv_at hl 3 rfl) ?_
  refine lv_aload_n hx hb dL_fillRow_1 rfl (lv_at hl 0 rfl) ?_
  refine lv_iload_n hx hb dL_fillRow_2 rfl (lv_at hl 1 rfl) ?_
  refine lv_iload_n hx hb dL_fillRow_3 rfl (lv_at hl 2 rfl) ?_
  have hPc := hP.sub (ws' := [(xo, .inr (6, [.ref al, x1, x2, x3, x4, x5, .ref b1, x7])), (al, .inr (4, [.int mc, .ref (zk 0), .int 0]))]) [0, 1] rfl
  have hDc := hD.sub (ws' := [(xo, .inr (6, [.ref al, x1, x2, x3, x4, x5, .ref b1, x7])), (al, .inr (4, [.int mc, .ref (zk 0), .int 0]))]) [0, 1] (by decide) rfl
  have hFc := va_free (wc := [(xo, .inr (6, [.ref al, x1, x2, x3, x4, x5, .ref b1, x7])), (al, .inr (4, [.int mc, .ref (zk 0), .int 0]))]) hD hS hA [0, 1] rfl
  have hDv := hDc.self (sz := s.heap.size)
  have hpre := zpre (xs' := []) (av := [.ref xo, .int p0, .int p1]) hPc hK (hDc.weaken (fun _ _ _ h => h)) hZ hS hFc (fun r hr => by cases hr)
  refine vx_calli (vx_runV (As := [.int p0, .int p1]) (rest := [.ref ou]) ⟨hx, hb, hml, hown, hts⟩ (k_fillRowX l dC dI cI cB cR cO zk hfl xo al b1 x1 x2 x3 x4 x5 x7 mc p0 p1 s.heap.size ) (cwV 2 hts gL_fillRow_X1_fillRow rfl rfl rfl (by decide +kernel) ⟨(Nat.le_of_ble_eq_true rfl), (Nat.le_of_ble_eq_true rfl)⟩) ⟨zblind, (zrecv_6 hK hPc (q0 := 0) rfl), hpre⟩ rfl rfl hl.1 rfl (lv_room (Nat.le_of_ble_eq_true rfl)) dL_fillRow_4 ⟨(Nat.le_of_ble_eq_true rfl), (Nat.le_of_ble_eq_true rfl)⟩) hS (fun q _ h => hFc q h) hFc (fun q _ h => hFc q h) (fun E9 ce q9 u t H1 locs ht hvm hu hB hz1 hk1 hS hcell hcv hcl => ?_) (fun _ _ _ _ _ _ _ hw9 _ _ _ _ => hw9.elim)
  obtain ⟨hE9, hP1, hK1, hD1, hz2⟩ := hB
  subst hE9
  rw [ht] at hP1 hz2
  have hPD9 := va_join (wr := []) (w1 := [(xo, .inr (6, [.ref al, x1, x2, x3, x4, x5, .ref b1, x7])), (al, .inr (4, [.int mc, .ref (zk 0), .int 0]))]) hP hD [0, 1] [] rfl rfl (by decide) (by decide) hk1 hFc hP1 hD1
  clear hPc hDc hFc hDv hpre hP hD hP1 hK1 hD1
  obtain ⟨hP, hD⟩ := hPD9
  replace hz : s.heap.size + 0 ≤ H1.size := by omega
  clear hz2
  replace hP : va_P (dC, dI) vwCl [(xo, .inr (6, [.ref al, x1, x2, x3, x4, x5, .ref b1, x7])), (al, .inr (4, [.int mc, .ref (zk 0), .int 0]))] H1 := hP
  replace hD : va_D A [(xo, .inr (6, [.ref al, x1, x2, x3, x4, x5, .ref b1, x7])), (al, .inr (4, [.int mc, .ref (zk 0), .int 0]))] := hD
  refine vx_catch hown [] ⟨0, 11, 14, 31⟩ [⟨0, 11, 18, 19⟩, ⟨0, 11, 22, 21⟩] htab (fun z hz9 => absurd hz9 List.not_mem_nil) (by decide) (by decide) (hts (.classLink RL 31 "java/lang/IndexOutOfBoundsException") (List.mem_cons_of_mem _ zw_884)) (zce0 hZ) hcell hcv hcl ?_
  refine W.eq (g2 := F0 mY 14 ls [.ref q9]) rfl ?_
  refine lv_astore (lv' := [(4, .ref q9), (0, .ref xo), (1, .int p0), (2, .int p1), (3, .ref ou)]) hx hb dL_fillRow_14 hl (by decide) rfl (fun ls hl => ?_)
  refine lv_iconst (v := 1) hx hb dL_fillRow_16 (by decide) ?_
  have hP9 := hP.sub (ws' := [(xo, .inr (6, [.ref al, x1, x2, x3, x4, x5, .ref b1, x7])), (al, .inr (4, [.int mc, .ref (zk 0), .int 0]))]) [0, 1] rfl
  have hD9 := hD.sub (ws' := [(xo, .inr (6, [.ref al, x1, x2, x3, x4, x5, .ref b1, x7])), (al, .inr (4, [.int mc, .ref (zk 0), .int 0]))]) [0, 1] (by decide) rfl
  exact W.iret (v := 1) hx hb hr (fun t ht hW => ⟨⟨_, (), rfl, rfl, ⟨by rw [ht]; exact hP9, va_K.moved hW.alike hK, hD9, by rw [ht]; exact hz⟩⟩, hS.F ht⟩) hS.2.2 dL_fillRow_17

set_option maxHeartbeats 4000000 in
set_option maxRecDepth 100000 in
theorem k_setAllH (l : Launch) (dC : Nat → ClassId) (dI : Nat → Nat → Nat) (cI cB cR cO : ClassId) (zk : Nat → Nat) (hfl : l.stackTraces = false) (xo al b1 : Nat) (x1 x2 x3 x4 x5 x7 : Value) (mc : Int32) (p0 p1 p2 p3 : Int32) (ou : Nat) (sz : Nat)  : Met l yL_setAll wsL_setAll ({ frames := 8, cells := 1, slots := 6, locals := 137 }) (va_Pc [.ref xo, .int p0, .int p1, .int p2, .int p3, .ref ou] (zPre (dC, dI) (zT cI cB cR cO) zk [] [(xo, .inr (6, [.ref al, x1, x2, x3, x4, x5, .ref b1, x7])), (al, .inr (4, [.int mc, .ref (zk 0), .int 0]))] sz)) (va_Qi (fun r (_ : Unit) => r = 1) (fun _ t => zEnd (dC, dI) (zT cI cB cR cO) (va_A [(xo, .inr (6, [.ref al, x1, x2, x3, x4, x5, .ref b1, x7])), (al, .inr (4, [.int mc, .ref (zk 0), .int 0]))] sz) [(xo, .inr (6, [.ref al, x1, x2, x3, x4, x5, .ref b1, x7])), (al, .inr (4, [.int mc, .ref (zk 0), .int 0]))] sz 0 t) (va_A [(xo, .inr (6, [.ref al, x1, x2, x3, x4, x5, .ref b1, x7])), (al, .inr (4, [.int mc, .ref (zk 0), .int 0]))] sz)) 1 6 (va_A [(xo, .inr (6, [.ref al, x1, x2, x3, x4, x5, .ref b1, x7])), (al, .inr (4, [.int mc, .ref (zk 0), .int 0]))] sz) := by
  refine zofWHt (cc := cL_setAll) (maxL := 7) (ret := (some .int)) (by decide) rfl ?_
  intro p e s mY args below meth c s₁ B hml htab hv
  obtain ⟨rfl, hsz, hP, hK, hD0, hZ⟩ := hv
  have hx := B.exec
  have hb := B.bytes
  have hr := B.returns
  have hts := atoms_spec (ws := wsL_setAll) B.pre
  have hown : s.vm.findClass RL = some mY.cls := findClass_of_methodNamed B.named
  have hlocks := B.notSynchronized
  subst hsz
  have hD := hD0.self (sz := s.heap.size)
  generalize hAe : va_A [(xo, .inr (6, [.ref al, x1, x2, x3, x4, x5, .ref b1, x7])), (al, .inr (4, [.int mc, .ref (zk 0), .int 0]))] s.heap.size = A at hD hZ ⊢
  have hA : ∀ q : Nat, s.heap.size ≤ q → A q := fun q h => by rw [← hAe]; exact Or.inr h
  have hS : va_S A s.heap s.heap [] := va_S.rf
  have hz : s.heap.size + 0 ≤ s.heap.size := Nat.le_refl _
  have hl := lv_entry ([.ref xo, .int p0, .int p1, .int p2, .int p3, .ref ou]) (n := 7) (Nat.le_of_ble_eq_true rfl)
  rw [lg_entry_eq]
  generalize (lg_sl ([.ref xo, .int p0, .int p1, .int p2, .int p3, .ref ou]) ++ List.replicate (7 - (lg_sl ([.ref xo, .int p0, .int p1, .int p2, .int p3, .ref ou])).length) Slot.unset).toArray = ls at hl ⊢
  have hl : lv_has ls 7 [(0, .ref xo), (1, .int p0), (2, .int p1), (3, .int p2), (4, .int p3), (5, .ref ou)] := hl
  have hP : va_P (dC, dI) vwCl [(xo, .inr (6, [.ref al, x1, x2, x3, x4, x5, .ref b1, x7])), (al, .inr (4, [.int mc, .ref (zk 0), .int 0]))] s.heap := hP
  have hD : va_D A [(xo, .inr (6, [.ref al, x1, x2, x3, x4, x5, .ref b1, x7])), (al, .inr (4, [.int mc, .ref (zk 0), .int 0]))] := hD
  refine lv_aload hx hb dL_setAll_0 (lv_at hl 5 rfl) ?_
  refine lv_aload_n hx hb dL_setAll_2 rfl (lv_at hl 0 rfl) ?_
  refine lv_iload_n hx hb dL_setAll_3 rfl (lv_at hl 1 rfl) ?_
  refine lv_iload_n hx hb dL_setAll_4 rfl (lv_at hl 2 rfl) ?_
  refine lv_iload_n hx hb dL_setAll_5 rfl (lv_at hl 3 rfl) ?_
  refine lv_iload hx hb dL_setAll_6 (lv_at hl 4 rfl) ?_
  have hPc := hP.sub (ws' := [(xo, .inr (6, [.ref al, x1, x2, x3, x4, x5, .ref b1, x7])), (al, .inr (4, [.int mc, .ref (zk 0), .int 0]))]) [0, 1] rfl
  have hDc := hD.sub (ws' := [(xo, .inr (6, [.ref al, x1, x2, x3, x4, x5, .ref b1, x7])), (al, .inr (4, [.int mc, .ref (zk 0), .int 0]))]) [0, 1] (by decide) rfl
  have hFc := va_free (wc := [(xo, .inr (6, [.ref al, x1, x2, x3, x4, x5, .ref b1, x7])), (al, .inr (4, [.int mc, .ref (zk 0), .int 0]))]) hD hS hA [0, 1] rfl
  have hDv := hDc.self (sz := s.heap.size)
  have hpre := zpre (xs' := []) (av := [.ref xo, .int p0, .int p1, .int p2, .int p3]) hPc hK (hDc.weaken (fun _ _ _ h => h)) hZ hS hFc (fun r hr => by cases hr)
  refine vx_calli (vx_runV (As := [.int p0, .int p1, .int p2, .int p3]) (rest := [.ref ou]) ⟨hx, hb, hml, hown, hts⟩ (k_setAllX l dC dI cI cB cR cO zk hfl xo al b1 x1 x2 x3 x4 x5 x7 mc p0 p1 p2 p3 s.heap.size ) (cwV 4 hts gL_setAll_X1_setAll rfl rfl rfl (by decide +kernel) ⟨(Nat.le_of_ble_eq_true rfl), (Nat.le_of_ble_eq_true rfl)⟩) ⟨zblind, (zrecv_6 hK hPc (q0 := 0) rfl), hpre⟩ rfl rfl hl.1 rfl (lv_room (Nat.le_of_ble_eq_true rfl)) dL_setAll_8 ⟨(Nat.le_of_ble_eq_true rfl), (Nat.le_of_ble_eq_true rfl)⟩) hS (fun q _ h => hFc q h) hFc (fun q _ h => hFc q h) (fun E9 ce q9 u t H1 locs ht hvm hu hB hz1 hk1 hS hcell hcv hcl => ?_) (fun _ _ _ _ _ _ _ hw9 _ _ _ _ => hw9.elim)
  obtain ⟨hE9, hP1, hK1, hD1, hz2⟩ := hB
  subst hE9
  rw [ht] at hP1 hz2
  have hPD9 := va_join (wr := []) (w1 := [(xo, .inr (6, [.ref al, x1, x2, x3, x4, x5, .ref b1, x7])), (al, .inr (4, [.int mc, .ref (zk 0), .int 0]))]) hP hD [0, 1] [] rfl rfl (by decide) (by decide) hk1 hFc hP1 hD1
  clear hPc hDc hFc hDv hpre hP hD hP1 hK1 hD1
  obtain ⟨hP, hD⟩ := hPD9
  replace hz : s.heap.size + 0 ≤ H1.size := by omega
  clear hz2
  replace hP : va_P (dC, dI) vwCl [(xo, .inr (6, [.ref al, x1, x2, x3, x4, x5, .ref b1, x7])), (al, .inr (4, [.int mc, .ref (zk 0), .int 0]))] H1 := hP
  replace hD : va_D A [(xo, .inr (6, [.ref al, x1, x2, x3, x4, x5, .ref b1, x7])), (al, .inr (4, [.int mc, .ref (zk 0), .int 0]))] := hD
  refine vx_catch hown [] ⟨0, 15, 18, 31⟩ [⟨0, 15, 22, 19⟩] htab (fun z hz9 => absurd hz9 List.not_mem_nil) (by decide) (by decide) (hts (.classLink RL 31 "java/lang/IndexOutOfBoundsException") (List.mem_cons_of_mem _ zw_884)) (zce0 hZ) hcell hcv hcl ?_
  refine W.eq (g2 := F0 mY 18 ls [.ref q9]) rfl ?_
  refine lv_astore (lv' := [(6, .ref q9), (0, .ref xo), (1, .int p0), (2, .int p1), (3, .int p2), (4, .int p3), (5, .ref ou)]) hx hb dL_setAll_18 hl (by decide) rfl (fun ls hl => ?_)
  refine lv_iconst (v := 1) hx hb dL_setAll_20 (by decide) ?_
  have hP9 := hP.sub (ws' := [(xo, .inr (6, [.ref al, x1, x2, x3, x4, x5, .ref b1, x7])), (al, .inr (4, [.int mc, .ref (zk 0), .int 0]))]) [0, 1] rfl
  have hD9 := hD.sub (ws' := [(xo, .inr (6, [.ref al, x1, x2, x3, x4, x5, .ref b1, x7])), (al, .inr (4, [.int mc, .ref (zk 0), .int 0]))]) [0, 1] (by decide) rfl
  exact W.iret (v := 1) hx hb hr (fun t ht hW => ⟨⟨_, (), rfl, rfl, ⟨by rw [ht]; exact hP9, va_K.moved hW.alike hK, hD9, by rw [ht]; exact hz⟩⟩, hS.F ht⟩) hS.2.2 dL_setAll_21

set_option maxHeartbeats 4000000 in
set_option maxRecDepth 100000 in
theorem k_setRowsH (l : Launch) (dC : Nat → ClassId) (dI : Nat → Nat → Nat) (cI cB cR cO : ClassId) (zk : Nat → Nat) (hfl : l.stackTraces = false) (xo al b1 : Nat) (x1 x2 x3 x4 x5 x7 : Value) (mc : Int32) (p0 p1 : Int32) (ou : Nat) (sz : Nat)  : Met l yL_setRows wsL_setRows ({ frames := 8, cells := 1, slots := 6, locals := 136 }) (va_Pc [.ref xo, .int p0, .int p1, .ref ou] (zPre (dC, dI) (zT cI cB cR cO) zk [] [(xo, .inr (6, [.ref al, x1, x2, x3, x4, x5, .ref b1, x7])), (al, .inr (4, [.int mc, .ref (zk 0), .int 0]))] sz)) (va_Qi (fun r (_ : Unit) => r = 1) (fun _ t => zEnd (dC, dI) (zT cI cB cR cO) (va_A [(xo, .inr (6, [.ref al, x1, x2, x3, x4, x5, .ref b1, x7])), (al, .inr (4, [.int mc, .ref (zk 0), .int 0]))] sz) [(xo, .inr (6, [.ref al, x1, x2, x3, x4, x5, .ref b1, x7])), (al, .inr (4, [.int mc, .ref (zk 0), .int 0]))] sz 0 t) (va_A [(xo, .inr (6, [.ref al, x1, x2, x3, x4, x5, .ref b1, x7])), (al, .inr (4, [.int mc, .ref (zk 0), .int 0]))] sz)) 1 6 (va_A [(xo, .inr (6, [.ref al, x1, x2, x3, x4, x5, .ref b1, x7])), (al, .inr (4, [.int mc, .ref (zk 0), .int 0]))] sz) := by
  refine zofWHt (cc := cL_setRows) (maxL := 5) (ret := (some .int)) (by decide) rfl ?_
  intro p e s mY args below meth c s₁ B hml htab hv
  obtain ⟨rfl, hsz, hP, hK, hD0, hZ⟩ := hv
  have hx := B.exec
  have hb := B.bytes
  have hr := B.returns
  have hts := atoms_spec (ws := wsL_setRows) B.pre
  have hown : s.vm.findClass RL = some mY.cls := findClass_of_methodNamed B.named
  have hlocks := B.notSynchronized
  subst hsz
  have hD := hD0.self (sz := s.heap.size)
  generalize hAe : va_A [(xo, .inr (6, [.ref al, x1, x2, x3, x4, x5, .ref b1, x7])), (al, .inr (4, [.int mc, .ref (zk 0), .int 0]))] s.heap.size = A at hD hZ ⊢
  have hA : ∀ q : Nat, s.heap.size ≤ q → A q := fun q h => by rw [← hAe]; exact Or.inr h
  have hS : va_S A s.heap s.heap [] := va_S.rf
  have hz : s.heap.size + 0 ≤ s.heap.size := Nat.le_refl _
  have hl := lv_entry ([.ref xo, .int p0, .int p1, .ref ou]) (n := 5) (Nat.le_of_ble_eq_true rfl)
  rw [lg_entry_eq]
  generalize (lg_sl ([.ref xo, .int p0, .int p1, .ref ou]) ++ List.replicate (5 - (lg_sl ([.ref xo, .int p0, .int p1, .ref ou])).length) Slot.unset).toArray = ls at hl ⊢
  have hl : lv_has ls 5 [(0, .ref xo), (1, .int p0), (2, .int p1), (3, .ref ou)] := hl
  have hP : va_P (dC, dI) vwCl [(xo, .inr (6, [.ref al, x1, x2, x3, x4, x5, .ref b1, x7])), (al, .inr (4, [.int mc, .ref (zk 0), .int 0]))] s.heap := hP
  have hD : va_D A [(xo, .inr (6, [.ref al, x1, x2, x3, x4, x5, .ref b1, x7])), (al, .inr (4, [.int mc, .ref (zk 0), .int 0]))] := hD
  refine lv_aload_n hx hb dL_setRows_0 rfl (lv_at hl 3 rfl) ?_
  refine lv_aload_n hx hb dL_setRows_1 rfl (lv_at hl 0 rfl) ?_
  refine lv_iload_n hx hb dL_setRows_2 rfl (lv_at hl 1 rfl) ?_
  refine lv_iload_n hx hb dL_setRows_3 rfl (lv_at hl 2 rfl) ?_
  have hPc := hP.sub (ws' := [(xo, .inr (6, [.ref al, x1, x2, x3, x4, x5, .ref b1, x7])), (al, .inr (4, [.int mc, .ref (zk 0), .int 0]))]) [0, 1] rfl
  have hDc := hD.sub (ws' := [(xo, .inr (6, [.ref al, x1, x2, x3, x4, x5, .ref b1, x7])), (al, .inr (4, [.int mc, .ref (zk 0), .int 0]))]) [0, 1] (by decide) rfl
  have hFc := va_free (wc := [(xo, .inr (6, [.ref al, x1, x2, x3, x4, x5, .ref b1, x7])), (al, .inr (4, [.int mc, .ref (zk 0), .int 0]))]) hD hS hA [0, 1] rfl
  have hDv := hDc.self (sz := s.heap.size)
  have hpre := zpre (xs' := []) (av := [.ref xo, .int p0, .int p1]) hPc hK (hDc.weaken (fun _ _ _ h => h)) hZ hS hFc (fun r hr => by cases hr)
  refine vx_calli (vx_runV (As := [.int p0, .int p1]) (rest := [.ref ou]) ⟨hx, hb, hml, hown, hts⟩ (k_setRowsX l dC dI cI cB cR cO zk hfl xo al b1 x1 x2 x3 x4 x5 x7 mc p0 p1 s.heap.size ) (cwV 2 hts gL_setRows_X1_setRows rfl rfl rfl (by decide +kernel) ⟨(Nat.le_of_ble_eq_true rfl), (Nat.le_of_ble_eq_true rfl)⟩) ⟨zblind, (zrecv_6 hK hPc (q0 := 0) rfl), hpre⟩ rfl rfl hl.1 rfl (lv_room (Nat.le_of_ble_eq_true rfl)) dL_setRows_4 ⟨(Nat.le_of_ble_eq_true rfl), (Nat.le_of_ble_eq_true rfl)⟩) hS (fun q _ h => hFc q h) hFc (fun q _ h => hFc q h) (fun E9 ce q9 u t H1 locs ht hvm hu hB hz1 hk1 hS hcell hcv hcl => ?_) (fun _ _ _ _ _ _ _ hw9 _ _ _ _ => hw9.elim)
  obtain ⟨hE9, hP1, hK1, hD1, hz2⟩ := hB
  subst hE9
  rw [ht] at hP1 hz2
  have hPD9 := va_join (wr := []) (w1 := [(xo, .inr (6, [.ref al, x1, x2, x3, x4, x5, .ref b1, x7])), (al, .inr (4, [.int mc, .ref (zk 0), .int 0]))]) hP hD [0, 1] [] rfl rfl (by decide) (by decide) hk1 hFc hP1 hD1
  clear hPc hDc hFc hDv hpre hP hD hP1 hK1 hD1
  obtain ⟨hP, hD⟩ := hPD9
  replace hz : s.heap.size + 0 ≤ H1.size := by omega
  clear hz2
  replace hP : va_P (dC, dI) vwCl [(xo, .inr (6, [.ref al, x1, x2, x3, x4, x5, .ref b1, x7])), (al, .inr (4, [.int mc, .ref (zk 0), .int 0]))] H1 := hP
  replace hD : va_D A [(xo, .inr (6, [.ref al, x1, x2, x3, x4, x5, .ref b1, x7])), (al, .inr (4, [.int mc, .ref (zk 0), .int 0]))] := hD
  refine vx_catch hown [] ⟨0, 11, 14, 31⟩ [⟨0, 11, 18, 19⟩, ⟨0, 11, 22, 21⟩] htab (fun z hz9 => absurd hz9 List.not_mem_nil) (by decide) (by decide) (hts (.classLink RL 31 "java/lang/IndexOutOfBoundsException") (List.mem_cons_of_mem _ zw_884)) (zce0 hZ) hcell hcv hcl ?_
  refine W.eq (g2 := F0 mY 14 ls [.ref q9]) rfl ?_
  refine lv_astore (lv' := [(4, .ref q9), (0, .ref xo), (1, .int p0), (2, .int p1), (3, .ref ou)]) hx hb dL_setRows_14 hl (by decide) rfl (fun ls hl => ?_)
  refine lv_iconst (v := 1) hx hb dL_setRows_16 (by decide) ?_
  have hP9 := hP.sub (ws' := [(xo, .inr (6, [.ref al, x1, x2, x3, x4, x5, .ref b1, x7])), (al, .inr (4, [.int mc, .ref (zk 0), .int 0]))]) [0, 1] rfl
  have hD9 := hD.sub (ws' := [(xo, .inr (6, [.ref al, x1, x2, x3, x4, x5, .ref b1, x7])), (al, .inr (4, [.int mc, .ref (zk 0), .int 0]))]) [0, 1] (by decide) rfl
  exact W.iret (v := 1) hx hb hr (fun t ht hW => ⟨⟨_, (), rfl, rfl, ⟨by rw [ht]; exact hP9, va_K.moved hW.alike hK, hD9, by rw [ht]; exact hz⟩⟩, hS.F ht⟩) hS.2.2 dL_setRows_17

set_option maxHeartbeats 4000000 in
set_option maxRecDepth 100000 in
theorem k_twinH (l : Launch) (dC : Nat → ClassId) (dI : Nat → Nat → Nat) (cI cB cR cO : ClassId) (zk : Nat → Nat) (hfl : l.stackTraces = false) (xo al b1 : Nat) (x1 x2 x3 x4 x5 x7 : Value) (mc : Int32) (p0 : Int32) (ou : Nat) (sz : Nat)  : Met l yL_twin wsL_twin ({ frames := 8, cells := 1, slots := 6, locals := 133 }) (va_Pc [.ref xo, .int p0, .ref ou] (zPre (dC, dI) (zT cI cB cR cO) zk [] [(xo, .inr (6, [.ref al, x1, x2, x3, x4, x5, .ref b1, x7])), (al, .inr (4, [.int mc, .ref (zk 0), .int 0]))] sz)) (va_Qi (fun r (_ : Unit) => r = 1) (fun _ t => zEnd (dC, dI) (zT cI cB cR cO) (va_A [(xo, .inr (6, [.ref al, x1, x2, x3, x4, x5, .ref b1, x7])), (al, .inr (4, [.int mc, .ref (zk 0), .int 0]))] sz) [(xo, .inr (6, [.ref al, x1, x2, x3, x4, x5, .ref b1, x7])), (al, .inr (4, [.int mc, .ref (zk 0), .int 0]))] sz 0 t) (va_A [(xo, .inr (6, [.ref al, x1, x2, x3, x4, x5, .ref b1, x7])), (al, .inr (4, [.int mc, .ref (zk 0), .int 0]))] sz)) 1 6 (va_A [(xo, .inr (6, [.ref al, x1, x2, x3, x4, x5, .ref b1, x7])), (al, .inr (4, [.int mc, .ref (zk 0), .int 0]))] sz) := by
  refine zofWHt (cc := cL_twin) (maxL := 4) (ret := (some .int)) (by decide) rfl ?_
  intro p e s mY args below meth c s₁ B hml htab hv
  obtain ⟨rfl, hsz, hP, hK, hD0, hZ⟩ := hv
  have hx := B.exec
  have hb := B.bytes
  have hr := B.returns
  have hts := atoms_spec (ws := wsL_twin) B.pre
  have hown : s.vm.findClass RL = some mY.cls := findClass_of_methodNamed B.named
  have hlocks := B.notSynchronized
  subst hsz
  have hD := hD0.self (sz := s.heap.size)
  generalize hAe : va_A [(xo, .inr (6, [.ref al, x1, x2, x3, x4, x5, .ref b1, x7])), (al, .inr (4, [.int mc, .ref (zk 0), .int 0]))] s.heap.size = A at hD hZ ⊢
  have hA : ∀ q : Nat, s.heap.size ≤ q → A q := fun q h => by rw [← hAe]; exact Or.inr h
  have hS : va_S A s.heap s.heap [] := va_S.rf
  have hz : s.heap.size + 0 ≤ s.heap.size := Nat.le_refl _
  have hl := lv_entry ([.ref xo, .int p0, .ref ou]) (n := 4) (Nat.le_of_ble_eq_true rfl)
  rw [lg_entry_eq]
  generalize (lg_sl ([.ref xo, .int p0, .ref ou]) ++ List.replicate (4 - (lg_sl ([.ref xo, .int p0, .ref ou])).length) Slot.unset).toArray = ls at hl ⊢
  have hl : lv_has ls 4 [(0, .ref xo), (1, .int p0), (2, .ref ou)] := hl
  have hP : va_P (dC, dI) vwCl [(xo, .inr (6, [.ref al, x1, x2, x3, x4, x5, .ref b1, x7])), (al, .inr (4, [.int mc, .ref (zk 0), .int 0]))] s.heap := hP
  have hD : va_D A [(xo, .inr (6, [.ref al, x1, x2, x3, x4, x5, .ref b1, x7])), (al, .inr (4, [.int mc, .ref (zk 0), .int 0]))] := hD
  refine lv_aload_n hx hb dL_twin_0 rfl (lv_at hl 2 rfl) ?_
  refine lv_aload_n hx hb dL_twin_1 rfl (lv_at hl 0 rfl) ?_
  refine lv_iload_n hx hb dL_twin_2 rfl (lv_at hl 1 rfl) ?_
  have hPc := hP.sub (ws' := [(xo, .inr (6, [.ref al, x1, x2, x3, x4, x5, .ref b1, x7])), (al, .inr (4, [.int mc, .ref (zk 0), .int 0]))]) [0, 1] rfl
  have hDc := hD.sub (ws' := [(xo, .inr (6, [.ref al, x1, x2, x3, x4, x5, .ref b1, x7])), (al, .inr (4, [.int mc, .ref (zk 0), .int 0]))]) [0, 1] (by decide) rfl
  have hFc := va_free (wc := [(xo, .inr (6, [.ref al, x1, x2, x3, x4, x5, .ref b1, x7])), (al, .inr (4, [.int mc, .ref (zk 0), .int 0]))]) hD hS hA [0, 1] rfl
  have hDv := hDc.self (sz := s.heap.size)
  have hpre := zpre (xs' := []) (av := [.ref xo, .int p0]) hPc hK (hDc.weaken (fun _ _ _ h => h)) hZ hS hFc (fun r hr => by cases hr)
  refine vx_calli (vx_runV (As := [.int p0]) (rest := [.ref ou]) ⟨hx, hb, hml, hown, hts⟩ (k_twinX l dC dI cI cB cR cO zk hfl xo al b1 x1 x2 x3 x4 x5 x7 mc p0 s.heap.size ) (cwV 1 hts gL_twin_X1_twin rfl rfl rfl (by decide +kernel) ⟨(Nat.le_of_ble_eq_true rfl), (Nat.le_of_ble_eq_true rfl)⟩) ⟨zblind, (zrecv_6 hK hPc (q0 := 0) rfl), hpre⟩ rfl rfl hl.1 rfl (lv_room (Nat.le_of_ble_eq_true rfl)) dL_twin_3 ⟨(Nat.le_of_ble_eq_true rfl), (Nat.le_of_ble_eq_true rfl)⟩) hS (fun q _ h => hFc q h) hFc (fun q _ h => hFc q h) (fun E9 ce q9 u t H1 locs ht hvm hu hB hz1 hk1 hS hcell hcv hcl => ?_) (fun _ _ _ _ _ _ _ hw9 _ _ _ _ => hw9.elim)
  obtain ⟨hE9, hP1, hK1, hD1, hz2⟩ := hB
  subst hE9
  rw [ht] at hP1 hz2
  have hPD9 := va_join (wr := []) (w1 := [(xo, .inr (6, [.ref al, x1, x2, x3, x4, x5, .ref b1, x7])), (al, .inr (4, [.int mc, .ref (zk 0), .int 0]))]) hP hD [0, 1] [] rfl rfl (by decide) (by decide) hk1 hFc hP1 hD1
  clear hPc hDc hFc hDv hpre hP hD hP1 hK1 hD1
  obtain ⟨hP, hD⟩ := hPD9
  replace hz : s.heap.size + 0 ≤ H1.size := by omega
  clear hz2
  replace hP : va_P (dC, dI) vwCl [(xo, .inr (6, [.ref al, x1, x2, x3, x4, x5, .ref b1, x7])), (al, .inr (4, [.int mc, .ref (zk 0), .int 0]))] H1 := hP
  replace hD : va_D A [(xo, .inr (6, [.ref al, x1, x2, x3, x4, x5, .ref b1, x7])), (al, .inr (4, [.int mc, .ref (zk 0), .int 0]))] := hD
  refine vx_catch hown [] ⟨0, 10, 13, 31⟩ [⟨0, 10, 16, 21⟩] htab (fun z hz9 => absurd hz9 List.not_mem_nil) (by decide) (by decide) (hts (.classLink RL 31 "java/lang/IndexOutOfBoundsException") (List.mem_cons_of_mem _ zw_884)) (zce0 hZ) hcell hcv hcl ?_
  refine W.eq (g2 := F0 mY 13 ls [.ref q9]) rfl ?_
  refine lv_astore_n (lv' := [(3, .ref q9), (0, .ref xo), (1, .int p0), (2, .ref ou)]) hx hb dL_twin_13 rfl hl (by decide) rfl (fun ls hl => ?_)
  refine lv_iconst (v := 1) hx hb dL_twin_14 (by decide) ?_
  have hP9 := hP.sub (ws' := [(xo, .inr (6, [.ref al, x1, x2, x3, x4, x5, .ref b1, x7])), (al, .inr (4, [.int mc, .ref (zk 0), .int 0]))]) [0, 1] rfl
  have hD9 := hD.sub (ws' := [(xo, .inr (6, [.ref al, x1, x2, x3, x4, x5, .ref b1, x7])), (al, .inr (4, [.int mc, .ref (zk 0), .int 0]))]) [0, 1] (by decide) rfl
  exact W.iret (v := 1) hx hb hr (fun t ht hW => ⟨⟨_, (), rfl, rfl, ⟨by rw [ht]; exact hP9, va_K.moved hW.alike hK, hD9, by rw [ht]; exact hz⟩⟩, hS.F ht⟩) hS.2.2 dL_twin_15

set_option maxHeartbeats 4000000 in
set_option maxRecDepth 100000 in
theorem k_deepTwinH (l : Launch) (dC : Nat → ClassId) (dI : Nat → Nat → Nat) (cI cB cR cO : ClassId) (zk : Nat → Nat) (hfl : l.stackTraces = false) (xo al b1 : Nat) (x1 x2 x3 x4 x5 x7 : Value) (mc : Int32) (p0 : Int32) (ou : Nat) (sz : Nat)  : Met l yL_deepTwin wsL_deepTwin ({ frames := 8, cells := 1, slots := 6, locals := 133 }) (va_Pc [.ref xo, .int p0, .ref ou] (zPre (dC, dI) (zT cI cB cR cO) zk [] [(xo, .inr (6, [.ref al, x1, x2, x3, x4, x5, .ref b1, x7])), (al, .inr (4, [.int mc, .ref (zk 0), .int 0]))] sz)) (va_Qi (fun r (_ : Unit) => r = 1) (fun _ t => zEnd (dC, dI) (zT cI cB cR cO) (va_A [(xo, .inr (6, [.ref al, x1, x2, x3, x4, x5, .ref b1, x7])), (al, .inr (4, [.int mc, .ref (zk 0), .int 0]))] sz) [(xo, .inr (6, [.ref al, x1, x2, x3, x4, x5, .ref b1, x7])), (al, .inr (4, [.int mc, .ref (zk 0), .int 0]))] sz 0 t) (va_A [(xo, .inr (6, [.ref al, x1, x2, x3, x4, x5, .ref b1, x7])), (al, .inr (4, [.int mc, .ref (zk 0), .int 0]))] sz)) 1 6 (va_A [(xo, .inr (6, [.ref al, x1, x2, x3, x4, x5, .ref b1, x7])), (al, .inr (4, [.int mc, .ref (zk 0), .int 0]))] sz) := by
  refine zofWHt (cc := cL_deepTwin) (maxL := 4) (ret := (some .int)) (by decide) rfl ?_
  intro p e s mY args below meth c s₁ B hml htab hv
  obtain ⟨rfl, hsz, hP, hK, hD0, hZ⟩ := hv
  have hx := B.exec
  have hb := B.bytes
  have hr := B.returns
  have hts := atoms_spec (ws := wsL_deepTwin) B.pre
  have hown : s.vm.findClass RL = some mY.cls := findClass_of_methodNamed B.named
  have hlocks := B.notSynchronized
  subst hsz
  have hD := hD0.self (sz := s.heap.size)
  generalize hAe : va_A [(xo, .inr (6, [.ref al, x1, x2, x3, x4, x5, .ref b1, x7])), (al, .inr (4, [.int mc, .ref (zk 0), .int 0]))] s.heap.size = A at hD hZ ⊢
  have hA : ∀ q : Nat, s.heap.size ≤ q → A q := fun q h => by rw [← hAe]; exact Or.inr h
  have hS : va_S A s.heap s.heap [] := va_S.rf
  have hz : s.heap.size + 0 ≤ s.heap.size := Nat.le_refl _
  have hl := lv_entry ([.ref xo, .int p0, .ref ou]) (n := 4) (Nat.le_of_ble_eq_true rfl)
  rw [lg_entry_eq]
  generalize (lg_sl ([.ref xo, .int p0, .ref ou]) ++ List.replicate (4 - (lg_sl ([.ref xo, .int p0, .ref ou])).length) Slot.unset).toArray = ls at hl ⊢
  have hl : lv_has ls 4 [(0, .ref xo), (1, .int p0), (2, .ref ou)] := hl
  have hP : va_P (dC, dI) vwCl [(xo, .inr (6, [.ref al, x1, x2, x3, x4, x5, .ref b1, x7])), (al, .inr (4, [.int mc, .ref (zk 0), .int 0]))] s.heap := hP
  have hD : va_D A [(xo, .inr (6, [.ref al, x1, x2, x3, x4, x5, .ref b1, x7])), (al, .inr (4, [.int mc, .ref (zk 0), .int 0]))] := hD
  refine lv_aload_n hx hb dL_deepTwin_0 rfl (lv_at hl 2 rfl) ?_
  refine lv_aload_n hx hb dL_deepTwin_1 rfl (lv_at hl 0 rfl) ?_
  refine lv_iload_n hx hb dL_deepTwin_2 rfl (lv_at hl 1 rfl) ?_
  have hPc := hP.sub (ws' := [(xo, .inr (6, [.ref al, x1, x2, x3, x4, x5, .ref b1, x7])), (al, .inr (4, [.int mc, .ref (zk 0), .int 0]))]) [0, 1] rfl
  have hDc := hD.sub (ws' := [(xo, .inr (6, [.ref al, x1, x2, x3, x4, x5, .ref b1, x7])), (al, .inr (4, [.int mc, .ref (zk 0), .int 0]))]) [0, 1] (by decide) rfl
  have hFc := va_free (wc := [(xo, .inr (6, [.ref al, x1, x2, x3, x4, x5, .ref b1, x7])), (al, .inr (4, [.int mc, .ref (zk 0), .int 0]))]) hD hS hA [0, 1] rfl
  have hDv := hDc.self (sz := s.heap.size)
  have hpre := zpre (xs' := []) (av := [.ref xo, .int p0]) hPc hK (hDc.weaken (fun _ _ _ h => h)) hZ hS hFc (fun r hr => by cases hr)
  refine vx_calli (vx_runV (As := [.int p0]) (rest := [.ref ou]) ⟨hx, hb, hml, hown, hts⟩ (k_deepTwinX l dC dI cI cB cR cO zk hfl xo al b1 x1 x2 x3 x4 x5 x7 mc p0 s.heap.size ) (cwV 1 hts gL_deepTwin_X1_deepTwin rfl rfl rfl (by decide +kernel) ⟨(Nat.le_of_ble_eq_true rfl), (Nat.le_of_ble_eq_true rfl)⟩) ⟨zblind, (zrecv_6 hK hPc (q0 := 0) rfl), hpre⟩ rfl rfl hl.1 rfl (lv_room (Nat.le_of_ble_eq_true rfl)) dL_deepTwin_3 ⟨(Nat.le_of_ble_eq_true rfl), (Nat.le_of_ble_eq_true rfl)⟩) hS (fun q _ h => hFc q h) hFc (fun q _ h => hFc q h) (fun E9 ce q9 u t H1 locs ht hvm hu hB hz1 hk1 hS hcell hcv hcl => ?_) (fun _ _ _ _ _ _ _ hw9 _ _ _ _ => hw9.elim)
  obtain ⟨hE9, hP1, hK1, hD1, hz2⟩ := hB
  subst hE9
  rw [ht] at hP1 hz2
  have hPD9 := va_join (wr := []) (w1 := [(xo, .inr (6, [.ref al, x1, x2, x3, x4, x5, .ref b1, x7])), (al, .inr (4, [.int mc, .ref (zk 0), .int 0]))]) hP hD [0, 1] [] rfl rfl (by decide) (by decide) hk1 hFc hP1 hD1
  clear hPc hDc hFc hDv hpre hP hD hP1 hK1 hD1
  obtain ⟨hP, hD⟩ := hPD9
  replace hz : s.heap.size + 0 ≤ H1.size := by omega
  clear hz2
  replace hP : va_P (dC, dI) vwCl [(xo, .inr (6, [.ref al, x1, x2, x3, x4, x5, .ref b1, x7])), (al, .inr (4, [.int mc, .ref (zk 0), .int 0]))] H1 := hP
  replace hD : va_D A [(xo, .inr (6, [.ref al, x1, x2, x3, x4, x5, .ref b1, x7])), (al, .inr (4, [.int mc, .ref (zk 0), .int 0]))] := hD
  refine vx_catch hown [] ⟨0, 10, 13, 31⟩ [⟨0, 10, 16, 21⟩] htab (fun z hz9 => absurd hz9 List.not_mem_nil) (by decide) (by decide) (hts (.classLink RL 31 "java/lang/IndexOutOfBoundsException") (List.mem_cons_of_mem _ zw_884)) (zce0 hZ) hcell hcv hcl ?_
  refine W.eq (g2 := F0 mY 13 ls [.ref q9]) rfl ?_
  refine lv_astore_n (lv' := [(3, .ref q9), (0, .ref xo), (1, .int p0), (2, .ref ou)]) hx hb dL_deepTwin_13 rfl hl (by decide) rfl (fun ls hl => ?_)
  refine lv_iconst (v := 1) hx hb dL_deepTwin_14 (by decide) ?_
  have hP9 := hP.sub (ws' := [(xo, .inr (6, [.ref al, x1, x2, x3, x4, x5, .ref b1, x7])), (al, .inr (4, [.int mc, .ref (zk 0), .int 0]))]) [0, 1] rfl
  have hD9 := hD.sub (ws' := [(xo, .inr (6, [.ref al, x1, x2, x3, x4, x5, .ref b1, x7])), (al, .inr (4, [.int mc, .ref (zk 0), .int 0]))]) [0, 1] (by decide) rfl
  exact W.iret (v := 1) hx hb hr (fun t ht hW => ⟨⟨_, (), rfl, rfl, ⟨by rw [ht]; exact hP9, va_K.moved hW.alike hK, hD9, by rw [ht]; exact hz⟩⟩, hS.F ht⟩) hS.2.2 dL_deepTwin_15

set_option maxHeartbeats 4000000 in
set_option maxRecDepth 100000 in
theorem k_copyH (l : Launch) (dC : Nat → ClassId) (dI : Nat → Nat → Nat) (cI cB cR cO : ClassId) (zk : Nat → Nat) (hfl : l.stackTraces = false) (xo al b1 : Nat) (x1 x2 x3 x4 x5 x7 : Value) (mc : Int32) (p0 p1 : Int32) (ou : Nat) (sz : Nat)  : Met l yL_copy wsL_copy ({ frames := 8, cells := 1, slots := 6, locals := 134 }) (va_Pc [.ref xo, .int p0, .int p1, .ref ou] (zPre (dC, dI) (zT cI cB cR cO) zk [] [(xo, .inr (6, [.ref al, x1, x2, x3, x4, x5, .ref b1, x7])), (al, .inr (4, [.int mc, .ref (zk 0), .int 0]))] sz)) (va_Qi (fun r (_ : Unit) => r = 1) (fun _ t => zEnd (dC, dI) (zT cI cB cR cO) (va_A [(xo, .inr (6, [.ref al, x1, x2, x3, x4, x5, .ref b1, x7])), (al, .inr (4, [.int mc, .ref (zk 0), .int 0]))] sz) [(xo, .inr (6, [.ref al, x1, x2, x3, x4, x5, .ref b1, x7])), (al, .inr (4, [.int mc, .ref (zk 0), .int 0]))] sz 0 t) (va_A [(xo, .inr (6, [.ref al, x1, x2, x3, x4, x5, .ref b1, x7])), (al, .inr (4, [.int mc, .ref (zk 0), .int 0]))] sz)) 1 6 (va_A [(xo, .inr (6, [.ref al, x1, x2, x3, x4, x5, .ref b1, x7])), (al, .inr (4, [.int mc, .ref (zk 0), .int 0]))] sz) := by
  refine zofWHt (cc := cL_copy) (maxL := 5) (ret := (some .int)) (by decide) rfl ?_
  intro p e s mY args below meth c s₁ B hml htab hv
  obtain ⟨rfl, hsz, hP, hK, hD0, hZ⟩ := hv
  have hx := B.exec
  have hb := B.bytes
  have hr := B.returns
  have hts := atoms_spec (ws := wsL_copy) B.pre
  have hown : s.vm.findClass RL = some mY.cls := findClass_of_methodNamed B.named
  have hlocks := B.notSynchronized
  subst hsz
  have hD := hD0.self (sz := s.heap.size)
  generalize hAe : va_A [(xo, .inr (6, [.ref al, x1, x2, x3, x4, x5, .ref b1, x7])), (al, .inr (4, [.int mc, .ref (zk 0), .int 0]))] s.heap.size = A at hD hZ ⊢
  have hA : ∀ q : Nat, s.heap.size ≤ q → A q := fun q h => by rw [← hAe]; exact Or.inr h
  have hS : va_S A s.heap s.heap [] := va_S.rf
  have hz : s.heap.size + 0 ≤ s.heap.size := Nat.le_refl _
  have hl := lv_entry ([.ref xo, .int p0, .int p1, .ref ou]) (n := 5) (Nat.le_of_ble_eq_true rfl)
  rw [lg_entry_eq]
  generalize (lg_sl ([.ref xo, .int p0, .int p1, .ref ou]) ++ List.replicate (5 - (lg_sl ([.ref xo, .int p0, .int p1, .ref ou])).length) Slot.unset).toArray = ls at hl ⊢
  have hl : lv_has ls 5 [(0, .ref xo), (1, .int p0), (2, .int p1), (3, .ref ou)] := hl
  have hP : va_P (dC, dI) vwCl [(xo, .inr (6, [.ref al, x1, x2, x3, x4, x5, .ref b1, x7])), (al, .inr (4, [.int mc, .ref (zk 0), .int 0]))] s.heap := hP
  have hD : va_D A [(xo, .inr (6, [.ref al, x1, x2, x3, x4, x5, .ref b1, x7])), (al, .inr (4, [.int mc, .ref (zk 0), .int 0]))] := hD
  refine lv_aload_n hx hb dL_copy_0 rfl (lv_at hl 3 rfl) ?_
  refine lv_aload_n hx hb dL_copy_1 rfl (lv_at hl 0 rfl) ?_
  refine lv_iload_n hx hb dL_copy_2 rfl (lv_at hl 1 rfl) ?_
  refine lv_iload_n hx hb dL_copy_3 rfl (lv_at hl 2 rfl) ?_
  have hPc := hP.sub (ws' := [(xo, .inr (6, [.ref al, x1, x2, x3, x4, x5, .ref b1, x7])), (al, .inr (4, [.int mc, .ref (zk 0), .int 0]))]) [0, 1] rfl
  have hDc := hD.sub (ws' := [(xo, .inr (6, [.ref al, x1, x2, x3, x4, x5, .ref b1, x7])), (al, .inr (4, [.int mc, .ref (zk 0), .int 0]))]) [0, 1] (by decide) rfl
  have hFc := va_free (wc := [(xo, .inr (6, [.ref al, x1, x2, x3, x4, x5, .ref b1, x7])), (al, .inr (4, [.int mc, .ref (zk 0), .int 0]))]) hD hS hA [0, 1] rfl
  have hDv := hDc.self (sz := s.heap.size)
  have hpre := zpre (xs' := []) (av := [.ref xo, .int p0, .int p1]) hPc hK (hDc.weaken (fun _ _ _ h => h)) hZ hS hFc (fun r hr => by cases hr)
  refine vx_calli (vx_runV (As := [.int p0, .int p1]) (rest := [.ref ou]) ⟨hx, hb, hml, hown, hts⟩ (k_copyX l dC dI cI cB cR cO zk hfl xo al b1 x1 x2 x3 x4 x5 x7 mc p0 p1 s.heap.size ) (cwV 2 hts gL_copy_X1_copy rfl rfl rfl (by decide +kernel) ⟨(Nat.le_of_ble_eq_true rfl), (Nat.le_of_ble_eq_true rfl)⟩) ⟨zblind, (zrecv_6 hK hPc (q0 := 0) rfl), hpre⟩ rfl rfl hl.1 rfl (lv_room (Nat.le_of_ble_eq_true rfl)) dL_copy_4 ⟨(Nat.le_of_ble_eq_true rfl), (Nat.le_of_ble_eq_true rfl)⟩) hS (fun q _ h => hFc q h) hFc (fun q _ h => hFc q h) (fun E9 ce q9 u t H1 locs ht hvm hu hB hz1 hk1 hS hcell hcv hcl => ?_) (fun _ _ _ _ _ _ _ hw9 _ _ _ _ => hw9.elim)
  obtain ⟨hE9, hP1, hK1, hD1, hz2⟩ := hB
  subst hE9
  rw [ht] at hP1 hz2
  have hPD9 := va_join (wr := []) (w1 := [(xo, .inr (6, [.ref al, x1, x2, x3, x4, x5, .ref b1, x7])), (al, .inr (4, [.int mc, .ref (zk 0), .int 0]))]) hP hD [0, 1] [] rfl rfl (by decide) (by decide) hk1 hFc hP1 hD1
  clear hPc hDc hFc hDv hpre hP hD hP1 hK1 hD1
  obtain ⟨hP, hD⟩ := hPD9
  replace hz : s.heap.size + 0 ≤ H1.size := by omega
  clear hz2
  replace hP : va_P (dC, dI) vwCl [(xo, .inr (6, [.ref al, x1, x2, x3, x4, x5, .ref b1, x7])), (al, .inr (4, [.int mc, .ref (zk 0), .int 0]))] H1 := hP
  replace hD : va_D A [(xo, .inr (6, [.ref al, x1, x2, x3, x4, x5, .ref b1, x7])), (al, .inr (4, [.int mc, .ref (zk 0), .int 0]))] := hD
  refine vx_catch hown [] ⟨0, 11, 14, 31⟩ [⟨0, 11, 18, 19⟩, ⟨0, 11, 22, 21⟩] htab (fun z hz9 => absurd hz9 List.not_mem_nil) (by decide) (by decide) (hts (.classLink RL 31 "java/lang/IndexOutOfBoundsException") (List.mem_cons_of_mem _ zw_884)) (zce0 hZ) hcell hcv hcl ?_
  refine W.eq (g2 := F0 mY 14 ls [.ref q9]) rfl ?_
  refine lv_astore (lv' := [(4, .ref q9), (0, .ref xo), (1, .int p0), (2, .int p1), (3, .ref ou)]) hx hb dL_copy_14 hl (by decide) rfl (fun ls hl => ?_)
  refine lv_iconst (v := 1) hx hb dL_copy_16 (by decide) ?_
  have hP9 := hP.sub (ws' := [(xo, .inr (6, [.ref al, x1, x2, x3, x4, x5, .ref b1, x7])), (al, .inr (4, [.int mc, .ref (zk 0), .int 0]))]) [0, 1] rfl
  have hD9 := hD.sub (ws' := [(xo, .inr (6, [.ref al, x1, x2, x3, x4, x5, .ref b1, x7])), (al, .inr (4, [.int mc, .ref (zk 0), .int 0]))]) [0, 1] (by decide) rfl
  exact W.iret (v := 1) hx hb hr (fun t ht hW => ⟨⟨_, (), rfl, rfl, ⟨by rw [ht]; exact hP9, va_K.moved hW.alike hK, hD9, by rw [ht]; exact hz⟩⟩, hS.F ht⟩) hS.2.2 dL_copy_17

set_option maxHeartbeats 4000000 in
set_option maxRecDepth 100000 in
theorem k_kindH (l : Launch) (dC : Nat → ClassId) (dI : Nat → Nat → Nat) (cI cB cR cO : ClassId) (zk : Nat → Nat) (hfl : l.stackTraces = false) (xo al b1 : Nat) (x1 x2 x3 x4 x5 x7 : Value) (mc : Int32) (p0 : Int32) (ou : Nat) (sz : Nat)  : Met l yL_kind wsL_kind ({ frames := 8, cells := 1, slots := 6, locals := 132 }) (va_Pc [.ref xo, .int p0, .ref ou] (zPre (dC, dI) (zT cI cB cR cO) zk [] [(xo, .inr (6, [.ref al, x1, x2, x3, x4, x5, .ref b1, x7])), (al, .inr (4, [.int mc, .ref (zk 0), .int 0]))] sz)) (va_Qi (fun r (_ : Unit) => r = 1) (fun _ t => zEnd (dC, dI) (zT cI cB cR cO) (va_A [(xo, .inr (6, [.ref al, x1, x2, x3, x4, x5, .ref b1, x7])), (al, .inr (4, [.int mc, .ref (zk 0), .int 0]))] sz) [(xo, .inr (6, [.ref al, x1, x2, x3, x4, x5, .ref b1, x7])), (al, .inr (4, [.int mc, .ref (zk 0), .int 0]))] sz 0 t) (va_A [(xo, .inr (6, [.ref al, x1, x2, x3, x4, x5, .ref b1, x7])), (al, .inr (4, [.int mc, .ref (zk 0), .int 0]))] sz)) 1 6 (va_A [(xo, .inr (6, [.ref al, x1, x2, x3, x4, x5, .ref b1, x7])), (al, .inr (4, [.int mc, .ref (zk 0), .int 0]))] sz) := by
  refine zofWHt (cc := cL_kind) (maxL := 4) (ret := (some .int)) (by decide) rfl ?_
  intro p e s mY args below meth c s₁ B hml htab hv
  obtain ⟨rfl, hsz, hP, hK, hD0, hZ⟩ := hv
  have hx := B.exec
  have hb := B.bytes
  have hr := B.returns
  have hts := atoms_spec (ws := wsL_kind) B.pre
  have hown : s.vm.findClass RL = some mY.cls := findClass_of_methodNamed B.named
  have hlocks := B.notSynchronized
  subst hsz
  have hD := hD0.self (sz := s.heap.size)
  generalize hAe : va_A [(xo, .inr (6, [.ref al, x1, x2, x3, x4, x5, .ref b1, x7])), (al, .inr (4, [.int mc, .ref (zk 0), .int 0]))] s.heap.size = A at hD hZ ⊢
  have hA : ∀ q : Nat, s.heap.size ≤ q → A q := fun q h => by rw [← hAe]; exact Or.inr h
  have hS : va_S A s.heap s.heap [] := va_S.rf
  have hz : s.heap.size + 0 ≤ s.heap.size := Nat.le_refl _
  have hl := lv_entry ([.ref xo, .int p0, .ref ou]) (n := 4) (Nat.le_of_ble_eq_true rfl)
  rw [lg_entry_eq]
  generalize (lg_sl ([.ref xo, .int p0, .ref ou]) ++ List.replicate (4 - (lg_sl ([.ref xo, .int p0, .ref ou])).length) Slot.unset).toArray = ls at hl ⊢
  have hl : lv_has ls 4 [(0, .ref xo), (1, .int p0), (2, .ref ou)] := hl
  have hP : va_P (dC, dI) vwCl [(xo, .inr (6, [.ref al, x1, x2, x3, x4, x5, .ref b1, x7])), (al, .inr (4, [.int mc, .ref (zk 0), .int 0]))] s.heap := hP
  have hD : va_D A [(xo, .inr (6, [.ref al, x1, x2, x3, x4, x5, .ref b1, x7])), (al, .inr (4, [.int mc, .ref (zk 0), .int 0]))] := hD
  refine lv_aload_n hx hb dL_kind_0 rfl (lv_at hl 2 rfl) ?_
  refine lv_aload_n hx hb dL_kind_1 rfl (lv_at hl 0 rfl) ?_
  refine lv_iload_n hx hb dL_kind_2 rfl (lv_at hl 1 rfl) ?_
  have hPc := hP.sub (ws' := [(xo, .inr (6, [.ref al, x1, x2, x3, x4, x5, .ref b1, x7])), (al, .inr (4, [.int mc, .ref (zk 0), .int 0]))]) [0, 1] rfl
  have hDc := hD.sub (ws' := [(xo, .inr (6, [.ref al, x1, x2, x3, x4, x5, .ref b1, x7])), (al, .inr (4, [.int mc, .ref (zk 0), .int 0]))]) [0, 1] (by decide) rfl
  have hFc := va_free (wc := [(xo, .inr (6, [.ref al, x1, x2, x3, x4, x5, .ref b1, x7])), (al, .inr (4, [.int mc, .ref (zk 0), .int 0]))]) hD hS hA [0, 1] rfl
  have hDv := hDc.self (sz := s.heap.size)
  have hpre := zpre (xs' := []) (av := [.ref xo, .int p0]) hPc hK (hDc.weaken (fun _ _ _ h => h)) hZ hS hFc (fun r hr => by cases hr)
  refine vx_calli (vx_runV (As := [.int p0]) (rest := [.ref ou]) ⟨hx, hb, hml, hown, hts⟩ (k_kindX l dC dI cI cB cR cO zk hfl xo al b1 x1 x2 x3 x4 x5 x7 mc p0 s.heap.size ) (cwV 1 hts gL_kind_X1_kind rfl rfl rfl (by decide +kernel) ⟨(Nat.le_of_ble_eq_true rfl), (Nat.le_of_ble_eq_true rfl)⟩) ⟨zblind, (zrecv_6 hK hPc (q0 := 0) rfl), hpre⟩ rfl rfl hl.1 rfl (lv_room (Nat.le_of_ble_eq_true rfl)) dL_kind_3 ⟨(Nat.le_of_ble_eq_true rfl), (Nat.le_of_ble_eq_true rfl)⟩) hS (fun q _ h => hFc q h) hFc (fun q _ h => hFc q h) (fun E9 ce q9 u t H1 locs ht hvm hu hB hz1 hk1 hS hcell hcv hcl => ?_) (fun _ _ _ _ _ _ _ hw9 _ _ _ _ => hw9.elim)
  obtain ⟨hE9, hP1, hK1, hD1, hz2⟩ := hB
  subst hE9
  rw [ht] at hP1 hz2
  have hPD9 := va_join (wr := []) (w1 := [(xo, .inr (6, [.ref al, x1, x2, x3, x4, x5, .ref b1, x7])), (al, .inr (4, [.int mc, .ref (zk 0), .int 0]))]) hP hD [0, 1] [] rfl rfl (by decide) (by decide) hk1 hFc hP1 hD1
  clear hPc hDc hFc hDv hpre hP hD hP1 hK1 hD1
  obtain ⟨hP, hD⟩ := hPD9
  replace hz : s.heap.size + 0 ≤ H1.size := by omega
  clear hz2
  replace hP : va_P (dC, dI) vwCl [(xo, .inr (6, [.ref al, x1, x2, x3, x4, x5, .ref b1, x7])), (al, .inr (4, [.int mc, .ref (zk 0), .int 0]))] H1 := hP
  replace hD : va_D A [(xo, .inr (6, [.ref al, x1, x2, x3, x4, x5, .ref b1, x7])), (al, .inr (4, [.int mc, .ref (zk 0), .int 0]))] := hD
  refine vx_catch hown [] ⟨0, 10, 13, 31⟩ [] htab (fun z hz9 => absurd hz9 List.not_mem_nil) (by decide) (by decide) (hts (.classLink RL 31 "java/lang/IndexOutOfBoundsException") (List.mem_cons_of_mem _ zw_884)) (zce0 hZ) hcell hcv hcl ?_
  refine W.eq (g2 := F0 mY 13 ls [.ref q9]) rfl ?_
  refine lv_astore_n (lv' := [(3, .ref q9), (0, .ref xo), (1, .int p0), (2, .ref ou)]) hx hb dL_kind_13 rfl hl (by decide) rfl (fun ls hl => ?_)
  refine lv_iconst (v := 1) hx hb dL_kind_14 (by decide) ?_
  have hP9 := hP.sub (ws' := [(xo, .inr (6, [.ref al, x1, x2, x3, x4, x5, .ref b1, x7])), (al, .inr (4, [.int mc, .ref (zk 0), .int 0]))]) [0, 1] rfl
  have hD9 := hD.sub (ws' := [(xo, .inr (6, [.ref al, x1, x2, x3, x4, x5, .ref b1, x7])), (al, .inr (4, [.int mc, .ref (zk 0), .int 0]))]) [0, 1] (by decide) rfl
  exact W.iret (v := 1) hx hb hr (fun t ht hW => ⟨⟨_, (), rfl, rfl, ⟨by rw [ht]; exact hP9, va_K.moved hW.alike hK, hD9, by rw [ht]; exact hz⟩⟩, hS.F ht⟩) hS.2.2 dL_kind_15

set_option maxHeartbeats 4000000 in
set_option maxRecDepth 100000 in
theorem k_lengthH (l : Launch) (dC : Nat → ClassId) (dI : Nat → Nat → Nat) (cI cB cR cO : ClassId) (zk : Nat → Nat) (hfl : l.stackTraces = false) (xo al b1 : Nat) (x1 x2 x3 x4 x5 x7 : Value) (mc : Int32) (p0 : Int32) (ou : Nat) (sz : Nat)  : Met l yL_length wsL_length ({ frames := 8, cells := 1, slots := 6, locals := 132 }) (va_Pc [.ref xo, .int p0, .ref ou] (zPre (dC, dI) (zT cI cB cR cO) zk [] [(xo, .inr (6, [.ref al, x1, x2, x3, x4, x5, .ref b1, x7])), (al, .inr (4, [.int mc, .ref (zk 0), .int 0]))] sz)) (va_Qi (fun r (_ : Unit) => r = 1) (fun _ t => zEnd (dC, dI) (zT cI cB cR cO) (va_A [(xo, .inr (6, [.ref al, x1, x2, x3, x4, x5, .ref b1, x7])), (al, .inr (4, [.int mc, .ref (zk 0), .int 0]))] sz) [(xo, .inr (6, [.ref al, x1, x2, x3, x4, x5, .ref b1, x7])), (al, .inr (4, [.int mc, .ref (zk 0), .int 0]))] sz 0 t) (va_A [(xo, .inr (6, [.ref al, x1, x2, x3, x4, x5, .ref b1, x7])), (al, .inr (4, [.int mc, .ref (zk 0), .int 0]))] sz)) 1 6 (va_A [(xo, .inr (6, [.ref al, x1, x2, x3, x4, x5, .ref b1, x7])), (al, .inr (4, [.int mc, .ref (zk 0), .int 0]))] sz) := by
  refine zofWHt (cc := cL_length) (maxL := 4) (ret := (some .int)) (by decide) rfl ?_
  intro p e s mY args below meth c s₁ B hml htab hv
  obtain ⟨rfl, hsz, hP, hK, hD0, hZ⟩ := hv
  have hx := B.exec
  have hb := B.bytes
  have hr := B.returns
  have hts := atoms_spec (ws := wsL_length) B.pre
  have hown : s.vm.findClass RL = some mY.cls := findClass_of_methodNamed B.named
  have hlocks := B.notSynchronized
  subst hsz
  have hD := hD0.self (sz := s.heap.size)
  generalize hAe : va_A [(xo, .inr (6, [.ref al, x1, x2, x3, x4, x5, .ref b1, x7])), (al, .inr (4, [.int mc, .ref (zk 0), .int 0]))] s.heap.size = A at hD hZ ⊢
  have hA : ∀ q : Nat, s.heap.size ≤ q → A q := fun q h => by rw [← hAe]; exact Or.inr h
  have hS : va_S A s.heap s.heap [] := va_S.rf
  have hz : s.heap.size + 0 ≤ s.heap.size := Nat.le_refl _
  have hl := lv_entry ([.ref xo, .int p0, .ref ou]) (n := 4) (Nat.le_of_ble_eq_true rfl)
  rw [lg_entry_eq]
  generalize (lg_sl ([.ref xo, .int p0, .ref ou]) ++ List.replicate (4 - (lg_sl ([.ref xo, .int p0, .ref ou])).length) Slot.unset).toArray = ls at hl ⊢
  have hl : lv_has ls 4 [(0, .ref xo), (1, .int p0), (2, .ref ou)] := hl
  have hP : va_P (dC, dI) vwCl [(xo, .inr (6, [.ref al, x1, x2, x3, x4, x5, .ref b1, x7])), (al, .inr (4, [.int mc, .ref (zk 0), .int 0]))] s.heap := hP
  have hD : va_D A [(xo, .inr (6, [.ref al, x1, x2, x3, x4, x5, .ref b1, x7])), (al, .inr (4, [.int mc, .ref (zk 0), .int 0]))] := hD
  refine lv_aload_n hx hb dL_length_0 rfl (lv_at hl 2 rfl) ?_
  refine lv_aload_n hx hb dL_length_1 rfl (lv_at hl 0 rfl) ?_
  refine lv_iload_n hx hb dL_length_2 rfl (lv_at hl 1 rfl) ?_
  have hPc := hP.sub (ws' := [(xo, .inr (6, [.ref al, x1, x2, x3, x4, x5, .ref b1, x7])), (al, .inr (4, [.int mc, .ref (zk 0), .int 0]))]) [0, 1] rfl
  have hDc := hD.sub (ws' := [(xo, .inr (6, [.ref al, x1, x2, x3, x4, x5, .ref b1, x7])), (al, .inr (4, [.int mc, .ref (zk 0), .int 0]))]) [0, 1] (by decide) rfl
  have hFc := va_free (wc := [(xo, .inr (6, [.ref al, x1, x2, x3, x4, x5, .ref b1, x7])), (al, .inr (4, [.int mc, .ref (zk 0), .int 0]))]) hD hS hA [0, 1] rfl
  have hDv := hDc.self (sz := s.heap.size)
  have hpre := zpre (xs' := []) (av := [.ref xo, .int p0]) hPc hK (hDc.weaken (fun _ _ _ h => h)) hZ hS hFc (fun r hr => by cases hr)
  refine vx_calli (vx_runV (As := [.int p0]) (rest := [.ref ou]) ⟨hx, hb, hml, hown, hts⟩ (k_lengthX l dC dI cI cB cR cO zk hfl xo al b1 x1 x2 x3 x4 x5 x7 mc p0 s.heap.size ) (cwV 1 hts gL_length_X1_length rfl rfl rfl (by decide +kernel) ⟨(Nat.le_of_ble_eq_true rfl), (Nat.le_of_ble_eq_true rfl)⟩) ⟨zblind, (zrecv_6 hK hPc (q0 := 0) rfl), hpre⟩ rfl rfl hl.1 rfl (lv_room (Nat.le_of_ble_eq_true rfl)) dL_length_3 ⟨(Nat.le_of_ble_eq_true rfl), (Nat.le_of_ble_eq_true rfl)⟩) hS (fun q _ h => hFc q h) hFc (fun q _ h => hFc q h) (fun E9 ce q9 u t H1 locs ht hvm hu hB hz1 hk1 hS hcell hcv hcl => ?_) (fun _ _ _ _ _ _ _ hw9 _ _ _ _ => hw9.elim)
  obtain ⟨hE9, hP1, hK1, hD1, hz2⟩ := hB
  subst hE9
  rw [ht] at hP1 hz2
  have hPD9 := va_join (wr := []) (w1 := [(xo, .inr (6, [.ref al, x1, x2, x3, x4, x5, .ref b1, x7])), (al, .inr (4, [.int mc, .ref (zk 0), .int 0]))]) hP hD [0, 1] [] rfl rfl (by decide) (by decide) hk1 hFc hP1 hD1
  clear hPc hDc hFc hDv hpre hP hD hP1 hK1 hD1
  obtain ⟨hP, hD⟩ := hPD9
  replace hz : s.heap.size + 0 ≤ H1.size := by omega
  clear hz2
  replace hP : va_P (dC, dI) vwCl [(xo, .inr (6, [.ref al, x1, x2, x3, x4, x5, .ref b1, x7])), (al, .inr (4, [.int mc, .ref (zk 0), .int 0]))] H1 := hP
  replace hD : va_D A [(xo, .inr (6, [.ref al, x1, x2, x3, x4, x5, .ref b1, x7])), (al, .inr (4, [.int mc, .ref (zk 0), .int 0]))] := hD
  refine vx_catch hown [] ⟨0, 10, 13, 31⟩ [] htab (fun z hz9 => absurd hz9 List.not_mem_nil) (by decide) (by decide) (hts (.classLink RL 31 "java/lang/IndexOutOfBoundsException") (List.mem_cons_of_mem _ zw_884)) (zce0 hZ) hcell hcv hcl ?_
  refine W.eq (g2 := F0 mY 13 ls [.ref q9]) rfl ?_
  refine lv_astore_n (lv' := [(3, .ref q9), (0, .ref xo), (1, .int p0), (2, .ref ou)]) hx hb dL_length_13 rfl hl (by decide) rfl (fun ls hl => ?_)
  refine lv_iconst (v := 1) hx hb dL_length_14 (by decide) ?_
  have hP9 := hP.sub (ws' := [(xo, .inr (6, [.ref al, x1, x2, x3, x4, x5, .ref b1, x7])), (al, .inr (4, [.int mc, .ref (zk 0), .int 0]))]) [0, 1] rfl
  have hD9 := hD.sub (ws' := [(xo, .inr (6, [.ref al, x1, x2, x3, x4, x5, .ref b1, x7])), (al, .inr (4, [.int mc, .ref (zk 0), .int 0]))]) [0, 1] (by decide) rfl
  exact W.iret (v := 1) hx hb hr (fun t ht hW => ⟨⟨_, (), rfl, rfl, ⟨by rw [ht]; exact hP9, va_K.moved hW.alike hK, hD9, by rw [ht]; exact hz⟩⟩, hS.F ht⟩) hS.2.2 dL_length_15

set_option maxHeartbeats 4000000 in
set_option maxRecDepth 100000 in
theorem k_depthH (l : Launch) (dC : Nat → ClassId) (dI : Nat → Nat → Nat) (cI cB cR cO : ClassId) (zk : Nat → Nat) (hfl : l.stackTraces = false) (xo al b1 : Nat) (x1 x2 x3 x4 x5 x7 : Value) (mc : Int32) (p0 : Int32) (ou : Nat) (sz : Nat)  : Met l yL_depth wsL_depth ({ frames := 8, cells := 1, slots := 6, locals := 132 }) (va_Pc [.ref xo, .int p0, .ref ou] (zPre (dC, dI) (zT cI cB cR cO) zk [] [(xo, .inr (6, [.ref al, x1, x2, x3, x4, x5, .ref b1, x7])), (al, .inr (4, [.int mc, .ref (zk 0), .int 0]))] sz)) (va_Qi (fun r (_ : Unit) => r = 1) (fun _ t => zEnd (dC, dI) (zT cI cB cR cO) (va_A [(xo, .inr (6, [.ref al, x1, x2, x3, x4, x5, .ref b1, x7])), (al, .inr (4, [.int mc, .ref (zk 0), .int 0]))] sz) [(xo, .inr (6, [.ref al, x1, x2, x3, x4, x5, .ref b1, x7])), (al, .inr (4, [.int mc, .ref (zk 0), .int 0]))] sz 0 t) (va_A [(xo, .inr (6, [.ref al, x1, x2, x3, x4, x5, .ref b1, x7])), (al, .inr (4, [.int mc, .ref (zk 0), .int 0]))] sz)) 1 6 (va_A [(xo, .inr (6, [.ref al, x1, x2, x3, x4, x5, .ref b1, x7])), (al, .inr (4, [.int mc, .ref (zk 0), .int 0]))] sz) := by
  refine zofWHt (cc := cL_depth) (maxL := 4) (ret := (some .int)) (by decide) rfl ?_
  intro p e s mY args below meth c s₁ B hml htab hv
  obtain ⟨rfl, hsz, hP, hK, hD0, hZ⟩ := hv
  have hx := B.exec
  have hb := B.bytes
  have hr := B.returns
  have hts := atoms_spec (ws := wsL_depth) B.pre
  have hown : s.vm.findClass RL = some mY.cls := findClass_of_methodNamed B.named
  have hlocks := B.notSynchronized
  subst hsz
  have hD := hD0.self (sz := s.heap.size)
  generalize hAe : va_A [(xo, .inr (6, [.ref al, x1, x2, x3, x4, x5, .ref b1, x7])), (al, .inr (4, [.int mc, .ref (zk 0), .int 0]))] s.heap.size = A at hD hZ ⊢
  have hA : ∀ q : Nat, s.heap.size ≤ q → A q := fun q h => by rw [← hAe]; exact Or.inr h
  have hS : va_S A s.heap s.heap [] := va_S.rf
  have hz : s.heap.size + 0 ≤ s.heap.size := Nat.le_refl _
  have hl := lv_entry ([.ref xo, .int p0, .ref ou]) (n := 4) (Nat.le_of_ble_eq_true rfl)
  rw [lg_entry_eq]
  generalize (lg_sl ([.ref xo, .int p0, .ref ou]) ++ List.replicate (4 - (lg_sl ([.ref xo, .int p0, .ref ou])).length) Slot.unset).toArray = ls at hl ⊢
  have hl : lv_has ls 4 [(0, .ref xo), (1, .int p0), (2, .ref ou)] := hl
  have hP : va_P (dC, dI) vwCl [(xo, .inr (6, [.ref al, x1, x2, x3, x4, x5, .ref b1, x7])), (al, .inr (4, [.int mc, .ref (zk 0), .int 0]))] s.heap := hP
  have hD : va_D A [(xo, .inr (6, [.ref al, x1, x2, x3, x4, x5, .ref b1, x7])), (al, .inr (4, [.int mc, .ref (zk 0), .int 0]))] := hD
  refine lv_aload_n hx hb dL_depth_0 rfl (lv_at hl 2 rfl) ?_
  refine lv_aload_n hx hb dL_depth_1 rfl (lv_at hl 0 rfl) ?_
  refine lv_iload_n hx hb dL_depth_2 rfl (lv_at hl 1 rfl) ?_
  have hPc := hP.sub (ws' := [(xo, .inr (6, [.ref al, x1, x2, x3, x4, x5, .ref b1, x7])), (al, .inr (4, [.int mc, .ref (zk 0), .int 0]))]) [0, 1] rfl
  have hDc := hD.sub (ws' := [(xo, .inr (6, [.ref al, x1, x2, x3, x4, x5, .ref b1, x7])), (al, .inr (4, [.int mc, .ref (zk 0), .int 0]))]) [0, 1] (by decide) rfl
  have hFc := va_free (wc := [(xo, .inr (6, [.ref al, x1, x2, x3, x4, x5, .ref b1, x7])), (al, .inr (4, [.int mc, .ref (zk 0), .int 0]))]) hD hS hA [0, 1] rfl
  have hDv := hDc.self (sz := s.heap.size)
  have hpre := zpre (xs' := []) (av := [.ref xo, .int p0]) hPc hK (hDc.weaken (fun _ _ _ h => h)) hZ hS hFc (fun r hr => by cases hr)
  refine vx_calli (vx_runV (As := [.int p0]) (rest := [.ref ou]) ⟨hx, hb, hml, hown, hts⟩ (k_depthX l dC dI cI cB cR cO zk hfl xo al b1 x1 x2 x3 x4 x5 x7 mc p0 s.heap.size ) (cwV 1 hts gL_depth_X1_depth rfl rfl rfl (by decide +kernel) ⟨(Nat.le_of_ble_eq_true rfl), (Nat.le_of_ble_eq_true rfl)⟩) ⟨zblind, (zrecv_6 hK hPc (q0 := 0) rfl), hpre⟩ rfl rfl hl.1 rfl (lv_room (Nat.le_of_ble_eq_true rfl)) dL_depth_3 ⟨(Nat.le_of_ble_eq_true rfl), (Nat.le_of_ble_eq_true rfl)⟩) hS (fun q _ h => hFc q h) hFc (fun q _ h => hFc q h) (fun E9 ce q9 u t H1 locs ht hvm hu hB hz1 hk1 hS hcell hcv hcl => ?_) (fun _ _ _ _ _ _ _ hw9 _ _ _ _ => hw9.elim)
  obtain ⟨hE9, hP1, hK1, hD1, hz2⟩ := hB
  subst hE9
  rw [ht] at hP1 hz2
  have hPD9 := va_join (wr := []) (w1 := [(xo, .inr (6, [.ref al, x1, x2, x3, x4, x5, .ref b1, x7])), (al, .inr (4, [.int mc, .ref (zk 0), .int 0]))]) hP hD [0, 1] [] rfl rfl (by decide) (by decide) hk1 hFc hP1 hD1
  clear hPc hDc hFc hDv hpre hP hD hP1 hK1 hD1
  obtain ⟨hP, hD⟩ := hPD9
  replace hz : s.heap.size + 0 ≤ H1.size := by omega
  clear hz2
  replace hP : va_P (dC, dI) vwCl [(xo, .inr (6, [.ref al, x1, x2, x3, x4, x5, .ref b1, x7])), (al, .inr (4, [.int mc, .ref (zk 0), .int 0]))] H1 := hP
  replace hD : va_D A [(xo, .inr (6, [.ref al, x1, x2, x3, x4, x5, .ref b1, x7])), (al, .inr (4, [.int mc, .ref (zk 0), .int 0]))] := hD
  refine vx_catch hown [] ⟨0, 10, 13, 31⟩ [] htab (fun z hz9 => absurd hz9 List.not_mem_nil) (by decide) (by decide) (hts (.classLink RL 31 "java/lang/IndexOutOfBoundsException") (List.mem_cons_of_mem _ zw_884)) (zce0 hZ) hcell hcv hcl ?_
  refine W.eq (g2 := F0 mY 13 ls [.ref q9]) rfl ?_
  refine lv_astore_n (lv' := [(3, .ref q9), (0, .ref xo), (1, .int p0), (2, .ref ou)]) hx hb dL_depth_13 rfl hl (by decide) rfl (fun ls hl => ?_)
  refine lv_iconst (v := 1) hx hb dL_depth_14 (by decide) ?_
  have hP9 := hP.sub (ws' := [(xo, .inr (6, [.ref al, x1, x2, x3, x4, x5, .ref b1, x7])), (al, .inr (4, [.int mc, .ref (zk 0), .int 0]))]) [0, 1] rfl
  have hD9 := hD.sub (ws' := [(xo, .inr (6, [.ref al, x1, x2, x3, x4, x5, .ref b1, x7])), (al, .inr (4, [.int mc, .ref (zk 0), .int 0]))]) [0, 1] (by decide) rfl
  exact W.iret (v := 1) hx hb hr (fun t ht hW => ⟨⟨_, (), rfl, rfl, ⟨by rw [ht]; exact hP9, va_K.moved hW.alike hK, hD9, by rw [ht]; exact hz⟩⟩, hS.F ht⟩) hS.2.2 dL_depth_15

set_option maxHeartbeats 4000000 in
set_option maxRecDepth 100000 in
theorem k_whatH (l : Launch) (dC : Nat → ClassId) (dI : Nat → Nat → Nat) (cI cB cR cO : ClassId) (zk : Nat → Nat) (hfl : l.stackTraces = false) (xo al b1 : Nat) (x1 x2 x3 x4 x5 x7 : Value) (mc : Int32) (p0 p1 : Int32) (ou : Nat) (sz : Nat)  : Met l yL_what wsL_what ({ frames := 8, cells := 1, slots := 6, locals := 134 }) (va_Pc [.ref xo, .int p0, .int p1, .ref ou] (zPre (dC, dI) (zT cI cB cR cO) zk [] [(xo, .inr (6, [.ref al, x1, x2, x3, x4, x5, .ref b1, x7])), (al, .inr (4, [.int mc, .ref (zk 0), .int 0]))] sz)) (va_Qi (fun r (_ : Unit) => r = 1) (fun _ t => zEnd (dC, dI) (zT cI cB cR cO) (va_A [(xo, .inr (6, [.ref al, x1, x2, x3, x4, x5, .ref b1, x7])), (al, .inr (4, [.int mc, .ref (zk 0), .int 0]))] sz) [(xo, .inr (6, [.ref al, x1, x2, x3, x4, x5, .ref b1, x7])), (al, .inr (4, [.int mc, .ref (zk 0), .int 0]))] sz 0 t) (va_A [(xo, .inr (6, [.ref al, x1, x2, x3, x4, x5, .ref b1, x7])), (al, .inr (4, [.int mc, .ref (zk 0), .int 0]))] sz)) 1 6 (va_A [(xo, .inr (6, [.ref al, x1, x2, x3, x4, x5, .ref b1, x7])), (al, .inr (4, [.int mc, .ref (zk 0), .int 0]))] sz) := by
  refine zofWHt (cc := cL_what) (maxL := 5) (ret := (some .int)) (by decide) rfl ?_
  intro p e s mY args below meth c s₁ B hml htab hv
  obtain ⟨rfl, hsz, hP, hK, hD0, hZ⟩ := hv
  have hx := B.exec
  have hb := B.bytes
  have hr := B.returns
  have hts := atoms_spec (ws := wsL_what) B.pre
  have hown : s.vm.findClass RL = some mY.cls := findClass_of_methodNamed B.named
  have hlocks := B.notSynchronized
  subst hsz
  have hD := hD0.self (sz := s.heap.size)
  generalize hAe : va_A [(xo, .inr (6, [.ref al, x1, x2, x3, x4, x5, .ref b1, x7])), (al, .inr (4, [.int mc, .ref (zk 0), .int 0]))] s.heap.size = A at hD hZ ⊢
  have hA : ∀ q : Nat, s.heap.size ≤ q → A q := fun q h => by rw [← hAe]; exact Or.inr h
  have hS : va_S A s.heap s.heap [] := va_S.rf
  have hz : s.heap.size + 0 ≤ s.heap.size := Nat.le_refl _
  have hl := lv_entry ([.ref xo, .int p0, .int p1, .ref ou]) (n := 5) (Nat.le_of_ble_eq_true rfl)
  rw [lg_entry_eq]
  generalize (lg_sl ([.ref xo, .int p0, .int p1, .ref ou]) ++ List.replicate (5 - (lg_sl ([.ref xo, .int p0, .int p1, .ref ou])).length) Slot.unset).toArray = ls at hl ⊢
  have hl : lv_has ls 5 [(0, .ref xo), (1, .int p0), (2, .int p1), (3, .ref ou)] := hl
  have hP : va_P (dC, dI) vwCl [(xo, .inr (6, [.ref al, x1, x2, x3, x4, x5, .ref b1, x7])), (al, .inr (4, [.int mc, .ref (zk 0), .int 0]))] s.heap := hP
  have hD : va_D A [(xo, .inr (6, [.ref al, x1, x2, x3, x4, x5, .ref b1, x7])), (al, .inr (4, [.int mc, .ref (zk 0), .int 0]))] := hD
  refine lv_aload_n hx hb dL_what_0 rfl (lv_at hl 3 rfl) ?_
  refine lv_aload_n hx hb dL_what_1 rfl (lv_at hl 0 rfl) ?_
  refine lv_iload_n hx hb dL_what_2 rfl (lv_at hl 1 rfl) ?_
  refine lv_iload_n hx hb dL_what_3 rfl (lv_at hl 2 rfl) ?_
  have hPc := hP.sub (ws' := [(xo, .inr (6, [.ref al, x1, x2, x3, x4, x5, .ref b1, x7])), (al, .inr (4, [.int mc, .ref (zk 0), .int 0]))]) [0, 1] rfl
  have hDc := hD.sub (ws' := [(xo, .inr (6, [.ref al, x1, x2, x3, x4, x5, .ref b1, x7])), (al, .inr (4, [.int mc, .ref (zk 0), .int 0]))]) [0, 1] (by decide) rfl
  have hFc := va_free (wc := [(xo, .inr (6, [.ref al, x1, x2, x3, x4, x5, .ref b1, x7])), (al, .inr (4, [.int mc, .ref (zk 0), .int 0]))]) hD hS hA [0, 1] rfl
  have hDv := hDc.self (sz := s.heap.size)
  have hpre := zpre (xs' := []) (av := [.ref xo, .int p0, .int p1]) hPc hK (hDc.weaken (fun _ _ _ h => h)) hZ hS hFc (fun r hr => by cases hr)
  refine vx_calli (vx_runV (As := [.int p0, .int p1]) (rest := [.ref ou]) ⟨hx, hb, hml, hown, hts⟩ (k_whatX l dC dI cI cB cR cO zk hfl xo al b1 x1 x2 x3 x4 x5 x7 mc p0 p1 s.heap.size ) (cwV 2 hts gL_what_X1_what rfl rfl rfl (by decide +kernel) ⟨(Nat.le_of_ble_eq_true rfl), (Nat.le_of_ble_eq_true rfl)⟩) ⟨zblind, (zrecv_6 hK hPc (q0 := 0) rfl), hpre⟩ rfl rfl hl.1 rfl (lv_room (Nat.le_of_ble_eq_true rfl)) dL_what_4 ⟨(Nat.le_of_ble_eq_true rfl), (Nat.le_of_ble_eq_true rfl)⟩) hS (fun q _ h => hFc q h) hFc (fun q _ h => hFc q h) (fun E9 ce q9 u t H1 locs ht hvm hu hB hz1 hk1 hS hcell hcv hcl => ?_) (fun _ _ _ _ _ _ _ hw9 _ _ _ _ => hw9.elim)
  obtain ⟨hE9, hP1, hK1, hD1, hz2⟩ := hB
  subst hE9
  rw [ht] at hP1 hz2
  have hPD9 := va_join (wr := []) (w1 := [(xo, .inr (6, [.ref al, x1, x2, x3, x4, x5, .ref b1, x7])), (al, .inr (4, [.int mc, .ref (zk 0), .int 0]))]) hP hD [0, 1] [] rfl rfl (by decide) (by decide) hk1 hFc hP1 hD1
  clear hPc hDc hFc hDv hpre hP hD hP1 hK1 hD1
  obtain ⟨hP, hD⟩ := hPD9
  replace hz : s.heap.size + 0 ≤ H1.size := by omega
  clear hz2
  replace hP : va_P (dC, dI) vwCl [(xo, .inr (6, [.ref al, x1, x2, x3, x4, x5, .ref b1, x7])), (al, .inr (4, [.int mc, .ref (zk 0), .int 0]))] H1 := hP
  replace hD : va_D A [(xo, .inr (6, [.ref al, x1, x2, x3, x4, x5, .ref b1, x7])), (al, .inr (4, [.int mc, .ref (zk 0), .int 0]))] := hD
  refine vx_catch hown [] ⟨0, 11, 14, 31⟩ [] htab (fun z hz9 => absurd hz9 List.not_mem_nil) (by decide) (by decide) (hts (.classLink RL 31 "java/lang/IndexOutOfBoundsException") (List.mem_cons_of_mem _ zw_884)) (zce0 hZ) hcell hcv hcl ?_
  refine W.eq (g2 := F0 mY 14 ls [.ref q9]) rfl ?_
  refine lv_astore (lv' := [(4, .ref q9), (0, .ref xo), (1, .int p0), (2, .int p1), (3, .ref ou)]) hx hb dL_what_14 hl (by decide) rfl (fun ls hl => ?_)
  refine lv_iconst (v := 1) hx hb dL_what_16 (by decide) ?_
  have hP9 := hP.sub (ws' := [(xo, .inr (6, [.ref al, x1, x2, x3, x4, x5, .ref b1, x7])), (al, .inr (4, [.int mc, .ref (zk 0), .int 0]))]) [0, 1] rfl
  have hD9 := hD.sub (ws' := [(xo, .inr (6, [.ref al, x1, x2, x3, x4, x5, .ref b1, x7])), (al, .inr (4, [.int mc, .ref (zk 0), .int 0]))]) [0, 1] (by decide) rfl
  exact W.iret (v := 1) hx hb hr (fun t ht hW => ⟨⟨_, (), rfl, rfl, ⟨by rw [ht]; exact hP9, va_K.moved hW.alike hK, hD9, by rw [ht]; exact hz⟩⟩, hS.F ht⟩) hS.2.2 dL_what_17

set_option maxHeartbeats 4000000 in
set_option maxRecDepth 100000 in
theorem k_atH (l : Launch) (dC : Nat → ClassId) (dI : Nat → Nat → Nat) (cI cB cR cO : ClassId) (zk : Nat → Nat) (hfl : l.stackTraces = false) (xo al b1 : Nat) (x1 x2 x3 x4 x5 x7 : Value) (mc : Int32) (p0 p1 : Int32) (ou : Nat) (sz : Nat)  : Met l yL_at wsL_at ({ frames := 8, cells := 1, slots := 6, locals := 135 }) (va_Pc [.ref xo, .int p0, .int p1, .ref ou] (zPre (dC, dI) (zT cI cB cR cO) zk [] [(xo, .inr (6, [.ref al, x1, x2, x3, x4, x5, .ref b1, x7])), (al, .inr (4, [.int mc, .ref (zk 0), .int 0]))] sz)) (va_Qi (fun r (_ : Unit) => r = 1) (fun _ t => zEnd (dC, dI) (zT cI cB cR cO) (va_A [(xo, .inr (6, [.ref al, x1, x2, x3, x4, x5, .ref b1, x7])), (al, .inr (4, [.int mc, .ref (zk 0), .int 0]))] sz) [(xo, .inr (6, [.ref al, x1, x2, x3, x4, x5, .ref b1, x7])), (al, .inr (4, [.int mc, .ref (zk 0), .int 0]))] sz 0 t) (va_A [(xo, .inr (6, [.ref al, x1, x2, x3, x4, x5, .ref b1, x7])), (al, .inr (4, [.int mc, .ref (zk 0), .int 0]))] sz)) 1 6 (va_A [(xo, .inr (6, [.ref al, x1, x2, x3, x4, x5, .ref b1, x7])), (al, .inr (4, [.int mc, .ref (zk 0), .int 0]))] sz) := by
  refine zofWHt (cc := cL_at) (maxL := 5) (ret := (some .int)) (by decide) rfl ?_
  intro p e s mY args below meth c s₁ B hml htab hv
  obtain ⟨rfl, hsz, hP, hK, hD0, hZ⟩ := hv
  have hx := B.exec
  have hb := B.bytes
  have hr := B.returns
  have hts := atoms_spec (ws := wsL_at) B.pre
  have hown : s.vm.findClass RL = some mY.cls := findClass_of_methodNamed B.named
  have hlocks := B.notSynchronized
  subst hsz
  have hD := hD0.self (sz := s.heap.size)
  generalize hAe : va_A [(xo, .inr (6, [.ref al, x1, x2, x3, x4, x5, .ref b1, x7])), (al, .inr (4, [.int mc, .ref (zk 0), .int 0]))] s.heap.size = A at hD hZ ⊢
  have hA : ∀ q : Nat, s.heap.size ≤ q → A q := fun q h => by rw [← hAe]; exact Or.inr h
  have hS : va_S A s.heap s.heap [] := va_S.rf
  have hz : s.heap.size + 0 ≤ s.heap.size := Nat.le_refl _
  have hl := lv_entry ([.ref xo, .int p0, .int p1, .ref ou]) (n := 5) (Nat.le_of_ble_eq_true rfl)
  rw [lg_entry_eq]
  generalize (lg_sl ([.ref xo, .int p0, .int p1, .ref ou]) ++ List.replicate (5 - (lg_sl ([.ref xo, .int p0, .int p1, .ref ou])).length) Slot.unset).toArray = ls at hl ⊢
  have hl : lv_has ls 5 [(0, .ref xo), (1, .int p0), (2, .int p1), (3, .ref ou)] := hl
  have hP : va_P (dC, dI) vwCl [(xo, .inr (6, [.ref al, x1, x2, x3, x4, x5, .ref b1, x7])), (al, .inr (4, [.int mc, .ref (zk 0), .int 0]))] s.heap := hP
  have hD : va_D A [(xo, .inr (6, [.ref al, x1, x2, x3, x4, x5, .ref b1, x7])), (al, .inr (4, [.int mc, .ref (zk 0), .int 0]))] := hD
  refine lv_aload_n hx hb dL_at_0 rfl (lv_at hl 3 rfl) ?_
  refine lv_aload_n hx hb dL_at_1 rfl (lv_at hl 0 rfl) ?_
  refine lv_iload_n hx hb dL_at_2 rfl (lv_at hl 1 rfl) ?_
  refine lv_iload_n hx hb dL_at_3 rfl (lv_at hl 2 rfl) ?_
  have hPc := hP.sub (ws' := [(xo, .inr (6, [.ref al, x1, x2, x3, x4, x5, .ref b1, x7])), (al, .inr (4, [.int mc, .ref (zk 0), .int 0]))]) [0, 1] rfl
  have hDc := hD.sub (ws' := [(xo, .inr (6, [.ref al, x1, x2, x3, x4, x5, .ref b1, x7])), (al, .inr (4, [.int mc, .ref (zk 0), .int 0]))]) [0, 1] (by decide) rfl
  have hFc := va_free (wc := [(xo, .inr (6, [.ref al, x1, x2, x3, x4, x5, .ref b1, x7])), (al, .inr (4, [.int mc, .ref (zk 0), .int 0]))]) hD hS hA [0, 1] rfl
  have hDv := hDc.self (sz := s.heap.size)
  have hpre := zpre (xs' := []) (av := [.ref xo, .int p0, .int p1]) hPc hK (hDc.weaken (fun _ _ _ h => h)) hZ hS hFc (fun r hr => by cases hr)
  refine vx_calli (vx_runV (As := [.int p0, .int p1]) (rest := [.ref ou]) ⟨hx, hb, hml, hown, hts⟩ (k_atX l dC dI cI cB cR cO zk hfl xo al b1 x1 x2 x3 x4 x5 x7 mc p0 p1 s.heap.size ) (cwV 2 hts gL_at_X1_at rfl rfl rfl (by decide +kernel) ⟨(Nat.le_of_ble_eq_true rfl), (Nat.le_of_ble_eq_true rfl)⟩) ⟨zblind, (zrecv_6 hK hPc (q0 := 0) rfl), hpre⟩ rfl rfl hl.1 rfl (lv_room (Nat.le_of_ble_eq_true rfl)) dL_at_4 ⟨(Nat.le_of_ble_eq_true rfl), (Nat.le_of_ble_eq_true rfl)⟩) hS (fun q _ h => hFc q h) hFc (fun q _ h => hFc q h) (fun E9 ce q9 u t H1 locs ht hvm hu hB hz1 hk1 hS hcell hcv hcl => ?_) (fun _ _ _ _ _ _ _ hw9 _ _ _ _ => hw9.elim)
  obtain ⟨hE9, hP1, hK1, hD1, hz2⟩ := hB
  subst hE9
  rw [ht] at hP1 hz2
  have hPD9 := va_join (wr := []) (w1 := [(xo, .inr (6, [.ref al, x1, x2, x3, x4, x5, .ref b1, x7])), (al, .inr (4, [.int mc, .ref (zk 0), .int 0]))]) hP hD [0, 1] [] rfl rfl (by decide) (by decide) hk1 hFc hP1 hD1
  clear hPc hDc hFc hDv hpre hP hD hP1 hK1 hD1
  obtain ⟨hP, hD⟩ := hPD9
  replace hz : s.heap.size + 0 ≤ H1.size := by omega
  clear hz2
  replace hP : va_P (dC, dI) vwCl [(xo, .inr (6, [.ref al, x1, x2, x3, x4, x5, .ref b1, x7])), (al, .inr (4, [.int mc, .ref (zk 0), .int 0]))] H1 := hP
  replace hD : va_D A [(xo, .inr (6, [.ref al, x1, x2, x3, x4, x5, .ref b1, x7])), (al, .inr (4, [.int mc, .ref (zk 0), .int 0]))] := hD
  refine vx_catch hown [] ⟨0, 11, 14, 31⟩ [] htab (fun z hz9 => absurd hz9 List.not_mem_nil) (by decide) (by decide) (hts (.classLink RL 31 "java/lang/IndexOutOfBoundsException") (List.mem_cons_of_mem _ zw_884)) (zce0 hZ) hcell hcv hcl ?_
  refine W.eq (g2 := F0 mY 14 ls [.ref q9]) rfl ?_
  refine lv_astore (lv' := [(4, .ref q9), (0, .ref xo), (1, .int p0), (2, .int p1), (3, .ref ou)]) hx hb dL_at_14 hl (by decide) rfl (fun ls hl => ?_)
  refine lv_iconst (v := 1) hx hb dL_at_16 (by decide) ?_
  have hP9 := hP.sub (ws' := [(xo, .inr (6, [.ref al, x1, x2, x3, x4, x5, .ref b1, x7])), (al, .inr (4, [.int mc, .ref (zk 0), .int 0]))]) [0, 1] rfl
  have hD9 := hD.sub (ws' := [(xo, .inr (6, [.ref al, x1, x2, x3, x4, x5, .ref b1, x7])), (al, .inr (4, [.int mc, .ref (zk 0), .int 0]))]) [0, 1] (by decide) rfl
  exact W.iret (v := 1) hx hb hr (fun t ht hW => ⟨⟨_, (), rfl, rfl, ⟨by rw [ht]; exact hP9, va_K.moved hW.alike hK, hD9, by rw [ht]; exact hz⟩⟩, hS.F ht⟩) hS.2.2 dL_at_17

set_option maxHeartbeats 4000000 in
set_option maxRecDepth 100000 in
theorem k_isDeepH (l : Launch) (dC : Nat → ClassId) (dI : Nat → Nat → Nat) (cI cB cR cO : ClassId) (zk : Nat → Nat) (hfl : l.stackTraces = false) (xo al b1 : Nat) (x1 x2 x3 x4 x5 x7 : Value) (mc : Int32) (p0 p1 : Int32) (ou : Nat) (sz : Nat)  : Met l yL_isDeep wsL_isDeep ({ frames := 8, cells := 1, slots := 6, locals := 133 }) (va_Pc [.ref xo, .int p0, .int p1, .ref ou] (zPre (dC, dI) (zT cI cB cR cO) zk [] [(xo, .inr (6, [.ref al, x1, x2, x3, x4, x5, .ref b1, x7])), (al, .inr (4, [.int mc, .ref (zk 0), .int 0]))] sz)) (va_Qi (fun r (_ : Unit) => r = 1) (fun _ t => zEnd (dC, dI) (zT cI cB cR cO) (va_A [(xo, .inr (6, [.ref al, x1, x2, x3, x4, x5, .ref b1, x7])), (al, .inr (4, [.int mc, .ref (zk 0), .int 0]))] sz) [(xo, .inr (6, [.ref al, x1, x2, x3, x4, x5, .ref b1, x7])), (al, .inr (4, [.int mc, .ref (zk 0), .int 0]))] sz 0 t) (va_A [(xo, .inr (6, [.ref al, x1, x2, x3, x4, x5, .ref b1, x7])), (al, .inr (4, [.int mc, .ref (zk 0), .int 0]))] sz)) 1 6 (va_A [(xo, .inr (6, [.ref al, x1, x2, x3, x4, x5, .ref b1, x7])), (al, .inr (4, [.int mc, .ref (zk 0), .int 0]))] sz) := by
  refine zofWHt (cc := cL_isDeep) (maxL := 5) (ret := (some .int)) (by decide) rfl ?_
  intro p e s mY args below meth c s₁ B hml htab hv
  obtain ⟨rfl, hsz, hP, hK, hD0, hZ⟩ := hv
  have hx := B.exec
  have hb := B.bytes
  have hr := B.returns
  have hts := atoms_spec (ws := wsL_isDeep) B.pre
  have hown : s.vm.findClass RL = some mY.cls := findClass_of_methodNamed B.named
  have hlocks := B.notSynchronized
  subst hsz
  have hD := hD0.self (sz := s.heap.size)
  generalize hAe : va_A [(xo, .inr (6, [.ref al, x1, x2, x3, x4, x5, .ref b1, x7])), (al, .inr (4, [.int mc, .ref (zk 0), .int 0]))] s.heap.size = A at hD hZ ⊢
  have hA : ∀ q : Nat, s.heap.size ≤ q → A q := fun q h => by rw [← hAe]; exact Or.inr h
  have hS : va_S A s.heap s.heap [] := va_S.rf
  have hz : s.heap.size + 0 ≤ s.heap.size := Nat.le_refl _
  have hl := lv_entry ([.ref xo, .int p0, .int p1, .ref ou]) (n := 5) (Nat.le_of_ble_eq_true rfl)
  rw [lg_entry_eq]
  generalize (lg_sl ([.ref xo, .int p0, .int p1, .ref ou]) ++ List.replicate (5 - (lg_sl ([.ref xo, .int p0, .int p1, .ref ou])).length) Slot.unset).toArray = ls at hl ⊢
  have hl : lv_has ls 5 [(0, .ref xo), (1, .int p0), (2, .int p1), (3, .ref ou)] := hl
  have hP : va_P (dC, dI) vwCl [(xo, .inr (6, [.ref al, x1, x2, x3, x4, x5, .ref b1, x7])), (al, .inr (4, [.int mc, .ref (zk 0), .int 0]))] s.heap := hP
  have hD : va_D A [(xo, .inr (6, [.ref al, x1, x2, x3, x4, x5, .ref b1, x7])), (al, .inr (4, [.int mc, .ref (zk 0), .int 0]))] := hD
  refine lv_aload_n hx hb dL_isDeep_0 rfl (lv_at hl 3 rfl) ?_
  refine lv_aload_n hx hb dL_isDeep_1 rfl (lv_at hl 0 rfl) ?_
  refine lv_iload_n hx hb dL_isDeep_2 rfl (lv_at hl 1 rfl) ?_
  refine lv_iload_n hx hb dL_isDeep_3 rfl (lv_at hl 2 rfl) ?_
  have hPc := hP.sub (ws' := [(xo, .inr (6, [.ref al, x1, x2, x3, x4, x5, .ref b1, x7])), (al, .inr (4, [.int mc, .ref (zk 0), .int 0]))]) [0, 1] rfl
  have hDc := hD.sub (ws' := [(xo, .inr (6, [.ref al, x1, x2, x3, x4, x5, .ref b1, x7])), (al, .inr (4, [.int mc, .ref (zk 0), .int 0]))]) [0, 1] (by decide) rfl
  have hFc := va_free (wc := [(xo, .inr (6, [.ref al, x1, x2, x3, x4, x5, .ref b1, x7])), (al, .inr (4, [.int mc, .ref (zk 0), .int 0]))]) hD hS hA [0, 1] rfl
  have hDv := hDc.self (sz := s.heap.size)
  have hpre := zpre (xs' := []) (av := [.ref xo, .int p0, .int p1]) hPc hK (hDc.weaken (fun _ _ _ h => h)) hZ hS hFc (fun r hr => by cases hr)
  refine vx_calli (vx_runV (As := [.int p0, .int p1]) (rest := [.ref ou]) ⟨hx, hb, hml, hown, hts⟩ (k_isDeepX l dC dI cI cB cR cO zk hfl xo al b1 x1 x2 x3 x4 x5 x7 mc p0 p1 s.heap.size ) (cwV 2 hts gL_isDeep_X1_isDeep rfl rfl rfl (by decide +kernel) ⟨(Nat.le_of_ble_eq_true rfl), (Nat.le_of_ble_eq_true rfl)⟩) ⟨zblind, (zrecv_6 hK hPc (q0 := 0) rfl), hpre⟩ rfl rfl hl.1 rfl (lv_room (Nat.le_of_ble_eq_true rfl)) dL_isDeep_4 ⟨(Nat.le_of_ble_eq_true rfl), (Nat.le_of_ble_eq_true rfl)⟩) hS (fun q _ h => hFc q h) hFc (fun q _ h => hFc q h) (fun E9 ce q9 u t H1 locs ht hvm hu hB hz1 hk1 hS hcell hcv hcl => ?_) (fun _ _ _ _ _ _ _ hw9 _ _ _ _ => hw9.elim)
  obtain ⟨hE9, hP1, hK1, hD1, hz2⟩ := hB
  subst hE9
  rw [ht] at hP1 hz2
  have hPD9 := va_join (wr := []) (w1 := [(xo, .inr (6, [.ref al, x1, x2, x3, x4, x5, .ref b1, x7])), (al, .inr (4, [.int mc, .ref (zk 0), .int 0]))]) hP hD [0, 1] [] rfl rfl (by decide) (by decide) hk1 hFc hP1 hD1
  clear hPc hDc hFc hDv hpre hP hD hP1 hK1 hD1
  obtain ⟨hP, hD⟩ := hPD9
  replace hz : s.heap.size + 0 ≤ H1.size := by omega
  clear hz2
  replace hP : va_P (dC, dI) vwCl [(xo, .inr (6, [.ref al, x1, x2, x3, x4, x5, .ref b1, x7])), (al, .inr (4, [.int mc, .ref (zk 0), .int 0]))] H1 := hP
  replace hD : va_D A [(xo, .inr (6, [.ref al, x1, x2, x3, x4, x5, .ref b1, x7])), (al, .inr (4, [.int mc, .ref (zk 0), .int 0]))] := hD
  refine vx_catch hown [] ⟨0, 18, 21, 31⟩ [] htab (fun z hz9 => absurd hz9 List.not_mem_nil) (by decide) (by decide) (hts (.classLink RL 31 "java/lang/IndexOutOfBoundsException") (List.mem_cons_of_mem _ zw_884)) (zce0 hZ) hcell hcv hcl ?_
  refine W.eq (g2 := F0 mY 21 ls [.ref q9]) rfl ?_
  refine lv_astore (lv' := [(4, .ref q9), (0, .ref xo), (1, .int p0), (2, .int p1), (3, .ref ou)]) hx hb dL_isDeep_21 hl (by decide) rfl (fun ls hl => ?_)
  refine lv_iconst (v := 1) hx hb dL_isDeep_23 (by decide) ?_
  have hP9 := hP.sub (ws' := [(xo, .inr (6, [.ref al, x1, x2, x3, x4, x5, .ref b1, x7])), (al, .inr (4, [.int mc, .ref (zk 0), .int 0]))]) [0, 1] rfl
  have hD9 := hD.sub (ws' := [(xo, .inr (6, [.ref al, x1, x2, x3, x4, x5, .ref b1, x7])), (al, .inr (4, [.int mc, .ref (zk 0), .int 0]))]) [0, 1] (by decide) rfl
  exact W.iret (v := 1) hx hb hr (fun t ht hW => ⟨⟨_, (), rfl, rfl, ⟨by rw [ht]; exact hP9, va_K.moved hW.alike hK, hD9, by rw [ht]; exact hz⟩⟩, hS.F ht⟩) hS.2.2 dL_isDeep_24

set_option maxHeartbeats 4000000 in
set_option maxRecDepth 100000 in
theorem k_isFlatH (l : Launch) (dC : Nat → ClassId) (dI : Nat → Nat → Nat) (cI cB cR cO : ClassId) (zk : Nat → Nat) (hfl : l.stackTraces = false) (xo al b1 : Nat) (x1 x2 x3 x4 x5 x7 : Value) (mc : Int32) (p0 p1 : Int32) (ou : Nat) (sz : Nat)  : Met l yL_isFlat wsL_isFlat ({ frames := 8, cells := 1, slots := 6, locals := 135 }) (va_Pc [.ref xo, .int p0, .int p1, .ref ou] (zPre (dC, dI) (zT cI cB cR cO) zk [] [(xo, .inr (6, [.ref al, x1, x2, x3, x4, x5, .ref b1, x7])), (al, .inr (4, [.int mc, .ref (zk 0), .int 0]))] sz)) (va_Qi (fun r (_ : Unit) => r = 1) (fun _ t => zEnd (dC, dI) (zT cI cB cR cO) (va_A [(xo, .inr (6, [.ref al, x1, x2, x3, x4, x5, .ref b1, x7])), (al, .inr (4, [.int mc, .ref (zk 0), .int 0]))] sz) [(xo, .inr (6, [.ref al, x1, x2, x3, x4, x5, .ref b1, x7])), (al, .inr (4, [.int mc, .ref (zk 0), .int 0]))] sz 0 t) (va_A [(xo, .inr (6, [.ref al, x1, x2, x3, x4, x5, .ref b1, x7])), (al, .inr (4, [.int mc, .ref (zk 0), .int 0]))] sz)) 1 6 (va_A [(xo, .inr (6, [.ref al, x1, x2, x3, x4, x5, .ref b1, x7])), (al, .inr (4, [.int mc, .ref (zk 0), .int 0]))] sz) := by
  refine zofWHt (cc := cL_isFlat) (maxL := 5) (ret := (some .int)) (by decide) rfl ?_
  intro p e s mY args below meth c s₁ B hml htab hv
  obtain ⟨rfl, hsz, hP, hK, hD0, hZ⟩ := hv
  have hx := B.exec
  have hb := B.bytes
  have hr := B.returns
  have hts := atoms_spec (ws := wsL_isFlat) B.pre
  have hown : s.vm.findClass RL = some mY.cls := findClass_of_methodNamed B.named
  have hlocks := B.notSynchronized
  subst hsz
  have hD := hD0.self (sz := s.heap.size)
  generalize hAe : va_A [(xo, .inr (6, [.ref al, x1, x2, x3, x4, x5, .ref b1, x7])), (al, .inr (4, [.int mc, .ref (zk 0), .int 0]))] s.heap.size = A at hD hZ ⊢
  have hA : ∀ q : Nat, s.heap.size ≤ q → A q := fun q h => by rw [← hAe]; exact Or.inr h
  have hS : va_S A s.heap s.heap [] := va_S.rf
  have hz : s.heap.size + 0 ≤ s.heap.size := Nat.le_refl _
  have hl := lv_entry ([.ref xo, .int p0, .int p1, .ref ou]) (n := 5) (Nat.le_of_ble_eq_true rfl)
  rw [lg_entry_eq]
  generalize (lg_sl ([.ref xo, .int p0, .int p1, .ref ou]) ++ List.replicate (5 - (lg_sl ([.ref xo, .int p0, .int p1, .ref ou])).length) Slot.unset).toArray = ls at hl ⊢
  have hl : lv_has ls 5 [(0, .ref xo), (1, .int p0), (2, .int p1), (3, .ref ou)] := hl
  have hP : va_P (dC, dI) vwCl [(xo, .inr (6, [.ref al, x1, x2, x3, x4, x5, .ref b1, x7])), (al, .inr (4, [.int mc, .ref (zk 0), .int 0]))] s.heap := hP
  have hD : va_D A [(xo, .inr (6, [.ref al, x1, x2, x3, x4, x5, .ref b1, x7])), (al, .inr (4, [.int mc, .ref (zk 0), .int 0]))] := hD
  refine lv_aload_n hx hb dL_isFlat_0 rfl (lv_at hl 3 rfl) ?_
  refine lv_aload_n hx hb dL_isFlat_1 rfl (lv_at hl 0 rfl) ?_
  refine lv_iload_n hx hb dL_isFlat_2 rfl (lv_at hl 1 rfl) ?_
  refine lv_iload_n hx hb dL_isFlat_3 rfl (lv_at hl 2 rfl) ?_
  have hPc := hP.sub (ws' := [(xo, .inr (6, [.ref al, x1, x2, x3, x4, x5, .ref b1, x7])), (al, .inr (4, [.int mc, .ref (zk 0), .int 0]))]) [0, 1] rfl
  have hDc := hD.sub (ws' := [(xo, .inr (6, [.ref al, x1, x2, x3, x4, x5, .ref b1, x7])), (al, .inr (4, [.int mc, .ref (zk 0), .int 0]))]) [0, 1] (by decide) rfl
  have hFc := va_free (wc := [(xo, .inr (6, [.ref al, x1, x2, x3, x4, x5, .ref b1, x7])), (al, .inr (4, [.int mc, .ref (zk 0), .int 0]))]) hD hS hA [0, 1] rfl
  have hDv := hDc.self (sz := s.heap.size)
  have hpre := zpre (xs' := []) (av := [.ref xo, .int p0, .int p1]) hPc hK (hDc.weaken (fun _ _ _ h => h)) hZ hS hFc (fun r hr => by cases hr)
  refine vx_calli (vx_runV (As := [.int p0, .int p1]) (rest := [.ref ou]) ⟨hx, hb, hml, hown, hts⟩ (k_isFlatX l dC dI cI cB cR cO zk hfl xo al b1 x1 x2 x3 x4 x5 x7 mc p0 p1 s.heap.size ) (cwV 2 hts gL_isFlat_X1_isFlat rfl rfl rfl (by decide +kernel) ⟨(Nat.le_of_ble_eq_true rfl), (Nat.le_of_ble_eq_true rfl)⟩) ⟨zblind, (zrecv_6 hK hPc (q0 := 0) rfl), hpre⟩ rfl rfl hl.1 rfl (lv_room (Nat.le_of_ble_eq_true rfl)) dL_isFlat_4 ⟨(Nat.le_of_ble_eq_true rfl), (Nat.le_of_ble_eq_true rfl)⟩) hS (fun q _ h => hFc q h) hFc (fun q _ h => hFc q h) (fun E9 ce q9 u t H1 locs ht hvm hu hB hz1 hk1 hS hcell hcv hcl => ?_) (fun _ _ _ _ _ _ _ hw9 _ _ _ _ => hw9.elim)
  obtain ⟨hE9, hP1, hK1, hD1, hz2⟩ := hB
  subst hE9
  rw [ht] at hP1 hz2
  have hPD9 := va_join (wr := []) (w1 := [(xo, .inr (6, [.ref al, x1, x2, x3, x4, x5, .ref b1, x7])), (al, .inr (4, [.int mc, .ref (zk 0), .int 0]))]) hP hD [0, 1] [] rfl rfl (by decide) (by decide) hk1 hFc hP1 hD1
  clear hPc hDc hFc hDv hpre hP hD hP1 hK1 hD1
  obtain ⟨hP, hD⟩ := hPD9
  replace hz : s.heap.size + 0 ≤ H1.size := by omega
  clear hz2
  replace hP : va_P (dC, dI) vwCl [(xo, .inr (6, [.ref al, x1, x2, x3, x4, x5, .ref b1, x7])), (al, .inr (4, [.int mc, .ref (zk 0), .int 0]))] H1 := hP
  replace hD : va_D A [(xo, .inr (6, [.ref al, x1, x2, x3, x4, x5, .ref b1, x7])), (al, .inr (4, [.int mc, .ref (zk 0), .int 0]))] := hD
  refine vx_catch hown [] ⟨0, 18, 21, 31⟩ [⟨0, 18, 25, 19⟩] htab (fun z hz9 => absurd hz9 List.not_mem_nil) (by decide) (by decide) (hts (.classLink RL 31 "java/lang/IndexOutOfBoundsException") (List.mem_cons_of_mem _ zw_884)) (zce0 hZ) hcell hcv hcl ?_
  refine W.eq (g2 := F0 mY 21 ls [.ref q9]) rfl ?_
  refine lv_astore (lv' := [(4, .ref q9), (0, .ref xo), (1, .int p0), (2, .int p1), (3, .ref ou)]) hx hb dL_isFlat_21 hl (by decide) rfl (fun ls hl => ?_)
  refine lv_iconst (v := 1) hx hb dL_isFlat_23 (by decide) ?_
  have hP9 := hP.sub (ws' := [(xo, .inr (6, [.ref al, x1, x2, x3, x4, x5, .ref b1, x7])), (al, .inr (4, [.int mc, .ref (zk 0), .int 0]))]) [0, 1] rfl
  have hD9 := hD.sub (ws' := [(xo, .inr (6, [.ref al, x1, x2, x3, x4, x5, .ref b1, x7])), (al, .inr (4, [.int mc, .ref (zk 0), .int 0]))]) [0, 1] (by decide) rfl
  exact W.iret (v := 1) hx hb hr (fun t ht hW => ⟨⟨_, (), rfl, rfl, ⟨by rw [ht]; exact hP9, va_K.moved hW.alike hK, hD9, by rw [ht]; exact hz⟩⟩, hS.F ht⟩) hS.2.2 dL_isFlat_24

set_option maxHeartbeats 4000000 in
set_option maxRecDepth 100000 in
theorem k_areDeepH (l : Launch) (dC : Nat → ClassId) (dI : Nat → Nat → Nat) (cI cB cR cO : ClassId) (zk : Nat → Nat) (hfl : l.stackTraces = false) (xo al b1 : Nat) (x1 x2 x3 x4 x5 x7 : Value) (mc : Int32) (p0 p1 p2 p3 : Int32) (ou : Nat) (sz : Nat)  : Met l yL_areDeep wsL_areDeep ({ frames := 8, cells := 1, slots := 6, locals := 137 }) (va_Pc [.ref xo, .int p0, .int p1, .int p2, .int p3, .ref ou] (zPre (dC, dI) (zT cI cB cR cO) zk [] [(xo, .inr (6, [.ref al, x1, x2, x3, x4, x5, .ref b1, x7])), (al, .inr (4, [.int mc, .ref (zk 0), .int 0]))] sz)) (va_Qi (fun r (_ : Unit) => r = 1) (fun _ t => zEnd (dC, dI) (zT cI cB cR cO) (va_A [(xo, .inr (6, [.ref al, x1, x2, x3, x4, x5, .ref b1, x7])), (al, .inr (4, [.int mc, .ref (zk 0), .int 0]))] sz) [(xo, .inr (6, [.ref al, x1, x2, x3, x4, x5, .ref b1, x7])), (al, .inr (4, [.int mc, .ref (zk 0), .int 0]))] sz 0 t) (va_A [(xo, .inr (6, [.ref al, x1, x2, x3, x4, x5, .ref b1, x7])), (al, .inr (4, [.int mc, .ref (zk 0), .int 0]))] sz)) 1 6 (va_A [(xo, .inr (6, [.ref al, x1, x2, x3, x4, x5, .ref b1, x7])), (al, .inr (4, [.int mc, .ref (zk 0), .int 0]))] sz) := by
  refine zofWHt (cc := cL_areDeep) (maxL := 7) (ret := (some .int)) (by decide) rfl ?_
  intro p e s mY args below meth c s₁ B hml htab hv
  obtain ⟨rfl, hsz, hP, hK, hD0, hZ⟩ := hv
  have hx := B.exec
  have hb := B.bytes
  have hr := B.returns
  have hts := atoms_spec (ws := wsL_areDeep) B.pre
  have hown : s.vm.findClass RL = some mY.cls := findClass_of_methodNamed B.named
  have hlocks := B.notSynchronized
  subst hsz
  have hD := hD0.self (sz := s.heap.size)
  generalize hAe : va_A [(xo, .inr (6, [.ref al, x1, x2, x3, x4, x5, .ref b1, x7])), (al, .inr (4, [.int mc, .ref (zk 0), .int 0]))] s.heap.size = A at hD hZ ⊢
  have hA : ∀ q : Nat, s.heap.size ≤ q → A q := fun q h => by rw [← hAe]; exact Or.inr h
  have hS : va_S A s.heap s.heap [] := va_S.rf
  have hz : s.heap.size + 0 ≤ s.heap.size := Nat.le_refl _
  have hl := lv_entry ([.ref xo, .int p0, .int p1, .int p2, .int p3, .ref ou]) (n := 7) (Nat.le_of_ble_eq_true rfl)
  rw [lg_entry_eq]
  generalize (lg_sl ([.ref xo, .int p0, .int p1, .int p2, .int p3, .ref ou]) ++ List.replicate (7 - (lg_sl ([.ref xo, .int p0, .int p1, .int p2, .int p3, .ref ou])).length) Slot.unset).toArray = ls at hl ⊢
  have hl : lv_has ls 7 [(0, .ref xo), (1, .int p0), (2, .int p1), (3, .int p2), (4, .int p3), (5, .ref ou)] := hl
  have hP : va_P (dC, dI) vwCl [(xo, .inr (6, [.ref al, x1, x2, x3, x4, x5, .ref b1, x7])), (al, .inr (4, [.int mc, .ref (zk 0), .int 0]))] s.heap := hP
  have hD : va_D A [(xo, .inr (6, [.ref al, x1, x2, x3, x4, x5, .ref b1, x7])), (al, .inr (4, [.int mc, .ref (zk 0), .int 0]))] := hD
  refine lv_aload hx hb dL_areDeep_0 (lv_at hl 5 rfl) ?_
  refine lv_aload_n hx hb dL_areDeep_2 rfl (lv_at hl 0 rfl) ?_
  refine lv_iload_n hx hb dL_areDeep_3 rfl (lv_at hl 1 rfl) ?_
  refine lv_iload_n hx hb dL_areDeep_4 rfl (lv_at hl 2 rfl) ?_
  refine lv_iload_n hx hb dL_areDeep_5 rfl (lv_at hl 3 rfl) ?_
  refine lv_iload hx hb dL_areDeep_6 (lv_at hl 4 rfl) ?_
  have hPc := hP.sub (ws' := [(xo, .inr (6, [.ref al, x1, x2, x3, x4, x5, .ref b1, x7])), (al, .inr (4, [.int mc, .ref (zk 0), .int 0]))]) [0, 1] rfl
  have hDc := hD.sub (ws' := [(xo, .inr (6, [.ref al, x1, x2, x3, x4, x5, .ref b1, x7])), (al, .inr (4, [.int mc, .ref (zk 0), .int 0]))]) [0, 1] (by decide) rfl
  have hFc := va_free (wc := [(xo, .inr (6, [.ref al, x1, x2, x3, x4, x5, .ref b1, x7])), (al, .inr (4, [.int mc, .ref (zk 0), .int 0]))]) hD hS hA [0, 1] rfl
  have hDv := hDc.self (sz := s.heap.size)
  have hpre := zpre (xs' := []) (av := [.ref xo, .int p0, .int p1, .int p2, .int p3]) hPc hK (hDc.weaken (fun _ _ _ h => h)) hZ hS hFc (fun r hr => by cases hr)
  refine vx_calli (vx_runV (As := [.int p0, .int p1, .int p2, .int p3]) (rest := [.ref ou]) ⟨hx, hb, hml, hown, hts⟩ (k_areDeepX l dC dI cI cB cR cO zk hfl xo al b1 x1 x2 x3 x4 x5 x7 mc p0 p1 p2 p3 s.heap.size ) (cwV 4 hts gL_areDeep_X1_areDeep rfl rfl rfl (by decide +kernel) ⟨(Nat.le_of_ble_eq_true rfl), (Nat.le_of_ble_eq_true rfl)⟩) ⟨zblind, (zrecv_6 hK hPc (q0 := 0) rfl), hpre⟩ rfl rfl hl.1 rfl (lv_room (Nat.le_of_ble_eq_true rfl)) dL_areDeep_8 ⟨(Nat.le_of_ble_eq_true rfl), (Nat.le_of_ble_eq_true rfl)⟩) hS (fun q _ h => hFc q h) hFc (fun q _ h => hFc q h) (fun E9 ce q9 u t H1 locs ht hvm hu hB hz1 hk1 hS hcell hcv hcl => ?_) (fun _ _ _ _ _ _ _ hw9 _ _ _ _ => hw9.elim)
  obtain ⟨hE9, hP1, hK1, hD1, hz2⟩ := hB
  subst hE9
  rw [ht] at hP1 hz2
  have hPD9 := va_join (wr := []) (w1 := [(xo, .inr (6, [.ref al, x1, x2, x3, x4, x5, .ref b1, x7])), (al, .inr (4, [.int mc, .ref (zk 0), .int 0]))]) hP hD [0, 1] [] rfl rfl (by decide) (by decide) hk1 hFc hP1 hD1
  clear hPc hDc hFc hDv hpre hP hD hP1 hK1 hD1
  obtain ⟨hP, hD⟩ := hPD9
  replace hz : s.heap.size + 0 ≤ H1.size := by omega
  clear hz2
  replace hP : va_P (dC, dI) vwCl [(xo, .inr (6, [.ref al, x1, x2, x3, x4, x5, .ref b1, x7])), (al, .inr (4, [.int mc, .ref (zk 0), .int 0]))] H1 := hP
  replace hD : va_D A [(xo, .inr (6, [.ref al, x1, x2, x3, x4, x5, .ref b1, x7])), (al, .inr (4, [.int mc, .ref (zk 0), .int 0]))] := hD
  refine vx_catch hown [] ⟨0, 22, 25, 31⟩ [⟨0, 22, 29, 19⟩] htab (fun z hz9 => absurd hz9 List.not_mem_nil) (by decide) (by decide) (hts (.classLink RL 31 "java/lang/IndexOutOfBoundsException") (List.mem_cons_of_mem _ zw_884)) (zce0 hZ) hcell hcv hcl ?_
  refine W.eq (g2 := F0 mY 25 ls [.ref q9]) rfl ?_
  refine lv_astore (lv' := [(6, .ref q9), (0, .ref xo), (1, .int p0), (2, .int p1), (3, .int p2), (4, .int p3), (5, .ref ou)]) hx hb dL_areDeep_25 hl (by decide) rfl (fun ls hl => ?_)
  refine lv_iconst (v := 1) hx hb dL_areDeep_27 (by decide) ?_
  have hP9 := hP.sub (ws' := [(xo, .inr (6, [.ref al, x1, x2, x3, x4, x5, .ref b1, x7])), (al, .inr (4, [.int mc, .ref (zk 0), .int 0]))]) [0, 1] rfl
  have hD9 := hD.sub (ws' := [(xo, .inr (6, [.ref al, x1, x2, x3, x4, x5, .ref b1, x7])), (al, .inr (4, [.int mc, .ref (zk 0), .int 0]))]) [0, 1] (by decide) rfl
  exact W.iret (v := 1) hx hb hr (fun t ht hW => ⟨⟨_, (), rfl, rfl, ⟨by rw [ht]; exact hP9, va_K.moved hW.alike hK, hD9, by rw [ht]; exact hz⟩⟩, hS.F ht⟩) hS.2.2 dL_areDeep_28

set_option maxHeartbeats 4000000 in
set_option maxRecDepth 100000 in
theorem k_hashH (l : Launch) (dC : Nat → ClassId) (dI : Nat → Nat → Nat) (cI cB cR cO : ClassId) (zk : Nat → Nat) (hfl : l.stackTraces = false) (xo al b1 : Nat) (x1 x2 x3 x4 x5 x7 : Value) (mc : Int32) (p0 : Int32) (ou : Nat) (sz : Nat)  : Met l yL_hash wsL_hash ({ frames := 8, cells := 1, slots := 6, locals := 132 }) (va_Pc [.ref xo, .int p0, .ref ou] (zPre (dC, dI) (zT cI cB cR cO) zk [] [(xo, .inr (6, [.ref al, x1, x2, x3, x4, x5, .ref b1, x7])), (al, .inr (4, [.int mc, .ref (zk 0), .int 0]))] sz)) (va_Qi (fun r (_ : Unit) => r = 1) (fun _ t => zEnd (dC, dI) (zT cI cB cR cO) (va_A [(xo, .inr (6, [.ref al, x1, x2, x3, x4, x5, .ref b1, x7])), (al, .inr (4, [.int mc, .ref (zk 0), .int 0]))] sz) [(xo, .inr (6, [.ref al, x1, x2, x3, x4, x5, .ref b1, x7])), (al, .inr (4, [.int mc, .ref (zk 0), .int 0]))] sz 0 t) (va_A [(xo, .inr (6, [.ref al, x1, x2, x3, x4, x5, .ref b1, x7])), (al, .inr (4, [.int mc, .ref (zk 0), .int 0]))] sz)) 1 6 (va_A [(xo, .inr (6, [.ref al, x1, x2, x3, x4, x5, .ref b1, x7])), (al, .inr (4, [.int mc, .ref (zk 0), .int 0]))] sz) := by
  refine zofWHt (cc := cL_hash) (maxL := 4) (ret := (some .int)) (by decide) rfl ?_
  intro p e s mY args below meth c s₁ B hml htab hv
  obtain ⟨rfl, hsz, hP, hK, hD0, hZ⟩ := hv
  have hx := B.exec
  have hb := B.bytes
  have hr := B.returns
  have hts := atoms_spec (ws := wsL_hash) B.pre
  have hown : s.vm.findClass RL = some mY.cls := findClass_of_methodNamed B.named
  have hlocks := B.notSynchronized
  subst hsz
  have hD := hD0.self (sz := s.heap.size)
  generalize hAe : va_A [(xo, .inr (6, [.ref al, x1, x2, x3, x4, x5, .ref b1, x7])), (al, .inr (4, [.int mc, .ref (zk 0), .int 0]))] s.heap.size = A at hD hZ ⊢
  have hA : ∀ q : Nat, s.heap.size ≤ q → A q := fun q h => by rw [← hAe]; exact Or.inr h
  have hS : va_S A s.heap s.heap [] := va_S.rf
  have hz : s.heap.size + 0 ≤ s.heap.size := Nat.le_refl _
  have hl := lv_entry ([.ref xo, .int p0, .ref ou]) (n := 4) (Nat.le_of_ble_eq_true rfl)
  rw [lg_entry_eq]
  generalize (lg_sl ([.ref xo, .int p0, .ref ou]) ++ List.replicate (4 - (lg_sl ([.ref xo, .int p0, .ref ou])).length) Slot.unset).toArray = ls at hl ⊢
  have hl : lv_has ls 4 [(0, .ref xo), (1, .int p0), (2, .ref ou)] := hl
  have hP : va_P (dC, dI) vwCl [(xo, .inr (6, [.ref al, x1, x2, x3, x4, x5, .ref b1, x7])), (al, .inr (4, [.int mc, .ref (zk 0), .int 0]))] s.heap := hP
  have hD : va_D A [(xo, .inr (6, [.ref al, x1, x2, x3, x4, x5, .ref b1, x7])), (al, .inr (4, [.int mc, .ref (zk 0), .int 0]))] := hD
  refine lv_aload_n hx hb dL_hash_0 rfl (lv_at hl 2 rfl) ?_
  refine lv_aload_n hx hb dL_hash_1 rfl (lv_at hl 0 rfl) ?_
  refine lv_iload_n hx hb dL_hash_2 rfl (lv_at hl 1 rfl) ?_
  have hPc := hP.sub (ws' := [(xo, .inr (6, [.ref al, x1, x2, x3, x4, x5, .ref b1, x7])), (al, .inr (4, [.int mc, .ref (zk 0), .int 0]))]) [0, 1] rfl
  have hDc := hD.sub (ws' := [(xo, .inr (6, [.ref al, x1, x2, x3, x4, x5, .ref b1, x7])), (al, .inr (4, [.int mc, .ref (zk 0), .int 0]))]) [0, 1] (by decide) rfl
  have hFc := va_free (wc := [(xo, .inr (6, [.ref al, x1, x2, x3, x4, x5, .ref b1, x7])), (al, .inr (4, [.int mc, .ref (zk 0), .int 0]))]) hD hS hA [0, 1] rfl
  have hDv := hDc.self (sz := s.heap.size)
  have hpre := zpre (xs' := []) (av := [.ref xo, .int p0]) hPc hK (hDc.weaken (fun _ _ _ h => h)) hZ hS hFc (fun r hr => by cases hr)
  refine vx_calli (vx_runV (As := [.int p0]) (rest := [.ref ou]) ⟨hx, hb, hml, hown, hts⟩ (k_hashX l dC dI cI cB cR cO zk hfl xo al b1 x1 x2 x3 x4 x5 x7 mc p0 s.heap.size ) (cwV 1 hts gL_hash_X1_hash rfl rfl rfl (by decide +kernel) ⟨(Nat.le_of_ble_eq_true rfl), (Nat.le_of_ble_eq_true rfl)⟩) ⟨zblind, (zrecv_6 hK hPc (q0 := 0) rfl), hpre⟩ rfl rfl hl.1 rfl (lv_room (Nat.le_of_ble_eq_true rfl)) dL_hash_3 ⟨(Nat.le_of_ble_eq_true rfl), (Nat.le_of_ble_eq_true rfl)⟩) hS (fun q _ h => hFc q h) hFc (fun q _ h => hFc q h) (fun E9 ce q9 u t H1 locs ht hvm hu hB hz1 hk1 hS hcell hcv hcl => ?_) (fun _ _ _ _ _ _ _ hw9 _ _ _ _ => hw9.elim)
  obtain ⟨hE9, hP1, hK1, hD1, hz2⟩ := hB
  subst hE9
  rw [ht] at hP1 hz2
  have hPD9 := va_join (wr := []) (w1 := [(xo, .inr (6, [.ref al, x1, x2, x3, x4, x5, .ref b1, x7])), (al, .inr (4, [.int mc, .ref (zk 0), .int 0]))]) hP hD [0, 1] [] rfl rfl (by decide) (by decide) hk1 hFc hP1 hD1
  clear hPc hDc hFc hDv hpre hP hD hP1 hK1 hD1
  obtain ⟨hP, hD⟩ := hPD9
  replace hz : s.heap.size + 0 ≤ H1.size := by omega
  clear hz2
  replace hP : va_P (dC, dI) vwCl [(xo, .inr (6, [.ref al, x1, x2, x3, x4, x5, .ref b1, x7])), (al, .inr (4, [.int mc, .ref (zk 0), .int 0]))] H1 := hP
  replace hD : va_D A [(xo, .inr (6, [.ref al, x1, x2, x3, x4, x5, .ref b1, x7])), (al, .inr (4, [.int mc, .ref (zk 0), .int 0]))] := hD
  refine vx_catch hown [] ⟨0, 10, 13, 31⟩ [] htab (fun z hz9 => absurd hz9 List.not_mem_nil) (by decide) (by decide) (hts (.classLink RL 31 "java/lang/IndexOutOfBoundsException") (List.mem_cons_of_mem _ zw_884)) (zce0 hZ) hcell hcv hcl ?_
  refine W.eq (g2 := F0 mY 13 ls [.ref q9]) rfl ?_
  refine lv_astore_n (lv' := [(3, .ref q9), (0, .ref xo), (1, .int p0), (2, .ref ou)]) hx hb dL_hash_13 rfl hl (by decide) rfl (fun ls hl => ?_)
  refine lv_iconst (v := 1) hx hb dL_hash_14 (by decide) ?_
  have hP9 := hP.sub (ws' := [(xo, .inr (6, [.ref al, x1, x2, x3, x4, x5, .ref b1, x7])), (al, .inr (4, [.int mc, .ref (zk 0), .int 0]))]) [0, 1] rfl
  have hD9 := hD.sub (ws' := [(xo, .inr (6, [.ref al, x1, x2, x3, x4, x5, .ref b1, x7])), (al, .inr (4, [.int mc, .ref (zk 0), .int 0]))]) [0, 1] (by decide) rfl
  exact W.iret (v := 1) hx hb hr (fun t ht hW => ⟨⟨_, (), rfl, rfl, ⟨by rw [ht]; exact hP9, va_K.moved hW.alike hK, hD9, by rw [ht]; exact hz⟩⟩, hS.F ht⟩) hS.2.2 dL_hash_15

set_option maxHeartbeats 4000000 in
set_option maxRecDepth 100000 in
theorem k_flatHashH (l : Launch) (dC : Nat → ClassId) (dI : Nat → Nat → Nat) (cI cB cR cO : ClassId) (zk : Nat → Nat) (hfl : l.stackTraces = false) (xo al b1 : Nat) (x1 x2 x3 x4 x5 x7 : Value) (mc : Int32) (p0 : Int32) (ou : Nat) (sz : Nat)  : Met l yL_flatHash wsL_flatHash ({ frames := 8, cells := 1, slots := 6, locals := 134 }) (va_Pc [.ref xo, .int p0, .ref ou] (zPre (dC, dI) (zT cI cB cR cO) zk [] [(xo, .inr (6, [.ref al, x1, x2, x3, x4, x5, .ref b1, x7])), (al, .inr (4, [.int mc, .ref (zk 0), .int 0]))] sz)) (va_Qi (fun r (_ : Unit) => r = 1) (fun _ t => zEnd (dC, dI) (zT cI cB cR cO) (va_A [(xo, .inr (6, [.ref al, x1, x2, x3, x4, x5, .ref b1, x7])), (al, .inr (4, [.int mc, .ref (zk 0), .int 0]))] sz) [(xo, .inr (6, [.ref al, x1, x2, x3, x4, x5, .ref b1, x7])), (al, .inr (4, [.int mc, .ref (zk 0), .int 0]))] sz 0 t) (va_A [(xo, .inr (6, [.ref al, x1, x2, x3, x4, x5, .ref b1, x7])), (al, .inr (4, [.int mc, .ref (zk 0), .int 0]))] sz)) 1 6 (va_A [(xo, .inr (6, [.ref al, x1, x2, x3, x4, x5, .ref b1, x7])), (al, .inr (4, [.int mc, .ref (zk 0), .int 0]))] sz) := by
  refine zofWHt (cc := cL_flatHash) (maxL := 4) (ret := (some .int)) (by decide) rfl ?_
  intro p e s mY args below meth c s₁ B hml htab hv
  obtain ⟨rfl, hsz, hP, hK, hD0, hZ⟩ := hv
  have hx := B.exec
  have hb := B.bytes
  have hr := B.returns
  have hts := atoms_spec (ws := wsL_flatHash) B.pre
  have hown : s.vm.findClass RL = some mY.cls := findClass_of_methodNamed B.named
  have hlocks := B.notSynchronized
  subst hsz
  have hD := hD0.self (sz := s.heap.size)
  generalize hAe : va_A [(xo, .inr (6, [.ref al, x1, x2, x3, x4, x5, .ref b1, x7])), (al, .inr (4, [.int mc, .ref (zk 0), .int 0]))] s.heap.size = A at hD hZ ⊢
  have hA : ∀ q : Nat, s.heap.size ≤ q → A q := fun q h => by rw [← hAe]; exact Or.inr h
  have hS : va_S A s.heap s.heap [] := va_S.rf
  have hz : s.heap.size + 0 ≤ s.heap.size := Nat.le_refl _
  have hl := lv_entry ([.ref xo, .int p0, .ref ou]) (n := 4) (Nat.le_of_ble_eq_true rfl)
  rw [lg_entry_eq]
  generalize (lg_sl ([.ref xo, .int p0, .ref ou]) ++ List.replicate (4 - (lg_sl ([.ref xo, .int p0, .ref ou])).length) Slot.unset).toArray = ls at hl ⊢
  have hl : lv_has ls 4 [(0, .ref xo), (1, .int p0), (2, .ref ou)] := hl
  have hP : va_P (dC, dI) vwCl [(xo, .inr (6, [.ref al, x1, x2, x3, x4, x5, .ref b1, x7])), (al, .inr (4, [.int mc, .ref (zk 0), .int 0]))] s.heap := hP
  have hD : va_D A [(xo, .inr (6, [.ref al, x1, x2, x3, x4, x5, .ref b1, x7])), (al, .inr (4, [.int mc, .ref (zk 0), .int 0]))] := hD
  refine lv_aload_n hx hb dL_flatHash_0 rfl (lv_at hl 2 rfl) ?_
  refine lv_aload_n hx hb dL_flatHash_1 rfl (lv_at hl 0 rfl) ?_
  refine lv_iload_n hx hb dL_flatHash_2 rfl (lv_at hl 1 rfl) ?_
  have hPc := hP.sub (ws' := [(xo, .inr (6, [.ref al, x1, x2, x3, x4, x5, .ref b1, x7])), (al, .inr (4, [.int mc, .ref (zk 0), .int 0]))]) [0, 1] rfl
  have hDc := hD.sub (ws' := [(xo, .inr (6, [.ref al, x1, x2, x3, x4, x5, .ref b1, x7])), (al, .inr (4, [.int mc, .ref (zk 0), .int 0]))]) [0, 1] (by decide) rfl
  have hFc := va_free (wc := [(xo, .inr (6, [.ref al, x1, x2, x3, x4, x5, .ref b1, x7])), (al, .inr (4, [.int mc, .ref (zk 0), .int 0]))]) hD hS hA [0, 1] rfl
  have hDv := hDc.self (sz := s.heap.size)
  have hpre := zpre (xs' := []) (av := [.ref xo, .int p0]) hPc hK (hDc.weaken (fun _ _ _ h => h)) hZ hS hFc (fun r hr => by cases hr)
  refine vx_calli (vx_runV (As := [.int p0]) (rest := [.ref ou]) ⟨hx, hb, hml, hown, hts⟩ (k_flatHashX l dC dI cI cB cR cO zk hfl xo al b1 x1 x2 x3 x4 x5 x7 mc p0 s.heap.size ) (cwV 1 hts gL_flatHash_X1_flatHash rfl rfl rfl (by decide +kernel) ⟨(Nat.le_of_ble_eq_true rfl), (Nat.le_of_ble_eq_true rfl)⟩) ⟨zblind, (zrecv_6 hK hPc (q0 := 0) rfl), hpre⟩ rfl rfl hl.1 rfl (lv_room (Nat.le_of_ble_eq_true rfl)) dL_flatHash_3 ⟨(Nat.le_of_ble_eq_true rfl), (Nat.le_of_ble_eq_true rfl)⟩) hS (fun q _ h => hFc q h) hFc (fun q _ h => hFc q h) (fun E9 ce q9 u t H1 locs ht hvm hu hB hz1 hk1 hS hcell hcv hcl => ?_) (fun _ _ _ _ _ _ _ hw9 _ _ _ _ => hw9.elim)
  obtain ⟨hE9, hP1, hK1, hD1, hz2⟩ := hB
  subst hE9
  rw [ht] at hP1 hz2
  have hPD9 := va_join (wr := []) (w1 := [(xo, .inr (6, [.ref al, x1, x2, x3, x4, x5, .ref b1, x7])), (al, .inr (4, [.int mc, .ref (zk 0), .int 0]))]) hP hD [0, 1] [] rfl rfl (by decide) (by decide) hk1 hFc hP1 hD1
  clear hPc hDc hFc hDv hpre hP hD hP1 hK1 hD1
  obtain ⟨hP, hD⟩ := hPD9
  replace hz : s.heap.size + 0 ≤ H1.size := by omega
  clear hz2
  replace hP : va_P (dC, dI) vwCl [(xo, .inr (6, [.ref al, x1, x2, x3, x4, x5, .ref b1, x7])), (al, .inr (4, [.int mc, .ref (zk 0), .int 0]))] H1 := hP
  replace hD : va_D A [(xo, .inr (6, [.ref al, x1, x2, x3, x4, x5, .ref b1, x7])), (al, .inr (4, [.int mc, .ref (zk 0), .int 0]))] := hD
  refine vx_catch hown [] ⟨0, 10, 13, 31⟩ [⟨0, 10, 16, 21⟩] htab (fun z hz9 => absurd hz9 List.not_mem_nil) (by decide) (by decide) (hts (.classLink RL 31 "java/lang/IndexOutOfBoundsException") (List.mem_cons_of_mem _ zw_884)) (zce0 hZ) hcell hcv hcl ?_
  refine W.eq (g2 := F0 mY 13 ls [.ref q9]) rfl ?_
  refine lv_astore_n (lv' := [(3, .ref q9), (0, .ref xo), (1, .int p0), (2, .ref ou)]) hx hb dL_flatHash_13 rfl hl (by decide) rfl (fun ls hl => ?_)
  refine lv_iconst (v := 1) hx hb dL_flatHash_14 (by decide) ?_
  have hP9 := hP.sub (ws' := [(xo, .inr (6, [.ref al, x1, x2, x3, x4, x5, .ref b1, x7])), (al, .inr (4, [.int mc, .ref (zk 0), .int 0]))]) [0, 1] rfl
  have hD9 := hD.sub (ws' := [(xo, .inr (6, [.ref al, x1, x2, x3, x4, x5, .ref b1, x7])), (al, .inr (4, [.int mc, .ref (zk 0), .int 0]))]) [0, 1] (by decide) rfl
  exact W.iret (v := 1) hx hb hr (fun t ht hW => ⟨⟨_, (), rfl, rfl, ⟨by rw [ht]; exact hP9, va_K.moved hW.alike hK, hD9, by rw [ht]; exact hz⟩⟩, hS.F ht⟩) hS.2.2 dL_flatHash_15

set_option maxHeartbeats 4000000 in
set_option maxRecDepth 100000 in
theorem k_textH (l : Launch) (dC : Nat → ClassId) (dI : Nat → Nat → Nat) (cI cB cR cO : ClassId) (zk : Nat → Nat) (hfl : l.stackTraces = false) (xo al b1 : Nat) (x1 x2 x3 x4 x5 x7 : Value) (mc : Int32) (p0 : Int32) (ou : Nat) (sz : Nat)  : Met l yL_text wsL_text ({ frames := 8, cells := 1, slots := 6, locals := 132 }) (va_Pc [.ref xo, .int p0, .ref ou] (zPre (dC, dI) (zT cI cB cR cO) zk [] [(xo, .inr (6, [.ref al, x1, x2, x3, x4, x5, .ref b1, x7])), (al, .inr (4, [.int mc, .ref (zk 0), .int 0]))] sz)) (va_Qi (fun r (_ : Unit) => r = 1) (fun _ t => zEnd (dC, dI) (zT cI cB cR cO) (va_A [(xo, .inr (6, [.ref al, x1, x2, x3, x4, x5, .ref b1, x7])), (al, .inr (4, [.int mc, .ref (zk 0), .int 0]))] sz) [(xo, .inr (6, [.ref al, x1, x2, x3, x4, x5, .ref b1, x7])), (al, .inr (4, [.int mc, .ref (zk 0), .int 0]))] sz 0 t) (va_A [(xo, .inr (6, [.ref al, x1, x2, x3, x4, x5, .ref b1, x7])), (al, .inr (4, [.int mc, .ref (zk 0), .int 0]))] sz)) 1 6 (va_A [(xo, .inr (6, [.ref al, x1, x2, x3, x4, x5, .ref b1, x7])), (al, .inr (4, [.int mc, .ref (zk 0), .int 0]))] sz) := by
  refine zofWHt (cc := cL_text) (maxL := 4) (ret := (some .int)) (by decide) rfl ?_
  intro p e s mY args below meth c s₁ B hml htab hv
  obtain ⟨rfl, hsz, hP, hK, hD0, hZ⟩ := hv
  have hx := B.exec
  have hb := B.bytes
  have hr := B.returns
  have hts := atoms_spec (ws := wsL_text) B.pre
  have hown : s.vm.findClass RL = some mY.cls := findClass_of_methodNamed B.named
  have hlocks := B.notSynchronized
  subst hsz
  have hD := hD0.self (sz := s.heap.size)
  generalize hAe : va_A [(xo, .inr (6, [.ref al, x1, x2, x3, x4, x5, .ref b1, x7])), (al, .inr (4, [.int mc, .ref (zk 0), .int 0]))] s.heap.size = A at hD hZ ⊢
  have hA : ∀ q : Nat, s.heap.size ≤ q → A q := fun q h => by rw [← hAe]; exact Or.inr h
  have hS : va_S A s.heap s.heap [] := va_S.rf
  have hz : s.heap.size + 0 ≤ s.heap.size := Nat.le_refl _
  have hl := lv_entry ([.ref xo, .int p0, .ref ou]) (n := 4) (Nat.le_of_ble_eq_true rfl)
  rw [lg_entry_eq]
  generalize (lg_sl ([.ref xo, .int p0, .ref ou]) ++ List.replicate (4 - (lg_sl ([.ref xo, .int p0, .ref ou])).length) Slot.unset).toArray = ls at hl ⊢
  have hl : lv_has ls 4 [(0, .ref xo), (1, .int p0), (2, .ref ou)] := hl
  have hP : va_P (dC, dI) vwCl [(xo, .inr (6, [.ref al, x1, x2, x3, x4, x5, .ref b1, x7])), (al, .inr (4, [.int mc, .ref (zk 0), .int 0]))] s.heap := hP
  have hD : va_D A [(xo, .inr (6, [.ref al, x1, x2, x3, x4, x5, .ref b1, x7])), (al, .inr (4, [.int mc, .ref (zk 0), .int 0]))] := hD
  refine lv_aload_n hx hb dL_text_0 rfl (lv_at hl 2 rfl) ?_
  refine lv_aload_n hx hb dL_text_1 rfl (lv_at hl 0 rfl) ?_
  refine lv_iload_n hx hb dL_text_2 rfl (lv_at hl 1 rfl) ?_
  have hPc := hP.sub (ws' := [(xo, .inr (6, [.ref al, x1, x2, x3, x4, x5, .ref b1, x7])), (al, .inr (4, [.int mc, .ref (zk 0), .int 0]))]) [0, 1] rfl
  have hDc := hD.sub (ws' := [(xo, .inr (6, [.ref al, x1, x2, x3, x4, x5, .ref b1, x7])), (al, .inr (4, [.int mc, .ref (zk 0), .int 0]))]) [0, 1] (by decide) rfl
  have hFc := va_free (wc := [(xo, .inr (6, [.ref al, x1, x2, x3, x4, x5, .ref b1, x7])), (al, .inr (4, [.int mc, .ref (zk 0), .int 0]))]) hD hS hA [0, 1] rfl
  have hDv := hDc.self (sz := s.heap.size)
  have hpre := zpre (xs' := []) (av := [.ref xo, .int p0]) hPc hK (hDc.weaken (fun _ _ _ h => h)) hZ hS hFc (fun r hr => by cases hr)
  refine vx_callq (vx_runV (As := [.int p0]) (rest := [.ref ou]) ⟨hx, hb, hml, hown, hts⟩ (k_textX l dC dI cI cB cR cO zk hfl xo al b1 x1 x2 x3 x4 x5 x7 mc p0 s.heap.size ) (cwV 1 hts gL_text_X1_text rfl rfl rfl (by decide +kernel) ⟨(Nat.le_of_ble_eq_true rfl), (Nat.le_of_ble_eq_true rfl)⟩) ⟨zblind, (zrecv_6 hK hPc (q0 := 0) rfl), hpre⟩ rfl rfl hl.1 rfl (lv_room (Nat.le_of_ble_eq_true rfl)) dL_text_3 ⟨(Nat.le_of_ble_eq_true rfl), (Nat.le_of_ble_eq_true rfl)⟩) hS (fun q _ h => hFc q h) hFc (fun q _ h => hFc q h) (fun E9 ce q9 u t H1 locs ht hvm hu hB hz1 hk1 hS hcell hcv hcl => ?_) (fun _ _ _ _ _ _ _ hw9 _ _ _ _ => hw9.elim)
  obtain ⟨hE9, hP1, hK1, hD1, hz2⟩ := hB
  subst hE9
  rw [ht] at hP1 hz2
  have hPD9 := va_join (wr := []) (w1 := [(xo, .inr (6, [.ref al, x1, x2, x3, x4, x5, .ref b1, x7])), (al, .inr (4, [.int mc, .ref (zk 0), .int 0]))]) hP hD [0, 1] [] rfl rfl (by decide) (by decide) hk1 hFc hP1 hD1
  clear hPc hDc hFc hDv hpre hP hD hP1 hK1 hD1
  obtain ⟨hP, hD⟩ := hPD9
  replace hz : s.heap.size + 0 ≤ H1.size := by omega
  clear hz2
  replace hP : va_P (dC, dI) vwCl [(xo, .inr (6, [.ref al, x1, x2, x3, x4, x5, .ref b1, x7])), (al, .inr (4, [.int mc, .ref (zk 0), .int 0]))] H1 := hP
  replace hD : va_D A [(xo, .inr (6, [.ref al, x1, x2, x3, x4, x5, .ref b1, x7])), (al, .inr (4, [.int mc, .ref (zk 0), .int 0]))] := hD
  refine vx_catch hown [] ⟨0, 9, 12, 31⟩ [] htab (fun z hz9 => absurd hz9 List.not_mem_nil) (by decide) (by decide) (hts (.classLink RL 31 "java/lang/IndexOutOfBoundsException") (List.mem_cons_of_mem _ zw_884)) (zce0 hZ) hcell hcv hcl ?_
  refine W.eq (g2 := F0 mY 12 ls [.ref q9]) rfl ?_
  refine lv_astore_n (lv' := [(3, .ref q9), (0, .ref xo), (1, .int p0), (2, .ref ou)]) hx hb dL_text_12 rfl hl (by decide) rfl (fun ls hl => ?_)
  refine lv_iconst (v := 1) hx hb dL_text_13 (by decide) ?_
  have hP9 := hP.sub (ws' := [(xo, .inr (6, [.ref al, x1, x2, x3, x4, x5, .ref b1, x7])), (al, .inr (4, [.int mc, .ref (zk 0), .int 0]))]) [0, 1] rfl
  have hD9 := hD.sub (ws' := [(xo, .inr (6, [.ref al, x1, x2, x3, x4, x5, .ref b1, x7])), (al, .inr (4, [.int mc, .ref (zk 0), .int 0]))]) [0, 1] (by decide) rfl
  exact W.iret (v := 1) hx hb hr (fun t ht hW => ⟨⟨_, (), rfl, rfl, ⟨by rw [ht]; exact hP9, va_K.moved hW.alike hK, hD9, by rw [ht]; exact hz⟩⟩, hS.F ht⟩) hS.2.2 dL_text_14

set_option maxHeartbeats 4000000 in
set_option maxRecDepth 100000 in
theorem k_differH (l : Launch) (dC : Nat → ClassId) (dI : Nat → Nat → Nat) (cI cB cR cO : ClassId) (zk : Nat → Nat) (hfl : l.stackTraces = false) (xo al b1 : Nat) (x1 x2 x3 x4 x5 x7 : Value) (mc : Int32) (p0 p1 : Int32) (ou : Nat) (sz : Nat)  : Met l yL_differ wsL_differ ({ frames := 8, cells := 1, slots := 6, locals := 135 }) (va_Pc [.ref xo, .int p0, .int p1, .ref ou] (zPre (dC, dI) (zT cI cB cR cO) zk [] [(xo, .inr (6, [.ref al, x1, x2, x3, x4, x5, .ref b1, x7])), (al, .inr (4, [.int mc, .ref (zk 0), .int 0]))] sz)) (va_Qi (fun r (_ : Unit) => r = 1) (fun _ t => zEnd (dC, dI) (zT cI cB cR cO) (va_A [(xo, .inr (6, [.ref al, x1, x2, x3, x4, x5, .ref b1, x7])), (al, .inr (4, [.int mc, .ref (zk 0), .int 0]))] sz) [(xo, .inr (6, [.ref al, x1, x2, x3, x4, x5, .ref b1, x7])), (al, .inr (4, [.int mc, .ref (zk 0), .int 0]))] sz 0 t) (va_A [(xo, .inr (6, [.ref al, x1, x2, x3, x4, x5, .ref b1, x7])), (al, .inr (4, [.int mc, .ref (zk 0), .int 0]))] sz)) 1 6 (va_A [(xo, .inr (6, [.ref al, x1, x2, x3, x4, x5, .ref b1, x7])), (al, .inr (4, [.int mc, .ref (zk 0), .int 0]))] sz) := by
  refine zofWHt (cc := cL_differ) (maxL := 5) (ret := (some .int)) (by decide) rfl ?_
  intro p e s mY args below meth c s₁ B hml htab hv
  obtain ⟨rfl, hsz, hP, hK, hD0, hZ⟩ := hv
  have hx := B.exec
  have hb := B.bytes
  have hr := B.returns
  have hts := atoms_spec (ws := wsL_differ) B.pre
  have hown : s.vm.findClass RL = some mY.cls := findClass_of_methodNamed B.named
  have hlocks := B.notSynchronized
  subst hsz
  have hD := hD0.self (sz := s.heap.size)
  generalize hAe : va_A [(xo, .inr (6, [.ref al, x1, x2, x3, x4, x5, .ref b1, x7])), (al, .inr (4, [.int mc, .ref (zk 0), .int 0]))] s.heap.size = A at hD hZ ⊢
  have hA : ∀ q : Nat, s.heap.size ≤ q → A q := fun q h => by rw [← hAe]; exact Or.inr h
  have hS : va_S A s.heap s.heap [] := va_S.rf
  have hz : s.heap.size + 0 ≤ s.heap.size := Nat.le_refl _
  have hl := lv_entry ([.ref xo, .int p0, .int p1, .ref ou]) (n := 5) (Nat.le_of_ble_eq_true rfl)
  rw [lg_entry_eq]
  generalize (lg_sl ([.ref xo, .int p0, .int p1, .ref ou]) ++ List.replicate (5 - (lg_sl ([.ref xo, .int p0, .int p1, .ref ou])).length) Slot.unset).toArray = ls at hl ⊢
  have hl : lv_has ls 5 [(0, .ref xo), (1, .int p0), (2, .int p1), (3, .ref ou)] := hl
  have hP : va_P (dC, dI) vwCl [(xo, .inr (6, [.ref al, x1, x2, x3, x4, x5, .ref b1, x7])), (al, .inr (4, [.int mc, .ref (zk 0), .int 0]))] s.heap := hP
  have hD : va_D A [(xo, .inr (6, [.ref al, x1, x2, x3, x4, x5, .ref b1, x7])), (al, .inr (4, [.int mc, .ref (zk 0), .int 0]))] := hD
  refine lv_aload_n hx hb dL_differ_0 rfl (lv_at hl 3 rfl) ?_
  refine lv_aload_n hx hb dL_differ_1 rfl (lv_at hl 0 rfl) ?_
  refine lv_iload_n hx hb dL_differ_2 rfl (lv_at hl 1 rfl) ?_
  refine lv_iload_n hx hb dL_differ_3 rfl (lv_at hl 2 rfl) ?_
  have hPc := hP.sub (ws' := [(xo, .inr (6, [.ref al, x1, x2, x3, x4, x5, .ref b1, x7])), (al, .inr (4, [.int mc, .ref (zk 0), .int 0]))]) [0, 1] rfl
  have hDc := hD.sub (ws' := [(xo, .inr (6, [.ref al, x1, x2, x3, x4, x5, .ref b1, x7])), (al, .inr (4, [.int mc, .ref (zk 0), .int 0]))]) [0, 1] (by decide) rfl
  have hFc := va_free (wc := [(xo, .inr (6, [.ref al, x1, x2, x3, x4, x5, .ref b1, x7])), (al, .inr (4, [.int mc, .ref (zk 0), .int 0]))]) hD hS hA [0, 1] rfl
  have hDv := hDc.self (sz := s.heap.size)
  have hpre := zpre (xs' := []) (av := [.ref xo, .int p0, .int p1]) hPc hK (hDc.weaken (fun _ _ _ h => h)) hZ hS hFc (fun r hr => by cases hr)
  refine vx_calli (vx_runV (As := [.int p0, .int p1]) (rest := [.ref ou]) ⟨hx, hb, hml, hown, hts⟩ (k_differX l dC dI cI cB cR cO zk hfl xo al b1 x1 x2 x3 x4 x5 x7 mc p0 p1 s.heap.size ) (cwV 2 hts gL_differ_X1_differ rfl rfl rfl (by decide +kernel) ⟨(Nat.le_of_ble_eq_true rfl), (Nat.le_of_ble_eq_true rfl)⟩) ⟨zblind, (zrecv_6 hK hPc (q0 := 0) rfl), hpre⟩ rfl rfl hl.1 rfl (lv_room (Nat.le_of_ble_eq_true rfl)) dL_differ_4 ⟨(Nat.le_of_ble_eq_true rfl), (Nat.le_of_ble_eq_true rfl)⟩) hS (fun q _ h => hFc q h) hFc (fun q _ h => hFc q h) (fun E9 ce q9 u t H1 locs ht hvm hu hB hz1 hk1 hS hcell hcv hcl => ?_) (fun _ _ _ _ _ _ _ hw9 _ _ _ _ => hw9.elim)
  obtain ⟨hE9, hP1, hK1, hD1, hz2⟩ := hB
  subst hE9
  rw [ht] at hP1 hz2
  have hPD9 := va_join (wr := []) (w1 := [(xo, .inr (6, [.ref al, x1, x2, x3, x4, x5, .ref b1, x7])), (al, .inr (4, [.int mc, .ref (zk 0), .int 0]))]) hP hD [0, 1] [] rfl rfl (by decide) (by decide) hk1 hFc hP1 hD1
  clear hPc hDc hFc hDv hpre hP hD hP1 hK1 hD1
  obtain ⟨hP, hD⟩ := hPD9
  replace hz : s.heap.size + 0 ≤ H1.size := by omega
  clear hz2
  replace hP : va_P (dC, dI) vwCl [(xo, .inr (6, [.ref al, x1, x2, x3, x4, x5, .ref b1, x7])), (al, .inr (4, [.int mc, .ref (zk 0), .int 0]))] H1 := hP
  replace hD : va_D A [(xo, .inr (6, [.ref al, x1, x2, x3, x4, x5, .ref b1, x7])), (al, .inr (4, [.int mc, .ref (zk 0), .int 0]))] := hD
  refine vx_catch hown [] ⟨0, 11, 14, 31⟩ [⟨0, 11, 18, 19⟩] htab (fun z hz9 => absurd hz9 List.not_mem_nil) (by decide) (by decide) (hts (.classLink RL 31 "java/lang/IndexOutOfBoundsException") (List.mem_cons_of_mem _ zw_884)) (zce0 hZ) hcell hcv hcl ?_
  refine W.eq (g2 := F0 mY 14 ls [.ref q9]) rfl ?_
  refine lv_astore (lv' := [(4, .ref q9), (0, .ref xo), (1, .int p0), (2, .int p1), (3, .ref ou)]) hx hb dL_differ_14 hl (by decide) rfl (fun ls hl => ?_)
  refine lv_iconst (v := 1) hx hb dL_differ_16 (by decide) ?_
  have hP9 := hP.sub (ws' := [(xo, .inr (6, [.ref al, x1, x2, x3, x4, x5, .ref b1, x7])), (al, .inr (4, [.int mc, .ref (zk 0), .int 0]))]) [0, 1] rfl
  have hD9 := hD.sub (ws' := [(xo, .inr (6, [.ref al, x1, x2, x3, x4, x5, .ref b1, x7])), (al, .inr (4, [.int mc, .ref (zk 0), .int 0]))]) [0, 1] (by decide) rfl
  exact W.iret (v := 1) hx hb hr (fun t ht hW => ⟨⟨_, (), rfl, rfl, ⟨by rw [ht]; exact hP9, va_K.moved hW.alike hK, hD9, by rw [ht]; exact hz⟩⟩, hS.F ht⟩) hS.2.2 dL_differ_17

set_option maxHeartbeats 4000000 in
set_option maxRecDepth 100000 in
theorem k_compareH (l : Launch) (dC : Nat → ClassId) (dI : Nat → Nat → Nat) (cI cB cR cO : ClassId) (zk : Nat → Nat) (hfl : l.stackTraces = false) (xo al b1 : Nat) (x1 x2 x3 x4 x5 x7 : Value) (mc : Int32) (p0 p1 : Int32) (ou : Nat) (sz : Nat)  : Met l yL_compare wsL_compare ({ frames := 8, cells := 1, slots := 6, locals := 137 }) (va_Pc [.ref xo, .int p0, .int p1, .ref ou] (zPre (dC, dI) (zT cI cB cR cO) zk [] [(xo, .inr (6, [.ref al, x1, x2, x3, x4, x5, .ref b1, x7])), (al, .inr (4, [.int mc, .ref (zk 0), .int 0]))] sz)) (va_Qi (fun r (_ : Unit) => r = 1) (fun _ t => zEnd (dC, dI) (zT cI cB cR cO) (va_A [(xo, .inr (6, [.ref al, x1, x2, x3, x4, x5, .ref b1, x7])), (al, .inr (4, [.int mc, .ref (zk 0), .int 0]))] sz) [(xo, .inr (6, [.ref al, x1, x2, x3, x4, x5, .ref b1, x7])), (al, .inr (4, [.int mc, .ref (zk 0), .int 0]))] sz 0 t) (va_A [(xo, .inr (6, [.ref al, x1, x2, x3, x4, x5, .ref b1, x7])), (al, .inr (4, [.int mc, .ref (zk 0), .int 0]))] sz)) 1 6 (va_A [(xo, .inr (6, [.ref al, x1, x2, x3, x4, x5, .ref b1, x7])), (al, .inr (4, [.int mc, .ref (zk 0), .int 0]))] sz) := by
  refine zofWHt (cc := cL_compare) (maxL := 5) (ret := (some .int)) (by decide) rfl ?_
  intro p e s mY args below meth c s₁ B hml htab hv
  obtain ⟨rfl, hsz, hP, hK, hD0, hZ⟩ := hv
  have hx := B.exec
  have hb := B.bytes
  have hr := B.returns
  have hts := atoms_spec (ws := wsL_compare) B.pre
  have hown : s.vm.findClass RL = some mY.cls := findClass_of_methodNamed B.named
  have hlocks := B.notSynchronized
  subst hsz
  have hD := hD0.self (sz := s.heap.size)
  generalize hAe : va_A [(xo, .inr (6, [.ref al, x1, x2, x3, x4, x5, .ref b1, x7])), (al, .inr (4, [.int mc, .ref (zk 0), .int 0]))] s.heap.size = A at hD hZ ⊢
  have hA : ∀ q : Nat, s.heap.size ≤ q → A q := fun q h => by rw [← hAe]; exact Or.inr h
  have hS : va_S A s.heap s.heap [] := va_S.rf
  have hz : s.heap.size + 0 ≤ s.heap.size := Nat.le_refl _
  have hl := lv_entry ([.ref xo, .int p0, .int p1, .ref ou]) (n := 5) (Nat.le_of_ble_eq_true rfl)
  rw [lg_entry_eq]
  generalize (lg_sl ([.ref xo, .int p0, .int p1, .ref ou]) ++ List.replicate (5 - (lg_sl ([.ref xo, .int p0, .int p1, .ref ou])).length) Slot.unset).toArray = ls at hl ⊢
  have hl : lv_has ls 5 [(0, .ref xo), (1, .int p0), (2, .int p1), (3, .ref ou)] := hl
  have hP : va_P (dC, dI) vwCl [(xo, .inr (6, [.ref al, x1, x2, x3, x4, x5, .ref b1, x7])), (al, .inr (4, [.int mc, .ref (zk 0), .int 0]))] s.heap := hP
  have hD : va_D A [(xo, .inr (6, [.ref al, x1, x2, x3, x4, x5, .ref b1, x7])), (al, .inr (4, [.int mc, .ref (zk 0), .int 0]))] := hD
  refine lv_aload_n hx hb dL_compare_0 rfl (lv_at hl 3 rfl) ?_
  refine lv_aload_n hx hb dL_compare_1 rfl (lv_at hl 0 rfl) ?_
  refine lv_iload_n hx hb dL_compare_2 rfl (lv_at hl 1 rfl) ?_
  refine lv_iload_n hx hb dL_compare_3 rfl (lv_at hl 2 rfl) ?_
  have hPc := hP.sub (ws' := [(xo, .inr (6, [.ref al, x1, x2, x3, x4, x5, .ref b1, x7])), (al, .inr (4, [.int mc, .ref (zk 0), .int 0]))]) [0, 1] rfl
  have hDc := hD.sub (ws' := [(xo, .inr (6, [.ref al, x1, x2, x3, x4, x5, .ref b1, x7])), (al, .inr (4, [.int mc, .ref (zk 0), .int 0]))]) [0, 1] (by decide) rfl
  have hFc := va_free (wc := [(xo, .inr (6, [.ref al, x1, x2, x3, x4, x5, .ref b1, x7])), (al, .inr (4, [.int mc, .ref (zk 0), .int 0]))]) hD hS hA [0, 1] rfl
  have hDv := hDc.self (sz := s.heap.size)
  have hpre := zpre (xs' := []) (av := [.ref xo, .int p0, .int p1]) hPc hK (hDc.weaken (fun _ _ _ h => h)) hZ hS hFc (fun r hr => by cases hr)
  refine vx_calli (vx_runV (As := [.int p0, .int p1]) (rest := [.ref ou]) ⟨hx, hb, hml, hown, hts⟩ (k_compareX l dC dI cI cB cR cO zk hfl xo al b1 x1 x2 x3 x4 x5 x7 mc p0 p1 s.heap.size ) (cwV 2 hts gL_compare_X1_compare rfl rfl rfl (by decide +kernel) ⟨(Nat.le_of_ble_eq_true rfl), (Nat.le_of_ble_eq_true rfl)⟩) ⟨zblind, (zrecv_6 hK hPc (q0 := 0) rfl), hpre⟩ rfl rfl hl.1 rfl (lv_room (Nat.le_of_ble_eq_true rfl)) dL_compare_4 ⟨(Nat.le_of_ble_eq_true rfl), (Nat.le_of_ble_eq_true rfl)⟩) hS (fun q _ h => hFc q h) hFc (fun q _ h => hFc q h) (fun E9 ce q9 u t H1 locs ht hvm hu hB hz1 hk1 hS hcell hcv hcl => ?_) (fun _ _ _ _ _ _ _ hw9 _ _ _ _ => hw9.elim)
  obtain ⟨hE9, hP1, hK1, hD1, hz2⟩ := hB
  subst hE9
  rw [ht] at hP1 hz2
  have hPD9 := va_join (wr := []) (w1 := [(xo, .inr (6, [.ref al, x1, x2, x3, x4, x5, .ref b1, x7])), (al, .inr (4, [.int mc, .ref (zk 0), .int 0]))]) hP hD [0, 1] [] rfl rfl (by decide) (by decide) hk1 hFc hP1 hD1
  clear hPc hDc hFc hDv hpre hP hD hP1 hK1 hD1
  obtain ⟨hP, hD⟩ := hPD9
  replace hz : s.heap.size + 0 ≤ H1.size := by omega
  clear hz2
  replace hP : va_P (dC, dI) vwCl [(xo, .inr (6, [.ref al, x1, x2, x3, x4, x5, .ref b1, x7])), (al, .inr (4, [.int mc, .ref (zk 0), .int 0]))] H1 := hP
  replace hD : va_D A [(xo, .inr (6, [.ref al, x1, x2, x3, x4, x5, .ref b1, x7])), (al, .inr (4, [.int mc, .ref (zk 0), .int 0]))] := hD
  refine vx_catch hown [] ⟨0, 11, 14, 31⟩ [⟨0, 11, 18, 19⟩] htab (fun z hz9 => absurd hz9 List.not_mem_nil) (by decide) (by decide) (hts (.classLink RL 31 "java/lang/IndexOutOfBoundsException") (List.mem_cons_of_mem _ zw_884)) (zce0 hZ) hcell hcv hcl ?_
  refine W.eq (g2 := F0 mY 14 ls [.ref q9]) rfl ?_
  refine lv_astore (lv' := [(4, .ref q9), (0, .ref xo), (1, .int p0), (2, .int p1), (3, .ref ou)]) hx hb dL_compare_14 hl (by decide) rfl (fun ls hl => ?_)
  refine lv_iconst (v := 1) hx hb dL_compare_16 (by decide) ?_
  have hP9 := hP.sub (ws' := [(xo, .inr (6, [.ref al, x1, x2, x3, x4, x5, .ref b1, x7])), (al, .inr (4, [.int mc, .ref (zk 0), .int 0]))]) [0, 1] rfl
  have hD9 := hD.sub (ws' := [(xo, .inr (6, [.ref al, x1, x2, x3, x4, x5, .ref b1, x7])), (al, .inr (4, [.int mc, .ref (zk 0), .int 0]))]) [0, 1] (by decide) rfl
  exact W.iret (v := 1) hx hb hr (fun t ht hW => ⟨⟨_, (), rfl, rfl, ⟨by rw [ht]; exact hP9, va_K.moved hW.alike hK, hD9, by rw [ht]; exact hz⟩⟩, hS.F ht⟩) hS.2.2 dL_compare_17
