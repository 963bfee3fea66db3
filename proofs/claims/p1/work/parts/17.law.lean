set_option maxHeartbeats 4000000 in
set_option maxRecDepth 100000 in
theorem k_oin (l : Launch) (dC : Nat → ClassId) (dI : Nat → Nat → Nat) (cI cB cR cO : ClassId) (zk : Nat → Nat) (ou : Nat) (sz : Nat)  : Met l yX2_init wsX2_init ({ frames := 1, cells := 0, slots := 0, locals := 60 }) (va_Pc [.ref ou] (zPre (dC, dI) (zT cI cB cR cO) zk [] [(ou, .inr (7, [.long 0, .null]))] sz)) (va_Qv (fun _ : Unit => True) (fun _ t => zEnd (dC, dI) (zT cI cB cR cO) (va_A [(ou, .inr (7, [.long 0, .null]))] sz) [(ou, .inr (7, [.long 0, .null]))] sz 0 t) (va_A [(ou, .inr (7, [.long 0, .null]))] sz)) 0 0 (va_A [(ou, .inr (7, [.long 0, .null]))] sz) := by
  refine Met.ofW (cc := cX2_init) (maxL := 1) (ret := none) (by decide) rfl ?_
  intro p e s mY args below meth c s₁ B hml hv
  obtain ⟨rfl, hsz, hP, hK, hD0, hZ⟩ := hv
  have hx := B.exec
  have hb := B.bytes
  have hr := B.returns
  have hts := atoms_spec (ws := wsX2_init) B.pre
  have hown : s.vm.findClass RX2 = some mY.cls := findClass_of_methodNamed B.named
  have hlocks := B.notSynchronized
  have hin : meth.name = "<init>" := (name_of_methodNamed B.named B.method).1
  subst hsz
  have hD := hD0.self (sz := s.heap.size)
  generalize hAe : va_A [(ou, .inr (7, [.long 0, .null]))] s.heap.size = A at hD hZ ⊢
  have hA : ∀ q : Nat, s.heap.size ≤ q → A q := fun q h => by rw [← hAe]; exact Or.inr h
  have hS : va_S A s.heap s.heap [] := va_S.rf
  have hz : s.heap.size + 0 ≤ s.heap.size := Nat.le_refl _
  have hl := lv_entry ([.ref ou]) (n := 1) (Nat.le_of_ble_eq_true rfl)
  rw [lg_entry_eq]
  generalize (lg_sl ([.ref ou]) ++ List.replicate (1 - (lg_sl ([.ref ou])).length) Slot.unset).toArray = ls at hl ⊢
  have hl : lv_has ls 1 [(0, .ref ou)] := hl
  have hP : va_P (dC, dI) vwCl [(ou, .inr (7, [.long 0, .null]))] s.heap := hP
  have hD : va_D A [(ou, .inr (7, [.long 0, .null]))] := hD
  refine lv_aload_n hx hb dX2_init_0 rfl (lv_at hl 0 rfl) ?_
  refine W.objInit hx hb hown (hts (.methodLink RX2 1 objectInit) (List.mem_cons_of_mem _ zw_769)) (hts (.instanceMethod objectInit) (List.mem_cons_of_mem _ zw_71)) (hts (.code objectInit ⟨#[0xb1]⟩ 1 none) (List.mem_cons_of_mem _ zw_72)) rfl (by rw [hml]; exact hl.1) rfl dX2_init_1 (Nat.le_of_ble_eq_true rfl) (Nat.le_of_ble_eq_true rfl) ?_
  refine W.eq (g2 := F0 mY 4 ls []) rfl ?_
  have hP9 := hP.sub (ws' := [(ou, .inr (7, [.long 0, .null]))]) [0] rfl
  have hD9 := hD.sub (ws' := [(ou, .inr (7, [.long 0, .null]))]) [0] (by decide) rfl
  exact W.vret hx hb hr (fun t ht hW => ⟨⟨(), rfl, trivial, ⟨by rw [ht]; exact hP9, va_K.moved hW.alike hK, hD9, by rw [ht]; exact hz⟩⟩, hS.F ht⟩) hS.2.2 dX2_init_4

set_option maxHeartbeats 4000000 in
set_option maxRecDepth 100000 in
theorem k_th0 (l : Launch) (dC : Nat → ClassId) (dI : Nat → Nat → Nat) (cI cB cR cO : ClassId) (zk : Nat → Nat) (mo am : Nat) (sz : Nat)  : Met l yX4_thrown wsX4_thrown ({ frames := 0, cells := 0, slots := 0, locals := 0 }) (va_Pc [.ref mo] (zPre (dC, dI) (zT cI cB cR cO) zk [] [(mo, .inr (9, [.int 0, .ref am, .int 0, .int 0, .int 0]))] sz)) (va_Qi (fun r (_ : Unit) => r = 0) (fun _ t => zEnd (dC, dI) (zT cI cB cR cO) (va_A [(mo, .inr (9, [.int 0, .ref am, .int 0, .int 0, .int 0]))] sz) [(mo, .inr (9, [.int 0, .ref am, .int 0, .int 0, .int 0]))] sz 0 t) (va_A [(mo, .inr (9, [.int 0, .ref am, .int 0, .int 0, .int 0]))] sz)) 0 0 (va_A [(mo, .inr (9, [.int 0, .ref am, .int 0, .int 0, .int 0]))] sz) := by
  refine Met.ofW (cc := cX4_thrown) (maxL := 1) (ret := (some .int)) (by decide) rfl ?_
  intro p e s mY args below meth c s₁ B hml hv
  obtain ⟨rfl, hsz, hP, hK, hD0, hZ⟩ := hv
  have hx := B.exec
  have hb := B.bytes
  have hr := B.returns
  have hts := atoms_spec (ws := wsX4_thrown) B.pre
  have hown : s.vm.findClass RX4 = some mY.cls := findClass_of_methodNamed B.named
  have hlocks := B.notSynchronized
  subst hsz
  have hD := hD0.self (sz := s.heap.size)
  generalize hAe : va_A [(mo, .inr (9, [.int 0, .ref am, .int 0, .int 0, .int 0]))] s.heap.size = A at hD hZ ⊢
  have hA : ∀ q : Nat, s.heap.size ≤ q → A q := fun q h => by rw [← hAe]; exact Or.inr h
  have hS : va_S A s.heap s.heap [] := va_S.rf
  have hz : s.heap.size + 0 ≤ s.heap.size := Nat.le_refl _
  have hl := lv_entry ([.ref mo]) (n := 1) (Nat.le_of_ble_eq_true rfl)
  rw [lg_entry_eq]
  generalize (lg_sl ([.ref mo]) ++ List.replicate (1 - (lg_sl ([.ref mo])).length) Slot.unset).toArray = ls at hl ⊢
  have hl : lv_has ls 1 [(0, .ref mo)] := hl
  have hP : va_P (dC, dI) vwCl [(mo, .inr (9, [.int 0, .ref am, .int 0, .int 0, .int 0]))] s.heap := hP
  have hD : va_D A [(mo, .inr (9, [.int 0, .ref am, .int 0, .int 0, .int 0]))] := hD
  refine lv_aload_n hx hb dX4_thrown_0 rfl (lv_at hl 0 rfl) ?_
  refine va_get (D := (dC, dI)) (ci := 9) (v := .int 0) (C := RX4) (T := TX4) (N := 5) hx hb hts hi_X4_thrown_X4 hown hK hP 0 rfl rfl 0 (by decide) (hts (.fieldLink RX4 16 "DeeprowsModel" "thrown" "I") (List.mem_cons_of_mem _ zw_1127)) (fun _ h9 => h9) rfl dX4_thrown_1 ?_
  have hP9 := hP.sub (ws' := [(mo, .inr (9, [.int 0, .ref am, .int 0, .int 0, .int 0]))]) [0] rfl
  have hD9 := hD.sub (ws' := [(mo, .inr (9, [.int 0, .ref am, .int 0, .int 0, .int 0]))]) [0] (by decide) rfl
  exact W.iret (v := 0) hx hb hr (fun t ht hW => ⟨⟨_, (), rfl, rfl, ⟨by rw [ht]; exact hP9, va_K.moved hW.alike hK, hD9, by rw [ht]; exact hz⟩⟩, hS.F ht⟩) hS.2.2 dX4_thrown_4

/-- the law's place, with a script of L ints -/
def zl_At (p : Program) (s : State) (m : MethodId) (meth : Method) (c : Code) (b L : Nat) (xs : Nat → Int32) : Prop :=
  p.tables.exec = Jvm.exec ∧ c.code = cL_law ∧ meth.sig.returnType = ret ∧ c.maxLocals = 7 ∧ s.vm.findClass RL = some m.cls ∧ (∀ w ∈ lw_tbl, w.before #[Value.ref b] s = true) ∧ va_X b L xs s s.heap ∧ b < s.heap.size ∧ meth.locks = false ∧ va_Nw (.methodLinkNest "DeeprowsLaw" 121 ⟨"DeeprowsLaw$Out", "<init>", "()V"⟩ "DeeprowsLaw") s

set_option maxHeartbeats 4000000 in
set_option maxRecDepth 100000 in
theorem zl_tail (l : Launch) (dC : Nat → ClassId) (dI : Nat → Nat → Nat) (cI cB cR cO : ClassId) (zk : Nat → Nat) {p : Program} {e : Env} {s : State} {mY : MethodId} {below : List Frame} {meth : Method} {c : Code} (b : Nat) (xs : Nat → Int32) (C0 : zl_At p s mY meth c b 5 xs) (hZ0 : zR zk [] (fun q => s.heap.size ≤ q) s s.heap) (hK : va_K (dC, dI) vwCl (zT cI cB cR cO) s) {H : Heap} {locs : List Loc} {cells slots : Nat} (hS : va_S (fun q => s.heap.size ≤ q) s.heap H locs) (hc : cells ≤ 799520) (hs : slots ≤ 6703675) (ls : Array Slot) (hl : lv_has ls 7 [(0, .ref b), (4, .int 0)]) : W p l e room_1 s mY #[Value.ref b] below meth c H locs cells slots (lw_Z below #[Value.ref b] s) (F0 mY 2155 ls []) := by
  obtain ⟨hx, hb, hr, hml, hown, hts0, hX, hbl, hlocks, hNI⟩ := C0
  have hts := fun (w : Cond) (h : w ∈ wsL_law) => hts0 w (wsL_law_in w h)
  obtain ⟨A, hAd⟩ : ∃ A : Nat → Prop, A = fun q => s.heap.size ≤ q := ⟨_, rfl⟩
  have hA : ∀ q : Nat, s.heap.size ≤ q → A q := fun q h => by rw [hAd]; exact h
  have hAf : ∀ q : Nat, A q → s.heap.size ≤ q := fun q h => by rw [hAd] at h; exact h
  have hbA : ¬ A b := fun h => absurd (hAf b h) (Nat.not_le.mpr hbl)
  have hZ : zR zk [] A s s.heap := by rw [hAd]; exact hZ0
  rw [← hAd] at hS
  refine lv_iinc (v := 5) (lv' := [(4, .int 5), (0, .ref b)]) hx hb dL_law_2155 hl (k := 1) rfl (by decide) (by decide) rfl (fun ls hl => ?_)
  refine lv_goto (tgt := 27) hx hb dL_law_2158 (by decide) ?_
  refine lv_iload hx hb dL_law_27 (lv_at hl 0 rfl) ?_
  refine lv_aload_n hx hb dL_law_29 rfl (lv_at hl 1 rfl) ?_
  refine va_slen hx hb hX hbl hbA hS dL_law_30 ?_
  refine W.eq (g2 := F0 mY 31 ls [.int 5, .int 5]) rfl ?_
  refine lv_iconst (v := 5) hx hb dL_law_31 (by decide) ?_
  refine lv_isub hx hb dL_law_32 ?_
  refine lv_topi (fun v1 ev1 => ?_)
  obtain rfl : v1 = 0 := ev1.trans (by decide)
  refine lv_icmp_gt (tgt := 2161) hx hb dL_law_33 (by decide) (fun c9 => ?_) (fun c9 => ?_)
  rotate_left
  · exact absurd (by decide) c9
  refine lv_iconst (v := 1) hx hb dL_law_2161 (by decide) ?_
  refine va_forget (fun q hq => hAf _ (hS.2.2 q hq)) ?_
  refine W.widen (k := 799520) (n := 6703675) hc hs ?_
  exact lw_ret hx hb hr hlocks dL_law_2162

set_option maxHeartbeats 4000000 in
set_option maxRecDepth 100000 in
theorem zl_a_make04 (l : Launch) (dC : Nat → ClassId) (dI : Nat → Nat → Nat) (cI cB cR cO : ClassId) (zk : Nat → Nat) {p : Program} {e : Env} {s : State} {mY : MethodId} {below : List Frame} {meth : Method} {c : Code} (b : Nat) (xs : Nat → Int32) (hfl : l.stackTraces = false) (C0 : zl_At p s mY meth c b 5 xs) (hZ0 : zR zk [] (fun q => s.heap.size ≤ q) s s.heap) (hK : va_K (dC, dI) vwCl (zT cI cB cR cO) s) (ou xo al b1 : Nat) (x4 x5 x7 : Value) (mc : Int32) (mo am : Nat) (mm : Int32)  (h1 : xs 1 = 4) (h2 : xs 2 = 0)  (H : Heap) (locs : List Loc) (hP : va_P (dC, dI) vwCl [(ou, .inr (7, [.long 0, .null])), (xo, .inr (6, [.ref al, .int 0, .int 0, .int 0, x4, x5, .ref b1, x7])), (al, .inr (4, [.int mc, .ref (zk 0), .int 0])), (mo, .inr (9, [.int 0, .ref am, .int 0, .int 0, .int 0])), (am, .inr (4, [.int mm, .ref (zk 0), .int 0]))] H) (hD : va_D (fun q => s.heap.size ≤ q) [(ou, .inr (7, [.long 0, .null])), (xo, .inr (6, [.ref al, .int 0, .int 0, .int 0, x4, x5, .ref b1, x7])), (al, .inr (4, [.int mc, .ref (zk 0), .int 0])), (mo, .inr (9, [.int 0, .ref am, .int 0, .int 0, .int 0])), (am, .inr (4, [.int mm, .ref (zk 0), .int 0]))]) (hS : va_S (fun q => s.heap.size ≤ q) s.heap H locs) (ls : Array Slot) (hl : lv_has ls 7 [(4, .int 0), (3, .ref ou), (2, .ref mo), (1, .ref xo), (0, .ref b)]) : W p l e room_1 s mY #[Value.ref b] below meth c H locs 17 79 (lw_Z below #[Value.ref b] s) (F0 mY 184 ls []) := by
  have C1 := C0
  obtain ⟨hx, hb, hr, hml, hown, hts0, hX, hbl, hlocks, hNI⟩ := C0
  have hts := fun (w : Cond) (h : w ∈ wsL_law) => hts0 w (wsL_law_in w h)
  obtain ⟨A, hAd⟩ : ∃ A : Nat → Prop, A = fun q => s.heap.size ≤ q := ⟨_, rfl⟩
  have hA : ∀ q : Nat, s.heap.size ≤ q → A q := fun q h => by rw [hAd]; exact h
  have hAf : ∀ q : Nat, A q → s.heap.size ≤ q := fun q h => by rw [hAd] at h; exact h
  have hbA : ¬ A b := fun h => absurd (hAf b h) (Nat.not_le.mpr hbl)
  have hZ : zR zk [] A s s.heap := by rw [hAd]; exact hZ0
  rw [← hAd] at hD hS
  replace hP : va_P (dC, dI) vwCl [(ou, .inr (7, [.long 0, .null])), (xo, .inr (6, [.ref al, .int 0, .int 0, .int 0, x4, x5, .ref b1, x7])), (al, .inr (4, [.int mc, .ref (zk 0), .int 0])), (mo, .inr (9, [.int 0, .ref am, .int 0, .int 0, .int 0])), (am, .inr (4, [.int mm, .ref (zk 0), .int 0]))] H := hP
  replace hD : va_D A [(ou, .inr (7, [.long 0, .null])), (xo, .inr (6, [.ref al, .int 0, .int 0, .int 0, x4, x5, .ref b1, x7])), (al, .inr (4, [.int mc, .ref (zk 0), .int 0])), (mo, .inr (9, [.int 0, .ref am, .int 0, .int 0, .int 0])), (am, .inr (4, [.int mm, .ref (zk 0), .int 0]))] := hD
  have hz : s.heap.size + 0 ≤ H.size := hS.1
  refine lv_aload_n hx hb dL_law_184 rfl (lv_at hl 3 rfl) ?_
  refine lv_aload_n hx hb dL_law_185 rfl (lv_at hl 4 rfl) ?_
  refine lv_iload hx hb dL_law_186 (lv_at hl 0 rfl) ?_
  refine lv_iconst (v := 1) hx hb dL_law_188 (by decide) ?_
  refine lv_iadd hx hb dL_law_189 ?_
  refine lv_topi (fun v1 ev1 => ?_)
  obtain rfl : v1 = 1 := ev1.trans (by decide)
  refine va_sld hx hb hX hbl hbA hS (by unfold vp_in; decide) dL_law_190 ?_
  refine lv_topi (fun v2 ev2 => ?_)
  have e9 : v2 = 4 := ev2.trans (show xs ((1 : Int32).toNatClampNeg) = 4 from h1)
  clear ev2
  subst v2
  refine lv_aload_n hx hb dL_law_191 rfl (lv_at hl 4 rfl) ?_
  refine lv_iload hx hb dL_law_192 (lv_at hl 0 rfl) ?_
  refine lv_iconst (v := 2) hx hb dL_law_194 (by decide) ?_
  refine lv_iadd hx hb dL_law_195 ?_
  refine lv_topi (fun v3 ev3 => ?_)
  obtain rfl : v3 = 2 := ev3.trans (by decide)
  refine va_sld hx hb hX hbl hbA hS (by unfold vp_in; decide) dL_law_196 ?_
  refine lv_topi (fun v4 ev4 => ?_)
  have e9 : v4 = 0 := ev4.trans (show xs ((2 : Int32).toNatClampNeg) = 0 from h2)
  clear ev4
  subst v4
  refine lv_aload_n hx hb dL_law_197 rfl (lv_at hl 1 rfl) ?_
  have hPc := hP.sub (ws' := [(ou, .inr (7, [.long 0, .null])), (xo, .inr (6, [.ref al, .int 0, .int 0, .int 0, x4, x5, .ref b1, x7])), (al, .inr (4, [.int mc, .ref (zk 0), .int 0]))]) [0, 1, 2] rfl
  have hDc := hD.sub (ws' := [(ou, .inr (7, [.long 0, .null])), (xo, .inr (6, [.ref al, .int 0, .int 0, .int 0, x4, x5, .ref b1, x7])), (al, .inr (4, [.int mc, .ref (zk 0), .int 0]))]) [0, 1, 2] (by decide) rfl
  have hFc := va_free (wc := [(ou, .inr (7, [.long 0, .null])), (xo, .inr (6, [.ref al, .int 0, .int 0, .int 0, x4, x5, .ref b1, x7])), (al, .inr (4, [.int mc, .ref (zk 0), .int 0]))]) hD hS hA [0, 1, 2] rfl
  have hDv := hDc.self (sz := H.size)
  have hpre := zpre (xs' := []) (av := [.ref xo, .int 4, .int 0, .ref ou]) hPc hK (hDc.weaken (fun _ _ _ h => h)) hZ hS hFc (fun r hr => by cases hr)
  refine va_calli (vx_runSW (As := [.ref xo, .int 4, .int 0, .ref ou]) (rest := []) ⟨hx, hb, hml, hown, hts⟩ (k_mkH04 l dC dI cI cB cR cO zk ou (.long 0) .null xo al b1 (.int 0) (.int 0) (.int 0) x4 x5 x7 mc H.size ) (vx_cwSW 4 hts gL_law_L_make rfl rfl rfl (by decide +kernel) ⟨Nat.le_of_ble_eq_true rfl, Nat.le_of_ble_eq_true rfl⟩) ⟨zblind, hpre⟩ rfl rfl hl.1 rfl (lv_room (Nat.le_of_ble_eq_true rfl)) dL_law_198 ⟨Nat.le_of_ble_eq_true rfl, Nat.le_of_ble_eq_true rfl⟩) hS (fun q _ h => hFc q h) hFc (fun r6 u t H5 locs ht hvm hw hB hz1 hk1 hS => ?_)
  obtain rfl : 0 = r6 := (show r6 = 0 from hw).symm
  obtain ⟨hP1, hK1, hD1, hz2⟩ := hB
  rw [ht] at hP1 hz2
  have hPD9 := va_join (wr := [(mo, .inr (9, [.int 0, .ref am, .int 0, .int 0, .int 0])), (am, .inr (4, [.int mm, .ref (zk 0), .int 0]))]) (w1 := [(ou, .inr (7, [.long 0, .null])), (xo, .inr (6, [.ref al, .int 0, .int 0, .int 0, x4, x5, .ref b1, x7]))]) hP hD [0, 1, 2] [3, 4] rfl rfl (by decide) (by decide) hk1 hFc hP1 hD1
  clear hPc hDc hFc hDv hpre hP hD hP1 hK1 hD1
  obtain ⟨hP, hD⟩ := hPD9
  replace hz : s.heap.size + 0 ≤ H5.size := by omega
  clear hz2
  replace hP : va_P (dC, dI) vwCl [(mo, .inr (9, [.int 0, .ref am, .int 0, .int 0, .int 0])), (am, .inr (4, [.int mm, .ref (zk 0), .int 0])), (ou, .inr (7, [.long 0, .null])), (xo, .inr (6, [.ref al, .int 0, .int 0, .int 0, x4, x5, .ref b1, x7]))] H5 := hP
  replace hD : va_D A [(mo, .inr (9, [.int 0, .ref am, .int 0, .int 0, .int 0])), (am, .inr (4, [.int mm, .ref (zk 0), .int 0])), (ou, .inr (7, [.long 0, .null])), (xo, .inr (6, [.ref al, .int 0, .int 0, .int 0, x4, x5, .ref b1, x7]))] := hD
  refine W.widen (k := 22) (n := 95) (by omega) (by omega) ?_
  refine lv_istore (lv' := [(5, .int 0), (4, .int 0), (3, .ref ou), (2, .ref mo), (1, .ref xo), (0, .ref b)]) hx hb dL_law_201 hl (by decide) rfl (fun ls hl => ?_)
  refine lv_aload_n hx hb dL_law_203 rfl (lv_at hl 3 rfl) ?_
  refine lv_aload_n hx hb dL_law_204 rfl (lv_at hl 5 rfl) ?_
  refine lv_iload hx hb dL_law_205 (lv_at hl 1 rfl) ?_
  refine lv_iconst (v := 1) hx hb dL_law_207 (by decide) ?_
  refine lv_iadd hx hb dL_law_208 ?_
  refine lv_topi (fun v7 ev7 => ?_)
  obtain rfl : v7 = 1 := ev7.trans (by decide)
  refine va_sld hx hb hX hbl hbA hS (by unfold vp_in; decide) dL_law_209 ?_
  refine lv_topi (fun v8 ev8 => ?_)
  have e9 : v8 = 4 := ev8.trans (show xs ((1 : Int32).toNatClampNeg) = 4 from h1)
  clear ev8
  subst v8
  refine lv_aload_n hx hb dL_law_210 rfl (lv_at hl 5 rfl) ?_
  refine lv_iload hx hb dL_law_211 (lv_at hl 1 rfl) ?_
  refine lv_iconst (v := 2) hx hb dL_law_213 (by decide) ?_
  refine lv_iadd hx hb dL_law_214 ?_
  refine lv_topi (fun v9 ev9 => ?_)
  obtain rfl : v9 = 2 := ev9.trans (by decide)
  refine va_sld hx hb hX hbl hbA hS (by unfold vp_in; decide) dL_law_215 ?_
  refine lv_topi (fun v10 ev10 => ?_)
  have e9 : v10 = 0 := ev10.trans (show xs ((2 : Int32).toNatClampNeg) = 0 from h2)
  clear ev10
  subst v10
  have hPc := hP.sub (ws' := [(mo, .inr (9, [.int 0, .ref am, .int 0, .int 0, .int 0])), (am, .inr (4, [.int mm, .ref (zk 0), .int 0]))]) [0, 1] rfl
  have hDc := hD.sub (ws' := [(mo, .inr (9, [.int 0, .ref am, .int 0, .int 0, .int 0])), (am, .inr (4, [.int mm, .ref (zk 0), .int 0]))]) [0, 1] (by decide) rfl
  have hFc := va_free (wc := [(mo, .inr (9, [.int 0, .ref am, .int 0, .int 0, .int 0])), (am, .inr (4, [.int mm, .ref (zk 0), .int 0]))]) hD hS hA [0, 1] rfl
  have hDv := hDc.self (sz := H5.size)
  have hpre := zpre (xs' := []) (av := [.ref mo, .int 4, .int 0]) hPc hK (hDc.weaken (fun _ _ _ h => h)) hZ hS hFc (fun r hr => by cases hr)
  refine va_calli (va_runV (As := [.int 4, .int 0]) (rest := []) ⟨hx, hb, hml, hown, hts⟩ (k_mkM04 l dC dI cI cB cR cO zk mo am (.int 0) mm H5.size ) (cwV 2 hts gL_law_X4_make rfl rfl rfl (by decide +kernel) ⟨Nat.le_of_ble_eq_true rfl, Nat.le_of_ble_eq_true rfl⟩) ⟨zblind, (zrecv_9 hK hPc (q0 := 0) rfl), hpre⟩ rfl rfl hl.1 rfl (lv_room (Nat.le_of_ble_eq_true rfl)) dL_law_216 ⟨Nat.le_of_ble_eq_true rfl, Nat.le_of_ble_eq_true rfl⟩) hS (fun q _ h => hFc q h) hFc (fun r12 u t H11 locs ht hvm hw hB hz1 hk1 hS => ?_)
  obtain rfl : 0 = r12 := (show r12 = 0 from hw).symm
  obtain ⟨hP1, hK1, hD1, hz2⟩ := hB
  rw [ht] at hP1 hz2
  have hPD9 := va_join (wr := [(ou, .inr (7, [.long 0, .null])), (xo, .inr (6, [.ref al, .int 0, .int 0, .int 0, x4, x5, .ref b1, x7]))]) (w1 := [(mo, .inr (9, [.int 0, .ref am, .int 0, .int 0, .int 0]))]) hP hD [0, 1] [2, 3] rfl rfl (by decide) (by decide) hk1 hFc hP1 hD1
  clear hPc hDc hFc hDv hpre hP hD hP1 hK1 hD1
  obtain ⟨hP, hD⟩ := hPD9
  replace hz : s.heap.size + 4 ≤ H11.size := by omega
  clear hz2
  replace hP : va_P (dC, dI) vwCl [(ou, .inr (7, [.long 0, .null])), (xo, .inr (6, [.ref al, .int 0, .int 0, .int 0, x4, x5, .ref b1, x7])), (mo, .inr (9, [.int 0, .ref am, .int 0, .int 0, .int 0]))] H11 := hP
  replace hD : va_D A [(ou, .inr (7, [.long 0, .null])), (xo, .inr (6, [.ref al, .int 0, .int 0, .int 0, x4, x5, .ref b1, x7])), (mo, .inr (9, [.int 0, .ref am, .int 0, .int 0, .int 0]))] := hD
  refine W.widen (k := 26) (n := 108) (by omega) (by omega) ?_
  refine lv_istore (lv' := [(6, .int 0), (5, .int 0), (4, .int 0), (3, .ref ou), (2, .ref mo), (1, .ref xo), (0, .ref b)]) hx hb dL_law_219 hl (by decide) rfl (fun ls hl => ?_)
  refine lv_aload_n hx hb dL_law_221 rfl (lv_at hl 4 rfl) ?_
  have hPc := hP.sub (ws' := [(mo, .inr (9, [.int 0, .ref am, .int 0, .int 0, .int 0]))]) [2] rfl
  have hDc := hD.sub (ws' := [(mo, .inr (9, [.int 0, .ref am, .int 0, .int 0, .int 0]))]) [2] (by decide) rfl
  have hFc := va_free (wc := [(mo, .inr (9, [.int 0, .ref am, .int 0, .int 0, .int 0]))]) hD hS hA [2] rfl
  have hDv := hDc.self (sz := H11.size)
  have hpre := zpre (xs' := []) (av := [.ref mo]) hPc hK (hDc.weaken (fun _ _ _ h => h)) hZ hS hFc (fun r hr => by cases hr)
  refine va_calli (va_runV (As := []) (rest := []) ⟨hx, hb, hml, hown, hts⟩ (k_th0 l dC dI cI cB cR cO zk mo am H11.size ) (cwV 0 hts gL_law_X4_thrown rfl rfl rfl (by decide +kernel) ⟨Nat.le_of_ble_eq_true rfl, Nat.le_of_ble_eq_true rfl⟩) ⟨zblind, (zrecv_9 hK hPc (q0 := 0) rfl), hpre⟩ rfl rfl hl.1 rfl (lv_room (Nat.le_of_ble_eq_true rfl)) dL_law_222 ⟨Nat.le_of_ble_eq_true rfl, Nat.le_of_ble_eq_true rfl⟩) hS (fun q _ h => hFc q h) hFc (fun r14 u t H13 locs ht hvm hw hB hz1 hk1 hS => ?_)
  obtain rfl : 0 = r14 := (show r14 = 0 from hw).symm
  obtain ⟨hP1, hK1, hD1, hz2⟩ := hB
  rw [ht] at hP1 hz2
  have hPD9 := va_join (wr := [(ou, .inr (7, [.long 0, .null])), (xo, .inr (6, [.ref al, .int 0, .int 0, .int 0, x4, x5, .ref b1, x7]))]) (w1 := [(mo, .inr (9, [.int 0, .ref am, .int 0, .int 0, .int 0]))]) hP hD [2] [0, 1] rfl rfl (by decide) (by decide) hk1 hFc hP1 hD1
  clear hPc hDc hFc hDv hpre hP hD hP1 hK1 hD1
  obtain ⟨hP, hD⟩ := hPD9
  replace hz : s.heap.size + 4 ≤ H13.size := by omega
  clear hz2
  replace hP : va_P (dC, dI) vwCl [(ou, .inr (7, [.long 0, .null])), (xo, .inr (6, [.ref al, .int 0, .int 0, .int 0, x4, x5, .ref b1, x7])), (mo, .inr (9, [.int 0, .ref am, .int 0, .int 0, .int 0]))] H13 := hP
  replace hD : va_D A [(ou, .inr (7, [.long 0, .null])), (xo, .inr (6, [.ref al, .int 0, .int 0, .int 0, x4, x5, .ref b1, x7])), (mo, .inr (9, [.int 0, .ref am, .int 0, .int 0, .int 0]))] := hD
  refine W.widen (k := 26) (n := 108) (by omega) (by omega) ?_
  refine lv_iload hx hb dL_law_225 (lv_at hl 1 rfl) ?_
  refine lv_icmp_eq (tgt := 232) hx hb dL_law_227 (by decide) (fun c9 => ?_) (fun c9 => ?_)
  rotate_left
  · exact absurd (by decide) c9
  refine lv_iload hx hb dL_law_232 (lv_at hl 1 rfl) ?_
  refine lv_if_ne (tgt := 250) hx hb dL_law_234 (by decide) (fun c9 => ?_) (fun c9 => ?_)
  · exact absurd (by decide) c9
  refine lv_aload_n hx hb dL_law_237 rfl (lv_at hl 3 rfl) ?_
  refine va_getN (D := (dC, dI)) (ci := 7) (v := .long 0) (C := RX2) (T := TX2) (N := 2) hx hb hts inlX2 hown hK hP 0 rfl rfl 0 (by decide) (zn6 hZ) (fun _ h9 => h9) rfl dL_law_238 ?_
  refine lv_iload hx hb dL_law_241 (lv_at hl 0 rfl) ?_
  refine lv_i2l (v := 0) hx hb dL_law_243 (by decide) ?_
  refine W.lcmp hx hb dL_law_244 ?_
  refine lv_topi (fun v15 ev15 => ?_)
  obtain rfl : v15 = 0 := ev15.trans (by decide)
  refine lv_if_eq (tgt := 250) hx hb dL_law_245 (by decide) (fun c9 => ?_) (fun c9 => ?_)
  rotate_left
  · exact absurd (by decide) c9
  refine lv_goto (tgt := 2155) hx hb dL_law_250 (by decide) ?_
  rw [hAd] at hS
  exact zl_tail l dC dI cI cB cR cO zk b xs C1 hZ0 hK hS (Nat.le_of_ble_eq_true rfl) (Nat.le_of_ble_eq_true rfl) ls (lv_sub hl [6, 2] rfl)

set_option maxHeartbeats 4000000 in
set_option maxRecDepth 100000 in
theorem zl_a_make0s (l : Launch) (dC : Nat → ClassId) (dI : Nat → Nat → Nat) (cI cB cR cO : ClassId) (zk : Nat → Nat) {p : Program} {e : Env} {s : State} {mY : MethodId} {below : List Frame} {meth : Method} {c : Code} (b : Nat) (xs : Nat → Int32) (hfl : l.stackTraces = false) (C0 : zl_At p s mY meth c b 5 xs) (hZ0 : zR zk [] (fun q => s.heap.size ≤ q) s s.heap) (hK : va_K (dC, dI) vwCl (zT cI cB cR cO) s) (ou xo al b1 : Nat) (x4 x5 x7 : Value) (mc : Int32) (mo am : Nat) (mm : Int32)  (kd : Int32) (h1 : xs 1 = kd) (h2 : xs 2 = 0) (hk0 : ¬ kd < 0) (hk4 : kd ≤ 4) (hkd : ¬ kd = 4) (H : Heap) (locs : List Loc) (hP : va_P (dC, dI) vwCl [(ou, .inr (7, [.long 0, .null])), (xo, .inr (6, [.ref al, .int 0, .int 0, .int 0, x4, x5, .ref b1, x7])), (al, .inr (4, [.int mc, .ref (zk 0), .int 0])), (mo, .inr (9, [.int 0, .ref am, .int 0, .int 0, .int 0])), (am, .inr (4, [.int mm, .ref (zk 0), .int 0]))] H) (hD : va_D (fun q => s.heap.size ≤ q) [(ou, .inr (7, [.long 0, .null])), (xo, .inr (6, [.ref al, .int 0, .int 0, .int 0, x4, x5, .ref b1, x7])), (al, .inr (4, [.int mc, .ref (zk 0), .int 0])), (mo, .inr (9, [.int 0, .ref am, .int 0, .int 0, .int 0])), (am, .inr (4, [.int mm, .ref (zk 0), .int 0]))]) (hS : va_S (fun q => s.heap.size ≤ q) s.heap H locs) (ls : Array Slot) (hl : lv_has ls 7 [(4, .int 0), (3, .ref ou), (2, .ref mo), (1, .ref xo), (0, .ref b)]) : W p l e room_1 s mY #[Value.ref b] below meth c H locs 17 79 (lw_Z below #[Value.ref b] s) (F0 mY 184 ls []) := by
  have C1 := C0
  obtain ⟨hx, hb, hr, hml, hown, hts0, hX, hbl, hlocks, hNI⟩ := C0
  have hts := fun (w : Cond) (h : w ∈ wsL_law) => hts0 w (wsL_law_in w h)
  obtain ⟨A, hAd⟩ : ∃ A : Nat → Prop, A = fun q => s.heap.size ≤ q := ⟨_, rfl⟩
  have hA : ∀ q : Nat, s.heap.size ≤ q → A q := fun q h => by rw [hAd]; exact h
  have hAf : ∀ q : Nat, A q → s.heap.size ≤ q := fun q h => by rw [hAd] at h; exact h
  have hbA : ¬ A b := fun h => absurd (hAf b h) (Nat.not_le.mpr hbl)
  have hZ : zR zk [] A s s.heap := by rw [hAd]; exact hZ0
  rw [← hAd] at hD hS
  replace hP : va_P (dC, dI) vwCl [(ou, .inr (7, [.long 0, .null])), (xo, .inr (6, [.ref al, .int 0, .int 0, .int 0, x4, x5, .ref b1, x7])), (al, .inr (4, [.int mc, .ref (zk 0), .int 0])), (mo, .inr (9, [.int 0, .ref am, .int 0, .int 0, .int 0])), (am, .inr (4, [.int mm, .ref (zk 0), .int 0]))] H := hP
  replace hD : va_D A [(ou, .inr (7, [.long 0, .null])), (xo, .inr (6, [.ref al, .int 0, .int 0, .int 0, x4, x5, .ref b1, x7])), (al, .inr (4, [.int mc, .ref (zk 0), .int 0])), (mo, .inr (9, [.int 0, .ref am, .int 0, .int 0, .int 0])), (am, .inr (4, [.int mm, .ref (zk 0), .int 0]))] := hD
  have hz : s.heap.size + 0 ≤ H.size := hS.1
  refine lv_aload_n hx hb dL_law_184 rfl (lv_at hl 3 rfl) ?_
  refine lv_aload_n hx hb dL_law_185 rfl (lv_at hl 4 rfl) ?_
  refine lv_iload hx hb dL_law_186 (lv_at hl 0 rfl) ?_
  refine lv_iconst (v := 1) hx hb dL_law_188 (by decide) ?_
  refine lv_iadd hx hb dL_law_189 ?_
  refine lv_topi (fun v1 ev1 => ?_)
  obtain rfl : v1 = 1 := ev1.trans (by decide)
  refine va_sld hx hb hX hbl hbA hS (by unfold vp_in; decide) dL_law_190 ?_
  refine lv_topi (fun v2 ev2 => ?_)
  have e9 : v2 = kd := ev2.trans (show xs ((1 : Int32).toNatClampNeg) = kd from h1)
  clear ev2
  subst v2
  refine lv_aload_n hx hb dL_law_191 rfl (lv_at hl 4 rfl) ?_
  refine lv_iload hx hb dL_law_192 (lv_at hl 0 rfl) ?_
  refine lv_iconst (v := 2) hx hb dL_law_194 (by decide) ?_
  refine lv_iadd hx hb dL_law_195 ?_
  refine lv_topi (fun v3 ev3 => ?_)
  obtain rfl : v3 = 2 := ev3.trans (by decide)
  refine va_sld hx hb hX hbl hbA hS (by unfold vp_in; decide) dL_law_196 ?_
  refine lv_topi (fun v4 ev4 => ?_)
  have e9 : v4 = 0 := ev4.trans (show xs ((2 : Int32).toNatClampNeg) = 0 from h2)
  clear ev4
  subst v4
  refine lv_aload_n hx hb dL_law_197 rfl (lv_at hl 1 rfl) ?_
  have hPc := hP.sub (ws' := [(ou, .inr (7, [.long 0, .null])), (xo, .inr (6, [.ref al, .int 0, .int 0, .int 0, x4, x5, .ref b1, x7])), (al, .inr (4, [.int mc, .ref (zk 0), .int 0]))]) [0, 1, 2] rfl
  have hDc := hD.sub (ws' := [(ou, .inr (7, [.long 0, .null])), (xo, .inr (6, [.ref al, .int 0, .int 0, .int 0, x4, x5, .ref b1, x7])), (al, .inr (4, [.int mc, .ref (zk 0), .int 0]))]) [0, 1, 2] (by decide) rfl
  have hFc := va_free (wc := [(ou, .inr (7, [.long 0, .null])), (xo, .inr (6, [.ref al, .int 0, .int 0, .int 0, x4, x5, .ref b1, x7])), (al, .inr (4, [.int mc, .ref (zk 0), .int 0]))]) hD hS hA [0, 1, 2] rfl
  have hDv := hDc.self (sz := H.size)
  have hpre := zpre (xs' := []) (av := [.ref xo, .int kd, .int 0, .ref ou]) hPc hK (hDc.weaken (fun _ _ _ h => h)) hZ hS hFc (fun r hr => by cases hr)
  refine va_calli (vx_runSW (As := [.ref xo, .int kd, .int 0, .ref ou]) (rest := []) ⟨hx, hb, hml, hown, hts⟩ (k_mkH0s l dC dI cI cB cR cO zk ou (.long 0) .null xo al b1 (.int 0) (.int 0) (.int 0) x4 x5 x7 mc kd H.size hk0 hk4 hkd) (vx_cwSW 4 hts gL_law_L_make rfl rfl rfl (by decide +kernel) ⟨Nat.le_of_ble_eq_true rfl, Nat.le_of_ble_eq_true rfl⟩) ⟨zblind, hpre⟩ rfl rfl hl.1 rfl (lv_room (Nat.le_of_ble_eq_true rfl)) dL_law_198 ⟨Nat.le_of_ble_eq_true rfl, Nat.le_of_ble_eq_true rfl⟩) hS (fun q _ h => hFc q h) hFc (fun r6 u t H5 locs ht hvm hw hB hz1 hk1 hS => ?_)
  obtain rfl : 0 = r6 := (show r6 = 0 from hw).symm
  obtain ⟨hP1, hK1, hD1, hz2⟩ := hB
  rw [ht] at hP1 hz2
  have hPD9 := va_join (wr := [(mo, .inr (9, [.int 0, .ref am, .int 0, .int 0, .int 0])), (am, .inr (4, [.int mm, .ref (zk 0), .int 0]))]) (w1 := [(ou, .inr (7, [.long 0, .null])), (xo, .inr (6, [.ref al, .int 0, .int 0, .int 0, x4, x5, .ref b1, x7]))]) hP hD [0, 1, 2] [3, 4] rfl rfl (by decide) (by decide) hk1 hFc hP1 hD1
  clear hPc hDc hFc hDv hpre hP hD hP1 hK1 hD1
  obtain ⟨hP, hD⟩ := hPD9
  replace hz : s.heap.size + 0 ≤ H5.size := by omega
  clear hz2
  replace hP : va_P (dC, dI) vwCl [(mo, .inr (9, [.int 0, .ref am, .int 0, .int 0, .int 0])), (am, .inr (4, [.int mm, .ref (zk 0), .int 0])), (ou, .inr (7, [.long 0, .null])), (xo, .inr (6, [.ref al, .int 0, .int 0, .int 0, x4, x5, .ref b1, x7]))] H5 := hP
  replace hD : va_D A [(mo, .inr (9, [.int 0, .ref am, .int 0, .int 0, .int 0])), (am, .inr (4, [.int mm, .ref (zk 0), .int 0])), (ou, .inr (7, [.long 0, .null])), (xo, .inr (6, [.ref al, .int 0, .int 0, .int 0, x4, x5, .ref b1, x7]))] := hD
  refine W.widen (k := 22) (n := 95) (by omega) (by omega) ?_
  refine lv_istore (lv' := [(5, .int 0), (4, .int 0), (3, .ref ou), (2, .ref mo), (1, .ref xo), (0, .ref b)]) hx hb dL_law_201 hl (by decide) rfl (fun ls hl => ?_)
  refine lv_aload_n hx hb dL_law_203 rfl (lv_at hl 3 rfl) ?_
  refine lv_aload_n hx hb dL_law_204 rfl (lv_at hl 5 rfl) ?_
  refine lv_iload hx hb dL_law_205 (lv_at hl 1 rfl) ?_
  refine lv_iconst (v := 1) hx hb dL_law_207 (by decide) ?_
  refine lv_iadd hx hb dL_law_208 ?_
  refine lv_topi (fun v7 ev7 => ?_)
  obtain rfl : v7 = 1 := ev7.trans (by decide)
  refine va_sld hx hb hX hbl hbA hS (by unfold vp_in; decide) dL_law_209 ?_
  refine lv_topi (fun v8 ev8 => ?_)
  have e9 : v8 = kd := ev8.trans (show xs ((1 : Int32).toNatClampNeg) = kd from h1)
  clear ev8
  subst v8
  refine lv_aload_n hx hb dL_law_210 rfl (lv_at hl 5 rfl) ?_
  refine lv_iload hx hb dL_law_211 (lv_at hl 1 rfl) ?_
  refine lv_iconst (v := 2) hx hb dL_law_213 (by decide) ?_
  refine lv_iadd hx hb dL_law_214 ?_
  refine lv_topi (fun v9 ev9 => ?_)
  obtain rfl : v9 = 2 := ev9.trans (by decide)
  refine va_sld hx hb hX hbl hbA hS (by unfold vp_in; decide) dL_law_215 ?_
  refine lv_topi (fun v10 ev10 => ?_)
  have e9 : v10 = 0 := ev10.trans (show xs ((2 : Int32).toNatClampNeg) = 0 from h2)
  clear ev10
  subst v10
  have hPc := hP.sub (ws' := [(mo, .inr (9, [.int 0, .ref am, .int 0, .int 0, .int 0])), (am, .inr (4, [.int mm, .ref (zk 0), .int 0]))]) [0, 1] rfl
  have hDc := hD.sub (ws' := [(mo, .inr (9, [.int 0, .ref am, .int 0, .int 0, .int 0])), (am, .inr (4, [.int mm, .ref (zk 0), .int 0]))]) [0, 1] (by decide) rfl
  have hFc := va_free (wc := [(mo, .inr (9, [.int 0, .ref am, .int 0, .int 0, .int 0])), (am, .inr (4, [.int mm, .ref (zk 0), .int 0]))]) hD hS hA [0, 1] rfl
  have hDv := hDc.self (sz := H5.size)
  have hpre := zpre (xs' := []) (av := [.ref mo, .int kd, .int 0]) hPc hK (hDc.weaken (fun _ _ _ h => h)) hZ hS hFc (fun r hr => by cases hr)
  refine va_calli (va_runV (As := [.int kd, .int 0]) (rest := []) ⟨hx, hb, hml, hown, hts⟩ (k_mkM0s l dC dI cI cB cR cO zk mo am (.int 0) mm kd H5.size hk0 hk4 hkd) (cwV 2 hts gL_law_X4_make rfl rfl rfl (by decide +kernel) ⟨Nat.le_of_ble_eq_true rfl, Nat.le_of_ble_eq_true rfl⟩) ⟨zblind, (zrecv_9 hK hPc (q0 := 0) rfl), hpre⟩ rfl rfl hl.1 rfl (lv_room (Nat.le_of_ble_eq_true rfl)) dL_law_216 ⟨Nat.le_of_ble_eq_true rfl, Nat.le_of_ble_eq_true rfl⟩) hS (fun q _ h => hFc q h) hFc (fun r12 u t H11 locs ht hvm hw hB hz1 hk1 hS => ?_)
  obtain rfl : 0 = r12 := (show r12 = 0 from hw).symm
  obtain ⟨hP1, hK1, hD1, hz2⟩ := hB
  rw [ht] at hP1 hz2
  have hPD9 := va_join (wr := [(ou, .inr (7, [.long 0, .null])), (xo, .inr (6, [.ref al, .int 0, .int 0, .int 0, x4, x5, .ref b1, x7]))]) (w1 := [(mo, .inr (9, [.int 0, .ref am, .int 0, .int 0, .int 0]))]) hP hD [0, 1] [2, 3] rfl rfl (by decide) (by decide) hk1 hFc hP1 hD1
  clear hPc hDc hFc hDv hpre hP hD hP1 hK1 hD1
  obtain ⟨hP, hD⟩ := hPD9
  replace hz : s.heap.size + 4 ≤ H11.size := by omega
  clear hz2
  replace hP : va_P (dC, dI) vwCl [(ou, .inr (7, [.long 0, .null])), (xo, .inr (6, [.ref al, .int 0, .int 0, .int 0, x4, x5, .ref b1, x7])), (mo, .inr (9, [.int 0, .ref am, .int 0, .int 0, .int 0]))] H11 := hP
  replace hD : va_D A [(ou, .inr (7, [.long 0, .null])), (xo, .inr (6, [.ref al, .int 0, .int 0, .int 0, x4, x5, .ref b1, x7])), (mo, .inr (9, [.int 0, .ref am, .int 0, .int 0, .int 0]))] := hD
  refine W.widen (k := 26) (n := 108) (by omega) (by omega) ?_
  refine lv_istore (lv' := [(6, .int 0), (5, .int 0), (4, .int 0), (3, .ref ou), (2, .ref mo), (1, .ref xo), (0, .ref b)]) hx hb dL_law_219 hl (by decide) rfl (fun ls hl => ?_)
  refine lv_aload_n hx hb dL_law_221 rfl (lv_at hl 4 rfl) ?_
  have hPc := hP.sub (ws' := [(mo, .inr (9, [.int 0, .ref am, .int 0, .int 0, .int 0]))]) [2] rfl
  have hDc := hD.sub (ws' := [(mo, .inr (9, [.int 0, .ref am, .int 0, .int 0, .int 0]))]) [2] (by decide) rfl
  have hFc := va_free (wc := [(mo, .inr (9, [.int 0, .ref am, .int 0, .int 0, .int 0]))]) hD hS hA [2] rfl
  have hDv := hDc.self (sz := H11.size)
  have hpre := zpre (xs' := []) (av := [.ref mo]) hPc hK (hDc.weaken (fun _ _ _ h => h)) hZ hS hFc (fun r hr => by cases hr)
  refine va_calli (va_runV (As := []) (rest := []) ⟨hx, hb, hml, hown, hts⟩ (k_th0 l dC dI cI cB cR cO zk mo am H11.size ) (cwV 0 hts gL_law_X4_thrown rfl rfl rfl (by decide +kernel) ⟨Nat.le_of_ble_eq_true rfl, Nat.le_of_ble_eq_true rfl⟩) ⟨zblind, (zrecv_9 hK hPc (q0 := 0) rfl), hpre⟩ rfl rfl hl.1 rfl (lv_room (Nat.le_of_ble_eq_true rfl)) dL_law_222 ⟨Nat.le_of_ble_eq_true rfl, Nat.le_of_ble_eq_true rfl⟩) hS (fun q _ h => hFc q h) hFc (fun r14 u t H13 locs ht hvm hw hB hz1 hk1 hS => ?_)
  obtain rfl : 0 = r14 := (show r14 = 0 from hw).symm
  obtain ⟨hP1, hK1, hD1, hz2⟩ := hB
  rw [ht] at hP1 hz2
  have hPD9 := va_join (wr := [(ou, .inr (7, [.long 0, .null])), (xo, .inr (6, [.ref al, .int 0, .int 0, .int 0, x4, x5, .ref b1, x7]))]) (w1 := [(mo, .inr (9, [.int 0, .ref am, .int 0, .int 0, .int 0]))]) hP hD [2] [0, 1] rfl rfl (by decide) (by decide) hk1 hFc hP1 hD1
  clear hPc hDc hFc hDv hpre hP hD hP1 hK1 hD1
  obtain ⟨hP, hD⟩ := hPD9
  replace hz : s.heap.size + 4 ≤ H13.size := by omega
  clear hz2
  replace hP : va_P (dC, dI) vwCl [(ou, .inr (7, [.long 0, .null])), (xo, .inr (6, [.ref al, .int 0, .int 0, .int 0, x4, x5, .ref b1, x7])), (mo, .inr (9, [.int 0, .ref am, .int 0, .int 0, .int 0]))] H13 := hP
  replace hD : va_D A [(ou, .inr (7, [.long 0, .null])), (xo, .inr (6, [.ref al, .int 0, .int 0, .int 0, x4, x5, .ref b1, x7])), (mo, .inr (9, [.int 0, .ref am, .int 0, .int 0, .int 0]))] := hD
  refine W.widen (k := 26) (n := 108) (by omega) (by omega) ?_
  refine lv_iload hx hb dL_law_225 (lv_at hl 1 rfl) ?_
  refine lv_icmp_eq (tgt := 232) hx hb dL_law_227 (by decide) (fun c9 => ?_) (fun c9 => ?_)
  rotate_left
  · exact absurd (by decide) c9
  refine lv_iload hx hb dL_law_232 (lv_at hl 1 rfl) ?_
  refine lv_if_ne (tgt := 250) hx hb dL_law_234 (by decide) (fun c9 => ?_) (fun c9 => ?_)
  · exact absurd (by decide) c9
  refine lv_aload_n hx hb dL_law_237 rfl (lv_at hl 3 rfl) ?_
  refine va_getN (D := (dC, dI)) (ci := 7) (v := .long 0) (C := RX2) (T := TX2) (N := 2) hx hb hts inlX2 hown hK hP 0 rfl rfl 0 (by decide) (zn6 hZ) (fun _ h9 => h9) rfl dL_law_238 ?_
  refine lv_iload hx hb dL_law_241 (lv_at hl 0 rfl) ?_
  refine lv_i2l (v := 0) hx hb dL_law_243 (by decide) ?_
  refine W.lcmp hx hb dL_law_244 ?_
  refine lv_topi (fun v15 ev15 => ?_)
  obtain rfl : v15 = 0 := ev15.trans (by decide)
  refine lv_if_eq (tgt := 250) hx hb dL_law_245 (by decide) (fun c9 => ?_) (fun c9 => ?_)
  rotate_left
  · exact absurd (by decide) c9
  refine lv_goto (tgt := 2155) hx hb dL_law_250 (by decide) ?_
  rw [hAd] at hS
  exact zl_tail l dC dI cI cB cR cO zk b xs C1 hZ0 hK hS (Nat.le_of_ble_eq_true rfl) (Nat.le_of_ble_eq_true rfl) ls (lv_sub hl [6, 2] rfl)

set_option maxHeartbeats 4000000 in
set_option maxRecDepth 100000 in
theorem zl_a_make14 (l : Launch) (dC : Nat → ClassId) (dI : Nat → Nat → Nat) (cI cB cR cO : ClassId) (zk : Nat → Nat) {p : Program} {e : Env} {s : State} {mY : MethodId} {below : List Frame} {meth : Method} {c : Code} (b : Nat) (xs : Nat → Int32) (hfl : l.stackTraces = false) (C0 : zl_At p s mY meth c b 5 xs) (hZ0 : zR zk [] (fun q => s.heap.size ≤ q) s s.heap) (hK : va_K (dC, dI) vwCl (zT cI cB cR cO) s) (ou xo al b1 : Nat) (x4 x5 x7 : Value) (mc : Int32) (mo am : Nat) (mm : Int32)  (h1 : xs 1 = 4) (h2 : xs 2 = 1)  (H : Heap) (locs : List Loc) (hP : va_P (dC, dI) vwCl [(ou, .inr (7, [.long 0, .null])), (xo, .inr (6, [.ref al, .int 0, .int 0, .int 0, x4, x5, .ref b1, x7])), (al, .inr (4, [.int mc, .ref (zk 0), .int 0])), (mo, .inr (9, [.int 0, .ref am, .int 0, .int 0, .int 0])), (am, .inr (4, [.int mm, .ref (zk 0), .int 0]))] H) (hD : va_D (fun q => s.heap.size ≤ q) [(ou, .inr (7, [.long 0, .null])), (xo, .inr (6, [.ref al, .int 0, .int 0, .int 0, x4, x5, .ref b1, x7])), (al, .inr (4, [.int mc, .ref (zk 0), .int 0])), (mo, .inr (9, [.int 0, .ref am, .int 0, .int 0, .int 0])), (am, .inr (4, [.int mm, .ref (zk 0), .int 0]))]) (hS : va_S (fun q => s.heap.size ≤ q) s.heap H locs) (ls : Array Slot) (hl : lv_has ls 7 [(4, .int 0), (3, .ref ou), (2, .ref mo), (1, .ref xo), (0, .ref b)]) : W p l e room_1 s mY #[Value.ref b] below meth c H locs 17 79 (lw_Z below #[Value.ref b] s) (F0 mY 184 ls []) := by
  have C1 := C0
  obtain ⟨hx, hb, hr, hml, hown, hts0, hX, hbl, hlocks, hNI⟩ := C0
  have hts := fun (w : Cond) (h : w ∈ wsL_law) => hts0 w (wsL_law_in w h)
  obtain ⟨A, hAd⟩ : ∃ A : Nat → Prop, A = fun q => s.heap.size ≤ q := ⟨_, rfl⟩
  have hA : ∀ q : Nat, s.heap.size ≤ q → A q := fun q h => by rw [hAd]; exact h
  have hAf : ∀ q : Nat, A q → s.heap.size ≤ q := fun q h => by rw [hAd] at h; exact h
  have hbA : ¬ A b := fun h => absurd (hAf b h) (Nat.not_le.mpr hbl)
  have hZ : zR zk [] A s s.heap := by rw [hAd]; exact hZ0
  rw [← hAd] at hD hS
  replace hP : va_P (dC, dI) vwCl [(ou, .inr (7, [.long 0, .null])), (xo, .inr (6, [.ref al, .int 0, .int 0, .int 0, x4, x5, .ref b1, x7])), (al, .inr (4, [.int mc, .ref (zk 0), .int 0])), (mo, .inr (9, [.int 0, .ref am, .int 0, .int 0, .int 0])), (am, .inr (4, [.int mm, .ref (zk 0), .int 0]))] H := hP
  replace hD : va_D A [(ou, .inr (7, [.long 0, .null])), (xo, .inr (6, [.ref al, .int 0, .int 0, .int 0, x4, x5, .ref b1, x7])), (al, .inr (4, [.int mc, .ref (zk 0), .int 0])), (mo, .inr (9, [.int 0, .ref am, .int 0, .int 0, .int 0])), (am, .inr (4, [.int mm, .ref (zk 0), .int 0]))] := hD
  have hz : s.heap.size + 0 ≤ H.size := hS.1
  refine lv_aload_n hx hb dL_law_184 rfl (lv_at hl 3 rfl) ?_
  refine lv_aload_n hx hb dL_law_185 rfl (lv_at hl 4 rfl) ?_
  refine lv_iload hx hb dL_law_186 (lv_at hl 0 rfl) ?_
  refine lv_iconst (v := 1) hx hb dL_law_188 (by decide) ?_
  refine lv_iadd hx hb dL_law_189 ?_
  refine lv_topi (fun v1 ev1 => ?_)
  obtain rfl : v1 = 1 := ev1.trans (by decide)
  refine va_sld hx hb hX hbl hbA hS (by unfold vp_in; decide) dL_law_190 ?_
  refine lv_topi (fun v2 ev2 => ?_)
  have e9 : v2 = 4 := ev2.trans (show xs ((1 : Int32).toNatClampNeg) = 4 from h1)
  clear ev2
  subst v2
  refine lv_aload_n hx hb dL_law_191 rfl (lv_at hl 4 rfl) ?_
  refine lv_iload hx hb dL_law_192 (lv_at hl 0 rfl) ?_
  refine lv_iconst (v := 2) hx hb dL_law_194 (by decide) ?_
  refine lv_iadd hx hb dL_law_195 ?_
  refine lv_topi (fun v3 ev3 => ?_)
  obtain rfl : v3 = 2 := ev3.trans (by decide)
  refine va_sld hx hb hX hbl hbA hS (by unfold vp_in; decide) dL_law_196 ?_
  refine lv_topi (fun v4 ev4 => ?_)
  have e9 : v4 = 1 := ev4.trans (show xs ((2 : Int32).toNatClampNeg) = 1 from h2)
  clear ev4
  subst v4
  refine lv_aload_n hx hb dL_law_197 rfl (lv_at hl 1 rfl) ?_
  have hPc := hP.sub (ws' := [(ou, .inr (7, [.long 0, .null])), (xo, .inr (6, [.ref al, .int 0, .int 0, .int 0, x4, x5, .ref b1, x7])), (al, .inr (4, [.int mc, .ref (zk 0), .int 0]))]) [0, 1, 2] rfl
  have hDc := hD.sub (ws' := [(ou, .inr (7, [.long 0, .null])), (xo, .inr (6, [.ref al, .int 0, .int 0, .int 0, x4, x5, .ref b1, x7])), (al, .inr (4, [.int mc, .ref (zk 0), .int 0]))]) [0, 1, 2] (by decide) rfl
  have hFc := va_free (wc := [(ou, .inr (7, [.long 0, .null])), (xo, .inr (6, [.ref al, .int 0, .int 0, .int 0, x4, x5, .ref b1, x7])), (al, .inr (4, [.int mc, .ref (zk 0), .int 0]))]) hD hS hA [0, 1, 2] rfl
  have hDv := hDc.self (sz := H.size)
  have hpre := zpre (xs' := []) (av := [.ref xo, .int 4, .int 1, .ref ou]) hPc hK (hDc.weaken (fun _ _ _ h => h)) hZ hS hFc (fun r hr => by cases hr)
  refine va_calli (vx_runSW (As := [.ref xo, .int 4, .int 1, .ref ou]) (rest := []) ⟨hx, hb, hml, hown, hts⟩ (k_mkH14 l dC dI cI cB cR cO zk ou (.long 0) .null xo al b1 (.int 0) (.int 0) (.int 0) x4 x5 x7 mc H.size ) (vx_cwSW 4 hts gL_law_L_make rfl rfl rfl (by decide +kernel) ⟨Nat.le_of_ble_eq_true rfl, Nat.le_of_ble_eq_true rfl⟩) ⟨zblind, hpre⟩ rfl rfl hl.1 rfl (lv_room (Nat.le_of_ble_eq_true rfl)) dL_law_198 ⟨Nat.le_of_ble_eq_true rfl, Nat.le_of_ble_eq_true rfl⟩) hS (fun q _ h => hFc q h) hFc (fun r6 u t H5 locs ht hvm hw hB hz1 hk1 hS => ?_)
  obtain rfl : 0 = r6 := (show r6 = 0 from hw).symm
  obtain ⟨hP1, hK1, hD1, hz2⟩ := hB
  rw [ht] at hP1 hz2
  have hPD9 := va_join (wr := [(mo, .inr (9, [.int 0, .ref am, .int 0, .int 0, .int 0])), (am, .inr (4, [.int mm, .ref (zk 0), .int 0]))]) (w1 := [(ou, .inr (7, [.long 0, .null])), (xo, .inr (6, [.ref al, .int 0, .int 0, .int 0, x4, x5, .ref b1, x7]))]) hP hD [0, 1, 2] [3, 4] rfl rfl (by decide) (by decide) hk1 hFc hP1 hD1
  clear hPc hDc hFc hDv hpre hP hD hP1 hK1 hD1
  obtain ⟨hP, hD⟩ := hPD9
  replace hz : s.heap.size + 0 ≤ H5.size := by omega
  clear hz2
  replace hP : va_P (dC, dI) vwCl [(mo, .inr (9, [.int 0, .ref am, .int 0, .int 0, .int 0])), (am, .inr (4, [.int mm, .ref (zk 0), .int 0])), (ou, .inr (7, [.long 0, .null])), (xo, .inr (6, [.ref al, .int 0, .int 0, .int 0, x4, x5, .ref b1, x7]))] H5 := hP
  replace hD : va_D A [(mo, .inr (9, [.int 0, .ref am, .int 0, .int 0, .int 0])), (am, .inr (4, [.int mm, .ref (zk 0), .int 0])), (ou, .inr (7, [.long 0, .null])), (xo, .inr (6, [.ref al, .int 0, .int 0, .int 0, x4, x5, .ref b1, x7]))] := hD
  refine W.widen (k := 22) (n := 98) (by omega) (by omega) ?_
  refine lv_istore (lv' := [(5, .int 0), (4, .int 0), (3, .ref ou), (2, .ref mo), (1, .ref xo), (0, .ref b)]) hx hb dL_law_201 hl (by decide) rfl (fun ls hl => ?_)
  refine lv_aload_n hx hb dL_law_203 rfl (lv_at hl 3 rfl) ?_
  refine lv_aload_n hx hb dL_law_204 rfl (lv_at hl 5 rfl) ?_
  refine lv_iload hx hb dL_law_205 (lv_at hl 1 rfl) ?_
  refine lv_iconst (v := 1) hx hb dL_law_207 (by decide) ?_
  refine lv_iadd hx hb dL_law_208 ?_
  refine lv_topi (fun v7 ev7 => ?_)
  obtain rfl : v7 = 1 := ev7.trans (by decide)
  refine va_sld hx hb hX hbl hbA hS (by unfold vp_in; decide) dL_law_209 ?_
  refine lv_topi (fun v8 ev8 => ?_)
  have e9 : v8 = 4 := ev8.trans (show xs ((1 : Int32).toNatClampNeg) = 4 from h1)
  clear ev8
  subst v8
  refine lv_aload_n hx hb dL_law_210 rfl (lv_at hl 5 rfl) ?_
  refine lv_iload hx hb dL_law_211 (lv_at hl 1 rfl) ?_
  refine lv_iconst (v := 2) hx hb dL_law_213 (by decide) ?_
  refine lv_iadd hx hb dL_law_214 ?_
  refine lv_topi (fun v9 ev9 => ?_)
  obtain rfl : v9 = 2 := ev9.trans (by decide)
  refine va_sld hx hb hX hbl hbA hS (by unfold vp_in; decide) dL_law_215 ?_
  refine lv_topi (fun v10 ev10 => ?_)
  have e9 : v10 = 1 := ev10.trans (show xs ((2 : Int32).toNatClampNeg) = 1 from h2)
  clear ev10
  subst v10
  have hPc := hP.sub (ws' := [(mo, .inr (9, [.int 0, .ref am, .int 0, .int 0, .int 0])), (am, .inr (4, [.int mm, .ref (zk 0), .int 0]))]) [0, 1] rfl
  have hDc := hD.sub (ws' := [(mo, .inr (9, [.int 0, .ref am, .int 0, .int 0, .int 0])), (am, .inr (4, [.int mm, .ref (zk 0), .int 0]))]) [0, 1] (by decide) rfl
  have hFc := va_free (wc := [(mo, .inr (9, [.int 0, .ref am, .int 0, .int 0, .int 0])), (am, .inr (4, [.int mm, .ref (zk 0), .int 0]))]) hD hS hA [0, 1] rfl
  have hDv := hDc.self (sz := H5.size)
  have hpre := zpre (xs' := []) (av := [.ref mo, .int 4, .int 1]) hPc hK (hDc.weaken (fun _ _ _ h => h)) hZ hS hFc (fun r hr => by cases hr)
  refine va_calli (va_runV (As := [.int 4, .int 1]) (rest := []) ⟨hx, hb, hml, hown, hts⟩ (k_mkM14 l dC dI cI cB cR cO zk mo am (.int 0) mm H5.size ) (cwV 2 hts gL_law_X4_make rfl rfl rfl (by decide +kernel) ⟨Nat.le_of_ble_eq_true rfl, Nat.le_of_ble_eq_true rfl⟩) ⟨zblind, (zrecv_9 hK hPc (q0 := 0) rfl), hpre⟩ rfl rfl hl.1 rfl (lv_room (Nat.le_of_ble_eq_true rfl)) dL_law_216 ⟨Nat.le_of_ble_eq_true rfl, Nat.le_of_ble_eq_true rfl⟩) hS (fun q _ h => hFc q h) hFc (fun r12 u t H11 locs ht hvm hw hB hz1 hk1 hS => ?_)
  obtain rfl : 0 = r12 := (show r12 = 0 from hw).symm
  obtain ⟨hP1, hK1, hD1, hz2⟩ := hB
  rw [ht] at hP1 hz2
  have hPD9 := va_join (wr := [(ou, .inr (7, [.long 0, .null])), (xo, .inr (6, [.ref al, .int 0, .int 0, .int 0, x4, x5, .ref b1, x7]))]) (w1 := [(mo, .inr (9, [.int 0, .ref am, .int 0, .int 0, .int 0]))]) hP hD [0, 1] [2, 3] rfl rfl (by decide) (by decide) hk1 hFc hP1 hD1
  clear hPc hDc hFc hDv hpre hP hD hP1 hK1 hD1
  obtain ⟨hP, hD⟩ := hPD9
  replace hz : s.heap.size + 4 ≤ H11.size := by omega
  clear hz2
  replace hP : va_P (dC, dI) vwCl [(ou, .inr (7, [.long 0, .null])), (xo, .inr (6, [.ref al, .int 0, .int 0, .int 0, x4, x5, .ref b1, x7])), (mo, .inr (9, [.int 0, .ref am, .int 0, .int 0, .int 0]))] H11 := hP
  replace hD : va_D A [(ou, .inr (7, [.long 0, .null])), (xo, .inr (6, [.ref al, .int 0, .int 0, .int 0, x4, x5, .ref b1, x7])), (mo, .inr (9, [.int 0, .ref am, .int 0, .int 0, .int 0]))] := hD
  refine W.widen (k := 26) (n := 113) (by omega) (by omega) ?_
  refine lv_istore (lv' := [(6, .int 0), (5, .int 0), (4, .int 0), (3, .ref ou), (2, .ref mo), (1, .ref xo), (0, .ref b)]) hx hb dL_law_219 hl (by decide) rfl (fun ls hl => ?_)
  refine lv_aload_n hx hb dL_law_221 rfl (lv_at hl 4 rfl) ?_
  have hPc := hP.sub (ws' := [(mo, .inr (9, [.int 0, .ref am, .int 0, .int 0, .int 0]))]) [2] rfl
  have hDc := hD.sub (ws' := [(mo, .inr (9, [.int 0, .ref am, .int 0, .int 0, .int 0]))]) [2] (by decide) rfl
  have hFc := va_free (wc := [(mo, .inr (9, [.int 0, .ref am, .int 0, .int 0, .int 0]))]) hD hS hA [2] rfl
  have hDv := hDc.self (sz := H11.size)
  have hpre := zpre (xs' := []) (av := [.ref mo]) hPc hK (hDc.weaken (fun _ _ _ h => h)) hZ hS hFc (fun r hr => by cases hr)
  refine va_calli (va_runV (As := []) (rest := []) ⟨hx, hb, hml, hown, hts⟩ (k_th0 l dC dI cI cB cR cO zk mo am H11.size ) (cwV 0 hts gL_law_X4_thrown rfl rfl rfl (by decide +kernel) ⟨Nat.le_of_ble_eq_true rfl, Nat.le_of_ble_eq_true rfl⟩) ⟨zblind, (zrecv_9 hK hPc (q0 := 0) rfl), hpre⟩ rfl rfl hl.1 rfl (lv_room (Nat.le_of_ble_eq_true rfl)) dL_law_222 ⟨Nat.le_of_ble_eq_true rfl, Nat.le_of_ble_eq_true rfl⟩) hS (fun q _ h => hFc q h) hFc (fun r14 u t H13 locs ht hvm hw hB hz1 hk1 hS => ?_)
  obtain rfl : 0 = r14 := (show r14 = 0 from hw).symm
  obtain ⟨hP1, hK1, hD1, hz2⟩ := hB
  rw [ht] at hP1 hz2
  have hPD9 := va_join (wr := [(ou, .inr (7, [.long 0, .null])), (xo, .inr (6, [.ref al, .int 0, .int 0, .int 0, x4, x5, .ref b1, x7]))]) (w1 := [(mo, .inr (9, [.int 0, .ref am, .int 0, .int 0, .int 0]))]) hP hD [2] [0, 1] rfl rfl (by decide) (by decide) hk1 hFc hP1 hD1
  clear hPc hDc hFc hDv hpre hP hD hP1 hK1 hD1
  obtain ⟨hP, hD⟩ := hPD9
  replace hz : s.heap.size + 4 ≤ H13.size := by omega
  clear hz2
  replace hP : va_P (dC, dI) vwCl [(ou, .inr (7, [.long 0, .null])), (xo, .inr (6, [.ref al, .int 0, .int 0, .int 0, x4, x5, .ref b1, x7])), (mo, .inr (9, [.int 0, .ref am, .int 0, .int 0, .int 0]))] H13 := hP
  replace hD : va_D A [(ou, .inr (7, [.long 0, .null])), (xo, .inr (6, [.ref al, .int 0, .int 0, .int 0, x4, x5, .ref b1, x7])), (mo, .inr (9, [.int 0, .ref am, .int 0, .int 0, .int 0]))] := hD
  refine W.widen (k := 26) (n := 113) (by omega) (by omega) ?_
  refine lv_iload hx hb dL_law_225 (lv_at hl 1 rfl) ?_
  refine lv_icmp_eq (tgt := 232) hx hb dL_law_227 (by decide) (fun c9 => ?_) (fun c9 => ?_)
  rotate_left
  · exact absurd (by decide) c9
  refine lv_iload hx hb dL_law_232 (lv_at hl 1 rfl) ?_
  refine lv_if_ne (tgt := 250) hx hb dL_law_234 (by decide) (fun c9 => ?_) (fun c9 => ?_)
  · exact absurd (by decide) c9
  refine lv_aload_n hx hb dL_law_237 rfl (lv_at hl 3 rfl) ?_
  refine va_getN (D := (dC, dI)) (ci := 7) (v := .long 0) (C := RX2) (T := TX2) (N := 2) hx hb hts inlX2 hown hK hP 0 rfl rfl 0 (by decide) (zn6 hZ) (fun _ h9 => h9) rfl dL_law_238 ?_
  refine lv_iload hx hb dL_law_241 (lv_at hl 0 rfl) ?_
  refine lv_i2l (v := 0) hx hb dL_law_243 (by decide) ?_
  refine W.lcmp hx hb dL_law_244 ?_
  refine lv_topi (fun v15 ev15 => ?_)
  obtain rfl : v15 = 0 := ev15.trans (by decide)
  refine lv_if_eq (tgt := 250) hx hb dL_law_245 (by decide) (fun c9 => ?_) (fun c9 => ?_)
  rotate_left
  · exact absurd (by decide) c9
  refine lv_goto (tgt := 2155) hx hb dL_law_250 (by decide) ?_
  rw [hAd] at hS
  exact zl_tail l dC dI cI cB cR cO zk b xs C1 hZ0 hK hS (Nat.le_of_ble_eq_true rfl) (Nat.le_of_ble_eq_true rfl) ls (lv_sub hl [6, 2] rfl)

set_option maxHeartbeats 4000000 in
set_option maxRecDepth 100000 in
theorem zl_a_make1s (l : Launch) (dC : Nat → ClassId) (dI : Nat → Nat → Nat) (cI cB cR cO : ClassId) (zk : Nat → Nat) {p : Program} {e : Env} {s : State} {mY : MethodId} {below : List Frame} {meth : Method} {c : Code} (b : Nat) (xs : Nat → Int32) (hfl : l.stackTraces = false) (C0 : zl_At p s mY meth c b 5 xs) (hZ0 : zR zk [] (fun q => s.heap.size ≤ q) s s.heap) (hK : va_K (dC, dI) vwCl (zT cI cB cR cO) s) (ou xo al b1 : Nat) (x4 x5 x7 : Value) (mc : Int32) (mo am : Nat) (mm : Int32)  (kd : Int32) (h1 : xs 1 = kd) (h2 : xs 2 = 1) (hk0 : ¬ kd < 0) (hk4 : kd ≤ 4) (hkd : ¬ kd = 4) (H : Heap) (locs : List Loc) (hP : va_P (dC, dI) vwCl [(ou, .inr (7, [.long 0, .null])), (xo, .inr (6, [.ref al, .int 0, .int 0, .int 0, x4, x5, .ref b1, x7])), (al, .inr (4, [.int mc, .ref (zk 0), .int 0])), (mo, .inr (9, [.int 0, .ref am, .int 0, .int 0, .int 0])), (am, .inr (4, [.int mm, .ref (zk 0), .int 0]))] H) (hD : va_D (fun q => s.heap.size ≤ q) [(ou, .inr (7, [.long 0, .null])), (xo, .inr (6, [.ref al, .int 0, .int 0, .int 0, x4, x5, .ref b1, x7])), (al, .inr (4, [.int mc, .ref (zk 0), .int 0])), (mo, .inr (9, [.int 0, .ref am, .int 0, .int 0, .int 0])), (am, .inr (4, [.int mm, .ref (zk 0), .int 0]))]) (hS : va_S (fun q => s.heap.size ≤ q) s.heap H locs) (ls : Array Slot) (hl : lv_has ls 7 [(4, .int 0), (3, .ref ou), (2, .ref mo), (1, .ref xo), (0, .ref b)]) : W p l e room_1 s mY #[Value.ref b] below meth c H locs 17 79 (lw_Z below #[Value.ref b] s) (F0 mY 184 ls []) := by
  have C1 := C0
  obtain ⟨hx, hb, hr, hml, hown, hts0, hX, hbl, hlocks, hNI⟩ := C0
  have hts := fun (w : Cond) (h : w ∈ wsL_law) => hts0 w (wsL_law_in w h)
  obtain ⟨A, hAd⟩ : ∃ A : Nat → Prop, A = fun q => s.heap.size ≤ q := ⟨_, rfl⟩
  have hA : ∀ q : Nat, s.heap.size ≤ q → A q := fun q h => by rw [hAd]; exact h
  have hAf : ∀ q : Nat, A q → s.heap.size ≤ q := fun q h => by rw [hAd] at h; exact h
  have hbA : ¬ A b := fun h => absurd (hAf b h) (Nat.not_le.mpr hbl)
  have hZ : zR zk [] A s s.heap := by rw [hAd]; exact hZ0
  rw [← hAd] at hD hS
  replace hP : va_P (dC, dI) vwCl [(ou, .inr (7, [.long 0, .null])), (xo, .inr (6, [.ref al, .int 0, .int 0, .int 0, x4, x5, .ref b1, x7])), (al, .inr (4, [.int mc, .ref (zk 0), .int 0])), (mo, .inr (9, [.int 0, .ref am, .int 0, .int 0, .int 0])), (am, .inr (4, [.int mm, .ref (zk 0), .int 0]))] H := hP
  replace hD : va_D A [(ou, .inr (7, [.long 0, .null])), (xo, .inr (6, [.ref al, .int 0, .int 0, .int 0, x4, x5, .ref b1, x7])), (al, .inr (4, [.int mc, .ref (zk 0), .int 0])), (mo, .inr (9, [.int 0, .ref am, .int 0, .int 0, .int 0])), (am, .inr (4, [.int mm, .ref (zk 0), .int 0]))] := hD
  have hz : s.heap.size + 0 ≤ H.size := hS.1
  refine lv_aload_n hx hb dL_law_184 rfl (lv_at hl 3 rfl) ?_
  refine lv_aload_n hx hb dL_law_185 rfl (lv_at hl 4 rfl) ?_
  refine lv_iload hx hb dL_law_186 (lv_at hl 0 rfl) ?_
  refine lv_iconst (v := 1) hx hb dL_law_188 (by decide) ?_
  refine lv_iadd hx hb dL_law_189 ?_
  refine lv_topi (fun v1 ev1 => ?_)
  obtain rfl : v1 = 1 := ev1.trans (by decide)
  refine va_sld hx hb hX hbl hbA hS (by unfold vp_in; decide) dL_law_190 ?_
  refine lv_topi (fun v2 ev2 => ?_)
  have e9 : v2 = kd := ev2.trans (show xs ((1 : Int32).toNatClampNeg) = kd from h1)
  clear ev2
  subst v2
  refine lv_aload_n hx hb dL_law_191 rfl (lv_at hl 4 rfl) ?_
  refine lv_iload hx hb dL_law_192 (lv_at hl 0 rfl) ?_
  refine lv_iconst (v := 2) hx hb dL_law_194 (by decide) ?_
  refine lv_iadd hx hb dL_law_195 ?_
  refine lv_topi (fun v3 ev3 => ?_)
  obtain rfl : v3 = 2 := ev3.trans (by decide)
  refine va_sld hx hb hX hbl hbA hS (by unfold vp_in; decide) dL_law_196 ?_
  refine lv_topi (fun v4 ev4 => ?_)
  have e9 : v4 = 1 := ev4.trans (show xs ((2 : Int32).toNatClampNeg) = 1 from h2)
  clear ev4
  subst v4
  refine lv_aload_n hx hb dL_law_197 rfl (lv_at hl 1 rfl) ?_
  have hPc := hP.sub (ws' := [(ou, .inr (7, [.long 0, .null])), (xo, .inr (6, [.ref al, .int 0, .int 0, .int 0, x4, x5, .ref b1, x7])), (al, .inr (4, [.int mc, .ref (zk 0), .int 0]))]) [0, 1, 2] rfl
  have hDc := hD.sub (ws' := [(ou, .inr (7, [.long 0, .null])), (xo, .inr (6, [.ref al, .int 0, .int 0, .int 0, x4, x5, .ref b1, x7])), (al, .inr (4, [.int mc, .ref (zk 0), .int 0]))]) [0, 1, 2] (by decide) rfl
  have hFc := va_free (wc := [(ou, .inr (7, [.long 0, .null])), (xo, .inr (6, [.ref al, .int 0, .int 0, .int 0, x4, x5, .ref b1, x7])), (al, .inr (4, [.int mc, .ref (zk 0), .int 0]))]) hD hS hA [0, 1, 2] rfl
  have hDv := hDc.self (sz := H.size)
  have hpre := zpre (xs' := []) (av := [.ref xo, .int kd, .int 1, .ref ou]) hPc hK (hDc.weaken (fun _ _ _ h => h)) hZ hS hFc (fun r hr => by cases hr)
  refine va_calli (vx_runSW (As := [.ref xo, .int kd, .int 1, .ref ou]) (rest := []) ⟨hx, hb, hml, hown, hts⟩ (k_mkH1s l dC dI cI cB cR cO zk ou (.long 0) .null xo al b1 (.int 0) (.int 0) (.int 0) x4 x5 x7 mc kd H.size hk0 hk4 hkd) (vx_cwSW 4 hts gL_law_L_make rfl rfl rfl (by decide +kernel) ⟨Nat.le_of_ble_eq_true rfl, Nat.le_of_ble_eq_true rfl⟩) ⟨zblind, hpre⟩ rfl rfl hl.1 rfl (lv_room (Nat.le_of_ble_eq_true rfl)) dL_law_198 ⟨Nat.le_of_ble_eq_true rfl, Nat.le_of_ble_eq_true rfl⟩) hS (fun q _ h => hFc q h) hFc (fun r6 u t H5 locs ht hvm hw hB hz1 hk1 hS => ?_)
  obtain rfl : 0 = r6 := (show r6 = 0 from hw).symm
  obtain ⟨hP1, hK1, hD1, hz2⟩ := hB
  rw [ht] at hP1 hz2
  have hPD9 := va_join (wr := [(mo, .inr (9, [.int 0, .ref am, .int 0, .int 0, .int 0])), (am, .inr (4, [.int mm, .ref (zk 0), .int 0]))]) (w1 := [(ou, .inr (7, [.long 0, .null])), (xo, .inr (6, [.ref al, .int 0, .int 0, .int 0, x4, x5, .ref b1, x7]))]) hP hD [0, 1, 2] [3, 4] rfl rfl (by decide) (by decide) hk1 hFc hP1 hD1
  clear hPc hDc hFc hDv hpre hP hD hP1 hK1 hD1
  obtain ⟨hP, hD⟩ := hPD9
  replace hz : s.heap.size + 0 ≤ H5.size := by omega
  clear hz2
  replace hP : va_P (dC, dI) vwCl [(mo, .inr (9, [.int 0, .ref am, .int 0, .int 0, .int 0])), (am, .inr (4, [.int mm, .ref (zk 0), .int 0])), (ou, .inr (7, [.long 0, .null])), (xo, .inr (6, [.ref al, .int 0, .int 0, .int 0, x4, x5, .ref b1, x7]))] H5 := hP
  replace hD : va_D A [(mo, .inr (9, [.int 0, .ref am, .int 0, .int 0, .int 0])), (am, .inr (4, [.int mm, .ref (zk 0), .int 0])), (ou, .inr (7, [.long 0, .null])), (xo, .inr (6, [.ref al, .int 0, .int 0, .int 0, x4, x5, .ref b1, x7]))] := hD
  refine W.widen (k := 22) (n := 98) (by omega) (by omega) ?_
  refine lv_istore (lv' := [(5, .int 0), (4, .int 0), (3, .ref ou), (2, .ref mo), (1, .ref xo), (0, .ref b)]) hx hb dL_law_201 hl (by decide) rfl (fun ls hl => ?_)
  refine lv_aload_n hx hb dL_law_203 rfl (lv_at hl 3 rfl) ?_
  refine lv_aload_n hx hb dL_law_204 rfl (lv_at hl 5 rfl) ?_
  refine lv_iload hx hb dL_law_205 (lv_at hl 1 rfl) ?_
  refine lv_iconst (v := 1) hx hb dL_law_207 (by decide) ?_
  refine lv_iadd hx hb dL_law_208 ?_
  refine lv_topi (fun v7 ev7 => ?_)
  obtain rfl : v7 = 1 := ev7.trans (by decide)
  refine va_sld hx hb hX hbl hbA hS (by unfold vp_in; decide) dL_law_209 ?_
  refine lv_topi (fun v8 ev8 => ?_)
  have e9 : v8 = kd := ev8.trans (show xs ((1 : Int32).toNatClampNeg) = kd from h1)
  clear ev8
  subst v8
  refine lv_aload_n hx hb dL_law_210 rfl (lv_at hl 5 rfl) ?_
  refine lv_iload hx hb dL_law_211 (lv_at hl 1 rfl) ?_
  refine lv_iconst (v := 2) hx hb dL_law_213 (by decide) ?_
  refine lv_iadd hx hb dL_law_214 ?_
  refine lv_topi (fun v9 ev9 => ?_)
  obtain rfl : v9 = 2 := ev9.trans (by decide)
  refine va_sld hx hb hX hbl hbA hS (by unfold vp_in; decide) dL_law_215 ?_
  refine lv_topi (fun v10 ev10 => ?_)
  have e9 : v10 = 1 := ev10.trans (show xs ((2 : Int32).toNatClampNeg) = 1 from h2)
  clear ev10
  subst v10
  have hPc := hP.sub (ws' := [(mo, .inr (9, [.int 0, .ref am, .int 0, .int 0, .int 0])), (am, .inr (4, [.int mm, .ref (zk 0), .int 0]))]) [0, 1] rfl
  have hDc := hD.sub (ws' := [(mo, .inr (9, [.int 0, .ref am, .int 0, .int 0, .int 0])), (am, .inr (4, [.int mm, .ref (zk 0), .int 0]))]) [0, 1] (by decide) rfl
  have hFc := va_free (wc := [(mo, .inr (9, [.int 0, .ref am, .int 0, .int 0, .int 0])), (am, .inr (4, [.int mm, .ref (zk 0), .int 0]))]) hD hS hA [0, 1] rfl
  have hDv := hDc.self (sz := H5.size)
  have hpre := zpre (xs' := []) (av := [.ref mo, .int kd, .int 1]) hPc hK (hDc.weaken (fun _ _ _ h => h)) hZ hS hFc (fun r hr => by cases hr)
  refine va_calli (va_runV (As := [.int kd, .int 1]) (rest := []) ⟨hx, hb, hml, hown, hts⟩ (k_mkM1s l dC dI cI cB cR cO zk mo am (.int 0) mm kd H5.size hk0 hk4 hkd) (cwV 2 hts gL_law_X4_make rfl rfl rfl (by decide +kernel) ⟨Nat.le_of_ble_eq_true rfl, Nat.le_of_ble_eq_true rfl⟩) ⟨zblind, (zrecv_9 hK hPc (q0 := 0) rfl), hpre⟩ rfl rfl hl.1 rfl (lv_room (Nat.le_of_ble_eq_true rfl)) dL_law_216 ⟨Nat.le_of_ble_eq_true rfl, Nat.le_of_ble_eq_true rfl⟩) hS (fun q _ h => hFc q h) hFc (fun r12 u t H11 locs ht hvm hw hB hz1 hk1 hS => ?_)
  obtain rfl : 0 = r12 := (show r12 = 0 from hw).symm
  obtain ⟨hP1, hK1, hD1, hz2⟩ := hB
  rw [ht] at hP1 hz2
  have hPD9 := va_join (wr := [(ou, .inr (7, [.long 0, .null])), (xo, .inr (6, [.ref al, .int 0, .int 0, .int 0, x4, x5, .ref b1, x7]))]) (w1 := [(mo, .inr (9, [.int 0, .ref am, .int 0, .int 0, .int 0]))]) hP hD [0, 1] [2, 3] rfl rfl (by decide) (by decide) hk1 hFc hP1 hD1
  clear hPc hDc hFc hDv hpre hP hD hP1 hK1 hD1
  obtain ⟨hP, hD⟩ := hPD9
  replace hz : s.heap.size + 4 ≤ H11.size := by omega
  clear hz2
  replace hP : va_P (dC, dI) vwCl [(ou, .inr (7, [.long 0, .null])), (xo, .inr (6, [.ref al, .int 0, .int 0, .int 0, x4, x5, .ref b1, x7])), (mo, .inr (9, [.int 0, .ref am, .int 0, .int 0, .int 0]))] H11 := hP
  replace hD : va_D A [(ou, .inr (7, [.long 0, .null])), (xo, .inr (6, [.ref al, .int 0, .int 0, .int 0, x4, x5, .ref b1, x7])), (mo, .inr (9, [.int 0, .ref am, .int 0, .int 0, .int 0]))] := hD
  refine W.widen (k := 26) (n := 113) (by omega) (by omega) ?_
  refine lv_istore (lv' := [(6, .int 0), (5, .int 0), (4, .int 0), (3, .ref ou), (2, .ref mo), (1, .ref xo), (0, .ref b)]) hx hb dL_law_219 hl (by decide) rfl (fun ls hl => ?_)
  refine lv_aload_n hx hb dL_law_221 rfl (lv_at hl 4 rfl) ?_
  have hPc := hP.sub (ws' := [(mo, .inr (9, [.int 0, .ref am, .int 0, .int 0, .int 0]))]) [2] rfl
  have hDc := hD.sub (ws' := [(mo, .inr (9, [.int 0, .ref am, .int 0, .int 0, .int 0]))]) [2] (by decide) rfl
  have hFc := va_free (wc := [(mo, .inr (9, [.int 0, .ref am, .int 0, .int 0, .int 0]))]) hD hS hA [2] rfl
  have hDv := hDc.self (sz := H11.size)
  have hpre := zpre (xs' := []) (av := [.ref mo]) hPc hK (hDc.weaken (fun _ _ _ h => h)) hZ hS hFc (fun r hr => by cases hr)
  refine va_calli (va_runV (As := []) (rest := []) ⟨hx, hb, hml, hown, hts⟩ (k_th0 l dC dI cI cB cR cO zk mo am H11.size ) (cwV 0 hts gL_law_X4_thrown rfl rfl rfl (by decide +kernel) ⟨Nat.le_of_ble_eq_true rfl, Nat.le_of_ble_eq_true rfl⟩) ⟨zblind, (zrecv_9 hK hPc (q0 := 0) rfl), hpre⟩ rfl rfl hl.1 rfl (lv_room (Nat.le_of_ble_eq_true rfl)) dL_law_222 ⟨Nat.le_of_ble_eq_true rfl, Nat.le_of_ble_eq_true rfl⟩) hS (fun q _ h => hFc q h) hFc (fun r14 u t H13 locs ht hvm hw hB hz1 hk1 hS => ?_)
  obtain rfl : 0 = r14 := (show r14 = 0 from hw).symm
  obtain ⟨hP1, hK1, hD1, hz2⟩ := hB
  rw [ht] at hP1 hz2
  have hPD9 := va_join (wr := [(ou, .inr (7, [.long 0, .null])), (xo, .inr (6, [.ref al, .int 0, .int 0, .int 0, x4, x5, .ref b1, x7]))]) (w1 := [(mo, .inr (9, [.int 0, .ref am, .int 0, .int 0, .int 0]))]) hP hD [2] [0, 1] rfl rfl (by decide) (by decide) hk1 hFc hP1 hD1
  clear hPc hDc hFc hDv hpre hP hD hP1 hK1 hD1
  obtain ⟨hP, hD⟩ := hPD9
  replace hz : s.heap.size + 4 ≤ H13.size := by omega
  clear hz2
  replace hP : va_P (dC, dI) vwCl [(ou, .inr (7, [.long 0, .null])), (xo, .inr (6, [.ref al, .int 0, .int 0, .int 0, x4, x5, .ref b1, x7])), (mo, .inr (9, [.int 0, .ref am, .int 0, .int 0, .int 0]))] H13 := hP
  replace hD : va_D A [(ou, .inr (7, [.long 0, .null])), (xo, .inr (6, [.ref al, .int 0, .int 0, .int 0, x4, x5, .ref b1, x7])), (mo, .inr (9, [.int 0, .ref am, .int 0, .int 0, .int 0]))] := hD
  refine W.widen (k := 26) (n := 113) (by omega) (by omega) ?_
  refine lv_iload hx hb dL_law_225 (lv_at hl 1 rfl) ?_
  refine lv_icmp_eq (tgt := 232) hx hb dL_law_227 (by decide) (fun c9 => ?_) (fun c9 => ?_)
  rotate_left
  · exact absurd (by decide) c9
  refine lv_iload hx hb dL_law_232 (lv_at hl 1 rfl) ?_
  refine lv_if_ne (tgt := 250) hx hb dL_law_234 (by decide) (fun c9 => ?_) (fun c9 => ?_)
  · exact absurd (by decide) c9
  refine lv_aload_n hx hb dL_law_237 rfl (lv_at hl 3 rfl) ?_
  refine va_getN (D := (dC, dI)) (ci := 7) (v := .long 0) (C := RX2) (T := TX2) (N := 2) hx hb hts inlX2 hown hK hP 0 rfl rfl 0 (by decide) (zn6 hZ) (fun _ h9 => h9) rfl dL_law_238 ?_
  refine lv_iload hx hb dL_law_241 (lv_at hl 0 rfl) ?_
  refine lv_i2l (v := 0) hx hb dL_law_243 (by decide) ?_
  refine W.lcmp hx hb dL_law_244 ?_
  refine lv_topi (fun v15 ev15 => ?_)
  obtain rfl : v15 = 0 := ev15.trans (by decide)
  refine lv_if_eq (tgt := 250) hx hb dL_law_245 (by decide) (fun c9 => ?_) (fun c9 => ?_)
  rotate_left
  · exact absurd (by decide) c9
  refine lv_goto (tgt := 2155) hx hb dL_law_250 (by decide) ?_
  rw [hAd] at hS
  exact zl_tail l dC dI cI cB cR cO zk b xs C1 hZ0 hK hS (Nat.le_of_ble_eq_true rfl) (Nat.le_of_ble_eq_true rfl) ls (lv_sub hl [6, 2] rfl)

set_option maxHeartbeats 4000000 in
set_option maxRecDepth 100000 in
theorem zl_a_make24 (l : Launch) (dC : Nat → ClassId) (dI : Nat → Nat → Nat) (cI cB cR cO : ClassId) (zk : Nat → Nat) {p : Program} {e : Env} {s : State} {mY : MethodId} {below : List Frame} {meth : Method} {c : Code} (b : Nat) (xs : Nat → Int32) (hfl : l.stackTraces = false) (C0 : zl_At p s mY meth c b 5 xs) (hZ0 : zR zk [] (fun q => s.heap.size ≤ q) s s.heap) (hK : va_K (dC, dI) vwCl (zT cI cB cR cO) s) (ou xo al b1 : Nat) (x4 x5 x7 : Value) (mc : Int32) (mo am : Nat) (mm : Int32)  (h1 : xs 1 = 4) (h2 : xs 2 = 2)  (H : Heap) (locs : List Loc) (hP : va_P (dC, dI) vwCl [(ou, .inr (7, [.long 0, .null])), (xo, .inr (6, [.ref al, .int 0, .int 0, .int 0, x4, x5, .ref b1, x7])), (al, .inr (4, [.int mc, .ref (zk 0), .int 0])), (mo, .inr (9, [.int 0, .ref am, .int 0, .int 0, .int 0])), (am, .inr (4, [.int mm, .ref (zk 0), .int 0]))] H) (hD : va_D (fun q => s.heap.size ≤ q) [(ou, .inr (7, [.long 0, .null])), (xo, .inr (6, [.ref al, .int 0, .int 0, .int 0, x4, x5, .ref b1, x7])), (al, .inr (4, [.int mc, .ref (zk 0), .int 0])), (mo, .inr (9, [.int 0, .ref am, .int 0, .int 0, .int 0])), (am, .inr (4, [.int mm, .ref (zk 0), .int 0]))]) (hS : va_S (fun q => s.heap.size ≤ q) s.heap H locs) (ls : Array Slot) (hl : lv_has ls 7 [(4, .int 0), (3, .ref ou), (2, .ref mo), (1, .ref xo), (0, .ref b)]) : W p l e room_1 s mY #[Value.ref b] below meth c H locs 17 79 (lw_Z below #[Value.ref b] s) (F0 mY 184 ls []) := by
  have C1 := C0
  obtain ⟨hx, hb, hr, hml, hown, hts0, hX, hbl, hlocks, hNI⟩ := C0
  have hts := fun (w : Cond) (h : w ∈ wsL_law) => hts0 w (wsL_law_in w h)
  obtain ⟨A, hAd⟩ : ∃ A : Nat → Prop, A = fun q => s.heap.size ≤ q := ⟨_, rfl⟩
  have hA : ∀ q : Nat, s.heap.size ≤ q → A q := fun q h => by rw [hAd]; exact h
  have hAf : ∀ q : Nat, A q → s.heap.size ≤ q := fun q h => by rw [hAd] at h; exact h
  have hbA : ¬ A b := fun h => absurd (hAf b h) (Nat.not_le.mpr hbl)
  have hZ : zR zk [] A s s.heap := by rw [hAd]; exact hZ0
  rw [← hAd] at hD hS
  replace hP : va_P (dC, dI) vwCl [(ou, .inr (7, [.long 0, .null])), (xo, .inr (6, [.ref al, .int 0, .int 0, .int 0, x4, x5, .ref b1, x7])), (al, .inr (4, [.int mc, .ref (zk 0), .int 0])), (mo, .inr (9, [.int 0, .ref am, .int 0, .int 0, .int 0])), (am, .inr (4, [.int mm, .ref (zk 0), .int 0]))] H := hP
  replace hD : va_D A [(ou, .inr (7, [.long 0, .null])), (xo, .inr (6, [.ref al, .int 0, .int 0, .int 0, x4, x5, .ref b1, x7])), (al, .inr (4, [.int mc, .ref (zk 0), .int 0])), (mo, .inr (9, [.int 0, .ref am, .int 0, .int 0, .int 0])), (am, .inr (4, [.int mm, .ref (zk 0), .int 0]))] := hD
  have hz : s.heap.size + 0 ≤ H.size := hS.1
  refine lv_aload_n hx hb dL_law_184 rfl (lv_at hl 3 rfl) ?_
  refine lv_aload_n hx hb dL_law_185 rfl (lv_at hl 4 rfl) ?_
  refine lv_iload hx hb dL_law_186 (lv_at hl 0 rfl) ?_
  refine lv_iconst (v := 1) hx hb dL_law_188 (by decide) ?_
  refine lv_iadd hx hb dL_law_189 ?_
  refine lv_topi (fun v1 ev1 => ?_)
  obtain rfl : v1 = 1 := ev1.trans (by decide)
  refine va_sld hx hb hX hbl hbA hS (by unfold vp_in; decide) dL_law_190 ?_
  refine lv_topi (fun v2 ev2 => ?_)
  have e9 : v2 = 4 := ev2.trans (show xs ((1 : Int32).toNatClampNeg) = 4 from h1)
  clear ev2
  subst v2
  refine lv_aload_n hx hb dL_law_191 rfl (lv_at hl 4 rfl) ?_
  refine lv_iload hx hb dL_law_192 (lv_at hl 0 rfl) ?_
  refine lv_iconst (v := 2) hx hb dL_law_194 (by decide) ?_
  refine lv_iadd hx hb dL_law_195 ?_
  refine lv_topi (fun v3 ev3 => ?_)
  obtain rfl : v3 = 2 := ev3.trans (by decide)
  refine va_sld hx hb hX hbl hbA hS (by unfold vp_in; decide) dL_law_196 ?_
  refine lv_topi (fun v4 ev4 => ?_)
  have e9 : v4 = 2 := ev4.trans (show xs ((2 : Int32).toNatClampNeg) = 2 from h2)
  clear ev4
  subst v4
  refine lv_aload_n hx hb dL_law_197 rfl (lv_at hl 1 rfl) ?_
  have hPc := hP.sub (ws' := [(ou, .inr (7, [.long 0, .null])), (xo, .inr (6, [.ref al, .int 0, .int 0, .int 0, x4, x5, .ref b1, x7])), (al, .inr (4, [.int mc, .ref (zk 0), .int 0]))]) [0, 1, 2] rfl
  have hDc := hD.sub (ws' := [(ou, .inr (7, [.long 0, .null])), (xo, .inr (6, [.ref al, .int 0, .int 0, .int 0, x4, x5, .ref b1, x7])), (al, .inr (4, [.int mc, .ref (zk 0), .int 0]))]) [0, 1, 2] (by decide) rfl
  have hFc := va_free (wc := [(ou, .inr (7, [.long 0, .null])), (xo, .inr (6, [.ref al, .int 0, .int 0, .int 0, x4, x5, .ref b1, x7])), (al, .inr (4, [.int mc, .ref (zk 0), .int 0]))]) hD hS hA [0, 1, 2] rfl
  have hDv := hDc.self (sz := H.size)
  have hpre := zpre (xs' := []) (av := [.ref xo, .int 4, .int 2, .ref ou]) hPc hK (hDc.weaken (fun _ _ _ h => h)) hZ hS hFc (fun r hr => by cases hr)
  refine va_calli (vx_runSW (As := [.ref xo, .int 4, .int 2, .ref ou]) (rest := []) ⟨hx, hb, hml, hown, hts⟩ (k_mkH24 l dC dI cI cB cR cO zk ou (.long 0) .null xo al b1 (.int 0) (.int 0) (.int 0) x4 x5 x7 mc H.size ) (vx_cwSW 4 hts gL_law_L_make rfl rfl rfl (by decide +kernel) ⟨Nat.le_of_ble_eq_true rfl, Nat.le_of_ble_eq_true rfl⟩) ⟨zblind, hpre⟩ rfl rfl hl.1 rfl (lv_room (Nat.le_of_ble_eq_true rfl)) dL_law_198 ⟨Nat.le_of_ble_eq_true rfl, Nat.le_of_ble_eq_true rfl⟩) hS (fun q _ h => hFc q h) hFc (fun r6 u t H5 locs ht hvm hw hB hz1 hk1 hS => ?_)
  obtain rfl : 0 = r6 := (show r6 = 0 from hw).symm
  obtain ⟨hP1, hK1, hD1, hz2⟩ := hB
  rw [ht] at hP1 hz2
  have hPD9 := va_join (wr := [(mo, .inr (9, [.int 0, .ref am, .int 0, .int 0, .int 0])), (am, .inr (4, [.int mm, .ref (zk 0), .int 0]))]) (w1 := [(ou, .inr (7, [.long 0, .null])), (xo, .inr (6, [.ref al, .int 0, .int 0, .int 0, x4, x5, .ref b1, x7]))]) hP hD [0, 1, 2] [3, 4] rfl rfl (by decide) (by decide) hk1 hFc hP1 hD1
  clear hPc hDc hFc hDv hpre hP hD hP1 hK1 hD1
  obtain ⟨hP, hD⟩ := hPD9
  replace hz : s.heap.size + 0 ≤ H5.size := by omega
  clear hz2
  replace hP : va_P (dC, dI) vwCl [(mo, .inr (9, [.int 0, .ref am, .int 0, .int 0, .int 0])), (am, .inr (4, [.int mm, .ref (zk 0), .int 0])), (ou, .inr (7, [.long 0, .null])), (xo, .inr (6, [.ref al, .int 0, .int 0, .int 0, x4, x5, .ref b1, x7]))] H5 := hP
  replace hD : va_D A [(mo, .inr (9, [.int 0, .ref am, .int 0, .int 0, .int 0])), (am, .inr (4, [.int mm, .ref (zk 0), .int 0])), (ou, .inr (7, [.long 0, .null])), (xo, .inr (6, [.ref al, .int 0, .int 0, .int 0, x4, x5, .ref b1, x7]))] := hD
  refine W.widen (k := 22) (n := 101) (by omega) (by omega) ?_
  refine lv_istore (lv' := [(5, .int 0), (4, .int 0), (3, .ref ou), (2, .ref mo), (1, .ref xo), (0, .ref b)]) hx hb dL_law_201 hl (by decide) rfl (fun ls hl => ?_)
  refine lv_aload_n hx hb dL_law_203 rfl (lv_at hl 3 rfl) ?_
  refine lv_aload_n hx hb dL_law_204 rfl (lv_at hl 5 rfl) ?_
  refine lv_iload hx hb dL_law_205 (lv_at hl 1 rfl) ?_
  refine lv_iconst (v := 1) hx hb dL_law_207 (by decide) ?_
  refine lv_iadd hx hb dL_law_208 ?_
  refine lv_topi (fun v7 ev7 => ?_)
  obtain rfl : v7 = 1 := ev7.trans (by decide)
  refine va_sld hx hb hX hbl hbA hS (by unfold vp_in; decide) dL_law_209 ?_
  refine lv_topi (fun v8 ev8 => ?_)
  have e9 : v8 = 4 := ev8.trans (show xs ((1 : Int32).toNatClampNeg) = 4 from h1)
  clear ev8
  subst v8
  refine lv_aload_n hx hb dL_law_210 rfl (lv_at hl 5 rfl) ?_
  refine lv_iload hx hb dL_law_211 (lv_at hl 1 rfl) ?_
  refine lv_iconst (v := 2) hx hb dL_law_213 (by decide) ?_
  refine lv_iadd hx hb dL_law_214 ?_
  refine lv_topi (fun v9 ev9 => ?_)
  obtain rfl : v9 = 2 := ev9.trans (by decide)
  refine va_sld hx hb hX hbl hbA hS (by unfold vp_in; decide) dL_law_215 ?_
  refine lv_topi (fun v10 ev10 => ?_)
  have e9 : v10 = 2 := ev10.trans (show xs ((2 : Int32).toNatClampNeg) = 2 from h2)
  clear ev10
  subst v10
  have hPc := hP.sub (ws' := [(mo, .inr (9, [.int 0, .ref am, .int 0, .int 0, .int 0])), (am, .inr (4, [.int mm, .ref (zk 0), .int 0]))]) [0, 1] rfl
  have hDc := hD.sub (ws' := [(mo, .inr (9, [.int 0, .ref am, .int 0, .int 0, .int 0])), (am, .inr (4, [.int mm, .ref (zk 0), .int 0]))]) [0, 1] (by decide) rfl
  have hFc := va_free (wc := [(mo, .inr (9, [.int 0, .ref am, .int 0, .int 0, .int 0])), (am, .inr (4, [.int mm, .ref (zk 0), .int 0]))]) hD hS hA [0, 1] rfl
  have hDv := hDc.self (sz := H5.size)
  have hpre := zpre (xs' := []) (av := [.ref mo, .int 4, .int 2]) hPc hK (hDc.weaken (fun _ _ _ h => h)) hZ hS hFc (fun r hr => by cases hr)
  refine va_calli (va_runV (As := [.int 4, .int 2]) (rest := []) ⟨hx, hb, hml, hown, hts⟩ (k_mkM24 l dC dI cI cB cR cO zk mo am (.int 0) mm H5.size ) (cwV 2 hts gL_law_X4_make rfl rfl rfl (by decide +kernel) ⟨Nat.le_of_ble_eq_true rfl, Nat.le_of_ble_eq_true rfl⟩) ⟨zblind, (zrecv_9 hK hPc (q0 := 0) rfl), hpre⟩ rfl rfl hl.1 rfl (lv_room (Nat.le_of_ble_eq_true rfl)) dL_law_216 ⟨Nat.le_of_ble_eq_true rfl, Nat.le_of_ble_eq_true rfl⟩) hS (fun q _ h => hFc q h) hFc (fun r12 u t H11 locs ht hvm hw hB hz1 hk1 hS => ?_)
  obtain rfl : 0 = r12 := (show r12 = 0 from hw).symm
  obtain ⟨hP1, hK1, hD1, hz2⟩ := hB
  rw [ht] at hP1 hz2
  have hPD9 := va_join (wr := [(ou, .inr (7, [.long 0, .null])), (xo, .inr (6, [.ref al, .int 0, .int 0, .int 0, x4, x5, .ref b1, x7]))]) (w1 := [(mo, .inr (9, [.int 0, .ref am, .int 0, .int 0, .int 0]))]) hP hD [0, 1] [2, 3] rfl rfl (by decide) (by decide) hk1 hFc hP1 hD1
  clear hPc hDc hFc hDv hpre hP hD hP1 hK1 hD1
  obtain ⟨hP, hD⟩ := hPD9
  replace hz : s.heap.size + 4 ≤ H11.size := by omega
  clear hz2
  replace hP : va_P (dC, dI) vwCl [(ou, .inr (7, [.long 0, .null])), (xo, .inr (6, [.ref al, .int 0, .int 0, .int 0, x4, x5, .ref b1, x7])), (mo, .inr (9, [.int 0, .ref am, .int 0, .int 0, .int 0]))] H11 := hP
  replace hD : va_D A [(ou, .inr (7, [.long 0, .null])), (xo, .inr (6, [.ref al, .int 0, .int 0, .int 0, x4, x5, .ref b1, x7])), (mo, .inr (9, [.int 0, .ref am, .int 0, .int 0, .int 0]))] := hD
  refine W.widen (k := 26) (n := 118) (by omega) (by omega) ?_
  refine lv_istore (lv' := [(6, .int 0), (5, .int 0), (4, .int 0), (3, .ref ou), (2, .ref mo), (1, .ref xo), (0, .ref b)]) hx hb dL_law_219 hl (by decide) rfl (fun ls hl => ?_)
  refine lv_aload_n hx hb dL_law_221 rfl (lv_at hl 4 rfl) ?_
  have hPc := hP.sub (ws' := [(mo, .inr (9, [.int 0, .ref am, .int 0, .int 0, .int 0]))]) [2] rfl
  have hDc := hD.sub (ws' := [(mo, .inr (9, [.int 0, .ref am, .int 0, .int 0, .int 0]))]) [2] (by decide) rfl
  have hFc := va_free (wc := [(mo, .inr (9, [.int 0, .ref am, .int 0, .int 0, .int 0]))]) hD hS hA [2] rfl
  have hDv := hDc.self (sz := H11.size)
  have hpre := zpre (xs' := []) (av := [.ref mo]) hPc hK (hDc.weaken (fun _ _ _ h => h)) hZ hS hFc (fun r hr => by cases hr)
  refine va_calli (va_runV (As := []) (rest := []) ⟨hx, hb, hml, hown, hts⟩ (k_th0 l dC dI cI cB cR cO zk mo am H11.size ) (cwV 0 hts gL_law_X4_thrown rfl rfl rfl (by decide +kernel) ⟨Nat.le_of_ble_eq_true rfl, Nat.le_of_ble_eq_true rfl⟩) ⟨zblind, (zrecv_9 hK hPc (q0 := 0) rfl), hpre⟩ rfl rfl hl.1 rfl (lv_room (Nat.le_of_ble_eq_true rfl)) dL_law_222 ⟨Nat.le_of_ble_eq_true rfl, Nat.le_of_ble_eq_true rfl⟩) hS (fun q _ h => hFc q h) hFc (fun r14 u t H13 locs ht hvm hw hB hz1 hk1 hS => ?_)
  obtain rfl : 0 = r14 := (show r14 = 0 from hw).symm
  obtain ⟨hP1, hK1, hD1, hz2⟩ := hB
  rw [ht] at hP1 hz2
  have hPD9 := va_join (wr := [(ou, .inr (7, [.long 0, .null])), (xo, .inr (6, [.ref al, .int 0, .int 0, .int 0, x4, x5, .ref b1, x7]))]) (w1 := [(mo, .inr (9, [.int 0, .ref am, .int 0, .int 0, .int 0]))]) hP hD [2] [0, 1] rfl rfl (by decide) (by decide) hk1 hFc hP1 hD1
  clear hPc hDc hFc hDv hpre hP hD hP1 hK1 hD1
  obtain ⟨hP, hD⟩ := hPD9
  replace hz : s.heap.size + 4 ≤ H13.size := by omega
  clear hz2
  replace hP : va_P (dC, dI) vwCl [(ou, .inr (7, [.long 0, .null])), (xo, .inr (6, [.ref al, .int 0, .int 0, .int 0, x4, x5, .ref b1, x7])), (mo, .inr (9, [.int 0, .ref am, .int 0, .int 0, .int 0]))] H13 := hP
  replace hD : va_D A [(ou, .inr (7, [.long 0, .null])), (xo, .inr (6, [.ref al, .int 0, .int 0, .int 0, x4, x5, .ref b1, x7])), (mo, .inr (9, [.int 0, .ref am, .int 0, .int 0, .int 0]))] := hD
  refine W.widen (k := 26) (n := 118) (by omega) (by omega) ?_
  refine lv_iload hx hb dL_law_225 (lv_at hl 1 rfl) ?_
  refine lv_icmp_eq (tgt := 232) hx hb dL_law_227 (by decide) (fun c9 => ?_) (fun c9 => ?_)
  rotate_left
  · exact absurd (by decide) c9
  refine lv_iload hx hb dL_law_232 (lv_at hl 1 rfl) ?_
  refine lv_if_ne (tgt := 250) hx hb dL_law_234 (by decide) (fun c9 => ?_) (fun c9 => ?_)
  · exact absurd (by decide) c9
  refine lv_aload_n hx hb dL_law_237 rfl (lv_at hl 3 rfl) ?_
  refine va_getN (D := (dC, dI)) (ci := 7) (v := .long 0) (C := RX2) (T := TX2) (N := 2) hx hb hts inlX2 hown hK hP 0 rfl rfl 0 (by decide) (zn6 hZ) (fun _ h9 => h9) rfl dL_law_238 ?_
  refine lv_iload hx hb dL_law_241 (lv_at hl 0 rfl) ?_
  refine lv_i2l (v := 0) hx hb dL_law_243 (by decide) ?_
  refine W.lcmp hx hb dL_law_244 ?_
  refine lv_topi (fun v15 ev15 => ?_)
  obtain rfl : v15 = 0 := ev15.trans (by decide)
  refine lv_if_eq (tgt := 250) hx hb dL_law_245 (by decide) (fun c9 => ?_) (fun c9 => ?_)
  rotate_left
  · exact absurd (by decide) c9
  refine lv_goto (tgt := 2155) hx hb dL_law_250 (by decide) ?_
  rw [hAd] at hS
  exact zl_tail l dC dI cI cB cR cO zk b xs C1 hZ0 hK hS (Nat.le_of_ble_eq_true rfl) (Nat.le_of_ble_eq_true rfl) ls (lv_sub hl [6, 2] rfl)

set_option maxHeartbeats 4000000 in
set_option maxRecDepth 100000 in
theorem zl_a_make2s (l : Launch) (dC : Nat → ClassId) (dI : Nat → Nat → Nat) (cI cB cR cO : ClassId) (zk : Nat → Nat) {p : Program} {e : Env} {s : State} {mY : MethodId} {below : List Frame} {meth : Method} {c : Code} (b : Nat) (xs : Nat → Int32) (hfl : l.stackTraces = false) (C0 : zl_At p s mY meth c b 5 xs) (hZ0 : zR zk [] (fun q => s.heap.size ≤ q) s s.heap) (hK : va_K (dC, dI) vwCl (zT cI cB cR cO) s) (ou xo al b1 : Nat) (x4 x5 x7 : Value) (mc : Int32) (mo am : Nat) (mm : Int32)  (kd : Int32) (h1 : xs 1 = kd) (h2 : xs 2 = 2) (hk0 : ¬ kd < 0) (hk4 : kd ≤ 4) (hkd : ¬ kd = 4) (H : Heap) (locs : List Loc) (hP : va_P (dC, dI) vwCl [(ou, .inr (7, [.long 0, .null])), (xo, .inr (6, [.ref al, .int 0, .int 0, .int 0, x4, x5, .ref b1, x7])), (al, .inr (4, [.int mc, .ref (zk 0), .int 0])), (mo, .inr (9, [.int 0, .ref am, .int 0, .int 0, .int 0])), (am, .inr (4, [.int mm, .ref (zk 0), .int 0]))] H) (hD : va_D (fun q => s.heap.size ≤ q) [(ou, .inr (7, [.long 0, .null])), (xo, .inr (6, [.ref al, .int 0, .int 0, .int 0, x4, x5, .ref b1, x7])), (al, .inr (4, [.int mc, .ref (zk 0), .int 0])), (mo, .inr (9, [.int 0, .ref am, .int 0, .int 0, .int 0])), (am, .inr (4, [.int mm, .ref (zk 0), .int 0]))]) (hS : va_S (fun q => s.heap.size ≤ q) s.heap H locs) (ls : Array Slot) (hl : lv_has ls 7 [(4, .int 0), (3, .ref ou), (2, .ref mo), (1, .ref xo), (0, .ref b)]) : W p l e room_1 s mY #[Value.ref b] below meth c H locs 17 79 (lw_Z below #[Value.ref b] s) (F0 mY 184 ls []) := by
  have C1 := C0
  obtain ⟨hx, hb, hr, hml, hown, hts0, hX, hbl, hlocks, hNI⟩ := C0
  have hts := fun (w : Cond) (h : w ∈ wsL_law) => hts0 w (wsL_law_in w h)
  obtain ⟨A, hAd⟩ : ∃ A : Nat → Prop, A = fun q => s.heap.size ≤ q := ⟨_, rfl⟩
  have hA : ∀ q : Nat, s.heap.size ≤ q → A q := fun q h => by rw [hAd]; exact h
  have hAf : ∀ q : Nat, A q → s.heap.size ≤ q := fun q h => by rw [hAd] at h; exact h
  have hbA : ¬ A b := fun h => absurd (hAf b h) (Nat.not_le.mpr hbl)
  have hZ : zR zk [] A s s.heap := by rw [hAd]; exact hZ0
  rw [← hAd] at hD hS
  replace hP : va_P (dC, dI) vwCl [(ou, .inr (7, [.long 0, .null])), (xo, .inr (6, [.ref al, .int 0, .int 0, .int 0, x4, x5, .ref b1, x7])), (al, .inr (4, [.int mc, .ref (zk 0), .int 0])), (mo, .inr (9, [.int 0, .ref am, .int 0, .int 0, .int 0])), (am, .inr (4, [.int mm, .ref (zk 0), .int 0]))] H := hP
  replace hD : va_D A [(ou, .inr (7, [.long 0, .null])), (xo, .inr (6, [.ref al, .int 0, .int 0, .int 0, x4, x5, .ref b1, x7])), (al, .inr (4, [.int mc, .ref (zk 0), .int 0])), (mo, .inr (9, [.int 0, .ref am, .int 0, .int 0, .int 0])), (am, .inr (4, [.int mm, .ref (zk 0), .int 0]))] := hD
  have hz : s.heap.size + 0 ≤ H.size := hS.1
  refine lv_aload_n hx hb dL_law_184 rfl (lv_at hl 3 rfl) ?_
  refine lv_aload_n hx hb dL_law_185 rfl (lv_at hl 4 rfl) ?_
  refine lv_iload hx hb dL_law_186 (lv_at hl 0 rfl) ?_
  refine lv_iconst (v := 1) hx hb dL_law_188 (by decide) ?_
  refine lv_iadd hx hb dL_law_189 ?_
  refine lv_topi (fun v1 ev1 => ?_)
  obtain rfl : v1 = 1 := ev1.trans (by decide)
  refine va_sld hx hb hX hbl hbA hS (by unfold vp_in; decide) dL_law_190 ?_
  refine lv_topi (fun v2 ev2 => ?_)
  have e9 : v2 = kd := ev2.trans (show xs ((1 : Int32).toNatClampNeg) = kd from h1)
  clear ev2
  subst v2
  refine lv_aload_n hx hb dL_law_191 rfl (lv_at hl 4 rfl) ?_
  refine lv_iload hx hb dL_law_192 (lv_at hl 0 rfl) ?_
  refine lv_iconst (v := 2) hx hb dL_law_194 (by decide) ?_
  refine lv_iadd hx hb dL_law_195 ?_
  refine lv_topi (fun v3 ev3 => ?_)
  obtain rfl : v3 = 2 := ev3.trans (by decide)
  refine va_sld hx hb hX hbl hbA hS (by unfold vp_in; decide) dL_law_196 ?_
  refine lv_topi (fun v4 ev4 => ?_)
  have e9 : v4 = 2 := ev4.trans (show xs ((2 : Int32).toNatClampNeg) = 2 from h2)
  clear ev4
  subst v4
  refine lv_aload_n hx hb dL_law_197 rfl (lv_at hl 1 rfl) ?_
  have hPc := hP.sub (ws' := [(ou, .inr (7, [.long 0, .null])), (xo, .inr (6, [.ref al, .int 0, .int 0, .int 0, x4, x5, .ref b1, x7])), (al, .inr (4, [.int mc, .ref (zk 0), .int 0]))]) [0, 1, 2] rfl
  have hDc := hD.sub (ws' := [(ou, .inr (7, [.long 0, .null])), (xo, .inr (6, [.ref al, .int 0, .int 0, .int 0, x4, x5, .ref b1, x7])), (al, .inr (4, [.int mc, .ref (zk 0), .int 0]))]) [0, 1, 2] (by decide) rfl
  have hFc := va_free (wc := [(ou, .inr (7, [.long 0, .null])), (xo, .inr (6, [.ref al, .int 0, .int 0, .int 0, x4, x5, .ref b1, x7])), (al, .inr (4, [.int mc, .ref (zk 0), .int 0]))]) hD hS hA [0, 1, 2] rfl
  have hDv := hDc.self (sz := H.size)
  have hpre := zpre (xs' := []) (av := [.ref xo, .int kd, .int 2, .ref ou]) hPc hK (hDc.weaken (fun _ _ _ h => h)) hZ hS hFc (fun r hr => by cases hr)
  refine va_calli (vx_runSW (As := [.ref xo, .int kd, .int 2, .ref ou]) (rest := []) ⟨hx, hb, hml, hown, hts⟩ (k_mkH2s l dC dI cI cB cR cO zk ou (.long 0) .null xo al b1 (.int 0) (.int 0) (.int 0) x4 x5 x7 mc kd H.size hk0 hk4 hkd) (vx_cwSW 4 hts gL_law_L_make rfl rfl rfl (by decide +kernel) ⟨Nat.le_of_ble_eq_true rfl, Nat.le_of_ble_eq_true rfl⟩) ⟨zblind, hpre⟩ rfl rfl hl.1 rfl (lv_room (Nat.le_of_ble_eq_true rfl)) dL_law_198 ⟨Nat.le_of_ble_eq_true rfl, Nat.le_of_ble_eq_true rfl⟩) hS (fun q _ h => hFc q h) hFc (fun r6 u t H5 locs ht hvm hw hB hz1 hk1 hS => ?_)
  obtain rfl : 0 = r6 := (show r6 = 0 from hw).symm
  obtain ⟨hP1, hK1, hD1, hz2⟩ := hB
  rw [ht] at hP1 hz2
  have hPD9 := va_join (wr := [(mo, .inr (9, [.int 0, .ref am, .int 0, .int 0, .int 0])), (am, .inr (4, [.int mm, .ref (zk 0), .int 0]))]) (w1 := [(ou, .inr (7, [.long 0, .null])), (xo, .inr (6, [.ref al, .int 0, .int 0, .int 0, x4, x5, .ref b1, x7]))]) hP hD [0, 1, 2] [3, 4] rfl rfl (by decide) (by decide) hk1 hFc hP1 hD1
  clear hPc hDc hFc hDv hpre hP hD hP1 hK1 hD1
  obtain ⟨hP, hD⟩ := hPD9
  replace hz : s.heap.size + 0 ≤ H5.size := by omega
  clear hz2
  replace hP : va_P (dC, dI) vwCl [(mo, .inr (9, [.int 0, .ref am, .int 0, .int 0, .int 0])), (am, .inr (4, [.int mm, .ref (zk 0), .int 0])), (ou, .inr (7, [.long 0, .null])), (xo, .inr (6, [.ref al, .int 0, .int 0, .int 0, x4, x5, .ref b1, x7]))] H5 := hP
  replace hD : va_D A [(mo, .inr (9, [.int 0, .ref am, .int 0, .int 0, .int 0])), (am, .inr (4, [.int mm, .ref (zk 0), .int 0])), (ou, .inr (7, [.long 0, .null])), (xo, .inr (6, [.ref al, .int 0, .int 0, .int 0, x4, x5, .ref b1, x7]))] := hD
  refine W.widen (k := 22) (n := 101) (by omega) (by omega) ?_
  refine lv_istore (lv' := [(5, .int 0), (4, .int 0), (3, .ref ou), (2, .ref mo), (1, .ref xo), (0, .ref b)]) hx hb dL_law_201 hl (by decide) rfl (fun ls hl => ?_)
  refine lv_aload_n hx hb dL_law_203 rfl (lv_at hl 3 rfl) ?_
  refine lv_aload_n hx hb dL_law_204 rfl (lv_at hl 5 rfl) ?_
  refine lv_iload hx hb dL_law_205 (lv_at hl 1 rfl) ?_
  refine lv_iconst (v := 1) hx hb dL_law_207 (by decide) ?_
  refine lv_iadd hx hb dL_law_208 ?_
  refine lv_topi (fun v7 ev7 => ?_)
  obtain rfl : v7 = 1 := ev7.trans (by decide)
  refine va_sld hx hb hX hbl hbA hS (by unfold vp_in; decide) dL_law_209 ?_
  refine lv_topi (fun v8 ev8 => ?_)
  have e9 : v8 = kd := ev8.trans (show xs ((1 : Int32).toNatClampNeg) = kd from h1)
  clear ev8
  subst v8
  refine lv_aload_n hx hb dL_law_210 rfl (lv_at hl 5 rfl) ?_
  refine lv_iload hx hb dL_law_211 (lv_at hl 1 rfl) ?_
  refine lv_iconst (v := 2) hx hb dL_law_213 (by decide) ?_
  refine lv_iadd hx hb dL_law_214 ?_
  refine lv_topi (fun v9 ev9 => ?_)
  obtain rfl : v9 = 2 := ev9.trans (by decide)
  refine va_sld hx hb hX hbl hbA hS (by unfold vp_in; decide) dL_law_215 ?_
  refine lv_topi (fun v10 ev10 => ?_)
  have e9 : v10 = 2 := ev10.trans (show xs ((2 : Int32).toNatClampNeg) = 2 from h2)
  clear ev10
  subst v10
  have hPc := hP.sub (ws' := [(mo, .inr (9, [.int 0, .ref am, .int 0, .int 0, .int 0])), (am, .inr (4, [.int mm, .ref (zk 0), .int 0]))]) [0, 1] rfl
  have hDc := hD.sub (ws' := [(mo, .inr (9, [.int 0, .ref am, .int 0, .int 0, .int 0])), (am, .inr (4, [.int mm, .ref (zk 0), .int 0]))]) [0, 1] (by decide) rfl
  have hFc := va_free (wc := [(mo, .inr (9, [.int 0, .ref am, .int 0, .int 0, .int 0])), (am, .inr (4, [.int mm, .ref (zk 0), .int 0]))]) hD hS hA [0, 1] rfl
  have hDv := hDc.self (sz := H5.size)
  have hpre := zpre (xs' := []) (av := [.ref mo, .int kd, .int 2]) hPc hK (hDc.weaken (fun _ _ _ h => h)) hZ hS hFc (fun r hr => by cases hr)
  refine va_calli (va_runV (As := [.int kd, .int 2]) (rest := []) ⟨hx, hb, hml, hown, hts⟩ (k_mkM2s l dC dI cI cB cR cO zk mo am (.int 0) mm kd H5.size hk0 hk4 hkd) (cwV 2 hts gL_law_X4_make rfl rfl rfl (by decide +kernel) ⟨Nat.le_of_ble_eq_true rfl, Nat.le_of_ble_eq_true rfl⟩) ⟨zblind, (zrecv_9 hK hPc (q0 := 0) rfl), hpre⟩ rfl rfl hl.1 rfl (lv_room (Nat.le_of_ble_eq_true rfl)) dL_law_216 ⟨Nat.le_of_ble_eq_true rfl, Nat.le_of_ble_eq_true rfl⟩) hS (fun q _ h => hFc q h) hFc (fun r12 u t H11 locs ht hvm hw hB hz1 hk1 hS => ?_)
  obtain rfl : 0 = r12 := (show r12 = 0 from hw).symm
  obtain ⟨hP1, hK1, hD1, hz2⟩ := hB
  rw [ht] at hP1 hz2
  have hPD9 := va_join (wr := [(ou, .inr (7, [.long 0, .null])), (xo, .inr (6, [.ref al, .int 0, .int 0, .int 0, x4, x5, .ref b1, x7]))]) (w1 := [(mo, .inr (9, [.int 0, .ref am, .int 0, .int 0, .int 0]))]) hP hD [0, 1] [2, 3] rfl rfl (by decide) (by decide) hk1 hFc hP1 hD1
  clear hPc hDc hFc hDv hpre hP hD hP1 hK1 hD1
  obtain ⟨hP, hD⟩ := hPD9
  replace hz : s.heap.size + 4 ≤ H11.size := by omega
  clear hz2
  replace hP : va_P (dC, dI) vwCl [(ou, .inr (7, [.long 0, .null])), (xo, .inr (6, [.ref al, .int 0, .int 0, .int 0, x4, x5, .ref b1, x7])), (mo, .inr (9, [.int 0, .ref am, .int 0, .int 0, .int 0]))] H11 := hP
  replace hD : va_D A [(ou, .inr (7, [.long 0, .null])), (xo, .inr (6, [.ref al, .int 0, .int 0, .int 0, x4, x5, .ref b1, x7])), (mo, .inr (9, [.int 0, .ref am, .int 0, .int 0, .int 0]))] := hD
  refine W.widen (k := 26) (n := 118) (by omega) (by omega) ?_
  refine lv_istore (lv' := [(6, .int 0), (5, .int 0), (4, .int 0), (3, .ref ou), (2, .ref mo), (1, .ref xo), (0, .ref b)]) hx hb dL_law_219 hl (by decide) rfl (fun ls hl => ?_)
  refine lv_aload_n hx hb dL_law_221 rfl (lv_at hl 4 rfl) ?_
  have hPc := hP.sub (ws' := [(mo, .inr (9, [.int 0, .ref am, .int 0, .int 0, .int 0]))]) [2] rfl
  have hDc := hD.sub (ws' := [(mo, .inr (9, [.int 0, .ref am, .int 0, .int 0, .int 0]))]) [2] (by decide) rfl
  have hFc := va_free (wc := [(mo, .inr (9, [.int 0, .ref am, .int 0, .int 0, .int 0]))]) hD hS hA [2] rfl
  have hDv := hDc.self (sz := H11.size)
  have hpre := zpre (xs' := []) (av := [.ref mo]) hPc hK (hDc.weaken (fun _ _ _ h => h)) hZ hS hFc (fun r hr => by cases hr)
  refine va_calli (va_runV (As := []) (rest := []) ⟨hx, hb, hml, hown, hts⟩ (k_th0 l dC dI cI cB cR cO zk mo am H11.size ) (cwV 0 hts gL_law_X4_thrown rfl rfl rfl (by decide +kernel) ⟨Nat.le_of_ble_eq_true rfl, Nat.le_of_ble_eq_true rfl⟩) ⟨zblind, (zrecv_9 hK hPc (q0 := 0) rfl), hpre⟩ rfl rfl hl.1 rfl (lv_room (Nat.le_of_ble_eq_true rfl)) dL_law_222 ⟨Nat.le_of_ble_eq_true rfl, Nat.le_of_ble_eq_true rfl⟩) hS (fun q _ h => hFc q h) hFc (fun r14 u t H13 locs ht hvm hw hB hz1 hk1 hS => ?_)
  obtain rfl : 0 = r14 := (show r14 = 0 from hw).symm
  obtain ⟨hP1, hK1, hD1, hz2⟩ := hB
  rw [ht] at hP1 hz2
  have hPD9 := va_join (wr := [(ou, .inr (7, [.long 0, .null])), (xo, .inr (6, [.ref al, .int 0, .int 0, .int 0, x4, x5, .ref b1, x7]))]) (w1 := [(mo, .inr (9, [.int 0, .ref am, .int 0, .int 0, .int 0]))]) hP hD [2] [0, 1] rfl rfl (by decide) (by decide) hk1 hFc hP1 hD1
  clear hPc hDc hFc hDv hpre hP hD hP1 hK1 hD1
  obtain ⟨hP, hD⟩ := hPD9
  replace hz : s.heap.size + 4 ≤ H13.size := by omega
  clear hz2
  replace hP : va_P (dC, dI) vwCl [(ou, .inr (7, [.long 0, .null])), (xo, .inr (6, [.ref al, .int 0, .int 0, .int 0, x4, x5, .ref b1, x7])), (mo, .inr (9, [.int 0, .ref am, .int 0, .int 0, .int 0]))] H13 := hP
  replace hD : va_D A [(ou, .inr (7, [.long 0, .null])), (xo, .inr (6, [.ref al, .int 0, .int 0, .int 0, x4, x5, .ref b1, x7])), (mo, .inr (9, [.int 0, .ref am, .int 0, .int 0, .int 0]))] := hD
  refine W.widen (k := 26) (n := 118) (by omega) (by omega) ?_
  refine lv_iload hx hb dL_law_225 (lv_at hl 1 rfl) ?_
  refine lv_icmp_eq (tgt := 232) hx hb dL_law_227 (by decide) (fun c9 => ?_) (fun c9 => ?_)
  rotate_left
  · exact absurd (by decide) c9
  refine lv_iload hx hb dL_law_232 (lv_at hl 1 rfl) ?_
  refine lv_if_ne (tgt := 250) hx hb dL_law_234 (by decide) (fun c9 => ?_) (fun c9 => ?_)
  · exact absurd (by decide) c9
  refine lv_aload_n hx hb dL_law_237 rfl (lv_at hl 3 rfl) ?_
  refine va_getN (D := (dC, dI)) (ci := 7) (v := .long 0) (C := RX2) (T := TX2) (N := 2) hx hb hts inlX2 hown hK hP 0 rfl rfl 0 (by decide) (zn6 hZ) (fun _ h9 => h9) rfl dL_law_238 ?_
  refine lv_iload hx hb dL_law_241 (lv_at hl 0 rfl) ?_
  refine lv_i2l (v := 0) hx hb dL_law_243 (by decide) ?_
  refine W.lcmp hx hb dL_law_244 ?_
  refine lv_topi (fun v15 ev15 => ?_)
  obtain rfl : v15 = 0 := ev15.trans (by decide)
  refine lv_if_eq (tgt := 250) hx hb dL_law_245 (by decide) (fun c9 => ?_) (fun c9 => ?_)
  rotate_left
  · exact absurd (by decide) c9
  refine lv_goto (tgt := 2155) hx hb dL_law_250 (by decide) ?_
  rw [hAd] at hS
  exact zl_tail l dC dI cI cB cR cO zk b xs C1 hZ0 hK hS (Nat.le_of_ble_eq_true rfl) (Nat.le_of_ble_eq_true rfl) ls (lv_sub hl [6, 2] rfl)

set_option maxHeartbeats 4000000 in
set_option maxRecDepth 100000 in
theorem zl_a_make34 (l : Launch) (dC : Nat → ClassId) (dI : Nat → Nat → Nat) (cI cB cR cO : ClassId) (zk : Nat → Nat) {p : Program} {e : Env} {s : State} {mY : MethodId} {below : List Frame} {meth : Method} {c : Code} (b : Nat) (xs : Nat → Int32) (hfl : l.stackTraces = false) (C0 : zl_At p s mY meth c b 5 xs) (hZ0 : zR zk [] (fun q => s.heap.size ≤ q) s s.heap) (hK : va_K (dC, dI) vwCl (zT cI cB cR cO) s) (ou xo al b1 : Nat) (x4 x5 x7 : Value) (mc : Int32) (mo am : Nat) (mm : Int32)  (h1 : xs 1 = 4) (h2 : xs 2 = 3)  (H : Heap) (locs : List Loc) (hP : va_P (dC, dI) vwCl [(ou, .inr (7, [.long 0, .null])), (xo, .inr (6, [.ref al, .int 0, .int 0, .int 0, x4, x5, .ref b1, x7])), (al, .inr (4, [.int mc, .ref (zk 0), .int 0])), (mo, .inr (9, [.int 0, .ref am, .int 0, .int 0, .int 0])), (am, .inr (4, [.int mm, .ref (zk 0), .int 0]))] H) (hD : va_D (fun q => s.heap.size ≤ q) [(ou, .inr (7, [.long 0, .null])), (xo, .inr (6, [.ref al, .int 0, .int 0, .int 0, x4, x5, .ref b1, x7])), (al, .inr (4, [.int mc, .ref (zk 0), .int 0])), (mo, .inr (9, [.int 0, .ref am, .int 0, .int 0, .int 0])), (am, .inr (4, [.int mm, .ref (zk 0), .int 0]))]) (hS : va_S (fun q => s.heap.size ≤ q) s.heap H locs) (ls : Array Slot) (hl : lv_has ls 7 [(4, .int 0), (3, .ref ou), (2, .ref mo), (1, .ref xo), (0, .ref b)]) : W p l e room_1 s mY #[Value.ref b] below meth c H locs 17 79 (lw_Z below #[Value.ref b] s) (F0 mY 184 ls []) := by
  have C1 := C0
  obtain ⟨hx, hb, hr, hml, hown, hts0, hX, hbl, hlocks, hNI⟩ := C0
  have hts := fun (w : Cond) (h : w ∈ wsL_law) => hts0 w (wsL_law_in w h)
  obtain ⟨A, hAd⟩ : ∃ A : Nat → Prop, A = fun q => s.heap.size ≤ q := ⟨_, rfl⟩
  have hA : ∀ q : Nat, s.heap.size ≤ q → A q := fun q h => by rw [hAd]; exact h
  have hAf : ∀ q : Nat, A q → s.heap.size ≤ q := fun q h => by rw [hAd] at h; exact h
  have hbA : ¬ A b := fun h => absurd (hAf b h) (Nat.not_le.mpr hbl)
  have hZ : zR zk [] A s s.heap := by rw [hAd]; exact hZ0
  rw [← hAd] at hD hS
  replace hP : va_P (dC, dI) vwCl [(ou, .inr (7, [.long 0, .null])), (xo, .inr (6, [.ref al, .int 0, .int 0, .int 0, x4, x5, .ref b1, x7])), (al, .inr (4, [.int mc, .ref (zk 0), .int 0])), (mo, .inr (9, [.int 0, .ref am, .int 0, .int 0, .int 0])), (am, .inr (4, [.int mm, .ref (zk 0), .int 0]))] H := hP
  replace hD : va_D A [(ou, .inr (7, [.long 0, .null])), (xo, .inr (6, [.ref al, .int 0, .int 0, .int 0, x4, x5, .ref b1, x7])), (al, .inr (4, [.int mc, .ref (zk 0), .int 0])), (mo, .inr (9, [.int 0, .ref am, .int 0, .int 0, .int 0])), (am, .inr (4, [.int mm, .ref (zk 0), .int 0]))] := hD
  have hz : s.heap.size + 0 ≤ H.size := hS.1
  refine lv_aload_n hx hb dL_law_184 rfl (lv_at hl 3 rfl) ?_
  refine lv_aload_n hx hb dL_law_185 rfl (lv_at hl 4 rfl) ?_
  refine lv_iload hx hb dL_law_186 (lv_at hl 0 rfl) ?_
  refine lv_iconst (v := 1) hx hb dL_law_188 (by decide) ?_
  refine lv_iadd hx hb dL_law_189 ?_
  refine lv_topi (fun v1 ev1 => ?_)
  obtain rfl : v1 = 1 := ev1.trans (by decide)
  refine va_sld hx hb hX hbl hbA hS (by unfold vp_in; decide) dL_law_190 ?_
  refine lv_topi (fun v2 ev2 => ?_)
  have e9 : v2 = 4 := ev2.trans (show xs ((1 : Int32).toNatClampNeg) = 4 from h1)
  clear ev2
  subst v2
  refine lv_aload_n hx hb dL_law_191 rfl (lv_at hl 4 rfl) ?_
  refine lv_iload hx hb dL_law_192 (lv_at hl 0 rfl) ?_
  refine lv_iconst (v := 2) hx hb dL_law_194 (by decide) ?_
  refine lv_iadd hx hb dL_law_195 ?_
  refine lv_topi (fun v3 ev3 => ?_)
  obtain rfl : v3 = 2 := ev3.trans (by decide)
  refine va_sld hx hb hX hbl hbA hS (by unfold vp_in; decide) dL_law_196 ?_
  refine lv_topi (fun v4 ev4 => ?_)
  have e9 : v4 = 3 := ev4.trans (show xs ((2 : Int32).toNatClampNeg) = 3 from h2)
  clear ev4
  subst v4
  refine lv_aload_n hx hb dL_law_197 rfl (lv_at hl 1 rfl) ?_
  have hPc := hP.sub (ws' := [(ou, .inr (7, [.long 0, .null])), (xo, .inr (6, [.ref al, .int 0, .int 0, .int 0, x4, x5, .ref b1, x7])), (al, .inr (4, [.int mc, .ref (zk 0), .int 0]))]) [0, 1, 2] rfl
  have hDc := hD.sub (ws' := [(ou, .inr (7, [.long 0, .null])), (xo, .inr (6, [.ref al, .int 0, .int 0, .int 0, x4, x5, .ref b1, x7])), (al, .inr (4, [.int mc, .ref (zk 0), .int 0]))]) [0, 1, 2] (by decide) rfl
  have hFc := va_free (wc := [(ou, .inr (7, [.long 0, .null])), (xo, .inr (6, [.ref al, .int 0, .int 0, .int 0, x4, x5, .ref b1, x7])), (al, .inr (4, [.int mc, .ref (zk 0), .int 0]))]) hD hS hA [0, 1, 2] rfl
  have hDv := hDc.self (sz := H.size)
  have hpre := zpre (xs' := []) (av := [.ref xo, .int 4, .int 3, .ref ou]) hPc hK (hDc.weaken (fun _ _ _ h => h)) hZ hS hFc (fun r hr => by cases hr)
  refine va_calli (vx_runSW (As := [.ref xo, .int 4, .int 3, .ref ou]) (rest := []) ⟨hx, hb, hml, hown, hts⟩ (k_mkH34 l dC dI cI cB cR cO zk ou (.long 0) .null xo al b1 (.int 0) (.int 0) (.int 0) x4 x5 x7 mc H.size ) (vx_cwSW 4 hts gL_law_L_make rfl rfl rfl (by decide +kernel) ⟨Nat.le_of_ble_eq_true rfl, Nat.le_of_ble_eq_true rfl⟩) ⟨zblind, hpre⟩ rfl rfl hl.1 rfl (lv_room (Nat.le_of_ble_eq_true rfl)) dL_law_198 ⟨Nat.le_of_ble_eq_true rfl, Nat.le_of_ble_eq_true rfl⟩) hS (fun q _ h => hFc q h) hFc (fun r6 u t H5 locs ht hvm hw hB hz1 hk1 hS => ?_)
  obtain rfl : 0 = r6 := (show r6 = 0 from hw).symm
  obtain ⟨hP1, hK1, hD1, hz2⟩ := hB
  rw [ht] at hP1 hz2
  have hPD9 := va_join (wr := [(mo, .inr (9, [.int 0, .ref am, .int 0, .int 0, .int 0])), (am, .inr (4, [.int mm, .ref (zk 0), .int 0]))]) (w1 := [(ou, .inr (7, [.long 0, .null])), (xo, .inr (6, [.ref al, .int 0, .int 0, .int 0, x4, x5, .ref b1, x7]))]) hP hD [0, 1, 2] [3, 4] rfl rfl (by decide) (by decide) hk1 hFc hP1 hD1
  clear hPc hDc hFc hDv hpre hP hD hP1 hK1 hD1
  obtain ⟨hP, hD⟩ := hPD9
  replace hz : s.heap.size + 0 ≤ H5.size := by omega
  clear hz2
  replace hP : va_P (dC, dI) vwCl [(mo, .inr (9, [.int 0, .ref am, .int 0, .int 0, .int 0])), (am, .inr (4, [.int mm, .ref (zk 0), .int 0])), (ou, .inr (7, [.long 0, .null])), (xo, .inr (6, [.ref al, .int 0, .int 0, .int 0, x4, x5, .ref b1, x7]))] H5 := hP
  replace hD : va_D A [(mo, .inr (9, [.int 0, .ref am, .int 0, .int 0, .int 0])), (am, .inr (4, [.int mm, .ref (zk 0), .int 0])), (ou, .inr (7, [.long 0, .null])), (xo, .inr (6, [.ref al, .int 0, .int 0, .int 0, x4, x5, .ref b1, x7]))] := hD
  refine W.widen (k := 22) (n := 104) (by omega) (by omega) ?_
  refine lv_istore (lv' := [(5, .int 0), (4, .int 0), (3, .ref ou), (2, .ref mo), (1, .ref xo), (0, .ref b)]) hx hb dL_law_201 hl (by decide) rfl (fun ls hl => ?_)
  refine lv_aload_n hx hb dL_law_203 rfl (lv_at hl 3 rfl) ?_
  refine lv_aload_n hx hb dL_law_204 rfl (lv_at hl 5 rfl) ?_
  refine lv_iload hx hb dL_law_205 (lv_at hl 1 rfl) ?_
  refine lv_iconst (v := 1) hx hb dL_law_207 (by decide) ?_
  refine lv_iadd hx hb dL_law_208 ?_
  refine lv_topi (fun v7 ev7 => ?_)
  obtain rfl : v7 = 1 := ev7.trans (by decide)
  refine va_sld hx hb hX hbl hbA hS (by unfold vp_in; decide) dL_law_209 ?_
  refine lv_topi (fun v8 ev8 => ?_)
  have e9 : v8 = 4 := ev8.trans (show xs ((1 : Int32).toNatClampNeg) = 4 from h1)
  clear ev8
  subst v8
  refine lv_aload_n hx hb dL_law_210 rfl (lv_at hl 5 rfl) ?_
  refine lv_iload hx hb dL_law_211 (lv_at hl 1 rfl) ?_
  refine lv_iconst (v := 2) hx hb dL_law_213 (by decide) ?_
  refine lv_iadd hx hb dL_law_214 ?_
  refine lv_topi (fun v9 ev9 => ?_)
  obtain rfl : v9 = 2 := ev9.trans (by decide)
  refine va_sld hx hb hX hbl hbA hS (by unfold vp_in; decide) dL_law_215 ?_
  refine lv_topi (fun v10 ev10 => ?_)
  have e9 : v10 = 3 := ev10.trans (show xs ((2 : Int32).toNatClampNeg) = 3 from h2)
  clear ev10
  subst v10
  have hPc := hP.sub (ws' := [(mo, .inr (9, [.int 0, .ref am, .int 0, .int 0, .int 0])), (am, .inr (4, [.int mm, .ref (zk 0), .int 0]))]) [0, 1] rfl
  have hDc := hD.sub (ws' := [(mo, .inr (9, [.int 0, .ref am, .int 0, .int 0, .int 0])), (am, .inr (4, [.int mm, .ref (zk 0), .int 0]))]) [0, 1] (by decide) rfl
  have hFc := va_free (wc := [(mo, .inr (9, [.int 0, .ref am, .int 0, .int 0, .int 0])), (am, .inr (4, [.int mm, .ref (zk 0), .int 0]))]) hD hS hA [0, 1] rfl
  have hDv := hDc.self (sz := H5.size)
  have hpre := zpre (xs' := []) (av := [.ref mo, .int 4, .int 3]) hPc hK (hDc.weaken (fun _ _ _ h => h)) hZ hS hFc (fun r hr => by cases hr)
  refine va_calli (va_runV (As := [.int 4, .int 3]) (rest := []) ⟨hx, hb, hml, hown, hts⟩ (k_mkM34 l dC dI cI cB cR cO zk mo am (.int 0) mm H5.size ) (cwV 2 hts gL_law_X4_make rfl rfl rfl (by decide +kernel) ⟨Nat.le_of_ble_eq_true rfl, Nat.le_of_ble_eq_true rfl⟩) ⟨zblind, (zrecv_9 hK hPc (q0 := 0) rfl), hpre⟩ rfl rfl hl.1 rfl (lv_room (Nat.le_of_ble_eq_true rfl)) dL_law_216 ⟨Nat.le_of_ble_eq_true rfl, Nat.le_of_ble_eq_true rfl⟩) hS (fun q _ h => hFc q h) hFc (fun r12 u t H11 locs ht hvm hw hB hz1 hk1 hS => ?_)
  obtain rfl : 0 = r12 := (show r12 = 0 from hw).symm
  obtain ⟨hP1, hK1, hD1, hz2⟩ := hB
  rw [ht] at hP1 hz2
  have hPD9 := va_join (wr := [(ou, .inr (7, [.long 0, .null])), (xo, .inr (6, [.ref al, .int 0, .int 0, .int 0, x4, x5, .ref b1, x7]))]) (w1 := [(mo, .inr (9, [.int 0, .ref am, .int 0, .int 0, .int 0]))]) hP hD [0, 1] [2, 3] rfl rfl (by decide) (by decide) hk1 hFc hP1 hD1
  clear hPc hDc hFc hDv hpre hP hD hP1 hK1 hD1
  obtain ⟨hP, hD⟩ := hPD9
  replace hz : s.heap.size + 4 ≤ H11.size := by omega
  clear hz2
  replace hP : va_P (dC, dI) vwCl [(ou, .inr (7, [.long 0, .null])), (xo, .inr (6, [.ref al, .int 0, .int 0, .int 0, x4, x5, .ref b1, x7])), (mo, .inr (9, [.int 0, .ref am, .int 0, .int 0, .int 0]))] H11 := hP
  replace hD : va_D A [(ou, .inr (7, [.long 0, .null])), (xo, .inr (6, [.ref al, .int 0, .int 0, .int 0, x4, x5, .ref b1, x7])), (mo, .inr (9, [.int 0, .ref am, .int 0, .int 0, .int 0]))] := hD
  refine W.widen (k := 26) (n := 123) (by omega) (by omega) ?_
  refine lv_istore (lv' := [(6, .int 0), (5, .int 0), (4, .int 0), (3, .ref ou), (2, .ref mo), (1, .ref xo), (0, .ref b)]) hx hb dL_law_219 hl (by decide) rfl (fun ls hl => ?_)
  refine lv_aload_n hx hb dL_law_221 rfl (lv_at hl 4 rfl) ?_
  have hPc := hP.sub (ws' := [(mo, .inr (9, [.int 0, .ref am, .int 0, .int 0, .int 0]))]) [2] rfl
  have hDc := hD.sub (ws' := [(mo, .inr (9, [.int 0, .ref am, .int 0, .int 0, .int 0]))]) [2] (by decide) rfl
  have hFc := va_free (wc := [(mo, .inr (9, [.int 0, .ref am, .int 0, .int 0, .int 0]))]) hD hS hA [2] rfl
  have hDv := hDc.self (sz := H11.size)
  have hpre := zpre (xs' := []) (av := [.ref mo]) hPc hK (hDc.weaken (fun _ _ _ h => h)) hZ hS hFc (fun r hr => by cases hr)
  refine va_calli (va_runV (As := []) (rest := []) ⟨hx, hb, hml, hown, hts⟩ (k_th0 l dC dI cI cB cR cO zk mo am H11.size ) (cwV 0 hts gL_law_X4_thrown rfl rfl rfl (by decide +kernel) ⟨Nat.le_of_ble_eq_true rfl, Nat.le_of_ble_eq_true rfl⟩) ⟨zblind, (zrecv_9 hK hPc (q0 := 0) rfl), hpre⟩ rfl rfl hl.1 rfl (lv_room (Nat.le_of_ble_eq_true rfl)) dL_law_222 ⟨Nat.le_of_ble_eq_true rfl, Nat.le_of_ble_eq_true rfl⟩) hS (fun q _ h => hFc q h) hFc (fun r14 u t H13 locs ht hvm hw hB hz1 hk1 hS => ?_)
  obtain rfl : 0 = r14 := (show r14 = 0 from hw).symm
  obtain ⟨hP1, hK1, hD1, hz2⟩ := hB
  rw [ht] at hP1 hz2
  have hPD9 := va_join (wr := [(ou, .inr (7, [.long 0, .null])), (xo, .inr (6, [.ref al, .int 0, .int 0, .int 0, x4, x5, .ref b1, x7]))]) (w1 := [(mo, .inr (9, [.int 0, .ref am, .int 0, .int 0, .int 0]))]) hP hD [2] [0, 1] rfl rfl (by decide) (by decide) hk1 hFc hP1 hD1
  clear hPc hDc hFc hDv hpre hP hD hP1 hK1 hD1
  obtain ⟨hP, hD⟩ := hPD9
  replace hz : s.heap.size + 4 ≤ H13.size := by omega
  clear hz2
  replace hP : va_P (dC, dI) vwCl [(ou, .inr (7, [.long 0, .null])), (xo, .inr (6, [.ref al, .int 0, .int 0, .int 0, x4, x5, .ref b1, x7])), (mo, .inr (9, [.int 0, .ref am, .int 0, .int 0, .int 0]))] H13 := hP
  replace hD : va_D A [(ou, .inr (7, [.long 0, .null])), (xo, .inr (6, [.ref al, .int 0, .int 0, .int 0, x4, x5, .ref b1, x7])), (mo, .inr (9, [.int 0, .ref am, .int 0, .int 0, .int 0]))] := hD
  refine W.widen (k := 26) (n := 123) (by omega) (by omega) ?_
  refine lv_iload hx hb dL_law_225 (lv_at hl 1 rfl) ?_
  refine lv_icmp_eq (tgt := 232) hx hb dL_law_227 (by decide) (fun c9 => ?_) (fun c9 => ?_)
  rotate_left
  · exact absurd (by decide) c9
  refine lv_iload hx hb dL_law_232 (lv_at hl 1 rfl) ?_
  refine lv_if_ne (tgt := 250) hx hb dL_law_234 (by decide) (fun c9 => ?_) (fun c9 => ?_)
  · exact absurd (by decide) c9
  refine lv_aload_n hx hb dL_law_237 rfl (lv_at hl 3 rfl) ?_
  refine va_getN (D := (dC, dI)) (ci := 7) (v := .long 0) (C := RX2) (T := TX2) (N := 2) hx hb hts inlX2 hown hK hP 0 rfl rfl 0 (by decide) (zn6 hZ) (fun _ h9 => h9) rfl dL_law_238 ?_
  refine lv_iload hx hb dL_law_241 (lv_at hl 0 rfl) ?_
  refine lv_i2l (v := 0) hx hb dL_law_243 (by decide) ?_
  refine W.lcmp hx hb dL_law_244 ?_
  refine lv_topi (fun v15 ev15 => ?_)
  obtain rfl : v15 = 0 := ev15.trans (by decide)
  refine lv_if_eq (tgt := 250) hx hb dL_law_245 (by decide) (fun c9 => ?_) (fun c9 => ?_)
  rotate_left
  · exact absurd (by decide) c9
  refine lv_goto (tgt := 2155) hx hb dL_law_250 (by decide) ?_
  rw [hAd] at hS
  exact zl_tail l dC dI cI cB cR cO zk b xs C1 hZ0 hK hS (Nat.le_of_ble_eq_true rfl) (Nat.le_of_ble_eq_true rfl) ls (lv_sub hl [6, 2] rfl)

set_option maxHeartbeats 4000000 in
set_option maxRecDepth 100000 in
theorem zl_a_make3s (l : Launch) (dC : Nat → ClassId) (dI : Nat → Nat → Nat) (cI cB cR cO : ClassId) (zk : Nat → Nat) {p : Program} {e : Env} {s : State} {mY : MethodId} {below : List Frame} {meth : Method} {c : Code} (b : Nat) (xs : Nat → Int32) (hfl : l.stackTraces = false) (C0 : zl_At p s mY meth c b 5 xs) (hZ0 : zR zk [] (fun q => s.heap.size ≤ q) s s.heap) (hK : va_K (dC, dI) vwCl (zT cI cB cR cO) s) (ou xo al b1 : Nat) (x4 x5 x7 : Value) (mc : Int32) (mo am : Nat) (mm : Int32)  (kd : Int32) (h1 : xs 1 = kd) (h2 : xs 2 = 3) (hk0 : ¬ kd < 0) (hk4 : kd ≤ 4) (hkd : ¬ kd = 4) (H : Heap) (locs : List Loc) (hP : va_P (dC, dI) vwCl [(ou, .inr (7, [.long 0, .null])), (xo, .inr (6, [.ref al, .int 0, .int 0, .int 0, x4, x5, .ref b1, x7])), (al, .inr (4, [.int mc, .ref (zk 0), .int 0])), (mo, .inr (9, [.int 0, .ref am, .int 0, .int 0, .int 0])), (am, .inr (4, [.int mm, .ref (zk 0), .int 0]))] H) (hD : va_D (fun q => s.heap.size ≤ q) [(ou, .inr (7, [.long 0, .null])), (xo, .inr (6, [.ref al, .int 0, .int 0, .int 0, x4, x5, .ref b1, x7])), (al, .inr (4, [.int mc, .ref (zk 0), .int 0])), (mo, .inr (9, [.int 0, .ref am, .int 0, .int 0, .int 0])), (am, .inr (4, [.int mm, .ref (zk 0), .int 0]))]) (hS : va_S (fun q => s.heap.size ≤ q) s.heap H locs) (ls : Array Slot) (hl : lv_has ls 7 [(4, .int 0), (3, .ref ou), (2, .ref mo), (1, .ref xo), (0, .ref b)]) : W p l e room_1 s mY #[Value.ref b] below meth c H locs 17 79 (lw_Z below #[Value.ref b] s) (F0 mY 184 ls []) := by
  have C1 := C0
  obtain ⟨hx, hb, hr, hml, hown, hts0, hX, hbl, hlocks, hNI⟩ := C0
  have hts := fun (w : Cond) (h : w ∈ wsL_law) => hts0 w (wsL_law_in w h)
  obtain ⟨A, hAd⟩ : ∃ A : Nat → Prop, A = fun q => s.heap.size ≤ q := ⟨_, rfl⟩
  have hA : ∀ q : Nat, s.heap.size ≤ q → A q := fun q h => by rw [hAd]; exact h
  have hAf : ∀ q : Nat, A q → s.heap.size ≤ q := fun q h => by rw [hAd] at h; exact h
  have hbA : ¬ A b := fun h => absurd (hAf b h) (Nat.not_le.mpr hbl)
  have hZ : zR zk [] A s s.heap := by rw [hAd]; exact hZ0
  rw [← hAd] at hD hS
  replace hP : va_P (dC, dI) vwCl [(ou, .inr (7, [.long 0, .null])), (xo, .inr (6, [.ref al, .int 0, .int 0, .int 0, x4, x5, .ref b1, x7])), (al, .inr (4, [.int mc, .ref (zk 0), .int 0])), (mo, .inr (9, [.int 0, .ref am, .int 0, .int 0, .int 0])), (am, .inr (4, [.int mm, .ref (zk 0), .int 0]))] H := hP
  replace hD : va_D A [(ou, .inr (7, [.long 0, .null])), (xo, .inr (6, [.ref al, .int 0, .int 0, .int 0, x4, x5, .ref b1, x7])), (al, .inr (4, [.int mc, .ref (zk 0), .int 0])), (mo, .inr (9, [.int 0, .ref am, .int 0, .int 0, .int 0])), (am, .inr (4, [.int mm, .ref (zk 0), .int 0]))] := hD
  have hz : s.heap.size + 0 ≤ H.size := hS.1
  refine lv_aload_n hx hb dL_law_184 rfl (lv_at hl 3 rfl) ?_
  refine lv_aload_n hx hb dL_law_185 rfl (lv_at hl 4 rfl) ?_
  refine lv_iload hx hb dL_law_186 (lv_at hl 0 rfl) ?_
  refine lv_iconst (v := 1) hx hb dL_law_188 (by decide) ?_
  refine lv_iadd hx hb dL_law_189 ?_
  refine lv_topi (fun v1 ev1 => ?_)
  obtain rfl : v1 = 1 := ev1.trans (by decide)
  refine va_sld hx hb hX hbl hbA hS (by unfold vp_in; decide) dL_law_190 ?_
  refine lv_topi (fun v2 ev2 => ?_)
  have e9 : v2 = kd := ev2.trans (show xs ((1 : Int32).toNatClampNeg) = kd from h1)
  clear ev2
  subst v2
  refine lv_aload_n hx hb dL_law_191 rfl (lv_at hl 4 rfl) ?_
  refine lv_iload hx hb dL_law_192 (lv_at hl 0 rfl) ?_
  refine lv_iconst (v := 2) hx hb dL_law_194 (by decide) ?_
  refine lv_iadd hx hb dL_law_195 ?_
  refine lv_topi (fun v3 ev3 => ?_)
  obtain rfl : v3 = 2 := ev3.trans (by decide)
  refine va_sld hx hb hX hbl hbA hS (by unfold vp_in; decide) dL_law_196 ?_
  refine lv_topi (fun v4 ev4 => ?_)
  have e9 : v4 = 3 := ev4.trans (show xs ((2 : Int32).toNatClampNeg) = 3 from h2)
  clear ev4
  subst v4
  refine lv_aload_n hx hb dL_law_197 rfl (lv_at hl 1 rfl) ?_
  have hPc := hP.sub (ws' := [(ou, .inr (7, [.long 0, .null])), (xo, .inr (6, [.ref al, .int 0, .int 0, .int 0, x4, x5, .ref b1, x7])), (al, .inr (4, [.int mc, .ref (zk 0), .int 0]))]) [0, 1, 2] rfl
  have hDc := hD.sub (ws' := [(ou, .inr (7, [.long 0, .null])), (xo, .inr (6, [.ref al, .int 0, .int 0, .int 0, x4, x5, .ref b1, x7])), (al, .inr (4, [.int mc, .ref (zk 0), .int 0]))]) [0, 1, 2] (by decide) rfl
  have hFc := va_free (wc := [(ou, .inr (7, [.long 0, .null])), (xo, .inr (6, [.ref al, .int 0, .int 0, .int 0, x4, x5, .ref b1, x7])), (al, .inr (4, [.int mc, .ref (zk 0), .int 0]))]) hD hS hA [0, 1, 2] rfl
  have hDv := hDc.self (sz := H.size)
  have hpre := zpre (xs' := []) (av := [.ref xo, .int kd, .int 3, .ref ou]) hPc hK (hDc.weaken (fun _ _ _ h => h)) hZ hS hFc (fun r hr => by cases hr)
  refine va_calli (vx_runSW (As := [.ref xo, .int kd, .int 3, .ref ou]) (rest := []) ⟨hx, hb, hml, hown, hts⟩ (k_mkH3s l dC dI cI cB cR cO zk ou (.long 0) .null xo al b1 (.int 0) (.int 0) (.int 0) x4 x5 x7 mc kd H.size hk0 hk4 hkd) (vx_cwSW 4 hts gL_law_L_make rfl rfl rfl (by decide +kernel) ⟨Nat.le_of_ble_eq_true rfl, Nat.le_of_ble_eq_true rfl⟩) ⟨zblind, hpre⟩ rfl rfl hl.1 rfl (lv_room (Nat.le_of_ble_eq_true rfl)) dL_law_198 ⟨Nat.le_of_ble_eq_true rfl, Nat.le_of_ble_eq_true rfl⟩) hS (fun q _ h => hFc q h) hFc (fun r6 u t H5 locs ht hvm hw hB hz1 hk1 hS => ?_)
  obtain rfl : 0 = r6 := (show r6 = 0 from hw).symm
  obtain ⟨hP1, hK1, hD1, hz2⟩ := hB
  rw [ht] at hP1 hz2
  have hPD9 := va_join (wr := [(mo, .inr (9, [.int 0, .ref am, .int 0, .int 0, .int 0])), (am, .inr (4, [.int mm, .ref (zk 0), .int 0]))]) (w1 := [(ou, .inr (7, [.long 0, .null])), (xo, .inr (6, [.ref al, .int 0, .int 0, .int 0, x4, x5, .ref b1, x7]))]) hP hD [0, 1, 2] [3, 4] rfl rfl (by decide) (by decide) hk1 hFc hP1 hD1
  clear hPc hDc hFc hDv hpre hP hD hP1 hK1 hD1
  obtain ⟨hP, hD⟩ := hPD9
  replace hz : s.heap.size + 0 ≤ H5.size := by omega
  clear hz2
  replace hP : va_P (dC, dI) vwCl [(mo, .inr (9, [.int 0, .ref am, .int 0, .int 0, .int 0])), (am, .inr (4, [.int mm, .ref (zk 0), .int 0])), (ou, .inr (7, [.long 0, .null])), (xo, .inr (6, [.ref al, .int 0, .int 0, .int 0, x4, x5, .ref b1, x7]))] H5 := hP
  replace hD : va_D A [(mo, .inr (9, [.int 0, .ref am, .int 0, .int 0, .int 0])), (am, .inr (4, [.int mm, .ref (zk 0), .int 0])), (ou, .inr (7, [.long 0, .null])), (xo, .inr (6, [.ref al, .int 0, .int 0, .int 0, x4, x5, .ref b1, x7]))] := hD
  refine W.widen (k := 22) (n := 104) (by omega) (by omega) ?_
  refine lv_istore (lv' := [(5, .int 0), (4, .int 0), (3, .ref ou), (2, .ref mo), (1, .ref xo), (0, .ref b)]) hx hb dL_law_201 hl (by decide) rfl (fun ls hl => ?_)
  refine lv_aload_n hx hb dL_law_203 rfl (lv_at hl 3 rfl) ?_
  refine lv_aload_n hx hb dL_law_204 rfl (lv_at hl 5 rfl) ?_
  refine lv_iload hx hb dL_law_205 (lv_at hl 1 rfl) ?_
  refine lv_iconst (v := 1) hx hb dL_law_207 (by decide) ?_
  refine lv_iadd hx hb dL_law_208 ?_
  refine lv_topi (fun v7 ev7 => ?_)
  obtain rfl : v7 = 1 := ev7.trans (by decide)
  refine va_sld hx hb hX hbl hbA hS (by unfold vp_in; decide) dL_law_209 ?_
  refine lv_topi (fun v8 ev8 => ?_)
  have e9 : v8 = kd := ev8.trans (show xs ((1 : Int32).toNatClampNeg) = kd from h1)
  clear ev8
  subst v8
  refine lv_aload_n hx hb dL_law_210 rfl (lv_at hl 5 rfl) ?_
  refine lv_iload hx hb dL_law_211 (lv_at hl 1 rfl) ?_
  refine lv_iconst (v := 2) hx hb dL_law_213 (by decide) ?_
  refine lv_iadd hx hb dL_law_214 ?_
  refine lv_topi (fun v9 ev9 => ?_)
  obtain rfl : v9 = 2 := ev9.trans (by decide)
  refine va_sld hx hb hX hbl hbA hS (by unfold vp_in; decide) dL_law_215 ?_
  refine lv_topi (fun v10 ev10 => ?_)
  have e9 : v10 = 3 := ev10.trans (show xs ((2 : Int32).toNatClampNeg) = 3 from h2)
  clear ev10
  subst v10
  have hPc := hP.sub (ws' := [(mo, .inr (9, [.int 0, .ref am, .int 0, .int 0, .int 0])), (am, .inr (4, [.int mm, .ref (zk 0), .int 0]))]) [0, 1] rfl
  have hDc := hD.sub (ws' := [(mo, .inr (9, [.int 0, .ref am, .int 0, .int 0, .int 0])), (am, .inr (4, [.int mm, .ref (zk 0), .int 0]))]) [0, 1] (by decide) rfl
  have hFc := va_free (wc := [(mo, .inr (9, [.int 0, .ref am, .int 0, .int 0, .int 0])), (am, .inr (4, [.int mm, .ref (zk 0), .int 0]))]) hD hS hA [0, 1] rfl
  have hDv := hDc.self (sz := H5.size)
  have hpre := zpre (xs' := []) (av := [.ref mo, .int kd, .int 3]) hPc hK (hDc.weaken (fun _ _ _ h => h)) hZ hS hFc (fun r hr => by cases hr)
  refine va_calli (va_runV (As := [.int kd, .int 3]) (rest := []) ⟨hx, hb, hml, hown, hts⟩ (k_mkM3s l dC dI cI cB cR cO zk mo am (.int 0) mm kd H5.size hk0 hk4 hkd) (cwV 2 hts gL_law_X4_make rfl rfl rfl (by decide +kernel) ⟨Nat.le_of_ble_eq_true rfl, Nat.le_of_ble_eq_true rfl⟩) ⟨zblind, (zrecv_9 hK hPc (q0 := 0) rfl), hpre⟩ rfl rfl hl.1 rfl (lv_room (Nat.le_of_ble_eq_true rfl)) dL_law_216 ⟨Nat.le_of_ble_eq_true rfl, Nat.le_of_ble_eq_true rfl⟩) hS (fun q _ h => hFc q h) hFc (fun r12 u t H11 locs ht hvm hw hB hz1 hk1 hS => ?_)
  obtain rfl : 0 = r12 := (show r12 = 0 from hw).symm
  obtain ⟨hP1, hK1, hD1, hz2⟩ := hB
  rw [ht] at hP1 hz2
  have hPD9 := va_join (wr := [(ou, .inr (7, [.long 0, .null])), (xo, .inr (6, [.ref al, .int 0, .int 0, .int 0, x4, x5, .ref b1, x7]))]) (w1 := [(mo, .inr (9, [.int 0, .ref am, .int 0, .int 0, .int 0]))]) hP hD [0, 1] [2, 3] rfl rfl (by decide) (by decide) hk1 hFc hP1 hD1
  clear hPc hDc hFc hDv hpre hP hD hP1 hK1 hD1
  obtain ⟨hP, hD⟩ := hPD9
  replace hz : s.heap.size + 4 ≤ H11.size := by omega
  clear hz2
  replace hP : va_P (dC, dI) vwCl [(ou, .inr (7, [.long 0, .null])), (xo, .inr (6, [.ref al, .int 0, .int 0, .int 0, x4, x5, .ref b1, x7])), (mo, .inr (9, [.int 0, .ref am, .int 0, .int 0, .int 0]))] H11 := hP
  replace hD : va_D A [(ou, .inr (7, [.long 0, .null])), (xo, .inr (6, [.ref al, .int 0, .int 0, .int 0, x4, x5, .ref b1, x7])), (mo, .inr (9, [.int 0, .ref am, .int 0, .int 0, .int 0]))] := hD
  refine W.widen (k := 26) (n := 123) (by omega) (by omega) ?_
  refine lv_istore (lv' := [(6, .int 0), (5, .int 0), (4, .int 0), (3, .ref ou), (2, .ref mo), (1, .ref xo), (0, .ref b)]) hx hb dL_law_219 hl (by decide) rfl (fun ls hl => ?_)
  refine lv_aload_n hx hb dL_law_221 rfl (lv_at hl 4 rfl) ?_
  have hPc := hP.sub (ws' := [(mo, .inr (9, [.int 0, .ref am, .int 0, .int 0, .int 0]))]) [2] rfl
  have hDc := hD.sub (ws' := [(mo, .inr (9, [.int 0, .ref am, .int 0, .int 0, .int 0]))]) [2] (by decide) rfl
  have hFc := va_free (wc := [(mo, .inr (9, [.int 0, .ref am, .int 0, .int 0, .int 0]))]) hD hS hA [2] rfl
  have hDv := hDc.self (sz := H11.size)
  have hpre := zpre (xs' := []) (av := [.ref mo]) hPc hK (hDc.weaken (fun _ _ _ h => h)) hZ hS hFc (fun r hr => by cases hr)
  refine va_calli (va_runV (As := []) (rest := []) ⟨hx, hb, hml, hown, hts⟩ (k_th0 l dC dI cI cB cR cO zk mo am H11.size ) (cwV 0 hts gL_law_X4_thrown rfl rfl rfl (by decide +kernel) ⟨Nat.le_of_ble_eq_true rfl, Nat.le_of_ble_eq_true rfl⟩) ⟨zblind, (zrecv_9 hK hPc (q0 := 0) rfl), hpre⟩ rfl rfl hl.1 rfl (lv_room (Nat.le_of_ble_eq_true rfl)) dL_law_222 ⟨Nat.le_of_ble_eq_true rfl, Nat.le_of_ble_eq_true rfl⟩) hS (fun q _ h => hFc q h) hFc (fun r14 u t H13 locs ht hvm hw hB hz1 hk1 hS => ?_)
  obtain rfl : 0 = r14 := (show r14 = 0 from hw).symm
  obtain ⟨hP1, hK1, hD1, hz2⟩ := hB
  rw [ht] at hP1 hz2
  have hPD9 := va_join (wr := [(ou, .inr (7, [.long 0, .null])), (xo, .inr (6, [.ref al, .int 0, .int 0, .int 0, x4, x5, .ref b1, x7]))]) (w1 := [(mo, .inr (9, [.int 0, .ref am, .int 0, .int 0, .int 0]))]) hP hD [2] [0, 1] rfl rfl (by decide) (by decide) hk1 hFc hP1 hD1
  clear hPc hDc hFc hDv hpre hP hD hP1 hK1 hD1
  obtain ⟨hP, hD⟩ := hPD9
  replace hz : s.heap.size + 4 ≤ H13.size := by omega
  clear hz2
  replace hP : va_P (dC, dI) vwCl [(ou, .inr (7, [.long 0, .null])), (xo, .inr (6, [.ref al, .int 0, .int 0, .int 0, x4, x5, .ref b1, x7])), (mo, .inr (9, [.int 0, .ref am, .int 0, .int 0, .int 0]))] H13 := hP
  replace hD : va_D A [(ou, .inr (7, [.long 0, .null])), (xo, .inr (6, [.ref al, .int 0, .int 0, .int 0, x4, x5, .ref b1, x7])), (mo, .inr (9, [.int 0, .ref am, .int 0, .int 0, .int 0]))] := hD
  refine W.widen (k := 26) (n := 123) (by omega) (by omega) ?_
  refine lv_iload hx hb dL_law_225 (lv_at hl 1 rfl) ?_
  refine lv_icmp_eq (tgt := 232) hx hb dL_law_227 (by decide) (fun c9 => ?_) (fun c9 => ?_)
  rotate_left
  · exact absurd (by decide) c9
  refine lv_iload hx hb dL_law_232 (lv_at hl 1 rfl) ?_
  refine lv_if_ne (tgt := 250) hx hb dL_law_234 (by decide) (fun c9 => ?_) (fun c9 => ?_)
  · exact absurd (by decide) c9
  refine lv_aload_n hx hb dL_law_237 rfl (lv_at hl 3 rfl) ?_
  refine va_getN (D := (dC, dI)) (ci := 7) (v := .long 0) (C := RX2) (T := TX2) (N := 2) hx hb hts inlX2 hown hK hP 0 rfl rfl 0 (by decide) (zn6 hZ) (fun _ h9 => h9) rfl dL_law_238 ?_
  refine lv_iload hx hb dL_law_241 (lv_at hl 0 rfl) ?_
  refine lv_i2l (v := 0) hx hb dL_law_243 (by decide) ?_
  refine W.lcmp hx hb dL_law_244 ?_
  refine lv_topi (fun v15 ev15 => ?_)
  obtain rfl : v15 = 0 := ev15.trans (by decide)
  refine lv_if_eq (tgt := 250) hx hb dL_law_245 (by decide) (fun c9 => ?_) (fun c9 => ?_)
  rotate_left
  · exact absurd (by decide) c9
  refine lv_goto (tgt := 2155) hx hb dL_law_250 (by decide) ?_
  rw [hAd] at hS
  exact zl_tail l dC dI cI cB cR cO zk b xs C1 hZ0 hK hS (Nat.le_of_ble_eq_true rfl) (Nat.le_of_ble_eq_true rfl) ls (lv_sub hl [6, 2] rfl)

set_option maxHeartbeats 4000000 in
set_option maxRecDepth 100000 in
theorem zl_a_make44 (l : Launch) (dC : Nat → ClassId) (dI : Nat → Nat → Nat) (cI cB cR cO : ClassId) (zk : Nat → Nat) {p : Program} {e : Env} {s : State} {mY : MethodId} {below : List Frame} {meth : Method} {c : Code} (b : Nat) (xs : Nat → Int32) (hfl : l.stackTraces = false) (C0 : zl_At p s mY meth c b 5 xs) (hZ0 : zR zk [] (fun q => s.heap.size ≤ q) s s.heap) (hK : va_K (dC, dI) vwCl (zT cI cB cR cO) s) (ou xo al b1 : Nat) (x4 x5 x7 : Value) (mc : Int32) (mo am : Nat) (mm : Int32)  (h1 : xs 1 = 4) (h2 : xs 2 = 4)  (H : Heap) (locs : List Loc) (hP : va_P (dC, dI) vwCl [(ou, .inr (7, [.long 0, .null])), (xo, .inr (6, [.ref al, .int 0, .int 0, .int 0, x4, x5, .ref b1, x7])), (al, .inr (4, [.int mc, .ref (zk 0), .int 0])), (mo, .inr (9, [.int 0, .ref am, .int 0, .int 0, .int 0])), (am, .inr (4, [.int mm, .ref (zk 0), .int 0]))] H) (hD : va_D (fun q => s.heap.size ≤ q) [(ou, .inr (7, [.long 0, .null])), (xo, .inr (6, [.ref al, .int 0, .int 0, .int 0, x4, x5, .ref b1, x7])), (al, .inr (4, [.int mc, .ref (zk 0), .int 0])), (mo, .inr (9, [.int 0, .ref am, .int 0, .int 0, .int 0])), (am, .inr (4, [.int mm, .ref (zk 0), .int 0]))]) (hS : va_S (fun q => s.heap.size ≤ q) s.heap H locs) (ls : Array Slot) (hl : lv_has ls 7 [(4, .int 0), (3, .ref ou), (2, .ref mo), (1, .ref xo), (0, .ref b)]) : W p l e room_1 s mY #[Value.ref b] below meth c H locs 17 79 (lw_Z below #[Value.ref b] s) (F0 mY 184 ls []) := by
  have C1 := C0
  obtain ⟨hx, hb, hr, hml, hown, hts0, hX, hbl, hlocks, hNI⟩ := C0
  have hts := fun (w : Cond) (h : w ∈ wsL_law) => hts0 w (wsL_law_in w h)
  obtain ⟨A, hAd⟩ : ∃ A : Nat → Prop, A = fun q => s.heap.size ≤ q := ⟨_, rfl⟩
  have hA : ∀ q : Nat, s.heap.size ≤ q → A q := fun q h => by rw [hAd]; exact h
  have hAf : ∀ q : Nat, A q → s.heap.size ≤ q := fun q h => by rw [hAd] at h; exact h
  have hbA : ¬ A b := fun h => absurd (hAf b h) (Nat.not_le.mpr hbl)
  have hZ : zR zk [] A s s.heap := by rw [hAd]; exact hZ0
  rw [← hAd] at hD hS
  replace hP : va_P (dC, dI) vwCl [(ou, .inr (7, [.long 0, .null])), (xo, .inr (6, [.ref al, .int 0, .int 0, .int 0, x4, x5, .ref b1, x7])), (al, .inr (4, [.int mc, .ref (zk 0), .int 0])), (mo, .inr (9, [.int 0, .ref am, .int 0, .int 0, .int 0])), (am, .inr (4, [.int mm, .ref (zk 0), .int 0]))] H := hP
  replace hD : va_D A [(ou, .inr (7, [.long 0, .null])), (xo, .inr (6, [.ref al, .int 0, .int 0, .int 0, x4, x5, .ref b1, x7])), (al, .inr (4, [.int mc, .ref (zk 0), .int 0])), (mo, .inr (9, [.int 0, .ref am, .int 0, .int 0, .int 0])), (am, .inr (4, [.int mm, .ref (zk 0), .int 0]))] := hD
  have hz : s.heap.size + 0 ≤ H.size := hS.1
  refine lv_aload_n hx hb dL_law_184 rfl (lv_at hl 3 rfl) ?_
  refine lv_aload_n hx hb dL_law_185 rfl (lv_at hl 4 rfl) ?_
  refine lv_iload hx hb dL_law_186 (lv_at hl 0 rfl) ?_
  refine lv_iconst (v := 1) hx hb dL_law_188 (by decide) ?_
  refine lv_iadd hx hb dL_law_189 ?_
  refine lv_topi (fun v1 ev1 => ?_)
  obtain rfl : v1 = 1 := ev1.trans (by decide)
  refine va_sld hx hb hX hbl hbA hS (by unfold vp_in; decide) dL_law_190 ?_
  refine lv_topi (fun v2 ev2 => ?_)
  have e9 : v2 = 4 := ev2.trans (show xs ((1 : Int32).toNatClampNeg) = 4 from h1)
  clear ev2
  subst v2
  refine lv_aload_n hx hb dL_law_191 rfl (lv_at hl 4 rfl) ?_
  refine lv_iload hx hb dL_law_192 (lv_at hl 0 rfl) ?_
  refine lv_iconst (v := 2) hx hb dL_law_194 (by decide) ?_
  refine lv_iadd hx hb dL_law_195 ?_
  refine lv_topi (fun v3 ev3 => ?_)
  obtain rfl : v3 = 2 := ev3.trans (by decide)
  refine va_sld hx hb hX hbl hbA hS (by unfold vp_in; decide) dL_law_196 ?_
  refine lv_topi (fun v4 ev4 => ?_)
  have e9 : v4 = 4 := ev4.trans (show xs ((2 : Int32).toNatClampNeg) = 4 from h2)
  clear ev4
  subst v4
  refine lv_aload_n hx hb dL_law_197 rfl (lv_at hl 1 rfl) ?_
  have hPc := hP.sub (ws' := [(ou, .inr (7, [.long 0, .null])), (xo, .inr (6, [.ref al, .int 0, .int 0, .int 0, x4, x5, .ref b1, x7])), (al, .inr (4, [.int mc, .ref (zk 0), .int 0]))]) [0, 1, 2] rfl
  have hDc := hD.sub (ws' := [(ou, .inr (7, [.long 0, .null])), (xo, .inr (6, [.ref al, .int 0, .int 0, .int 0, x4, x5, .ref b1, x7])), (al, .inr (4, [.int mc, .ref (zk 0), .int 0]))]) [0, 1, 2] (by decide) rfl
  have hFc := va_free (wc := [(ou, .inr (7, [.long 0, .null])), (xo, .inr (6, [.ref al, .int 0, .int 0, .int 0, x4, x5, .ref b1, x7])), (al, .inr (4, [.int mc, .ref (zk 0), .int 0]))]) hD hS hA [0, 1, 2] rfl
  have hDv := hDc.self (sz := H.size)
  have hpre := zpre (xs' := []) (av := [.ref xo, .int 4, .int 4, .ref ou]) hPc hK (hDc.weaken (fun _ _ _ h => h)) hZ hS hFc (fun r hr => by cases hr)
  refine va_calli (vx_runSW (As := [.ref xo, .int 4, .int 4, .ref ou]) (rest := []) ⟨hx, hb, hml, hown, hts⟩ (k_mkH44 l dC dI cI cB cR cO zk ou (.long 0) .null xo al b1 (.int 0) (.int 0) (.int 0) x4 x5 x7 mc H.size ) (vx_cwSW 4 hts gL_law_L_make rfl rfl rfl (by decide +kernel) ⟨Nat.le_of_ble_eq_true rfl, Nat.le_of_ble_eq_true rfl⟩) ⟨zblind, hpre⟩ rfl rfl hl.1 rfl (lv_room (Nat.le_of_ble_eq_true rfl)) dL_law_198 ⟨Nat.le_of_ble_eq_true rfl, Nat.le_of_ble_eq_true rfl⟩) hS (fun q _ h => hFc q h) hFc (fun r6 u t H5 locs ht hvm hw hB hz1 hk1 hS => ?_)
  obtain rfl : 0 = r6 := (show r6 = 0 from hw).symm
  obtain ⟨hP1, hK1, hD1, hz2⟩ := hB
  rw [ht] at hP1 hz2
  have hPD9 := va_join (wr := [(mo, .inr (9, [.int 0, .ref am, .int 0, .int 0, .int 0])), (am, .inr (4, [.int mm, .ref (zk 0), .int 0]))]) (w1 := [(ou, .inr (7, [.long 0, .null])), (xo, .inr (6, [.ref al, .int 0, .int 0, .int 0, x4, x5, .ref b1, x7]))]) hP hD [0, 1, 2] [3, 4] rfl rfl (by decide) (by decide) hk1 hFc hP1 hD1
  clear hPc hDc hFc hDv hpre hP hD hP1 hK1 hD1
  obtain ⟨hP, hD⟩ := hPD9
  replace hz : s.heap.size + 0 ≤ H5.size := by omega
  clear hz2
  replace hP : va_P (dC, dI) vwCl [(mo, .inr (9, [.int 0, .ref am, .int 0, .int 0, .int 0])), (am, .inr (4, [.int mm, .ref (zk 0), .int 0])), (ou, .inr (7, [.long 0, .null])), (xo, .inr (6, [.ref al, .int 0, .int 0, .int 0, x4, x5, .ref b1, x7]))] H5 := hP
  replace hD : va_D A [(mo, .inr (9, [.int 0, .ref am, .int 0, .int 0, .int 0])), (am, .inr (4, [.int mm, .ref (zk 0), .int 0])), (ou, .inr (7, [.long 0, .null])), (xo, .inr (6, [.ref al, .int 0, .int 0, .int 0, x4, x5, .ref b1, x7]))] := hD
  refine W.widen (k := 22) (n := 107) (by omega) (by omega) ?_
  refine lv_istore (lv' := [(5, .int 0), (4, .int 0), (3, .ref ou), (2, .ref mo), (1, .ref xo), (0, .ref b)]) hx hb dL_law_201 hl (by decide) rfl (fun ls hl => ?_)
  refine lv_aload_n hx hb dL_law_203 rfl (lv_at hl 3 rfl) ?_
  refine lv_aload_n hx hb dL_law_204 rfl (lv_at hl 5 rfl) ?_
  refine lv_iload hx hb dL_law_205 (lv_at hl 1 rfl) ?_
  refine lv_iconst (v := 1) hx hb dL_law_207 (by decide) ?_
  refine lv_iadd hx hb dL_law_208 ?_
  refine lv_topi (fun v7 ev7 => ?_)
  obtain rfl : v7 = 1 := ev7.trans (by decide)
  refine va_sld hx hb hX hbl hbA hS (by unfold vp_in; decide) dL_law_209 ?_
  refine lv_topi (fun v8 ev8 => ?_)
  have e9 : v8 = 4 := ev8.trans (show xs ((1 : Int32).toNatClampNeg) = 4 from h1)
  clear ev8
  subst v8
  refine lv_aload_n hx hb dL_law_210 rfl (lv_at hl 5 rfl) ?_
  refine lv_iload hx hb dL_law_211 (lv_at hl 1 rfl) ?_
  refine lv_iconst (v := 2) hx hb dL_law_213 (by decide) ?_
  refine lv_iadd hx hb dL_law_214 ?_
  refine lv_topi (fun v9 ev9 => ?_)
  obtain rfl : v9 = 2 := ev9.trans (by decide)
  refine va_sld hx hb hX hbl hbA hS (by unfold vp_in; decide) dL_law_215 ?_
  refine lv_topi (fun v10 ev10 => ?_)
  have e9 : v10 = 4 := ev10.trans (show xs ((2 : Int32).toNatClampNeg) = 4 from h2)
  clear ev10
  subst v10
  have hPc := hP.sub (ws' := [(mo, .inr (9, [.int 0, .ref am, .int 0, .int 0, .int 0])), (am, .inr (4, [.int mm, .ref (zk 0), .int 0]))]) [0, 1] rfl
  have hDc := hD.sub (ws' := [(mo, .inr (9, [.int 0, .ref am, .int 0, .int 0, .int 0])), (am, .inr (4, [.int mm, .ref (zk 0), .int 0]))]) [0, 1] (by decide) rfl
  have hFc := va_free (wc := [(mo, .inr (9, [.int 0, .ref am, .int 0, .int 0, .int 0])), (am, .inr (4, [.int mm, .ref (zk 0), .int 0]))]) hD hS hA [0, 1] rfl
  have hDv := hDc.self (sz := H5.size)
  have hpre := zpre (xs' := []) (av := [.ref mo, .int 4, .int 4]) hPc hK (hDc.weaken (fun _ _ _ h => h)) hZ hS hFc (fun r hr => by cases hr)
  refine va_calli (va_runV (As := [.int 4, .int 4]) (rest := []) ⟨hx, hb, hml, hown, hts⟩ (k_mkM44 l dC dI cI cB cR cO zk mo am (.int 0) mm H5.size ) (cwV 2 hts gL_law_X4_make rfl rfl rfl (by decide +kernel) ⟨Nat.le_of_ble_eq_true rfl, Nat.le_of_ble_eq_true rfl⟩) ⟨zblind, (zrecv_9 hK hPc (q0 := 0) rfl), hpre⟩ rfl rfl hl.1 rfl (lv_room (Nat.le_of_ble_eq_true rfl)) dL_law_216 ⟨Nat.le_of_ble_eq_true rfl, Nat.le_of_ble_eq_true rfl⟩) hS (fun q _ h => hFc q h) hFc (fun r12 u t H11 locs ht hvm hw hB hz1 hk1 hS => ?_)
  obtain rfl : 0 = r12 := (show r12 = 0 from hw).symm
  obtain ⟨hP1, hK1, hD1, hz2⟩ := hB
  rw [ht] at hP1 hz2
  have hPD9 := va_join (wr := [(ou, .inr (7, [.long 0, .null])), (xo, .inr (6, [.ref al, .int 0, .int 0, .int 0, x4, x5, .ref b1, x7]))]) (w1 := [(mo, .inr (9, [.int 0, .ref am, .int 0, .int 0, .int 0]))]) hP hD [0, 1] [2, 3] rfl rfl (by decide) (by decide) hk1 hFc hP1 hD1
  clear hPc hDc hFc hDv hpre hP hD hP1 hK1 hD1
  obtain ⟨hP, hD⟩ := hPD9
  replace hz : s.heap.size + 4 ≤ H11.size := by omega
  clear hz2
  replace hP : va_P (dC, dI) vwCl [(ou, .inr (7, [.long 0, .null])), (xo, .inr (6, [.ref al, .int 0, .int 0, .int 0, x4, x5, .ref b1, x7])), (mo, .inr (9, [.int 0, .ref am, .int 0, .int 0, .int 0]))] H11 := hP
  replace hD : va_D A [(ou, .inr (7, [.long 0, .null])), (xo, .inr (6, [.ref al, .int 0, .int 0, .int 0, x4, x5, .ref b1, x7])), (mo, .inr (9, [.int 0, .ref am, .int 0, .int 0, .int 0]))] := hD
  refine W.widen (k := 26) (n := 128) (by omega) (by omega) ?_
  refine lv_istore (lv' := [(6, .int 0), (5, .int 0), (4, .int 0), (3, .ref ou), (2, .ref mo), (1, .ref xo), (0, .ref b)]) hx hb dL_law_219 hl (by decide) rfl (fun ls hl => ?_)
  refine lv_aload_n hx hb dL_law_221 rfl (lv_at hl 4 rfl) ?_
  have hPc := hP.sub (ws' := [(mo, .inr (9, [.int 0, .ref am, .int 0, .int 0, .int 0]))]) [2] rfl
  have hDc := hD.sub (ws' := [(mo, .inr (9, [.int 0, .ref am, .int 0, .int 0, .int 0]))]) [2] (by decide) rfl
  have hFc := va_free (wc := [(mo, .inr (9, [.int 0, .ref am, .int 0, .int 0, .int 0]))]) hD hS hA [2] rfl
  have hDv := hDc.self (sz := H11.size)
  have hpre := zpre (xs' := []) (av := [.ref mo]) hPc hK (hDc.weaken (fun _ _ _ h => h)) hZ hS hFc (fun r hr => by cases hr)
  refine va_calli (va_runV (As := []) (rest := []) ⟨hx, hb, hml, hown, hts⟩ (k_th0 l dC dI cI cB cR cO zk mo am H11.size ) (cwV 0 hts gL_law_X4_thrown rfl rfl rfl (by decide +kernel) ⟨Nat.le_of_ble_eq_true rfl, Nat.le_of_ble_eq_true rfl⟩) ⟨zblind, (zrecv_9 hK hPc (q0 := 0) rfl), hpre⟩ rfl rfl hl.1 rfl (lv_room (Nat.le_of_ble_eq_true rfl)) dL_law_222 ⟨Nat.le_of_ble_eq_true rfl, Nat.le_of_ble_eq_true rfl⟩) hS (fun q _ h => hFc q h) hFc (fun r14 u t H13 locs ht hvm hw hB hz1 hk1 hS => ?_)
  obtain rfl : 0 = r14 := (show r14 = 0 from hw).symm
  obtain ⟨hP1, hK1, hD1, hz2⟩ := hB
  rw [ht] at hP1 hz2
  have hPD9 := va_join (wr := [(ou, .inr (7, [.long 0, .null])), (xo, .inr (6, [.ref al, .int 0, .int 0, .int 0, x4, x5, .ref b1, x7]))]) (w1 := [(mo, .inr (9, [.int 0, .ref am, .int 0, .int 0, .int 0]))]) hP hD [2] [0, 1] rfl rfl (by decide) (by decide) hk1 hFc hP1 hD1
  clear hPc hDc hFc hDv hpre hP hD hP1 hK1 hD1
  obtain ⟨hP, hD⟩ := hPD9
  replace hz : s.heap.size + 4 ≤ H13.size := by omega
  clear hz2
  replace hP : va_P (dC, dI) vwCl [(ou, .inr (7, [.long 0, .null])), (xo, .inr (6, [.ref al, .int 0, .int 0, .int 0, x4, x5, .ref b1, x7])), (mo, .inr (9, [.int 0, .ref am, .int 0, .int 0, .int 0]))] H13 := hP
  replace hD : va_D A [(ou, .inr (7, [.long 0, .null])), (xo, .inr (6, [.ref al, .int 0, .int 0, .int 0, x4, x5, .ref b1, x7])), (mo, .inr (9, [.int 0, .ref am, .int 0, .int 0, .int 0]))] := hD
  refine W.widen (k := 26) (n := 128) (by omega) (by omega) ?_
  refine lv_iload hx hb dL_law_225 (lv_at hl 1 rfl) ?_
  refine lv_icmp_eq (tgt := 232) hx hb dL_law_227 (by decide) (fun c9 => ?_) (fun c9 => ?_)
  rotate_left
  · exact absurd (by decide) c9
  refine lv_iload hx hb dL_law_232 (lv_at hl 1 rfl) ?_
  refine lv_if_ne (tgt := 250) hx hb dL_law_234 (by decide) (fun c9 => ?_) (fun c9 => ?_)
  · exact absurd (by decide) c9
  refine lv_aload_n hx hb dL_law_237 rfl (lv_at hl 3 rfl) ?_
  refine va_getN (D := (dC, dI)) (ci := 7) (v := .long 0) (C := RX2) (T := TX2) (N := 2) hx hb hts inlX2 hown hK hP 0 rfl rfl 0 (by decide) (zn6 hZ) (fun _ h9 => h9) rfl dL_law_238 ?_
  refine lv_iload hx hb dL_law_241 (lv_at hl 0 rfl) ?_
  refine lv_i2l (v := 0) hx hb dL_law_243 (by decide) ?_
  refine W.lcmp hx hb dL_law_244 ?_
  refine lv_topi (fun v15 ev15 => ?_)
  obtain rfl : v15 = 0 := ev15.trans (by decide)
  refine lv_if_eq (tgt := 250) hx hb dL_law_245 (by decide) (fun c9 => ?_) (fun c9 => ?_)
  rotate_left
  · exact absurd (by decide) c9
  refine lv_goto (tgt := 2155) hx hb dL_law_250 (by decide) ?_
  rw [hAd] at hS
  exact zl_tail l dC dI cI cB cR cO zk b xs C1 hZ0 hK hS (Nat.le_of_ble_eq_true rfl) (Nat.le_of_ble_eq_true rfl) ls (lv_sub hl [6, 2] rfl)

set_option maxHeartbeats 4000000 in
set_option maxRecDepth 100000 in
theorem zl_a_make4s (l : Launch) (dC : Nat → ClassId) (dI : Nat → Nat → Nat) (cI cB cR cO : ClassId) (zk : Nat → Nat) {p : Program} {e : Env} {s : State} {mY : MethodId} {below : List Frame} {meth : Method} {c : Code} (b : Nat) (xs : Nat → Int32) (hfl : l.stackTraces = false) (C0 : zl_At p s mY meth c b 5 xs) (hZ0 : zR zk [] (fun q => s.heap.size ≤ q) s s.heap) (hK : va_K (dC, dI) vwCl (zT cI cB cR cO) s) (ou xo al b1 : Nat) (x4 x5 x7 : Value) (mc : Int32) (mo am : Nat) (mm : Int32)  (kd : Int32) (h1 : xs 1 = kd) (h2 : xs 2 = 4) (hk0 : ¬ kd < 0) (hk4 : kd ≤ 4) (hkd : ¬ kd = 4) (H : Heap) (locs : List Loc) (hP : va_P (dC, dI) vwCl [(ou, .inr (7, [.long 0, .null])), (xo, .inr (6, [.ref al, .int 0, .int 0, .int 0, x4, x5, .ref b1, x7])), (al, .inr (4, [.int mc, .ref (zk 0), .int 0])), (mo, .inr (9, [.int 0, .ref am, .int 0, .int 0, .int 0])), (am, .inr (4, [.int mm, .ref (zk 0), .int 0]))] H) (hD : va_D (fun q => s.heap.size ≤ q) [(ou, .inr (7, [.long 0, .null])), (xo, .inr (6, [.ref al, .int 0, .int 0, .int 0, x4, x5, .ref b1, x7])), (al, .inr (4, [.int mc, .ref (zk 0), .int 0])), (mo, .inr (9, [.int 0, .ref am, .int 0, .int 0, .int 0])), (am, .inr (4, [.int mm, .ref (zk 0), .int 0]))]) (hS : va_S (fun q => s.heap.size ≤ q) s.heap H locs) (ls : Array Slot) (hl : lv_has ls 7 [(4, .int 0), (3, .ref ou), (2, .ref mo), (1, .ref xo), (0, .ref b)]) : W p l e room_1 s mY #[Value.ref b] below meth c H locs 17 79 (lw_Z below #[Value.ref b] s) (F0 mY 184 ls []) := by
  have C1 := C0
  obtain ⟨hx, hb, hr, hml, hown, hts0, hX, hbl, hlocks, hNI⟩ := C0
  have hts := fun (w : Cond) (h : w ∈ wsL_law) => hts0 w (wsL_law_in w h)
  obtain ⟨A, hAd⟩ : ∃ A : Nat → Prop, A = fun q => s.heap.size ≤ q := ⟨_, rfl⟩
  have hA : ∀ q : Nat, s.heap.size ≤ q → A q := fun q h => by rw [hAd]; exact h
  have hAf : ∀ q : Nat, A q → s.heap.size ≤ q := fun q h => by rw [hAd] at h; exact h
  have hbA : ¬ A b := fun h => absurd (hAf b h) (Nat.not_le.mpr hbl)
  have hZ : zR zk [] A s s.heap := by rw [hAd]; exact hZ0
  rw [← hAd] at hD hS
  replace hP : va_P (dC, dI) vwCl [(ou, .inr (7, [.long 0, .null])), (xo, .inr (6, [.ref al, .int 0, .int 0, .int 0, x4, x5, .ref b1, x7])), (al, .inr (4, [.int mc, .ref (zk 0), .int 0])), (mo, .inr (9, [.int 0, .ref am, .int 0, .int 0, .int 0])), (am, .inr (4, [.int mm, .ref (zk 0), .int 0]))] H := hP
  replace hD : va_D A [(ou, .inr (7, [.long 0, .null])), (xo, .inr (6, [.ref al, .int 0, .int 0, .int 0, x4, x5, .ref b1, x7])), (al, .inr (4, [.int mc, .ref (zk 0), .int 0])), (mo, .inr (9, [.int 0, .ref am, .int 0, .int 0, .int 0])), (am, .inr (4, [.int mm, .ref (zk 0), .int 0]))] := hD
  have hz : s.heap.size + 0 ≤ H.size := hS.1
  refine lv_aload_n hx hb dL_law_184 rfl (lv_at hl 3 rfl) ?_
  refine lv_aload_n hx hb dL_law_185 rfl (lv_at hl 4 rfl) ?_
  refine lv_iload hx hb dL_law_186 (lv_at hl 0 rfl) ?_
  refine lv_iconst (v := 1) hx hb dL_law_188 (by decide) ?_
  refine lv_iadd hx hb dL_law_189 ?_
  refine lv_topi (fun v1 ev1 => ?_)
  obtain rfl : v1 = 1 := ev1.trans (by decide)
  refine va_sld hx hb hX hbl hbA hS (by unfold vp_in; decide) dL_law_190 ?_
  refine lv_topi (fun v2 ev2 => ?_)
  have e9 : v2 = kd := ev2.trans (show xs ((1 : Int32).toNatClampNeg) = kd from h1)
  clear ev2
  subst v2
  refine lv_aload_n hx hb dL_law_191 rfl (lv_at hl 4 rfl) ?_
  refine lv_iload hx hb dL_law_192 (lv_at hl 0 rfl) ?_
  refine lv_iconst (v := 2) hx hb dL_law_194 (by decide) ?_
  refine lv_iadd hx hb dL_law_195 ?_
  refine lv_topi (fun v3 ev3 => ?_)
  obtain rfl : v3 = 2 := ev3.trans (by decide)
  refine va_sld hx hb hX hbl hbA hS (by unfold vp_in; decide) dL_law_196 ?_
  refine lv_topi (fun v4 ev4 => ?_)
  have e9 : v4 = 4 := ev4.trans (show xs ((2 : Int32).toNatClampNeg) = 4 from h2)
  clear ev4
  subst v4
  refine lv_aload_n hx hb dL_law_197 rfl (lv_at hl 1 rfl) ?_
  have hPc := hP.sub (ws' := [(ou, .inr (7, [.long 0, .null])), (xo, .inr (6, [.ref al, .int 0, .int 0, .int 0, x4, x5, .ref b1, x7])), (al, .inr (4, [.int mc, .ref (zk 0), .int 0]))]) [0, 1, 2] rfl
  have hDc := hD.sub (ws' := [(ou, .inr (7, [.long 0, .null])), (xo, .inr (6, [.ref al, .int 0, .int 0, .int 0, x4, x5, .ref b1, x7])), (al, .inr (4, [.int mc, .ref (zk 0), .int 0]))]) [0, 1, 2] (by decide) rfl
  have hFc := va_free (wc := [(ou, .inr (7, [.long 0, .null])), (xo, .inr (6, [.ref al, .int 0, .int 0, .int 0, x4, x5, .ref b1, x7])), (al, .inr (4, [.int mc, .ref (zk 0), .int 0]))]) hD hS hA [0, 1, 2] rfl
  have hDv := hDc.self (sz := H.size)
  have hpre := zpre (xs' := []) (av := [.ref xo, .int kd, .int 4, .ref ou]) hPc hK (hDc.weaken (fun _ _ _ h => h)) hZ hS hFc (fun r hr => by cases hr)
  refine va_calli (vx_runSW (As := [.ref xo, .int kd, .int 4, .ref ou]) (rest := []) ⟨hx, hb, hml, hown, hts⟩ (k_mkH4s l dC dI cI cB cR cO zk ou (.long 0) .null xo al b1 (.int 0) (.int 0) (.int 0) x4 x5 x7 mc kd H.size hk0 hk4 hkd) (vx_cwSW 4 hts gL_law_L_make rfl rfl rfl (by decide +kernel) ⟨Nat.le_of_ble_eq_true rfl, Nat.le_of_ble_eq_true rfl⟩) ⟨zblind, hpre⟩ rfl rfl hl.1 rfl (lv_room (Nat.le_of_ble_eq_true rfl)) dL_law_198 ⟨Nat.le_of_ble_eq_true rfl, Nat.le_of_ble_eq_true rfl⟩) hS (fun q _ h => hFc q h) hFc (fun r6 u t H5 locs ht hvm hw hB hz1 hk1 hS => ?_)
  obtain rfl : 0 = r6 := (show r6 = 0 from hw).symm
  obtain ⟨hP1, hK1, hD1, hz2⟩ := hB
  rw [ht] at hP1 hz2
  have hPD9 := va_join (wr := [(mo, .inr (9, [.int 0, .ref am, .int 0, .int 0, .int 0])), (am, .inr (4, [.int mm, .ref (zk 0), .int 0]))]) (w1 := [(ou, .inr (7, [.long 0, .null])), (xo, .inr (6, [.ref al, .int 0, .int 0, .int 0, x4, x5, .ref b1, x7]))]) hP hD [0, 1, 2] [3, 4] rfl rfl (by decide) (by decide) hk1 hFc hP1 hD1
  clear hPc hDc hFc hDv hpre hP hD hP1 hK1 hD1
  obtain ⟨hP, hD⟩ := hPD9
  replace hz : s.heap.size + 0 ≤ H5.size := by omega
  clear hz2
  replace hP : va_P (dC, dI) vwCl [(mo, .inr (9, [.int 0, .ref am, .int 0, .int 0, .int 0])), (am, .inr (4, [.int mm, .ref (zk 0), .int 0])), (ou, .inr (7, [.long 0, .null])), (xo, .inr (6, [.ref al, .int 0, .int 0, .int 0, x4, x5, .ref b1, x7]))] H5 := hP
  replace hD : va_D A [(mo, .inr (9, [.int 0, .ref am, .int 0, .int 0, .int 0])), (am, .inr (4, [.int mm, .ref (zk 0), .int 0])), (ou, .inr (7, [.long 0, .null])), (xo, .inr (6, [.ref al, .int 0, .int 0, .int 0, x4, x5, .ref b1, x7]))] := hD
  refine W.widen (k := 22) (n := 107) (by omega) (by omega) ?_
  refine lv_istore (lv' := [(5, .int 0), (4, .int 0), (3, .ref ou), (2, .ref mo), (1, .ref xo), (0, .ref b)]) hx hb dL_law_201 hl (by decide) rfl (fun ls hl => ?_)
  refine lv_aload_n hx hb dL_law_203 rfl (lv_at hl 3 rfl) ?_
  refine lv_aload_n hx hb dL_law_204 rfl (lv_at hl 5 rfl) ?_
  refine lv_iload hx hb dL_law_205 (lv_at hl 1 rfl) ?_
  refine lv_iconst (v := 1) hx hb dL_law_207 (by decide) ?_
  refine lv_iadd hx hb dL_law_208 ?_
  refine lv_topi (fun v7 ev7 => ?_)
  obtain rfl : v7 = 1 := ev7.trans (by decide)
  refine va_sld hx hb hX hbl hbA hS (by unfold vp_in; decide) dL_law_209 ?_
  refine lv_topi (fun v8 ev8 => ?_)
  have e9 : v8 = kd := ev8.trans (show xs ((1 : Int32).toNatClampNeg) = kd from h1)
  clear ev8
  subst v8
  refine lv_aload_n hx hb dL_law_210 rfl (lv_at hl 5 rfl) ?_
  refine lv_iload hx hb dL_law_211 (lv_at hl 1 rfl) ?_
  refine lv_iconst (v := 2) hx hb dL_law_213 (by decide) ?_
  refine lv_iadd hx hb dL_law_214 ?_
  refine lv_topi (fun v9 ev9 => ?_)
  obtain rfl : v9 = 2 := ev9.trans (by decide)
  refine va_sld hx hb hX hbl hbA hS (by unfold vp_in; decide) dL_law_215 ?_
  refine lv_topi (fun v10 ev10 => ?_)
  have e9 : v10 = 4 := ev10.trans (show xs ((2 : Int32).toNatClampNeg) = 4 from h2)
  clear ev10
  subst v10
  have hPc := hP.sub (ws' := [(mo, .inr (9, [.int 0, .ref am, .int 0, .int 0, .int 0])), (am, .inr (4, [.int mm, .ref (zk 0), .int 0]))]) [0, 1] rfl
  have hDc := hD.sub (ws' := [(mo, .inr (9, [.int 0, .ref am, .int 0, .int 0, .int 0])), (am, .inr (4, [.int mm, .ref (zk 0), .int 0]))]) [0, 1] (by decide) rfl
  have hFc := va_free (wc := [(mo, .inr (9, [.int 0, .ref am, .int 0, .int 0, .int 0])), (am, .inr (4, [.int mm, .ref (zk 0), .int 0]))]) hD hS hA [0, 1] rfl
  have hDv := hDc.self (sz := H5.size)
  have hpre := zpre (xs' := []) (av := [.ref mo, .int kd, .int 4]) hPc hK (hDc.weaken (fun _ _ _ h => h)) hZ hS hFc (fun r hr => by cases hr)
  refine va_calli (va_runV (As := [.int kd, .int 4]) (rest := []) ⟨hx, hb, hml, hown, hts⟩ (k_mkM4s l dC dI cI cB cR cO zk mo am (.int 0) mm kd H5.size hk0 hk4 hkd) (cwV 2 hts gL_law_X4_make rfl rfl rfl (by decide +kernel) ⟨Nat.le_of_ble_eq_true rfl, Nat.le_of_ble_eq_true rfl⟩) ⟨zblind, (zrecv_9 hK hPc (q0 := 0) rfl), hpre⟩ rfl rfl hl.1 rfl (lv_room (Nat.le_of_ble_eq_true rfl)) dL_law_216 ⟨Nat.le_of_ble_eq_true rfl, Nat.le_of_ble_eq_true rfl⟩) hS (fun q _ h => hFc q h) hFc (fun r12 u t H11 locs ht hvm hw hB hz1 hk1 hS => ?_)
  obtain rfl : 0 = r12 := (show r12 = 0 from hw).symm
  obtain ⟨hP1, hK1, hD1, hz2⟩ := hB
  rw [ht] at hP1 hz2
  have hPD9 := va_join (wr := [(ou, .inr (7, [.long 0, .null])), (xo, .inr (6, [.ref al, .int 0, .int 0, .int 0, x4, x5, .ref b1, x7]))]) (w1 := [(mo, .inr (9, [.int 0, .ref am, .int 0, .int 0, .int 0]))]) hP hD [0, 1] [2, 3] rfl rfl (by decide) (by decide) hk1 hFc hP1 hD1
  clear hPc hDc hFc hDv hpre hP hD hP1 hK1 hD1
  obtain ⟨hP, hD⟩ := hPD9
  replace hz : s.heap.size + 4 ≤ H11.size := by omega
  clear hz2
  replace hP : va_P (dC, dI) vwCl [(ou, .inr (7, [.long 0, .null])), (xo, .inr (6, [.ref al, .int 0, .int 0, .int 0, x4, x5, .ref b1, x7])), (mo, .inr (9, [.int 0, .ref am, .int 0, .int 0, .int 0]))] H11 := hP
  replace hD : va_D A [(ou, .inr (7, [.long 0, .null])), (xo, .inr (6, [.ref al, .int 0, .int 0, .int 0, x4, x5, .ref b1, x7])), (mo, .inr (9, [.int 0, .ref am, .int 0, .int 0, .int 0]))] := hD
  refine W.widen (k := 26) (n := 128) (by omega) (by omega) ?_
  refine lv_istore (lv' := [(6, .int 0), (5, .int 0), (4, .int 0), (3, .ref ou), (2, .ref mo), (1, .ref xo), (0, .ref b)]) hx hb dL_law_219 hl (by decide) rfl (fun ls hl => ?_)
  refine lv_aload_n hx hb dL_law_221 rfl (lv_at hl 4 rfl) ?_
  have hPc := hP.sub (ws' := [(mo, .inr (9, [.int 0, .ref am, .int 0, .int 0, .int 0]))]) [2] rfl
  have hDc := hD.sub (ws' := [(mo, .inr (9, [.int 0, .ref am, .int 0, .int 0, .int 0]))]) [2] (by decide) rfl
  have hFc := va_free (wc := [(mo, .inr (9, [.int 0, .ref am, .int 0, .int 0, .int 0]))]) hD hS hA [2] rfl
  have hDv := hDc.self (sz := H11.size)
  have hpre := zpre (xs' := []) (av := [.ref mo]) hPc hK (hDc.weaken (fun _ _ _ h => h)) hZ hS hFc (fun r hr => by cases hr)
  refine va_calli (va_runV (As := []) (rest := []) ⟨hx, hb, hml, hown, hts⟩ (k_th0 l dC dI cI cB cR cO zk mo am H11.size ) (cwV 0 hts gL_law_X4_thrown rfl rfl rfl (by decide +kernel) ⟨Nat.le_of_ble_eq_true rfl, Nat.le_of_ble_eq_true rfl⟩) ⟨zblind, (zrecv_9 hK hPc (q0 := 0) rfl), hpre⟩ rfl rfl hl.1 rfl (lv_room (Nat.le_of_ble_eq_true rfl)) dL_law_222 ⟨Nat.le_of_ble_eq_true rfl, Nat.le_of_ble_eq_true rfl⟩) hS (fun q _ h => hFc q h) hFc (fun r14 u t H13 locs ht hvm hw hB hz1 hk1 hS => ?_)
  obtain rfl : 0 = r14 := (show r14 = 0 from hw).symm
  obtain ⟨hP1, hK1, hD1, hz2⟩ := hB
  rw [ht] at hP1 hz2
  have hPD9 := va_join (wr := [(ou, .inr (7, [.long 0, .null])), (xo, .inr (6, [.ref al, .int 0, .int 0, .int 0, x4, x5, .ref b1, x7]))]) (w1 := [(mo, .inr (9, [.int 0, .ref am, .int 0, .int 0, .int 0]))]) hP hD [2] [0, 1] rfl rfl (by decide) (by decide) hk1 hFc hP1 hD1
  clear hPc hDc hFc hDv hpre hP hD hP1 hK1 hD1
  obtain ⟨hP, hD⟩ := hPD9
  replace hz : s.heap.size + 4 ≤ H13.size := by omega
  clear hz2
  replace hP : va_P (dC, dI) vwCl [(ou, .inr (7, [.long 0, .null])), (xo, .inr (6, [.ref al, .int 0, .int 0, .int 0, x4, x5, .ref b1, x7])), (mo, .inr (9, [.int 0, .ref am, .int 0, .int 0, .int 0]))] H13 := hP
  replace hD : va_D A [(ou, .inr (7, [.long 0, .null])), (xo, .inr (6, [.ref al, .int 0, .int 0, .int 0, x4, x5, .ref b1, x7])), (mo, .inr (9, [.int 0, .ref am, .int 0, .int 0, .int 0]))] := hD
  refine W.widen (k := 26) (n := 128) (by omega) (by omega) ?_
  refine lv_iload hx hb dL_law_225 (lv_at hl 1 rfl) ?_
  refine lv_icmp_eq (tgt := 232) hx hb dL_law_227 (by decide) (fun c9 => ?_) (fun c9 => ?_)
  rotate_left
  · exact absurd (by decide) c9
  refine lv_iload hx hb dL_law_232 (lv_at hl 1 rfl) ?_
  refine lv_if_ne (tgt := 250) hx hb dL_law_234 (by decide) (fun c9 => ?_) (fun c9 => ?_)
  · exact absurd (by decide) c9
  refine lv_aload_n hx hb dL_law_237 rfl (lv_at hl 3 rfl) ?_
  refine va_getN (D := (dC, dI)) (ci := 7) (v := .long 0) (C := RX2) (T := TX2) (N := 2) hx hb hts inlX2 hown hK hP 0 rfl rfl 0 (by decide) (zn6 hZ) (fun _ h9 => h9) rfl dL_law_238 ?_
  refine lv_iload hx hb dL_law_241 (lv_at hl 0 rfl) ?_
  refine lv_i2l (v := 0) hx hb dL_law_243 (by decide) ?_
  refine W.lcmp hx hb dL_law_244 ?_
  refine lv_topi (fun v15 ev15 => ?_)
  obtain rfl : v15 = 0 := ev15.trans (by decide)
  refine lv_if_eq (tgt := 250) hx hb dL_law_245 (by decide) (fun c9 => ?_) (fun c9 => ?_)
  rotate_left
  · exact absurd (by decide) c9
  refine lv_goto (tgt := 2155) hx hb dL_law_250 (by decide) ?_
  rw [hAd] at hS
  exact zl_tail l dC dI cI cB cR cO zk b xs C1 hZ0 hK hS (Nat.le_of_ble_eq_true rfl) (Nat.le_of_ble_eq_true rfl) ls (lv_sub hl [6, 2] rfl)

set_option maxHeartbeats 4000000 in
set_option maxRecDepth 100000 in
theorem zl_a_makeK (l : Launch) (dC : Nat → ClassId) (dI : Nat → Nat → Nat) (cI cB cR cO : ClassId) (zk : Nat → Nat) {p : Program} {e : Env} {s : State} {mY : MethodId} {below : List Frame} {meth : Method} {c : Code} (b : Nat) (xs : Nat → Int32) (hfl : l.stackTraces = false) (C0 : zl_At p s mY meth c b 5 xs) (hZ0 : zR zk [] (fun q => s.heap.size ≤ q) s s.heap) (hK : va_K (dC, dI) vwCl (zT cI cB cR cO) s) (ou xo al b1 : Nat) (x4 x5 x7 : Value) (mc : Int32) (mo am : Nat) (mm : Int32)  (kd ln : Int32) (h1 : xs 1 = kd) (h2 : xs 2 = ln) (hp : kd < 0 ∨ ¬ kd ≤ 4) (H : Heap) (locs : List Loc) (hP : va_P (dC, dI) vwCl [(ou, .inr (7, [.long 0, .null])), (xo, .inr (6, [.ref al, .int 0, .int 0, .int 0, x4, x5, .ref b1, x7])), (al, .inr (4, [.int mc, .ref (zk 0), .int 0])), (mo, .inr (9, [.int 0, .ref am, .int 0, .int 0, .int 0])), (am, .inr (4, [.int mm, .ref (zk 0), .int 0]))] H) (hD : va_D (fun q => s.heap.size ≤ q) [(ou, .inr (7, [.long 0, .null])), (xo, .inr (6, [.ref al, .int 0, .int 0, .int 0, x4, x5, .ref b1, x7])), (al, .inr (4, [.int mc, .ref (zk 0), .int 0])), (mo, .inr (9, [.int 0, .ref am, .int 0, .int 0, .int 0])), (am, .inr (4, [.int mm, .ref (zk 0), .int 0]))]) (hS : va_S (fun q => s.heap.size ≤ q) s.heap H locs) (ls : Array Slot) (hl : lv_has ls 7 [(4, .int 0), (3, .ref ou), (2, .ref mo), (1, .ref xo), (0, .ref b)]) : W p l e room_1 s mY #[Value.ref b] below meth c H locs 17 79 (lw_Z below #[Value.ref b] s) (F0 mY 184 ls []) := by
  have C1 := C0
  obtain ⟨hx, hb, hr, hml, hown, hts0, hX, hbl, hlocks, hNI⟩ := C0
  have hts := fun (w : Cond) (h : w ∈ wsL_law) => hts0 w (wsL_law_in w h)
  obtain ⟨A, hAd⟩ : ∃ A : Nat → Prop, A = fun q => s.heap.size ≤ q := ⟨_, rfl⟩
  have hA : ∀ q : Nat, s.heap.size ≤ q → A q := fun q h => by rw [hAd]; exact h
  have hAf : ∀ q : Nat, A q → s.heap.size ≤ q := fun q h => by rw [hAd] at h; exact h
  have hbA : ¬ A b := fun h => absurd (hAf b h) (Nat.not_le.mpr hbl)
  have hZ : zR zk [] A s s.heap := by rw [hAd]; exact hZ0
  rw [← hAd] at hD hS
  replace hP : va_P (dC, dI) vwCl [(ou, .inr (7, [.long 0, .null])), (xo, .inr (6, [.ref al, .int 0, .int 0, .int 0, x4, x5, .ref b1, x7])), (al, .inr (4, [.int mc, .ref (zk 0), .int 0])), (mo, .inr (9, [.int 0, .ref am, .int 0, .int 0, .int 0])), (am, .inr (4, [.int mm, .ref (zk 0), .int 0]))] H := hP
  replace hD : va_D A [(ou, .inr (7, [.long 0, .null])), (xo, .inr (6, [.ref al, .int 0, .int 0, .int 0, x4, x5, .ref b1, x7])), (al, .inr (4, [.int mc, .ref (zk 0), .int 0])), (mo, .inr (9, [.int 0, .ref am, .int 0, .int 0, .int 0])), (am, .inr (4, [.int mm, .ref (zk 0), .int 0]))] := hD
  have hz : s.heap.size + 0 ≤ H.size := hS.1
  refine lv_aload_n hx hb dL_law_184 rfl (lv_at hl 3 rfl) ?_
  refine lv_aload_n hx hb dL_law_185 rfl (lv_at hl 4 rfl) ?_
  refine lv_iload hx hb dL_law_186 (lv_at hl 0 rfl) ?_
  refine lv_iconst (v := 1) hx hb dL_law_188 (by decide) ?_
  refine lv_iadd hx hb dL_law_189 ?_
  refine lv_topi (fun v1 ev1 => ?_)
  obtain rfl : v1 = 1 := ev1.trans (by decide)
  refine va_sld hx hb hX hbl hbA hS (by unfold vp_in; decide) dL_law_190 ?_
  refine lv_topi (fun v2 ev2 => ?_)
  have e9 : v2 = kd := ev2.trans (show xs ((1 : Int32).toNatClampNeg) = kd from h1)
  clear ev2
  subst v2
  refine lv_aload_n hx hb dL_law_191 rfl (lv_at hl 4 rfl) ?_
  refine lv_iload hx hb dL_law_192 (lv_at hl 0 rfl) ?_
  refine lv_iconst (v := 2) hx hb dL_law_194 (by decide) ?_
  refine lv_iadd hx hb dL_law_195 ?_
  refine lv_topi (fun v3 ev3 => ?_)
  obtain rfl : v3 = 2 := ev3.trans (by decide)
  refine va_sld hx hb hX hbl hbA hS (by unfold vp_in; decide) dL_law_196 ?_
  refine lv_topi (fun v4 ev4 => ?_)
  have e9 : v4 = ln := ev4.trans (show xs ((2 : Int32).toNatClampNeg) = ln from h2)
  clear ev4
  subst v4
  refine lv_aload_n hx hb dL_law_197 rfl (lv_at hl 1 rfl) ?_
  have hPc := hP.sub (ws' := [(xo, .inr (6, [.ref al, .int 0, .int 0, .int 0, x4, x5, .ref b1, x7])), (al, .inr (4, [.int mc, .ref (zk 0), .int 0]))]) [1, 2] rfl
  have hDc := hD.sub (ws' := [(xo, .inr (6, [.ref al, .int 0, .int 0, .int 0, x4, x5, .ref b1, x7])), (al, .inr (4, [.int mc, .ref (zk 0), .int 0]))]) [1, 2] (by decide) rfl
  have hFc := va_free (wc := [(xo, .inr (6, [.ref al, .int 0, .int 0, .int 0, x4, x5, .ref b1, x7])), (al, .inr (4, [.int mc, .ref (zk 0), .int 0]))]) hD hS hA [1, 2] rfl
  have hDv := hDc.self (sz := H.size)
  have hpre := zpre (xs' := []) (av := [.ref xo, .int kd, .int ln, .ref ou]) hPc hK (hDc.weaken (fun _ _ _ h => h)) hZ hS hFc (fun r hr => by cases hr)
  refine va_calli (vx_runSW (As := [.ref xo, .int kd, .int ln, .ref ou]) (rest := []) ⟨hx, hb, hml, hown, hts⟩ (k_mkKH l dC dI cI cB cR cO zk hfl xo al b1 (.int 0) (.int 0) (.int 0) x4 x5 x7 mc kd ln ou H.size hp) (vx_cwSW 4 hts gL_law_L_make rfl rfl rfl (by decide +kernel) ⟨Nat.le_of_ble_eq_true rfl, Nat.le_of_ble_eq_true rfl⟩) ⟨zblind, hpre⟩ rfl rfl hl.1 rfl (lv_room (Nat.le_of_ble_eq_true rfl)) dL_law_198 ⟨Nat.le_of_ble_eq_true rfl, Nat.le_of_ble_eq_true rfl⟩) hS (fun q _ h => hFc q h) hFc (fun r6 u t H5 locs ht hvm hw hB hz1 hk1 hS => ?_)
  obtain rfl : 1 = r6 := (show r6 = 1 from hw).symm
  obtain ⟨hP1, hK1, hD1, hz2⟩ := hB
  rw [ht] at hP1 hz2
  have hPD9 := va_join (wr := [(ou, .inr (7, [.long 0, .null])), (mo, .inr (9, [.int 0, .ref am, .int 0, .int 0, .int 0])), (am, .inr (4, [.int mm, .ref (zk 0), .int 0]))]) (w1 := [(xo, .inr (6, [.ref al, .int 0, .int 0, .int 0, x4, x5, .ref b1, x7])), (al, .inr (4, [.int mc, .ref (zk 0), .int 0]))]) hP hD [1, 2] [0, 3, 4] rfl rfl (by decide) (by decide) hk1 hFc hP1 hD1
  clear hPc hDc hFc hDv hpre hP hD hP1 hK1 hD1
  obtain ⟨hP, hD⟩ := hPD9
  replace hz : s.heap.size + 0 ≤ H5.size := by omega
  clear hz2
  replace hP : va_P (dC, dI) vwCl [(ou, .inr (7, [.long 0, .null])), (mo, .inr (9, [.int 0, .ref am, .int 0, .int 0, .int 0])), (am, .inr (4, [.int mm, .ref (zk 0), .int 0])), (xo, .inr (6, [.ref al, .int 0, .int 0, .int 0, x4, x5, .ref b1, x7])), (al, .inr (4, [.int mc, .ref (zk 0), .int 0]))] H5 := hP
  replace hD : va_D A [(ou, .inr (7, [.long 0, .null])), (mo, .inr (9, [.int 0, .ref am, .int 0, .int 0, .int 0])), (am, .inr (4, [.int mm, .ref (zk 0), .int 0])), (xo, .inr (6, [.ref al, .int 0, .int 0, .int 0, x4, x5, .ref b1, x7])), (al, .inr (4, [.int mc, .ref (zk 0), .int 0]))] := hD
  refine W.widen (k := 18) (n := 85) (by omega) (by omega) ?_
  refine lv_istore (lv' := [(5, .int 1), (4, .int 0), (3, .ref ou), (2, .ref mo), (1, .ref xo), (0, .ref b)]) hx hb dL_law_201 hl (by decide) rfl (fun ls hl => ?_)
  refine lv_aload_n hx hb dL_law_203 rfl (lv_at hl 3 rfl) ?_
  refine lv_aload_n hx hb dL_law_204 rfl (lv_at hl 5 rfl) ?_
  refine lv_iload hx hb dL_law_205 (lv_at hl 1 rfl) ?_
  refine lv_iconst (v := 1) hx hb dL_law_207 (by decide) ?_
  refine lv_iadd hx hb dL_law_208 ?_
  refine lv_topi (fun v7 ev7 => ?_)
  obtain rfl : v7 = 1 := ev7.trans (by decide)
  refine va_sld hx hb hX hbl hbA hS (by unfold vp_in; decide) dL_law_209 ?_
  refine lv_topi (fun v8 ev8 => ?_)
  have e9 : v8 = kd := ev8.trans (show xs ((1 : Int32).toNatClampNeg) = kd from h1)
  clear ev8
  subst v8
  refine lv_aload_n hx hb dL_law_210 rfl (lv_at hl 5 rfl) ?_
  refine lv_iload hx hb dL_law_211 (lv_at hl 1 rfl) ?_
  refine lv_iconst (v := 2) hx hb dL_law_213 (by decide) ?_
  refine lv_iadd hx hb dL_law_214 ?_
  refine lv_topi (fun v9 ev9 => ?_)
  obtain rfl : v9 = 2 := ev9.trans (by decide)
  refine va_sld hx hb hX hbl hbA hS (by unfold vp_in; decide) dL_law_215 ?_
  refine lv_topi (fun v10 ev10 => ?_)
  have e9 : v10 = ln := ev10.trans (show xs ((2 : Int32).toNatClampNeg) = ln from h2)
  clear ev10
  subst v10
  have hPc := hP.sub (ws' := [(mo, .inr (9, [.int 0, .ref am, .int 0, .int 0, .int 0])), (am, .inr (4, [.int mm, .ref (zk 0), .int 0]))]) [1, 2] rfl
  have hDc := hD.sub (ws' := [(mo, .inr (9, [.int 0, .ref am, .int 0, .int 0, .int 0])), (am, .inr (4, [.int mm, .ref (zk 0), .int 0]))]) [1, 2] (by decide) rfl
  have hFc := va_free (wc := [(mo, .inr (9, [.int 0, .ref am, .int 0, .int 0, .int 0])), (am, .inr (4, [.int mm, .ref (zk 0), .int 0]))]) hD hS hA [1, 2] rfl
  have hDv := hDc.self (sz := H5.size)
  have hpre := zpre (xs' := []) (av := [.ref mo, .int kd, .int ln]) hPc hK (hDc.weaken (fun _ _ _ h => h)) hZ hS hFc (fun r hr => by cases hr)
  refine va_calli (va_runV (As := [.int kd, .int ln]) (rest := []) ⟨hx, hb, hml, hown, hts⟩ (k_mkKM l dC dI cI cB cR cO zk mo am (.int 0) mm kd ln H5.size hp) (cwV 2 hts gL_law_X4_make rfl rfl rfl (by decide +kernel) ⟨Nat.le_of_ble_eq_true rfl, Nat.le_of_ble_eq_true rfl⟩) ⟨zblind, (zrecv_9 hK hPc (q0 := 0) rfl), hpre⟩ rfl rfl hl.1 rfl (lv_room (Nat.le_of_ble_eq_true rfl)) dL_law_216 ⟨Nat.le_of_ble_eq_true rfl, Nat.le_of_ble_eq_true rfl⟩) hS (fun q _ h => hFc q h) hFc (fun r12 u t H11 locs ht hvm hw hB hz1 hk1 hS => ?_)
  obtain ⟨hP1, hK1, hD1, hz2⟩ := hB
  rw [ht] at hP1 hz2
  have hPD9 := va_join (wr := [(ou, .inr (7, [.long 0, .null])), (xo, .inr (6, [.ref al, .int 0, .int 0, .int 0, x4, x5, .ref b1, x7])), (al, .inr (4, [.int mc, .ref (zk 0), .int 0]))]) (w1 := [(mo, .inr (9, [.int 1, .ref am, .int 0, .int 0, .int 0])), (am, .inr (4, [.int mm, .ref (zk 0), .int 0]))]) hP hD [1, 2] [0, 3, 4] rfl rfl (by decide) (by decide) hk1 hFc hP1 hD1
  clear hPc hDc hFc hDv hpre hP hD hP1 hK1 hD1
  obtain ⟨hP, hD⟩ := hPD9
  replace hz : s.heap.size + 0 ≤ H11.size := by omega
  clear hz2
  replace hP : va_P (dC, dI) vwCl [(ou, .inr (7, [.long 0, .null])), (xo, .inr (6, [.ref al, .int 0, .int 0, .int 0, x4, x5, .ref b1, x7])), (al, .inr (4, [.int mc, .ref (zk 0), .int 0])), (mo, .inr (9, [.int 1, .ref am, .int 0, .int 0, .int 0])), (am, .inr (4, [.int mm, .ref (zk 0), .int 0]))] H11 := hP
  replace hD : va_D A [(ou, .inr (7, [.long 0, .null])), (xo, .inr (6, [.ref al, .int 0, .int 0, .int 0, x4, x5, .ref b1, x7])), (al, .inr (4, [.int mc, .ref (zk 0), .int 0])), (mo, .inr (9, [.int 1, .ref am, .int 0, .int 0, .int 0])), (am, .inr (4, [.int mm, .ref (zk 0), .int 0]))] := hD
  refine W.widen (k := 18) (n := 85) (by omega) (by omega) ?_
  refine lv_istore (lv' := [(6, .int r12), (5, .int 1), (4, .int 0), (3, .ref ou), (2, .ref mo), (1, .ref xo), (0, .ref b)]) hx hb dL_law_219 hl (by decide) rfl (fun ls hl => ?_)
  refine lv_aload_n hx hb dL_law_221 rfl (lv_at hl 4 rfl) ?_
  have hPc := hP.sub (ws' := [(mo, .inr (9, [.int 1, .ref am, .int 0, .int 0, .int 0]))]) [3] rfl
  have hDc := hD.sub (ws' := [(mo, .inr (9, [.int 1, .ref am, .int 0, .int 0, .int 0]))]) [3] (by decide) rfl
  have hFc := va_free (wc := [(mo, .inr (9, [.int 1, .ref am, .int 0, .int 0, .int 0]))]) hD hS hA [3] rfl
  have hDv := hDc.self (sz := H11.size)
  have hpre := zpre (xs' := []) (av := [.ref mo]) hPc hK (hDc.weaken (fun _ _ _ h => h)) hZ hS hFc (fun r hr => by cases hr)
  refine va_calli (va_runV (As := []) (rest := []) ⟨hx, hb, hml, hown, hts⟩ (k_thz l dC dI cI cB cR cO zk mo am (.int 0) (.int 0) (.int 0) H11.size ) (cwV 0 hts gL_law_X4_thrown rfl rfl rfl (by decide +kernel) ⟨Nat.le_of_ble_eq_true rfl, Nat.le_of_ble_eq_true rfl⟩) ⟨zblind, (zrecv_9 hK hPc (q0 := 0) rfl), hpre⟩ rfl rfl hl.1 rfl (lv_room (Nat.le_of_ble_eq_true rfl)) dL_law_222 ⟨Nat.le_of_ble_eq_true rfl, Nat.le_of_ble_eq_true rfl⟩) hS (fun q _ h => hFc q h) hFc (fun r14 u t H13 locs ht hvm hw hB hz1 hk1 hS => ?_)
  obtain rfl : 1 = r14 := (show r14 = 1 from hw).symm
  obtain ⟨hP1, hK1, hD1, hz2⟩ := hB
  rw [ht] at hP1 hz2
  have hPD9 := va_join (wr := [(ou, .inr (7, [.long 0, .null])), (xo, .inr (6, [.ref al, .int 0, .int 0, .int 0, x4, x5, .ref b1, x7])), (al, .inr (4, [.int mc, .ref (zk 0), .int 0])), (am, .inr (4, [.int mm, .ref (zk 0), .int 0]))]) (w1 := [(mo, .inr (9, [.int 1, .ref am, .int 0, .int 0, .int 0]))]) hP hD [3] [0, 1, 2, 4] rfl rfl (by decide) (by decide) hk1 hFc hP1 hD1
  clear hPc hDc hFc hDv hpre hP hD hP1 hK1 hD1
  obtain ⟨hP, hD⟩ := hPD9
  replace hz : s.heap.size + 0 ≤ H13.size := by omega
  clear hz2
  replace hP : va_P (dC, dI) vwCl [(ou, .inr (7, [.long 0, .null])), (xo, .inr (6, [.ref al, .int 0, .int 0, .int 0, x4, x5, .ref b1, x7])), (al, .inr (4, [.int mc, .ref (zk 0), .int 0])), (am, .inr (4, [.int mm, .ref (zk 0), .int 0])), (mo, .inr (9, [.int 1, .ref am, .int 0, .int 0, .int 0]))] H13 := hP
  replace hD : va_D A [(ou, .inr (7, [.long 0, .null])), (xo, .inr (6, [.ref al, .int 0, .int 0, .int 0, x4, x5, .ref b1, x7])), (al, .inr (4, [.int mc, .ref (zk 0), .int 0])), (am, .inr (4, [.int mm, .ref (zk 0), .int 0])), (mo, .inr (9, [.int 1, .ref am, .int 0, .int 0, .int 0]))] := hD
  refine W.widen (k := 18) (n := 85) (by omega) (by omega) ?_
  refine lv_iload hx hb dL_law_225 (lv_at hl 1 rfl) ?_
  refine lv_icmp_eq (tgt := 232) hx hb dL_law_227 (by decide) (fun c9 => ?_) (fun c9 => ?_)
  rotate_left
  · exact absurd (by decide) c9
  refine lv_iload hx hb dL_law_232 (lv_at hl 1 rfl) ?_
  refine lv_if_ne (tgt := 250) hx hb dL_law_234 (by decide) (fun c9 => ?_) (fun c9 => ?_)
  rotate_left
  · exact absurd c9 (by decide)
  refine lv_goto (tgt := 2155) hx hb dL_law_250 (by decide) ?_
  rw [hAd] at hS
  exact zl_tail l dC dI cI cB cR cO zk b xs C1 hZ0 hK hS (Nat.le_of_ble_eq_true rfl) (Nat.le_of_ble_eq_true rfl) ls (lv_sub hl [6, 2] rfl)

set_option maxHeartbeats 4000000 in
set_option maxRecDepth 100000 in
theorem zl_a_makeL (l : Launch) (dC : Nat → ClassId) (dI : Nat → Nat → Nat) (cI cB cR cO : ClassId) (zk : Nat → Nat) {p : Program} {e : Env} {s : State} {mY : MethodId} {below : List Frame} {meth : Method} {c : Code} (b : Nat) (xs : Nat → Int32) (hfl : l.stackTraces = false) (C0 : zl_At p s mY meth c b 5 xs) (hZ0 : zR zk [] (fun q => s.heap.size ≤ q) s s.heap) (hK : va_K (dC, dI) vwCl (zT cI cB cR cO) s) (ou xo al b1 : Nat) (x4 x5 x7 : Value) (mc : Int32) (mo am : Nat) (mm : Int32)  (kd ln : Int32) (h1 : xs 1 = kd) (h2 : xs 2 = ln) (hk0 : ¬ kd < 0) (hk4 : kd ≤ 4) (hp : ln < 0 ∨ ¬ ln ≤ 4) (H : Heap) (locs : List Loc) (hP : va_P (dC, dI) vwCl [(ou, .inr (7, [.long 0, .null])), (xo, .inr (6, [.ref al, .int 0, .int 0, .int 0, x4, x5, .ref b1, x7])), (al, .inr (4, [.int mc, .ref (zk 0), .int 0])), (mo, .inr (9, [.int 0, .ref am, .int 0, .int 0, .int 0])), (am, .inr (4, [.int mm, .ref (zk 0), .int 0]))] H) (hD : va_D (fun q => s.heap.size ≤ q) [(ou, .inr (7, [.long 0, .null])), (xo, .inr (6, [.ref al, .int 0, .int 0, .int 0, x4, x5, .ref b1, x7])), (al, .inr (4, [.int mc, .ref (zk 0), .int 0])), (mo, .inr (9, [.int 0, .ref am, .int 0, .int 0, .int 0])), (am, .inr (4, [.int mm, .ref (zk 0), .int 0]))]) (hS : va_S (fun q => s.heap.size ≤ q) s.heap H locs) (ls : Array Slot) (hl : lv_has ls 7 [(4, .int 0), (3, .ref ou), (2, .ref mo), (1, .ref xo), (0, .ref b)]) : W p l e room_1 s mY #[Value.ref b] below meth c H locs 17 79 (lw_Z below #[Value.ref b] s) (F0 mY 184 ls []) := by
  have C1 := C0
  obtain ⟨hx, hb, hr, hml, hown, hts0, hX, hbl, hlocks, hNI⟩ := C0
  have hts := fun (w : Cond) (h : w ∈ wsL_law) => hts0 w (wsL_law_in w h)
  obtain ⟨A, hAd⟩ : ∃ A : Nat → Prop, A = fun q => s.heap.size ≤ q := ⟨_, rfl⟩
  have hA : ∀ q : Nat, s.heap.size ≤ q → A q := fun q h => by rw [hAd]; exact h
  have hAf : ∀ q : Nat, A q → s.heap.size ≤ q := fun q h => by rw [hAd] at h; exact h
  have hbA : ¬ A b := fun h => absurd (hAf b h) (Nat.not_le.mpr hbl)
  have hZ : zR zk [] A s s.heap := by rw [hAd]; exact hZ0
  rw [← hAd] at hD hS
  replace hP : va_P (dC, dI) vwCl [(ou, .inr (7, [.long 0, .null])), (xo, .inr (6, [.ref al, .int 0, .int 0, .int 0, x4, x5, .ref b1, x7])), (al, .inr (4, [.int mc, .ref (zk 0), .int 0])), (mo, .inr (9, [.int 0, .ref am, .int 0, .int 0, .int 0])), (am, .inr (4, [.int mm, .ref (zk 0), .int 0]))] H := hP
  replace hD : va_D A [(ou, .inr (7, [.long 0, .null])), (xo, .inr (6, [.ref al, .int 0, .int 0, .int 0, x4, x5, .ref b1, x7])), (al, .inr (4, [.int mc, .ref (zk 0), .int 0])), (mo, .inr (9, [.int 0, .ref am, .int 0, .int 0, .int 0])), (am, .inr (4, [.int mm, .ref (zk 0), .int 0]))] := hD
  have hz : s.heap.size + 0 ≤ H.size := hS.1
  refine lv_aload_n hx hb dL_law_184 rfl (lv_at hl 3 rfl) ?_
  refine lv_aload_n hx hb dL_law_185 rfl (lv_at hl 4 rfl) ?_
  refine lv_iload hx hb dL_law_186 (lv_at hl 0 rfl) ?_
  refine lv_iconst (v := 1) hx hb dL_law_188 (by decide) ?_
  refine lv_iadd hx hb dL_law_189 ?_
  refine lv_topi (fun v1 ev1 => ?_)
  obtain rfl : v1 = 1 := ev1.trans (by decide)
  refine va_sld hx hb hX hbl hbA hS (by unfold vp_in; decide) dL_law_190 ?_
  refine lv_topi (fun v2 ev2 => ?_)
  have e9 : v2 = kd := ev2.trans (show xs ((1 : Int32).toNatClampNeg) = kd from h1)
  clear ev2
  subst v2
  refine lv_aload_n hx hb dL_law_191 rfl (lv_at hl 4 rfl) ?_
  refine lv_iload hx hb dL_law_192 (lv_at hl 0 rfl) ?_
  refine lv_iconst (v := 2) hx hb dL_law_194 (by decide) ?_
  refine lv_iadd hx hb dL_law_195 ?_
  refine lv_topi (fun v3 ev3 => ?_)
  obtain rfl : v3 = 2 := ev3.trans (by decide)
  refine va_sld hx hb hX hbl hbA hS (by unfold vp_in; decide) dL_law_196 ?_
  refine lv_topi (fun v4 ev4 => ?_)
  have e9 : v4 = ln := ev4.trans (show xs ((2 : Int32).toNatClampNeg) = ln from h2)
  clear ev4
  subst v4
  refine lv_aload_n hx hb dL_law_197 rfl (lv_at hl 1 rfl) ?_
  have hPc := hP.sub (ws' := [(xo, .inr (6, [.ref al, .int 0, .int 0, .int 0, x4, x5, .ref b1, x7])), (al, .inr (4, [.int mc, .ref (zk 0), .int 0]))]) [1, 2] rfl
  have hDc := hD.sub (ws' := [(xo, .inr (6, [.ref al, .int 0, .int 0, .int 0, x4, x5, .ref b1, x7])), (al, .inr (4, [.int mc, .ref (zk 0), .int 0]))]) [1, 2] (by decide) rfl
  have hFc := va_free (wc := [(xo, .inr (6, [.ref al, .int 0, .int 0, .int 0, x4, x5, .ref b1, x7])), (al, .inr (4, [.int mc, .ref (zk 0), .int 0]))]) hD hS hA [1, 2] rfl
  have hDv := hDc.self (sz := H.size)
  have hpre := zpre (xs' := []) (av := [.ref xo, .int kd, .int ln, .ref ou]) hPc hK (hDc.weaken (fun _ _ _ h => h)) hZ hS hFc (fun r hr => by cases hr)
  refine va_calli (vx_runSW (As := [.ref xo, .int kd, .int ln, .ref ou]) (rest := []) ⟨hx, hb, hml, hown, hts⟩ (k_mkLH l dC dI cI cB cR cO zk hfl xo al b1 (.int 0) (.int 0) (.int 0) x4 x5 x7 mc kd ln ou H.size hk0 hk4 hp) (vx_cwSW 4 hts gL_law_L_make rfl rfl rfl (by decide +kernel) ⟨Nat.le_of_ble_eq_true rfl, Nat.le_of_ble_eq_true rfl⟩) ⟨zblind, hpre⟩ rfl rfl hl.1 rfl (lv_room (Nat.le_of_ble_eq_true rfl)) dL_law_198 ⟨Nat.le_of_ble_eq_true rfl, Nat.le_of_ble_eq_true rfl⟩) hS (fun q _ h => hFc q h) hFc (fun r6 u t H5 locs ht hvm hw hB hz1 hk1 hS => ?_)
  obtain rfl : 1 = r6 := (show r6 = 1 from hw).symm
  obtain ⟨hP1, hK1, hD1, hz2⟩ := hB
  rw [ht] at hP1 hz2
  have hPD9 := va_join (wr := [(ou, .inr (7, [.long 0, .null])), (mo, .inr (9, [.int 0, .ref am, .int 0, .int 0, .int 0])), (am, .inr (4, [.int mm, .ref (zk 0), .int 0]))]) (w1 := [(xo, .inr (6, [.ref al, .int 0, .int 0, .int 0, x4, x5, .ref b1, x7])), (al, .inr (4, [.int mc, .ref (zk 0), .int 0]))]) hP hD [1, 2] [0, 3, 4] rfl rfl (by decide) (by decide) hk1 hFc hP1 hD1
  clear hPc hDc hFc hDv hpre hP hD hP1 hK1 hD1
  obtain ⟨hP, hD⟩ := hPD9
  replace hz : s.heap.size + 0 ≤ H5.size := by omega
  clear hz2
  replace hP : va_P (dC, dI) vwCl [(ou, .inr (7, [.long 0, .null])), (mo, .inr (9, [.int 0, .ref am, .int 0, .int 0, .int 0])), (am, .inr (4, [.int mm, .ref (zk 0), .int 0])), (xo, .inr (6, [.ref al, .int 0, .int 0, .int 0, x4, x5, .ref b1, x7])), (al, .inr (4, [.int mc, .ref (zk 0), .int 0]))] H5 := hP
  replace hD : va_D A [(ou, .inr (7, [.long 0, .null])), (mo, .inr (9, [.int 0, .ref am, .int 0, .int 0, .int 0])), (am, .inr (4, [.int mm, .ref (zk 0), .int 0])), (xo, .inr (6, [.ref al, .int 0, .int 0, .int 0, x4, x5, .ref b1, x7])), (al, .inr (4, [.int mc, .ref (zk 0), .int 0]))] := hD
  refine W.widen (k := 18) (n := 85) (by omega) (by omega) ?_
  refine lv_istore (lv' := [(5, .int 1), (4, .int 0), (3, .ref ou), (2, .ref mo), (1, .ref xo), (0, .ref b)]) hx hb dL_law_201 hl (by decide) rfl (fun ls hl => ?_)
  refine lv_aload_n hx hb dL_law_203 rfl (lv_at hl 3 rfl) ?_
  refine lv_aload_n hx hb dL_law_204 rfl (lv_at hl 5 rfl) ?_
  refine lv_iload hx hb dL_law_205 (lv_at hl 1 rfl) ?_
  refine lv_iconst (v := 1) hx hb dL_law_207 (by decide) ?_
  refine lv_iadd hx hb dL_law_208 ?_
  refine lv_topi (fun v7 ev7 => ?_)
  obtain rfl : v7 = 1 := ev7.trans (by decide)
  refine va_sld hx hb hX hbl hbA hS (by unfold vp_in; decide) dL_law_209 ?_
  refine lv_topi (fun v8 ev8 => ?_)
  have e9 : v8 = kd := ev8.trans (show xs ((1 : Int32).toNatClampNeg) = kd from h1)
  clear ev8
  subst v8
  refine lv_aload_n hx hb dL_law_210 rfl (lv_at hl 5 rfl) ?_
  refine lv_iload hx hb dL_law_211 (lv_at hl 1 rfl) ?_
  refine lv_iconst (v := 2) hx hb dL_law_213 (by decide) ?_
  refine lv_iadd hx hb dL_law_214 ?_
  refine lv_topi (fun v9 ev9 => ?_)
  obtain rfl : v9 = 2 := ev9.trans (by decide)
  refine va_sld hx hb hX hbl hbA hS (by unfold vp_in; decide) dL_law_215 ?_
  refine lv_topi (fun v10 ev10 => ?_)
  have e9 : v10 = ln := ev10.trans (show xs ((2 : Int32).toNatClampNeg) = ln from h2)
  clear ev10
  subst v10
  have hPc := hP.sub (ws' := [(mo, .inr (9, [.int 0, .ref am, .int 0, .int 0, .int 0])), (am, .inr (4, [.int mm, .ref (zk 0), .int 0]))]) [1, 2] rfl
  have hDc := hD.sub (ws' := [(mo, .inr (9, [.int 0, .ref am, .int 0, .int 0, .int 0])), (am, .inr (4, [.int mm, .ref (zk 0), .int 0]))]) [1, 2] (by decide) rfl
  have hFc := va_free (wc := [(mo, .inr (9, [.int 0, .ref am, .int 0, .int 0, .int 0])), (am, .inr (4, [.int mm, .ref (zk 0), .int 0]))]) hD hS hA [1, 2] rfl
  have hDv := hDc.self (sz := H5.size)
  have hpre := zpre (xs' := []) (av := [.ref mo, .int kd, .int ln]) hPc hK (hDc.weaken (fun _ _ _ h => h)) hZ hS hFc (fun r hr => by cases hr)
  refine va_calli (va_runV (As := [.int kd, .int ln]) (rest := []) ⟨hx, hb, hml, hown, hts⟩ (k_mkLM l dC dI cI cB cR cO zk mo am (.int 0) mm kd ln H5.size hk0 hk4 hp) (cwV 2 hts gL_law_X4_make rfl rfl rfl (by decide +kernel) ⟨Nat.le_of_ble_eq_true rfl, Nat.le_of_ble_eq_true rfl⟩) ⟨zblind, (zrecv_9 hK hPc (q0 := 0) rfl), hpre⟩ rfl rfl hl.1 rfl (lv_room (Nat.le_of_ble_eq_true rfl)) dL_law_216 ⟨Nat.le_of_ble_eq_true rfl, Nat.le_of_ble_eq_true rfl⟩) hS (fun q _ h => hFc q h) hFc (fun r12 u t H11 locs ht hvm hw hB hz1 hk1 hS => ?_)
  obtain ⟨hP1, hK1, hD1, hz2⟩ := hB
  rw [ht] at hP1 hz2
  have hPD9 := va_join (wr := [(ou, .inr (7, [.long 0, .null])), (xo, .inr (6, [.ref al, .int 0, .int 0, .int 0, x4, x5, .ref b1, x7])), (al, .inr (4, [.int mc, .ref (zk 0), .int 0]))]) (w1 := [(mo, .inr (9, [.int 1, .ref am, .int 0, .int 0, .int 0])), (am, .inr (4, [.int mm, .ref (zk 0), .int 0]))]) hP hD [1, 2] [0, 3, 4] rfl rfl (by decide) (by decide) hk1 hFc hP1 hD1
  clear hPc hDc hFc hDv hpre hP hD hP1 hK1 hD1
  obtain ⟨hP, hD⟩ := hPD9
  replace hz : s.heap.size + 0 ≤ H11.size := by omega
  clear hz2
  replace hP : va_P (dC, dI) vwCl [(ou, .inr (7, [.long 0, .null])), (xo, .inr (6, [.ref al, .int 0, .int 0, .int 0, x4, x5, .ref b1, x7])), (al, .inr (4, [.int mc, .ref (zk 0), .int 0])), (mo, .inr (9, [.int 1, .ref am, .int 0, .int 0, .int 0])), (am, .inr (4, [.int mm, .ref (zk 0), .int 0]))] H11 := hP
  replace hD : va_D A [(ou, .inr (7, [.long 0, .null])), (xo, .inr (6, [.ref al, .int 0, .int 0, .int 0, x4, x5, .ref b1, x7])), (al, .inr (4, [.int mc, .ref (zk 0), .int 0])), (mo, .inr (9, [.int 1, .ref am, .int 0, .int 0, .int 0])), (am, .inr (4, [.int mm, .ref (zk 0), .int 0]))] := hD
  refine W.widen (k := 18) (n := 85) (by omega) (by omega) ?_
  refine lv_istore (lv' := [(6, .int r12), (5, .int 1), (4, .int 0), (3, .ref ou), (2, .ref mo), (1, .ref xo), (0, .ref b)]) hx hb dL_law_219 hl (by decide) rfl (fun ls hl => ?_)
  refine lv_aload_n hx hb dL_law_221 rfl (lv_at hl 4 rfl) ?_
  have hPc := hP.sub (ws' := [(mo, .inr (9, [.int 1, .ref am, .int 0, .int 0, .int 0]))]) [3] rfl
  have hDc := hD.sub (ws' := [(mo, .inr (9, [.int 1, .ref am, .int 0, .int 0, .int 0]))]) [3] (by decide) rfl
  have hFc := va_free (wc := [(mo, .inr (9, [.int 1, .ref am, .int 0, .int 0, .int 0]))]) hD hS hA [3] rfl
  have hDv := hDc.self (sz := H11.size)
  have hpre := zpre (xs' := []) (av := [.ref mo]) hPc hK (hDc.weaken (fun _ _ _ h => h)) hZ hS hFc (fun r hr => by cases hr)
  refine va_calli (va_runV (As := []) (rest := []) ⟨hx, hb, hml, hown, hts⟩ (k_thz l dC dI cI cB cR cO zk mo am (.int 0) (.int 0) (.int 0) H11.size ) (cwV 0 hts gL_law_X4_thrown rfl rfl rfl (by decide +kernel) ⟨Nat.le_of_ble_eq_true rfl, Nat.le_of_ble_eq_true rfl⟩) ⟨zblind, (zrecv_9 hK hPc (q0 := 0) rfl), hpre⟩ rfl rfl hl.1 rfl (lv_room (Nat.le_of_ble_eq_true rfl)) dL_law_222 ⟨Nat.le_of_ble_eq_true rfl, Nat.le_of_ble_eq_true rfl⟩) hS (fun q _ h => hFc q h) hFc (fun r14 u t H13 locs ht hvm hw hB hz1 hk1 hS => ?_)
  obtain rfl : 1 = r14 := (show r14 = 1 from hw).symm
  obtain ⟨hP1, hK1, hD1, hz2⟩ := hB
  rw [ht] at hP1 hz2
  have hPD9 := va_join (wr := [(ou, .inr (7, [.long 0, .null])), (xo, .inr (6, [.ref al, .int 0, .int 0, .int 0, x4, x5, .ref b1, x7])), (al, .inr (4, [.int mc, .ref (zk 0), .int 0])), (am, .inr (4, [.int mm, .ref (zk 0), .int 0]))]) (w1 := [(mo, .inr (9, [.int 1, .ref am, .int 0, .int 0, .int 0]))]) hP hD [3] [0, 1, 2, 4] rfl rfl (by decide) (by decide) hk1 hFc hP1 hD1
  clear hPc hDc hFc hDv hpre hP hD hP1 hK1 hD1
  obtain ⟨hP, hD⟩ := hPD9
  replace hz : s.heap.size + 0 ≤ H13.size := by omega
  clear hz2
  replace hP : va_P (dC, dI) vwCl [(ou, .inr (7, [.long 0, .null])), (xo, .inr (6, [.ref al, .int 0, .int 0, .int 0, x4, x5, .ref b1, x7])), (al, .inr (4, [.int mc, .ref (zk 0), .int 0])), (am, .inr (4, [.int mm, .ref (zk 0), .int 0])), (mo, .inr (9, [.int 1, .ref am, .int 0, .int 0, .int 0]))] H13 := hP
  replace hD : va_D A [(ou, .inr (7, [.long 0, .null])), (xo, .inr (6, [.ref al, .int 0, .int 0, .int 0, x4, x5, .ref b1, x7])), (al, .inr (4, [.int mc, .ref (zk 0), .int 0])), (am, .inr (4, [.int mm, .ref (zk 0), .int 0])), (mo, .inr (9, [.int 1, .ref am, .int 0, .int 0, .int 0]))] := hD
  refine W.widen (k := 18) (n := 85) (by omega) (by omega) ?_
  refine lv_iload hx hb dL_law_225 (lv_at hl 1 rfl) ?_
  refine lv_icmp_eq (tgt := 232) hx hb dL_law_227 (by decide) (fun c9 => ?_) (fun c9 => ?_)
  rotate_left
  · exact absurd (by decide) c9
  refine lv_iload hx hb dL_law_232 (lv_at hl 1 rfl) ?_
  refine lv_if_ne (tgt := 250) hx hb dL_law_234 (by decide) (fun c9 => ?_) (fun c9 => ?_)
  rotate_left
  · exact absurd c9 (by decide)
  refine lv_goto (tgt := 2155) hx hb dL_law_250 (by decide) ?_
  rw [hAd] at hS
  exact zl_tail l dC dI cI cB cR cO zk b xs C1 hZ0 hK hS (Nat.le_of_ble_eq_true rfl) (Nat.le_of_ble_eq_true rfl) ls (lv_sub hl [6, 2] rfl)

set_option maxHeartbeats 4000000 in
set_option maxRecDepth 100000 in
theorem zl_a_drop (l : Launch) (dC : Nat → ClassId) (dI : Nat → Nat → Nat) (cI cB cR cO : ClassId) (zk : Nat → Nat) {p : Program} {e : Env} {s : State} {mY : MethodId} {below : List Frame} {meth : Method} {c : Code} (b : Nat) (xs : Nat → Int32) (hfl : l.stackTraces = false) (C0 : zl_At p s mY meth c b 5 xs) (hZ0 : zR zk [] (fun q => s.heap.size ≤ q) s s.heap) (hK : va_K (dC, dI) vwCl (zT cI cB cR cO) s) (ou xo al b1 : Nat) (x4 x5 x7 : Value) (mc : Int32) (mo am : Nat) (mm : Int32)    (H : Heap) (locs : List Loc) (hP : va_P (dC, dI) vwCl [(ou, .inr (7, [.long 0, .null])), (xo, .inr (6, [.ref al, .int 0, .int 0, .int 0, x4, x5, .ref b1, x7])), (al, .inr (4, [.int mc, .ref (zk 0), .int 0])), (mo, .inr (9, [.int 0, .ref am, .int 0, .int 0, .int 0])), (am, .inr (4, [.int mm, .ref (zk 0), .int 0]))] H) (hD : va_D (fun q => s.heap.size ≤ q) [(ou, .inr (7, [.long 0, .null])), (xo, .inr (6, [.ref al, .int 0, .int 0, .int 0, x4, x5, .ref b1, x7])), (al, .inr (4, [.int mc, .ref (zk 0), .int 0])), (mo, .inr (9, [.int 0, .ref am, .int 0, .int 0, .int 0])), (am, .inr (4, [.int mm, .ref (zk 0), .int 0]))]) (hS : va_S (fun q => s.heap.size ≤ q) s.heap H locs) (ls : Array Slot) (hl : lv_has ls 7 [(4, .int 0), (3, .ref ou), (2, .ref mo), (1, .ref xo), (0, .ref b)]) : W p l e room_1 s mY #[Value.ref b] below meth c H locs 17 79 (lw_Z below #[Value.ref b] s) (F0 mY 253 ls []) := by
  have C1 := C0
  obtain ⟨hx, hb, hr, hml, hown, hts0, hX, hbl, hlocks, hNI⟩ := C0
  have hts := fun (w : Cond) (h : w ∈ wsL_law) => hts0 w (wsL_law_in w h)
  obtain ⟨A, hAd⟩ : ∃ A : Nat → Prop, A = fun q => s.heap.size ≤ q := ⟨_, rfl⟩
  have hA : ∀ q : Nat, s.heap.size ≤ q → A q := fun q h => by rw [hAd]; exact h
  have hAf : ∀ q : Nat, A q → s.heap.size ≤ q := fun q h => by rw [hAd] at h; exact h
  have hbA : ¬ A b := fun h => absurd (hAf b h) (Nat.not_le.mpr hbl)
  have hZ : zR zk [] A s s.heap := by rw [hAd]; exact hZ0
  rw [← hAd] at hD hS
  replace hP : va_P (dC, dI) vwCl [(ou, .inr (7, [.long 0, .null])), (xo, .inr (6, [.ref al, .int 0, .int 0, .int 0, x4, x5, .ref b1, x7])), (al, .inr (4, [.int mc, .ref (zk 0), .int 0])), (mo, .inr (9, [.int 0, .ref am, .int 0, .int 0, .int 0])), (am, .inr (4, [.int mm, .ref (zk 0), .int 0]))] H := hP
  replace hD : va_D A [(ou, .inr (7, [.long 0, .null])), (xo, .inr (6, [.ref al, .int 0, .int 0, .int 0, x4, x5, .ref b1, x7])), (al, .inr (4, [.int mc, .ref (zk 0), .int 0])), (mo, .inr (9, [.int 0, .ref am, .int 0, .int 0, .int 0])), (am, .inr (4, [.int mm, .ref (zk 0), .int 0]))] := hD
  have hz : s.heap.size + 0 ≤ H.size := hS.1
  refine lv_aload_n hx hb dL_law_253 rfl (lv_at hl 3 rfl) ?_
  refine lv_aload_n hx hb dL_law_254 rfl (lv_at hl 1 rfl) ?_
  have hPc := hP.sub (ws' := [(xo, .inr (6, [.ref al, .int 0, .int 0, .int 0, x4, x5, .ref b1, x7])), (al, .inr (4, [.int mc, .ref (zk 0), .int 0]))]) [1, 2] rfl
  have hDc := hD.sub (ws' := [(xo, .inr (6, [.ref al, .int 0, .int 0, .int 0, x4, x5, .ref b1, x7])), (al, .inr (4, [.int mc, .ref (zk 0), .int 0]))]) [1, 2] (by decide) rfl
  have hFc := va_free (wc := [(xo, .inr (6, [.ref al, .int 0, .int 0, .int 0, x4, x5, .ref b1, x7])), (al, .inr (4, [.int mc, .ref (zk 0), .int 0]))]) hD hS hA [1, 2] rfl
  have hDv := hDc.self (sz := H.size)
  have hpre := zpre (xs' := []) (av := [.ref xo, .ref ou]) hPc hK (hDc.weaken (fun _ _ _ h => h)) hZ hS hFc (fun r hr => by cases hr)
  refine va_calli (vx_runSW (As := [.ref xo, .ref ou]) (rest := []) ⟨hx, hb, hml, hown, hts⟩ (k_dropH l dC dI cI cB cR cO zk hfl xo al b1 (.int 0) (.int 0) (.int 0) x4 x5 x7 mc ou H.size ) (vx_cwSW 2 hts gL_law_L_drop rfl rfl rfl (by decide +kernel) ⟨Nat.le_of_ble_eq_true rfl, Nat.le_of_ble_eq_true rfl⟩) ⟨zblind, hpre⟩ rfl rfl hl.1 rfl (lv_room (Nat.le_of_ble_eq_true rfl)) dL_law_255 ⟨Nat.le_of_ble_eq_true rfl, Nat.le_of_ble_eq_true rfl⟩) hS (fun q _ h => hFc q h) hFc (fun r2 u t H1 locs ht hvm hw hB hz1 hk1 hS => ?_)
  obtain rfl : 1 = r2 := (show r2 = 1 from hw).symm
  obtain ⟨hP1, hK1, hD1, hz2⟩ := hB
  rw [ht] at hP1 hz2
  have hPD9 := va_join (wr := [(ou, .inr (7, [.long 0, .null])), (mo, .inr (9, [.int 0, .ref am, .int 0, .int 0, .int 0])), (am, .inr (4, [.int mm, .ref (zk 0), .int 0]))]) (w1 := [(xo, .inr (6, [.ref al, .int 0, .int 0, .int 0, x4, x5, .ref b1, x7])), (al, .inr (4, [.int mc, .ref (zk 0), .int 0]))]) hP hD [1, 2] [0, 3, 4] rfl rfl (by decide) (by decide) hk1 hFc hP1 hD1
  clear hPc hDc hFc hDv hpre hP hD hP1 hK1 hD1
  obtain ⟨hP, hD⟩ := hPD9
  replace hz : s.heap.size + 0 ≤ H1.size := by omega
  clear hz2
  replace hP : va_P (dC, dI) vwCl [(ou, .inr (7, [.long 0, .null])), (mo, .inr (9, [.int 0, .ref am, .int 0, .int 0, .int 0])), (am, .inr (4, [.int mm, .ref (zk 0), .int 0])), (xo, .inr (6, [.ref al, .int 0, .int 0, .int 0, x4, x5, .ref b1, x7])), (al, .inr (4, [.int mc, .ref (zk 0), .int 0]))] H1 := hP
  replace hD : va_D A [(ou, .inr (7, [.long 0, .null])), (mo, .inr (9, [.int 0, .ref am, .int 0, .int 0, .int 0])), (am, .inr (4, [.int mm, .ref (zk 0), .int 0])), (xo, .inr (6, [.ref al, .int 0, .int 0, .int 0, x4, x5, .ref b1, x7])), (al, .inr (4, [.int mc, .ref (zk 0), .int 0]))] := hD
  refine W.widen (k := 18) (n := 85) (by omega) (by omega) ?_
  refine lv_istore (lv' := [(5, .int 1), (4, .int 0), (3, .ref ou), (2, .ref mo), (1, .ref xo), (0, .ref b)]) hx hb dL_law_258 hl (by decide) rfl (fun ls hl => ?_)
  refine lv_aload_n hx hb dL_law_260 rfl (lv_at hl 3 rfl) ?_
  have hPc := hP.sub (ws' := [(mo, .inr (9, [.int 0, .ref am, .int 0, .int 0, .int 0])), (am, .inr (4, [.int mm, .ref (zk 0), .int 0]))]) [1, 2] rfl
  have hDc := hD.sub (ws' := [(mo, .inr (9, [.int 0, .ref am, .int 0, .int 0, .int 0])), (am, .inr (4, [.int mm, .ref (zk 0), .int 0]))]) [1, 2] (by decide) rfl
  have hFc := va_free (wc := [(mo, .inr (9, [.int 0, .ref am, .int 0, .int 0, .int 0])), (am, .inr (4, [.int mm, .ref (zk 0), .int 0]))]) hD hS hA [1, 2] rfl
  have hDv := hDc.self (sz := H1.size)
  have hpre := zpre (xs' := []) (av := [.ref mo]) hPc hK (hDc.weaken (fun _ _ _ h => h)) hZ hS hFc (fun r hr => by cases hr)
  refine va_calli (va_runV (As := []) (rest := []) ⟨hx, hb, hml, hown, hts⟩ (k_dropM l dC dI cI cB cR cO zk mo am (.int 0) (.int 0) (.int 0) (.int 0) mm  H1.size ) (cwV 0 hts gL_law_X4_drop rfl rfl rfl (by decide +kernel) ⟨Nat.le_of_ble_eq_true rfl, Nat.le_of_ble_eq_true rfl⟩) ⟨zblind, (zrecv_9 hK hPc (q0 := 0) rfl), hpre⟩ rfl rfl hl.1 rfl (lv_room (Nat.le_of_ble_eq_true rfl)) dL_law_261 ⟨Nat.le_of_ble_eq_true rfl, Nat.le_of_ble_eq_true rfl⟩) hS (fun q _ h => hFc q h) hFc (fun r4 u t H3 locs ht hvm hw hB hz1 hk1 hS => ?_)
  obtain ⟨hP1, hK1, hD1, hz2⟩ := hB
  rw [ht] at hP1 hz2
  have hPD9 := va_join (wr := [(ou, .inr (7, [.long 0, .null])), (xo, .inr (6, [.ref al, .int 0, .int 0, .int 0, x4, x5, .ref b1, x7])), (al, .inr (4, [.int mc, .ref (zk 0), .int 0]))]) (w1 := [(mo, .inr (9, [.int 1, .ref am, .int 0, .int 0, .int 0])), (am, .inr (4, [.int mm, .ref (zk 0), .int 0]))]) hP hD [1, 2] [0, 3, 4] rfl rfl (by decide) (by decide) hk1 hFc hP1 hD1
  clear hPc hDc hFc hDv hpre hP hD hP1 hK1 hD1
  obtain ⟨hP, hD⟩ := hPD9
  replace hz : s.heap.size + 0 ≤ H3.size := by omega
  clear hz2
  replace hP : va_P (dC, dI) vwCl [(ou, .inr (7, [.long 0, .null])), (xo, .inr (6, [.ref al, .int 0, .int 0, .int 0, x4, x5, .ref b1, x7])), (al, .inr (4, [.int mc, .ref (zk 0), .int 0])), (mo, .inr (9, [.int 1, .ref am, .int 0, .int 0, .int 0])), (am, .inr (4, [.int mm, .ref (zk 0), .int 0]))] H3 := hP
  replace hD : va_D A [(ou, .inr (7, [.long 0, .null])), (xo, .inr (6, [.ref al, .int 0, .int 0, .int 0, x4, x5, .ref b1, x7])), (al, .inr (4, [.int mc, .ref (zk 0), .int 0])), (mo, .inr (9, [.int 1, .ref am, .int 0, .int 0, .int 0])), (am, .inr (4, [.int mm, .ref (zk 0), .int 0]))] := hD
  refine W.widen (k := 18) (n := 85) (by omega) (by omega) ?_
  refine lv_istore (lv' := [(6, .int r4), (5, .int 1), (4, .int 0), (3, .ref ou), (2, .ref mo), (1, .ref xo), (0, .ref b)]) hx hb dL_law_264 hl (by decide) rfl (fun ls hl => ?_)
  refine lv_aload_n hx hb dL_law_266 rfl (lv_at hl 4 rfl) ?_
  have hPc := hP.sub (ws' := [(mo, .inr (9, [.int 1, .ref am, .int 0, .int 0, .int 0]))]) [3] rfl
  have hDc := hD.sub (ws' := [(mo, .inr (9, [.int 1, .ref am, .int 0, .int 0, .int 0]))]) [3] (by decide) rfl
  have hFc := va_free (wc := [(mo, .inr (9, [.int 1, .ref am, .int 0, .int 0, .int 0]))]) hD hS hA [3] rfl
  have hDv := hDc.self (sz := H3.size)
  have hpre := zpre (xs' := []) (av := [.ref mo]) hPc hK (hDc.weaken (fun _ _ _ h => h)) hZ hS hFc (fun r hr => by cases hr)
  refine va_calli (va_runV (As := []) (rest := []) ⟨hx, hb, hml, hown, hts⟩ (k_thz l dC dI cI cB cR cO zk mo am (.int 0) (.int 0) (.int 0) H3.size ) (cwV 0 hts gL_law_X4_thrown rfl rfl rfl (by decide +kernel) ⟨Nat.le_of_ble_eq_true rfl, Nat.le_of_ble_eq_true rfl⟩) ⟨zblind, (zrecv_9 hK hPc (q0 := 0) rfl), hpre⟩ rfl rfl hl.1 rfl (lv_room (Nat.le_of_ble_eq_true rfl)) dL_law_267 ⟨Nat.le_of_ble_eq_true rfl, Nat.le_of_ble_eq_true rfl⟩) hS (fun q _ h => hFc q h) hFc (fun r6 u t H5 locs ht hvm hw hB hz1 hk1 hS => ?_)
  obtain rfl : 1 = r6 := (show r6 = 1 from hw).symm
  obtain ⟨hP1, hK1, hD1, hz2⟩ := hB
  rw [ht] at hP1 hz2
  have hPD9 := va_join (wr := [(ou, .inr (7, [.long 0, .null])), (xo, .inr (6, [.ref al, .int 0, .int 0, .int 0, x4, x5, .ref b1, x7])), (al, .inr (4, [.int mc, .ref (zk 0), .int 0])), (am, .inr (4, [.int mm, .ref (zk 0), .int 0]))]) (w1 := [(mo, .inr (9, [.int 1, .ref am, .int 0, .int 0, .int 0]))]) hP hD [3] [0, 1, 2, 4] rfl rfl (by decide) (by decide) hk1 hFc hP1 hD1
  clear hPc hDc hFc hDv hpre hP hD hP1 hK1 hD1
  obtain ⟨hP, hD⟩ := hPD9
  replace hz : s.heap.size + 0 ≤ H5.size := by omega
  clear hz2
  replace hP : va_P (dC, dI) vwCl [(ou, .inr (7, [.long 0, .null])), (xo, .inr (6, [.ref al, .int 0, .int 0, .int 0, x4, x5, .ref b1, x7])), (al, .inr (4, [.int mc, .ref (zk 0), .int 0])), (am, .inr (4, [.int mm, .ref (zk 0), .int 0])), (mo, .inr (9, [.int 1, .ref am, .int 0, .int 0, .int 0]))] H5 := hP
  replace hD : va_D A [(ou, .inr (7, [.long 0, .null])), (xo, .inr (6, [.ref al, .int 0, .int 0, .int 0, x4, x5, .ref b1, x7])), (al, .inr (4, [.int mc, .ref (zk 0), .int 0])), (am, .inr (4, [.int mm, .ref (zk 0), .int 0])), (mo, .inr (9, [.int 1, .ref am, .int 0, .int 0, .int 0]))] := hD
  refine W.widen (k := 18) (n := 85) (by omega) (by omega) ?_
  refine lv_iload hx hb dL_law_270 (lv_at hl 1 rfl) ?_
  refine lv_icmp_eq (tgt := 277) hx hb dL_law_272 (by decide) (fun c9 => ?_) (fun c9 => ?_)
  rotate_left
  · exact absurd (by decide) c9
  refine lv_iload hx hb dL_law_277 (lv_at hl 1 rfl) ?_
  refine lv_if_ne (tgt := 295) hx hb dL_law_279 (by decide) (fun c9 => ?_) (fun c9 => ?_)
  rotate_left
  · exact absurd c9 (by decide)
  refine lv_goto (tgt := 2155) hx hb dL_law_295 (by decide) ?_
  rw [hAd] at hS
  exact zl_tail l dC dI cI cB cR cO zk b xs C1 hZ0 hK hS (Nat.le_of_ble_eq_true rfl) (Nat.le_of_ble_eq_true rfl) ls (lv_sub hl [6, 2] rfl)

set_option maxHeartbeats 4000000 in
set_option maxRecDepth 100000 in
theorem zl_a_empty (l : Launch) (dC : Nat → ClassId) (dI : Nat → Nat → Nat) (cI cB cR cO : ClassId) (zk : Nat → Nat) {p : Program} {e : Env} {s : State} {mY : MethodId} {below : List Frame} {meth : Method} {c : Code} (b : Nat) (xs : Nat → Int32) (hfl : l.stackTraces = false) (C0 : zl_At p s mY meth c b 5 xs) (hZ0 : zR zk [] (fun q => s.heap.size ≤ q) s s.heap) (hK : va_K (dC, dI) vwCl (zT cI cB cR cO) s) (ou xo al b1 : Nat) (x4 x5 x7 : Value) (mc : Int32) (mo am : Nat) (mm : Int32)    (H : Heap) (locs : List Loc) (hP : va_P (dC, dI) vwCl [(ou, .inr (7, [.long 0, .null])), (xo, .inr (6, [.ref al, .int 0, .int 0, .int 0, x4, x5, .ref b1, x7])), (al, .inr (4, [.int mc, .ref (zk 0), .int 0])), (mo, .inr (9, [.int 0, .ref am, .int 0, .int 0, .int 0])), (am, .inr (4, [.int mm, .ref (zk 0), .int 0]))] H) (hD : va_D (fun q => s.heap.size ≤ q) [(ou, .inr (7, [.long 0, .null])), (xo, .inr (6, [.ref al, .int 0, .int 0, .int 0, x4, x5, .ref b1, x7])), (al, .inr (4, [.int mc, .ref (zk 0), .int 0])), (mo, .inr (9, [.int 0, .ref am, .int 0, .int 0, .int 0])), (am, .inr (4, [.int mm, .ref (zk 0), .int 0]))]) (hS : va_S (fun q => s.heap.size ≤ q) s.heap H locs) (ls : Array Slot) (hl : lv_has ls 7 [(4, .int 0), (3, .ref ou), (2, .ref mo), (1, .ref xo), (0, .ref b)]) : W p l e room_1 s mY #[Value.ref b] below meth c H locs 17 79 (lw_Z below #[Value.ref b] s) (F0 mY 298 ls []) := by
  have C1 := C0
  obtain ⟨hx, hb, hr, hml, hown, hts0, hX, hbl, hlocks, hNI⟩ := C0
  have hts := fun (w : Cond) (h : w ∈ wsL_law) => hts0 w (wsL_law_in w h)
  obtain ⟨A, hAd⟩ : ∃ A : Nat → Prop, A = fun q => s.heap.size ≤ q := ⟨_, rfl⟩
  have hA : ∀ q : Nat, s.heap.size ≤ q → A q := fun q h => by rw [hAd]; exact h
  have hAf : ∀ q : Nat, A q → s.heap.size ≤ q := fun q h => by rw [hAd] at h; exact h
  have hbA : ¬ A b := fun h => absurd (hAf b h) (Nat.not_le.mpr hbl)
  have hZ : zR zk [] A s s.heap := by rw [hAd]; exact hZ0
  rw [← hAd] at hD hS
  replace hP : va_P (dC, dI) vwCl [(ou, .inr (7, [.long 0, .null])), (xo, .inr (6, [.ref al, .int 0, .int 0, .int 0, x4, x5, .ref b1, x7])), (al, .inr (4, [.int mc, .ref (zk 0), .int 0])), (mo, .inr (9, [.int 0, .ref am, .int 0, .int 0, .int 0])), (am, .inr (4, [.int mm, .ref (zk 0), .int 0]))] H := hP
  replace hD : va_D A [(ou, .inr (7, [.long 0, .null])), (xo, .inr (6, [.ref al, .int 0, .int 0, .int 0, x4, x5, .ref b1, x7])), (al, .inr (4, [.int mc, .ref (zk 0), .int 0])), (mo, .inr (9, [.int 0, .ref am, .int 0, .int 0, .int 0])), (am, .inr (4, [.int mm, .ref (zk 0), .int 0]))] := hD
  have hz : s.heap.size + 0 ≤ H.size := hS.1
  refine lv_aload_n hx hb dL_law_298 rfl (lv_at hl 3 rfl) ?_
  have hPc := hP.sub (ws' := [(xo, .inr (6, [.ref al, .int 0, .int 0, .int 0, x4, x5, .ref b1, x7])), (al, .inr (4, [.int mc, .ref (zk 0), .int 0]))]) [1, 2] rfl
  have hDc := hD.sub (ws' := [(xo, .inr (6, [.ref al, .int 0, .int 0, .int 0, x4, x5, .ref b1, x7])), (al, .inr (4, [.int mc, .ref (zk 0), .int 0]))]) [1, 2] (by decide) rfl
  have hFc := va_free (wc := [(xo, .inr (6, [.ref al, .int 0, .int 0, .int 0, x4, x5, .ref b1, x7])), (al, .inr (4, [.int mc, .ref (zk 0), .int 0]))]) hD hS hA [1, 2] rfl
  have hDv := hDc.self (sz := H.size)
  have hpre := zpre (xs' := []) (av := [.ref xo]) hPc hK (hDc.weaken (fun _ _ _ h => h)) hZ hS hFc (fun r hr => by cases hr)
  refine va_calli (va_runV (As := []) (rest := []) ⟨hx, hb, hml, hown, hts⟩ (k_emptyX l dC dI cI cB cR cO zk xo al b1 (.int 0) (.int 0) (.int 0) x4 x5 x7 mc H.size ) (cwV 0 hts gL_law_X1_empty rfl rfl rfl (by decide +kernel) ⟨Nat.le_of_ble_eq_true rfl, Nat.le_of_ble_eq_true rfl⟩) ⟨zblind, (zrecv_6 hK hPc (q0 := 0) rfl), hpre⟩ rfl rfl hl.1 rfl (lv_room (Nat.le_of_ble_eq_true rfl)) dL_law_299 ⟨Nat.le_of_ble_eq_true rfl, Nat.le_of_ble_eq_true rfl⟩) hS (fun q _ h => hFc q h) hFc (fun r3 u t H2 locs ht hvm hw hB hz1 hk1 hS => ?_)
  obtain rfl : 0 = r3 := (show r3 = 0 from hw).symm
  obtain ⟨mc1, ⟨hP1, hK1, hD1, hz2⟩⟩ := hB
  rw [ht] at hP1 hz2
  have hPD9 := va_join (wr := [(ou, .inr (7, [.long 0, .null])), (mo, .inr (9, [.int 0, .ref am, .int 0, .int 0, .int 0])), (am, .inr (4, [.int mm, .ref (zk 0), .int 0]))]) (w1 := [(xo, .inr (6, [.ref al, .int 0, .int 0, .int 0, x4, x5, .ref b1, x7])), (al, .inr (4, [.int mc1, .ref (zk 0), .int 0]))]) hP hD [1, 2] [0, 3, 4] rfl rfl (by decide) (by decide) hk1 hFc hP1 hD1
  clear hPc hDc hFc hDv hpre hP hD hP1 hK1 hD1
  obtain ⟨hP, hD⟩ := hPD9
  replace hz : s.heap.size + 0 ≤ H2.size := by omega
  clear hz2
  replace hP : va_P (dC, dI) vwCl [(ou, .inr (7, [.long 0, .null])), (mo, .inr (9, [.int 0, .ref am, .int 0, .int 0, .int 0])), (am, .inr (4, [.int mm, .ref (zk 0), .int 0])), (xo, .inr (6, [.ref al, .int 0, .int 0, .int 0, x4, x5, .ref b1, x7])), (al, .inr (4, [.int mc1, .ref (zk 0), .int 0]))] H2 := hP
  replace hD : va_D A [(ou, .inr (7, [.long 0, .null])), (mo, .inr (9, [.int 0, .ref am, .int 0, .int 0, .int 0])), (am, .inr (4, [.int mm, .ref (zk 0), .int 0])), (xo, .inr (6, [.ref al, .int 0, .int 0, .int 0, x4, x5, .ref b1, x7])), (al, .inr (4, [.int mc1, .ref (zk 0), .int 0]))] := hD
  refine W.widen (k := 17) (n := 79) (by omega) (by omega) ?_
  refine lv_aload_n hx hb dL_law_302 rfl (lv_at hl 2 rfl) ?_
  have hPc := hP.sub (ws' := [(mo, .inr (9, [.int 0, .ref am, .int 0, .int 0, .int 0])), (am, .inr (4, [.int mm, .ref (zk 0), .int 0]))]) [1, 2] rfl
  have hDc := hD.sub (ws' := [(mo, .inr (9, [.int 0, .ref am, .int 0, .int 0, .int 0])), (am, .inr (4, [.int mm, .ref (zk 0), .int 0]))]) [1, 2] (by decide) rfl
  have hFc := va_free (wc := [(mo, .inr (9, [.int 0, .ref am, .int 0, .int 0, .int 0])), (am, .inr (4, [.int mm, .ref (zk 0), .int 0]))]) hD hS hA [1, 2] rfl
  have hDv := hDc.self (sz := H2.size)
  have hpre := zpre (xs' := []) (av := [.ref mo]) hPc hK (hDc.weaken (fun _ _ _ h => h)) hZ hS hFc (fun r hr => by cases hr)
  refine va_calli (va_runV (As := []) (rest := [.int 0]) ⟨hx, hb, hml, hown, hts⟩ (k_emptyM l dC dI cI cB cR cO zk mo am (.int 0) (.int 0) (.int 0) (.int 0) mm H2.size ) (cwV 0 hts gL_law_X4_empty rfl rfl rfl (by decide +kernel) ⟨Nat.le_of_ble_eq_true rfl, Nat.le_of_ble_eq_true rfl⟩) ⟨zblind, (zrecv_9 hK hPc (q0 := 0) rfl), hpre⟩ rfl rfl hl.1 rfl (lv_room (Nat.le_of_ble_eq_true rfl)) dL_law_303 ⟨Nat.le_of_ble_eq_true rfl, Nat.le_of_ble_eq_true rfl⟩) hS (fun q _ h => hFc q h) hFc (fun r6 u t H5 locs ht hvm hw hB hz1 hk1 hS => ?_)
  obtain rfl : 0 = r6 := (show r6 = 0 from hw).symm
  obtain ⟨mm4, ⟨hP1, hK1, hD1, hz2⟩⟩ := hB
  rw [ht] at hP1 hz2
  have hPD9 := va_join (wr := [(ou, .inr (7, [.long 0, .null])), (xo, .inr (6, [.ref al, .int 0, .int 0, .int 0, x4, x5, .ref b1, x7])), (al, .inr (4, [.int mc1, .ref (zk 0), .int 0]))]) (w1 := [(mo, .inr (9, [.int 0, .ref am, .int 0, .int 0, .int 0])), (am, .inr (4, [.int mm4, .ref (zk 0), .int 0]))]) hP hD [1, 2] [0, 3, 4] rfl rfl (by decide) (by decide) hk1 hFc hP1 hD1
  clear hPc hDc hFc hDv hpre hP hD hP1 hK1 hD1
  obtain ⟨hP, hD⟩ := hPD9
  replace hz : s.heap.size + 0 ≤ H5.size := by omega
  clear hz2
  replace hP : va_P (dC, dI) vwCl [(ou, .inr (7, [.long 0, .null])), (xo, .inr (6, [.ref al, .int 0, .int 0, .int 0, x4, x5, .ref b1, x7])), (al, .inr (4, [.int mc1, .ref (zk 0), .int 0])), (mo, .inr (9, [.int 0, .ref am, .int 0, .int 0, .int 0])), (am, .inr (4, [.int mm4, .ref (zk 0), .int 0]))] H5 := hP
  replace hD : va_D A [(ou, .inr (7, [.long 0, .null])), (xo, .inr (6, [.ref al, .int 0, .int 0, .int 0, x4, x5, .ref b1, x7])), (al, .inr (4, [.int mc1, .ref (zk 0), .int 0])), (mo, .inr (9, [.int 0, .ref am, .int 0, .int 0, .int 0])), (am, .inr (4, [.int mm4, .ref (zk 0), .int 0]))] := hD
  refine W.widen (k := 17) (n := 79) (by omega) (by omega) ?_
  refine lv_icmp_eq (tgt := 2155) hx hb dL_law_306 (by decide) (fun c9 => ?_) (fun c9 => ?_)
  rotate_left
  · exact absurd (by decide) c9
  rw [hAd] at hS
  exact zl_tail l dC dI cI cB cR cO zk b xs C1 hZ0 hK hS (Nat.le_of_ble_eq_true rfl) (Nat.le_of_ble_eq_true rfl) ls (lv_sub hl [4, 0] rfl)

set_option maxHeartbeats 4000000 in
set_option maxRecDepth 100000 in
theorem zl_a_put (l : Launch) (dC : Nat → ClassId) (dI : Nat → Nat → Nat) (cI cB cR cO : ClassId) (zk : Nat → Nat) {p : Program} {e : Env} {s : State} {mY : MethodId} {below : List Frame} {meth : Method} {c : Code} (b : Nat) (xs : Nat → Int32) (hfl : l.stackTraces = false) (C0 : zl_At p s mY meth c b 5 xs) (hZ0 : zR zk [] (fun q => s.heap.size ≤ q) s s.heap) (hK : va_K (dC, dI) vwCl (zT cI cB cR cO) s) (ou xo al b1 : Nat) (x4 x5 x7 : Value) (mc : Int32) (mo am : Nat) (mm : Int32)  (p0 p1 p2 : Int32) (h1 : xs 1 = p0) (h2 : xs 2 = p1) (h3 : xs 3 = p2)  (H : Heap) (locs : List Loc) (hP : va_P (dC, dI) vwCl [(ou, .inr (7, [.long 0, .null])), (xo, .inr (6, [.ref al, .int 0, .int 0, .int 0, x4, x5, .ref b1, x7])), (al, .inr (4, [.int mc, .ref (zk 0), .int 0])), (mo, .inr (9, [.int 0, .ref am, .int 0, .int 0, .int 0])), (am, .inr (4, [.int mm, .ref (zk 0), .int 0]))] H) (hD : va_D (fun q => s.heap.size ≤ q) [(ou, .inr (7, [.long 0, .null])), (xo, .inr (6, [.ref al, .int 0, .int 0, .int 0, x4, x5, .ref b1, x7])), (al, .inr (4, [.int mc, .ref (zk 0), .int 0])), (mo, .inr (9, [.int 0, .ref am, .int 0, .int 0, .int 0])), (am, .inr (4, [.int mm, .ref (zk 0), .int 0]))]) (hS : va_S (fun q => s.heap.size ≤ q) s.heap H locs) (ls : Array Slot) (hl : lv_has ls 7 [(4, .int 0), (3, .ref ou), (2, .ref mo), (1, .ref xo), (0, .ref b)]) : W p l e room_1 s mY #[Value.ref b] below meth c H locs 17 79 (lw_Z below #[Value.ref b] s) (F0 mY 311 ls []) := by
  have C1 := C0
  obtain ⟨hx, hb, hr, hml, hown, hts0, hX, hbl, hlocks, hNI⟩ := C0
  have hts := fun (w : Cond) (h : w ∈ wsL_law) => hts0 w (wsL_law_in w h)
  obtain ⟨A, hAd⟩ : ∃ A : Nat → Prop, A = fun q => s.heap.size ≤ q := ⟨_, rfl⟩
  have hA : ∀ q : Nat, s.heap.size ≤ q → A q := fun q h => by rw [hAd]; exact h
  have hAf : ∀ q : Nat, A q → s.heap.size ≤ q := fun q h => by rw [hAd] at h; exact h
  have hbA : ¬ A b := fun h => absurd (hAf b h) (Nat.not_le.mpr hbl)
  have hZ : zR zk [] A s s.heap := by rw [hAd]; exact hZ0
  rw [← hAd] at hD hS
  replace hP : va_P (dC, dI) vwCl [(ou, .inr (7, [.long 0, .null])), (xo, .inr (6, [.ref al, .int 0, .int 0, .int 0, x4, x5, .ref b1, x7])), (al, .inr (4, [.int mc, .ref (zk 0), .int 0])), (mo, .inr (9, [.int 0, .ref am, .int 0, .int 0, .int 0])), (am, .inr (4, [.int mm, .ref (zk 0), .int 0]))] H := hP
  replace hD : va_D A [(ou, .inr (7, [.long 0, .null])), (xo, .inr (6, [.ref al, .int 0, .int 0, .int 0, x4, x5, .ref b1, x7])), (al, .inr (4, [.int mc, .ref (zk 0), .int 0])), (mo, .inr (9, [.int 0, .ref am, .int 0, .int 0, .int 0])), (am, .inr (4, [.int mm, .ref (zk 0), .int 0]))] := hD
  have hz : s.heap.size + 0 ≤ H.size := hS.1
  refine lv_aload_n hx hb dL_law_311 rfl (lv_at hl 3 rfl) ?_
  refine lv_aload_n hx hb dL_law_312 rfl (lv_at hl 4 rfl) ?_
  refine lv_iload hx hb dL_law_313 (lv_at hl 0 rfl) ?_
  refine lv_iconst (v := 1) hx hb dL_law_315 (by decide) ?_
  refine lv_iadd hx hb dL_law_316 ?_
  refine lv_topi (fun v1 ev1 => ?_)
  obtain rfl : v1 = 1 := ev1.trans (by decide)
  refine va_sld hx hb hX hbl hbA hS (by unfold vp_in; decide) dL_law_317 ?_
  refine lv_topi (fun v2 ev2 => ?_)
  have e9 : v2 = p0 := ev2.trans (show xs ((1 : Int32).toNatClampNeg) = p0 from h1)
  clear ev2
  subst v2
  refine lv_aload_n hx hb dL_law_318 rfl (lv_at hl 4 rfl) ?_
  refine lv_iload hx hb dL_law_319 (lv_at hl 0 rfl) ?_
  refine lv_iconst (v := 2) hx hb dL_law_321 (by decide) ?_
  refine lv_iadd hx hb dL_law_322 ?_
  refine lv_topi (fun v3 ev3 => ?_)
  obtain rfl : v3 = 2 := ev3.trans (by decide)
  refine va_sld hx hb hX hbl hbA hS (by unfold vp_in; decide) dL_law_323 ?_
  refine lv_topi (fun v4 ev4 => ?_)
  have e9 : v4 = p1 := ev4.trans (show xs ((2 : Int32).toNatClampNeg) = p1 from h2)
  clear ev4
  subst v4
  refine lv_aload_n hx hb dL_law_324 rfl (lv_at hl 4 rfl) ?_
  refine lv_iload hx hb dL_law_325 (lv_at hl 0 rfl) ?_
  refine lv_iconst (v := 3) hx hb dL_law_327 (by decide) ?_
  refine lv_iadd hx hb dL_law_328 ?_
  refine lv_topi (fun v5 ev5 => ?_)
  obtain rfl : v5 = 3 := ev5.trans (by decide)
  refine va_sld hx hb hX hbl hbA hS (by unfold vp_in; decide) dL_law_329 ?_
  refine lv_topi (fun v6 ev6 => ?_)
  have e9 : v6 = p2 := ev6.trans (show xs ((3 : Int32).toNatClampNeg) = p2 from h3)
  clear ev6
  subst v6
  refine lv_aload_n hx hb dL_law_330 rfl (lv_at hl 1 rfl) ?_
  have hPc := hP.sub (ws' := [(xo, .inr (6, [.ref al, .int 0, .int 0, .int 0, x4, x5, .ref b1, x7])), (al, .inr (4, [.int mc, .ref (zk 0), .int 0]))]) [1, 2] rfl
  have hDc := hD.sub (ws' := [(xo, .inr (6, [.ref al, .int 0, .int 0, .int 0, x4, x5, .ref b1, x7])), (al, .inr (4, [.int mc, .ref (zk 0), .int 0]))]) [1, 2] (by decide) rfl
  have hFc := va_free (wc := [(xo, .inr (6, [.ref al, .int 0, .int 0, .int 0, x4, x5, .ref b1, x7])), (al, .inr (4, [.int mc, .ref (zk 0), .int 0]))]) hD hS hA [1, 2] rfl
  have hDv := hDc.self (sz := H.size)
  have hpre := zpre (xs' := []) (av := [.ref xo, .int p0, .int p1, .int p2, .ref ou]) hPc hK (hDc.weaken (fun _ _ _ h => h)) hZ hS hFc (fun r hr => by cases hr)
  refine va_calli (vx_runSW (As := [.ref xo, .int p0, .int p1, .int p2, .ref ou]) (rest := []) ⟨hx, hb, hml, hown, hts⟩ (k_putH l dC dI cI cB cR cO zk hfl xo al b1 (.int 0) (.int 0) (.int 0) x4 x5 x7 mc p0 p1 p2 ou H.size ) (vx_cwSW 5 hts gL_law_L_put rfl rfl rfl (by decide +kernel) ⟨Nat.le_of_ble_eq_true rfl, Nat.le_of_ble_eq_true rfl⟩) ⟨zblind, hpre⟩ rfl rfl hl.1 rfl (lv_room (Nat.le_of_ble_eq_true rfl)) dL_law_331 ⟨Nat.le_of_ble_eq_true rfl, Nat.le_of_ble_eq_true rfl⟩) hS (fun q _ h => hFc q h) hFc (fun r8 u t H7 locs ht hvm hw hB hz1 hk1 hS => ?_)
  obtain rfl : 1 = r8 := (show r8 = 1 from hw).symm
  obtain ⟨hP1, hK1, hD1, hz2⟩ := hB
  rw [ht] at hP1 hz2
  have hPD9 := va_join (wr := [(ou, .inr (7, [.long 0, .null])), (mo, .inr (9, [.int 0, .ref am, .int 0, .int 0, .int 0])), (am, .inr (4, [.int mm, .ref (zk 0), .int 0]))]) (w1 := [(xo, .inr (6, [.ref al, .int 0, .int 0, .int 0, x4, x5, .ref b1, x7])), (al, .inr (4, [.int mc, .ref (zk 0), .int 0]))]) hP hD [1, 2] [0, 3, 4] rfl rfl (by decide) (by decide) hk1 hFc hP1 hD1
  clear hPc hDc hFc hDv hpre hP hD hP1 hK1 hD1
  obtain ⟨hP, hD⟩ := hPD9
  replace hz : s.heap.size + 0 ≤ H7.size := by omega
  clear hz2
  replace hP : va_P (dC, dI) vwCl [(ou, .inr (7, [.long 0, .null])), (mo, .inr (9, [.int 0, .ref am, .int 0, .int 0, .int 0])), (am, .inr (4, [.int mm, .ref (zk 0), .int 0])), (xo, .inr (6, [.ref al, .int 0, .int 0, .int 0, x4, x5, .ref b1, x7])), (al, .inr (4, [.int mc, .ref (zk 0), .int 0]))] H7 := hP
  replace hD : va_D A [(ou, .inr (7, [.long 0, .null])), (mo, .inr (9, [.int 0, .ref am, .int 0, .int 0, .int 0])), (am, .inr (4, [.int mm, .ref (zk 0), .int 0])), (xo, .inr (6, [.ref al, .int 0, .int 0, .int 0, x4, x5, .ref b1, x7])), (al, .inr (4, [.int mc, .ref (zk 0), .int 0]))] := hD
  refine W.widen (k := 18) (n := 85) (by omega) (by omega) ?_
  refine lv_istore (lv' := [(5, .int 1), (4, .int 0), (3, .ref ou), (2, .ref mo), (1, .ref xo), (0, .ref b)]) hx hb dL_law_334 hl (by decide) rfl (fun ls hl => ?_)
  refine lv_aload_n hx hb dL_law_336 rfl (lv_at hl 3 rfl) ?_
  refine lv_aload_n hx hb dL_law_337 rfl (lv_at hl 5 rfl) ?_
  refine lv_iload hx hb dL_law_338 (lv_at hl 1 rfl) ?_
  refine lv_iconst (v := 1) hx hb dL_law_340 (by decide) ?_
  refine lv_iadd hx hb dL_law_341 ?_
  refine lv_topi (fun v9 ev9 => ?_)
  obtain rfl : v9 = 1 := ev9.trans (by decide)
  refine va_sld hx hb hX hbl hbA hS (by unfold vp_in; decide) dL_law_342 ?_
  refine lv_topi (fun v10 ev10 => ?_)
  have e9 : v10 = p0 := ev10.trans (show xs ((1 : Int32).toNatClampNeg) = p0 from h1)
  clear ev10
  subst v10
  refine lv_aload_n hx hb dL_law_343 rfl (lv_at hl 5 rfl) ?_
  refine lv_iload hx hb dL_law_344 (lv_at hl 1 rfl) ?_
  refine lv_iconst (v := 2) hx hb dL_law_346 (by decide) ?_
  refine lv_iadd hx hb dL_law_347 ?_
  refine lv_topi (fun v11 ev11 => ?_)
  obtain rfl : v11 = 2 := ev11.trans (by decide)
  refine va_sld hx hb hX hbl hbA hS (by unfold vp_in; decide) dL_law_348 ?_
  refine lv_topi (fun v12 ev12 => ?_)
  have e9 : v12 = p1 := ev12.trans (show xs ((2 : Int32).toNatClampNeg) = p1 from h2)
  clear ev12
  subst v12
  refine lv_aload_n hx hb dL_law_349 rfl (lv_at hl 5 rfl) ?_
  refine lv_iload hx hb dL_law_350 (lv_at hl 1 rfl) ?_
  refine lv_iconst (v := 3) hx hb dL_law_352 (by decide) ?_
  refine lv_iadd hx hb dL_law_353 ?_
  refine lv_topi (fun v13 ev13 => ?_)
  obtain rfl : v13 = 3 := ev13.trans (by decide)
  refine va_sld hx hb hX hbl hbA hS (by unfold vp_in; decide) dL_law_354 ?_
  refine lv_topi (fun v14 ev14 => ?_)
  have e9 : v14 = p2 := ev14.trans (show xs ((3 : Int32).toNatClampNeg) = p2 from h3)
  clear ev14
  subst v14
  have hPc := hP.sub (ws' := [(mo, .inr (9, [.int 0, .ref am, .int 0, .int 0, .int 0])), (am, .inr (4, [.int mm, .ref (zk 0), .int 0]))]) [1, 2] rfl
  have hDc := hD.sub (ws' := [(mo, .inr (9, [.int 0, .ref am, .int 0, .int 0, .int 0])), (am, .inr (4, [.int mm, .ref (zk 0), .int 0]))]) [1, 2] (by decide) rfl
  have hFc := va_free (wc := [(mo, .inr (9, [.int 0, .ref am, .int 0, .int 0, .int 0])), (am, .inr (4, [.int mm, .ref (zk 0), .int 0]))]) hD hS hA [1, 2] rfl
  have hDv := hDc.self (sz := H7.size)
  have hpre := zpre (xs' := []) (av := [.ref mo, .int p0, .int p1, .int p2]) hPc hK (hDc.weaken (fun _ _ _ h => h)) hZ hS hFc (fun r hr => by cases hr)
  refine va_calli (va_runV (As := [.int p0, .int p1, .int p2]) (rest := []) ⟨hx, hb, hml, hown, hts⟩ (k_putM l dC dI cI cB cR cO zk mo am (.int 0) (.int 0) (.int 0) (.int 0) mm p0 p1 p2 H7.size ) (cwV 3 hts gL_law_X4_put rfl rfl rfl (by decide +kernel) ⟨Nat.le_of_ble_eq_true rfl, Nat.le_of_ble_eq_true rfl⟩) ⟨zblind, (zrecv_9 hK hPc (q0 := 0) rfl), hpre⟩ rfl rfl hl.1 rfl (lv_room (Nat.le_of_ble_eq_true rfl)) dL_law_355 ⟨Nat.le_of_ble_eq_true rfl, Nat.le_of_ble_eq_true rfl⟩) hS (fun q _ h => hFc q h) hFc (fun r16 u t H15 locs ht hvm hw hB hz1 hk1 hS => ?_)
  obtain ⟨hP1, hK1, hD1, hz2⟩ := hB
  rw [ht] at hP1 hz2
  have hPD9 := va_join (wr := [(ou, .inr (7, [.long 0, .null])), (xo, .inr (6, [.ref al, .int 0, .int 0, .int 0, x4, x5, .ref b1, x7])), (al, .inr (4, [.int mc, .ref (zk 0), .int 0]))]) (w1 := [(mo, .inr (9, [.int 1, .ref am, .int 0, .int 0, .int 0])), (am, .inr (4, [.int mm, .ref (zk 0), .int 0]))]) hP hD [1, 2] [0, 3, 4] rfl rfl (by decide) (by decide) hk1 hFc hP1 hD1
  clear hPc hDc hFc hDv hpre hP hD hP1 hK1 hD1
  obtain ⟨hP, hD⟩ := hPD9
  replace hz : s.heap.size + 0 ≤ H15.size := by omega
  clear hz2
  replace hP : va_P (dC, dI) vwCl [(ou, .inr (7, [.long 0, .null])), (xo, .inr (6, [.ref al, .int 0, .int 0, .int 0, x4, x5, .ref b1, x7])), (al, .inr (4, [.int mc, .ref (zk 0), .int 0])), (mo, .inr (9, [.int 1, .ref am, .int 0, .int 0, .int 0])), (am, .inr (4, [.int mm, .ref (zk 0), .int 0]))] H15 := hP
  replace hD : va_D A [(ou, .inr (7, [.long 0, .null])), (xo, .inr (6, [.ref al, .int 0, .int 0, .int 0, x4, x5, .ref b1, x7])), (al, .inr (4, [.int mc, .ref (zk 0), .int 0])), (mo, .inr (9, [.int 1, .ref am, .int 0, .int 0, .int 0])), (am, .inr (4, [.int mm, .ref (zk 0), .int 0]))] := hD
  refine W.widen (k := 18) (n := 85) (by omega) (by omega) ?_
  refine lv_istore (lv' := [(6, .int r16), (5, .int 1), (4, .int 0), (3, .ref ou), (2, .ref mo), (1, .ref xo), (0, .ref b)]) hx hb dL_law_358 hl (by decide) rfl (fun ls hl => ?_)
  refine lv_aload_n hx hb dL_law_360 rfl (lv_at hl 4 rfl) ?_
  have hPc := hP.sub (ws' := [(mo, .inr (9, [.int 1, .ref am, .int 0, .int 0, .int 0]))]) [3] rfl
  have hDc := hD.sub (ws' := [(mo, .inr (9, [.int 1, .ref am, .int 0, .int 0, .int 0]))]) [3] (by decide) rfl
  have hFc := va_free (wc := [(mo, .inr (9, [.int 1, .ref am, .int 0, .int 0, .int 0]))]) hD hS hA [3] rfl
  have hDv := hDc.self (sz := H15.size)
  have hpre := zpre (xs' := []) (av := [.ref mo]) hPc hK (hDc.weaken (fun _ _ _ h => h)) hZ hS hFc (fun r hr => by cases hr)
  refine va_calli (va_runV (As := []) (rest := []) ⟨hx, hb, hml, hown, hts⟩ (k_thz l dC dI cI cB cR cO zk mo am (.int 0) (.int 0) (.int 0) H15.size ) (cwV 0 hts gL_law_X4_thrown rfl rfl rfl (by decide +kernel) ⟨Nat.le_of_ble_eq_true rfl, Nat.le_of_ble_eq_true rfl⟩) ⟨zblind, (zrecv_9 hK hPc (q0 := 0) rfl), hpre⟩ rfl rfl hl.1 rfl (lv_room (Nat.le_of_ble_eq_true rfl)) dL_law_361 ⟨Nat.le_of_ble_eq_true rfl, Nat.le_of_ble_eq_true rfl⟩) hS (fun q _ h => hFc q h) hFc (fun r18 u t H17 locs ht hvm hw hB hz1 hk1 hS => ?_)
  obtain rfl : 1 = r18 := (show r18 = 1 from hw).symm
  obtain ⟨hP1, hK1, hD1, hz2⟩ := hB
  rw [ht] at hP1 hz2
  have hPD9 := va_join (wr := [(ou, .inr (7, [.long 0, .null])), (xo, .inr (6, [.ref al, .int 0, .int 0, .int 0, x4, x5, .ref b1, x7])), (al, .inr (4, [.int mc, .ref (zk 0), .int 0])), (am, .inr (4, [.int mm, .ref (zk 0), .int 0]))]) (w1 := [(mo, .inr (9, [.int 1, .ref am, .int 0, .int 0, .int 0]))]) hP hD [3] [0, 1, 2, 4] rfl rfl (by decide) (by decide) hk1 hFc hP1 hD1
  clear hPc hDc hFc hDv hpre hP hD hP1 hK1 hD1
  obtain ⟨hP, hD⟩ := hPD9
  replace hz : s.heap.size + 0 ≤ H17.size := by omega
  clear hz2
  replace hP : va_P (dC, dI) vwCl [(ou, .inr (7, [.long 0, .null])), (xo, .inr (6, [.ref al, .int 0, .int 0, .int 0, x4, x5, .ref b1, x7])), (al, .inr (4, [.int mc, .ref (zk 0), .int 0])), (am, .inr (4, [.int mm, .ref (zk 0), .int 0])), (mo, .inr (9, [.int 1, .ref am, .int 0, .int 0, .int 0]))] H17 := hP
  replace hD : va_D A [(ou, .inr (7, [.long 0, .null])), (xo, .inr (6, [.ref al, .int 0, .int 0, .int 0, x4, x5, .ref b1, x7])), (al, .inr (4, [.int mc, .ref (zk 0), .int 0])), (am, .inr (4, [.int mm, .ref (zk 0), .int 0])), (mo, .inr (9, [.int 1, .ref am, .int 0, .int 0, .int 0]))] := hD
  refine W.widen (k := 18) (n := 85) (by omega) (by omega) ?_
  refine lv_iload hx hb dL_law_364 (lv_at hl 1 rfl) ?_
  refine lv_icmp_eq (tgt := 371) hx hb dL_law_366 (by decide) (fun c9 => ?_) (fun c9 => ?_)
  rotate_left
  · exact absurd (by decide) c9
  refine lv_iload hx hb dL_law_371 (lv_at hl 1 rfl) ?_
  refine lv_if_ne (tgt := 389) hx hb dL_law_373 (by decide) (fun c9 => ?_) (fun c9 => ?_)
  rotate_left
  · exact absurd c9 (by decide)
  refine lv_goto (tgt := 2155) hx hb dL_law_389 (by decide) ?_
  rw [hAd] at hS
  exact zl_tail l dC dI cI cB cR cO zk b xs C1 hZ0 hK hS (Nat.le_of_ble_eq_true rfl) (Nat.le_of_ble_eq_true rfl) ls (lv_sub hl [6, 2] rfl)

set_option maxHeartbeats 4000000 in
set_option maxRecDepth 100000 in
theorem zl_a_say (l : Launch) (dC : Nat → ClassId) (dI : Nat → Nat → Nat) (cI cB cR cO : ClassId) (zk : Nat → Nat) {p : Program} {e : Env} {s : State} {mY : MethodId} {below : List Frame} {meth : Method} {c : Code} (b : Nat) (xs : Nat → Int32) (hfl : l.stackTraces = false) (C0 : zl_At p s mY meth c b 5 xs) (hZ0 : zR zk [] (fun q => s.heap.size ≤ q) s s.heap) (hK : va_K (dC, dI) vwCl (zT cI cB cR cO) s) (ou xo al b1 : Nat) (x4 x5 x7 : Value) (mc : Int32) (mo am : Nat) (mm : Int32)  (p0 p1 p2 : Int32) (h1 : xs 1 = p0) (h2 : xs 2 = p1) (h3 : xs 3 = p2)  (H : Heap) (locs : List Loc) (hP : va_P (dC, dI) vwCl [(ou, .inr (7, [.long 0, .null])), (xo, .inr (6, [.ref al, .int 0, .int 0, .int 0, x4, x5, .ref b1, x7])), (al, .inr (4, [.int mc, .ref (zk 0), .int 0])), (mo, .inr (9, [.int 0, .ref am, .int 0, .int 0, .int 0])), (am, .inr (4, [.int mm, .ref (zk 0), .int 0]))] H) (hD : va_D (fun q => s.heap.size ≤ q) [(ou, .inr (7, [.long 0, .null])), (xo, .inr (6, [.ref al, .int 0, .int 0, .int 0, x4, x5, .ref b1, x7])), (al, .inr (4, [.int mc, .ref (zk 0), .int 0])), (mo, .inr (9, [.int 0, .ref am, .int 0, .int 0, .int 0])), (am, .inr (4, [.int mm, .ref (zk 0), .int 0]))]) (hS : va_S (fun q => s.heap.size ≤ q) s.heap H locs) (ls : Array Slot) (hl : lv_has ls 7 [(4, .int 0), (3, .ref ou), (2, .ref mo), (1, .ref xo), (0, .ref b)]) : W p l e room_1 s mY #[Value.ref b] below meth c H locs 17 79 (lw_Z below #[Value.ref b] s) (F0 mY 392 ls []) := by
  have C1 := C0
  obtain ⟨hx, hb, hr, hml, hown, hts0, hX, hbl, hlocks, hNI⟩ := C0
  have hts := fun (w : Cond) (h : w ∈ wsL_law) => hts0 w (wsL_law_in w h)
  obtain ⟨A, hAd⟩ : ∃ A : Nat → Prop, A = fun q => s.heap.size ≤ q := ⟨_, rfl⟩
  have hA : ∀ q : Nat, s.heap.size ≤ q → A q := fun q h => by rw [hAd]; exact h
  have hAf : ∀ q : Nat, A q → s.heap.size ≤ q := fun q h => by rw [hAd] at h; exact h
  have hbA : ¬ A b := fun h => absurd (hAf b h) (Nat.not_le.mpr hbl)
  have hZ : zR zk [] A s s.heap := by rw [hAd]; exact hZ0
  rw [← hAd] at hD hS
  replace hP : va_P (dC, dI) vwCl [(ou, .inr (7, [.long 0, .null])), (xo, .inr (6, [.ref al, .int 0, .int 0, .int 0, x4, x5, .ref b1, x7])), (al, .inr (4, [.int mc, .ref (zk 0), .int 0])), (mo, .inr (9, [.int 0, .ref am, .int 0, .int 0, .int 0])), (am, .inr (4, [.int mm, .ref (zk 0), .int 0]))] H := hP
  replace hD : va_D A [(ou, .inr (7, [.long 0, .null])), (xo, .inr (6, [.ref al, .int 0, .int 0, .int 0, x4, x5, .ref b1, x7])), (al, .inr (4, [.int mc, .ref (zk 0), .int 0])), (mo, .inr (9, [.int 0, .ref am, .int 0, .int 0, .int 0])), (am, .inr (4, [.int mm, .ref (zk 0), .int 0]))] := hD
  have hz : s.heap.size + 0 ≤ H.size := hS.1
  refine lv_aload_n hx hb dL_law_392 rfl (lv_at hl 3 rfl) ?_
  refine lv_aload_n hx hb dL_law_393 rfl (lv_at hl 4 rfl) ?_
  refine lv_iload hx hb dL_law_394 (lv_at hl 0 rfl) ?_
  refine lv_iconst (v := 1) hx hb dL_law_396 (by decide) ?_
  refine lv_iadd hx hb dL_law_397 ?_
  refine lv_topi (fun v1 ev1 => ?_)
  obtain rfl : v1 = 1 := ev1.trans (by decide)
  refine va_sld hx hb hX hbl hbA hS (by unfold vp_in; decide) dL_law_398 ?_
  refine lv_topi (fun v2 ev2 => ?_)
  have e9 : v2 = p0 := ev2.trans (show xs ((1 : Int32).toNatClampNeg) = p0 from h1)
  clear ev2
  subst v2
  refine lv_aload_n hx hb dL_law_399 rfl (lv_at hl 4 rfl) ?_
  refine lv_iload hx hb dL_law_400 (lv_at hl 0 rfl) ?_
  refine lv_iconst (v := 2) hx hb dL_law_402 (by decide) ?_
  refine lv_iadd hx hb dL_law_403 ?_
  refine lv_topi (fun v3 ev3 => ?_)
  obtain rfl : v3 = 2 := ev3.trans (by decide)
  refine va_sld hx hb hX hbl hbA hS (by unfold vp_in; decide) dL_law_404 ?_
  refine lv_topi (fun v4 ev4 => ?_)
  have e9 : v4 = p1 := ev4.trans (show xs ((2 : Int32).toNatClampNeg) = p1 from h2)
  clear ev4
  subst v4
  refine lv_aload_n hx hb dL_law_405 rfl (lv_at hl 4 rfl) ?_
  refine lv_iload hx hb dL_law_406 (lv_at hl 0 rfl) ?_
  refine lv_iconst (v := 3) hx hb dL_law_408 (by decide) ?_
  refine lv_iadd hx hb dL_law_409 ?_
  refine lv_topi (fun v5 ev5 => ?_)
  obtain rfl : v5 = 3 := ev5.trans (by decide)
  refine va_sld hx hb hX hbl hbA hS (by unfold vp_in; decide) dL_law_410 ?_
  refine lv_topi (fun v6 ev6 => ?_)
  have e9 : v6 = p2 := ev6.trans (show xs ((3 : Int32).toNatClampNeg) = p2 from h3)
  clear ev6
  subst v6
  refine lv_aload_n hx hb dL_law_411 rfl (lv_at hl 1 rfl) ?_
  have hPc := hP.sub (ws' := [(xo, .inr (6, [.ref al, .int 0, .int 0, .int 0, x4, x5, .ref b1, x7])), (al, .inr (4, [.int mc, .ref (zk 0), .int 0]))]) [1, 2] rfl
  have hDc := hD.sub (ws' := [(xo, .inr (6, [.ref al, .int 0, .int 0, .int 0, x4, x5, .ref b1, x7])), (al, .inr (4, [.int mc, .ref (zk 0), .int 0]))]) [1, 2] (by decide) rfl
  have hFc := va_free (wc := [(xo, .inr (6, [.ref al, .int 0, .int 0, .int 0, x4, x5, .ref b1, x7])), (al, .inr (4, [.int mc, .ref (zk 0), .int 0]))]) hD hS hA [1, 2] rfl
  have hDv := hDc.self (sz := H.size)
  have hpre := zpre (xs' := []) (av := [.ref xo, .int p0, .int p1, .int p2, .ref ou]) hPc hK (hDc.weaken (fun _ _ _ h => h)) hZ hS hFc (fun r hr => by cases hr)
  refine va_calli (vx_runSW (As := [.ref xo, .int p0, .int p1, .int p2, .ref ou]) (rest := []) ⟨hx, hb, hml, hown, hts⟩ (k_sayH l dC dI cI cB cR cO zk hfl xo al b1 (.int 0) (.int 0) (.int 0) x4 x5 x7 mc p0 p1 p2 ou H.size ) (vx_cwSW 5 hts gL_law_L_say rfl rfl rfl (by decide +kernel) ⟨Nat.le_of_ble_eq_true rfl, Nat.le_of_ble_eq_true rfl⟩) ⟨zblind, hpre⟩ rfl rfl hl.1 rfl (lv_room (Nat.le_of_ble_eq_true rfl)) dL_law_412 ⟨Nat.le_of_ble_eq_true rfl, Nat.le_of_ble_eq_true rfl⟩) hS (fun q _ h => hFc q h) hFc (fun r8 u t H7 locs ht hvm hw hB hz1 hk1 hS => ?_)
  obtain rfl : 1 = r8 := (show r8 = 1 from hw).symm
  obtain ⟨hP1, hK1, hD1, hz2⟩ := hB
  rw [ht] at hP1 hz2
  have hPD9 := va_join (wr := [(ou, .inr (7, [.long 0, .null])), (mo, .inr (9, [.int 0, .ref am, .int 0, .int 0, .int 0])), (am, .inr (4, [.int mm, .ref (zk 0), .int 0]))]) (w1 := [(xo, .inr (6, [.ref al, .int 0, .int 0, .int 0, x4, x5, .ref b1, x7])), (al, .inr (4, [.int mc, .ref (zk 0), .int 0]))]) hP hD [1, 2] [0, 3, 4] rfl rfl (by decide) (by decide) hk1 hFc hP1 hD1
  clear hPc hDc hFc hDv hpre hP hD hP1 hK1 hD1
  obtain ⟨hP, hD⟩ := hPD9
  replace hz : s.heap.size + 0 ≤ H7.size := by omega
  clear hz2
  replace hP : va_P (dC, dI) vwCl [(ou, .inr (7, [.long 0, .null])), (mo, .inr (9, [.int 0, .ref am, .int 0, .int 0, .int 0])), (am, .inr (4, [.int mm, .ref (zk 0), .int 0])), (xo, .inr (6, [.ref al, .int 0, .int 0, .int 0, x4, x5, .ref b1, x7])), (al, .inr (4, [.int mc, .ref (zk 0), .int 0]))] H7 := hP
  replace hD : va_D A [(ou, .inr (7, [.long 0, .null])), (mo, .inr (9, [.int 0, .ref am, .int 0, .int 0, .int 0])), (am, .inr (4, [.int mm, .ref (zk 0), .int 0])), (xo, .inr (6, [.ref al, .int 0, .int 0, .int 0, x4, x5, .ref b1, x7])), (al, .inr (4, [.int mc, .ref (zk 0), .int 0]))] := hD
  refine W.widen (k := 18) (n := 85) (by omega) (by omega) ?_
  refine lv_istore (lv' := [(5, .int 1), (4, .int 0), (3, .ref ou), (2, .ref mo), (1, .ref xo), (0, .ref b)]) hx hb dL_law_415 hl (by decide) rfl (fun ls hl => ?_)
  refine lv_aload_n hx hb dL_law_417 rfl (lv_at hl 3 rfl) ?_
  refine lv_aload_n hx hb dL_law_418 rfl (lv_at hl 5 rfl) ?_
  refine lv_iload hx hb dL_law_419 (lv_at hl 1 rfl) ?_
  refine lv_iconst (v := 1) hx hb dL_law_421 (by decide) ?_
  refine lv_iadd hx hb dL_law_422 ?_
  refine lv_topi (fun v9 ev9 => ?_)
  obtain rfl : v9 = 1 := ev9.trans (by decide)
  refine va_sld hx hb hX hbl hbA hS (by unfold vp_in; decide) dL_law_423 ?_
  refine lv_topi (fun v10 ev10 => ?_)
  have e9 : v10 = p0 := ev10.trans (show xs ((1 : Int32).toNatClampNeg) = p0 from h1)
  clear ev10
  subst v10
  refine lv_aload_n hx hb dL_law_424 rfl (lv_at hl 5 rfl) ?_
  refine lv_iload hx hb dL_law_425 (lv_at hl 1 rfl) ?_
  refine lv_iconst (v := 2) hx hb dL_law_427 (by decide) ?_
  refine lv_iadd hx hb dL_law_428 ?_
  refine lv_topi (fun v11 ev11 => ?_)
  obtain rfl : v11 = 2 := ev11.trans (by decide)
  refine va_sld hx hb hX hbl hbA hS (by unfold vp_in; decide) dL_law_429 ?_
  refine lv_topi (fun v12 ev12 => ?_)
  have e9 : v12 = p1 := ev12.trans (show xs ((2 : Int32).toNatClampNeg) = p1 from h2)
  clear ev12
  subst v12
  refine lv_aload_n hx hb dL_law_430 rfl (lv_at hl 5 rfl) ?_
  refine lv_iload hx hb dL_law_431 (lv_at hl 1 rfl) ?_
  refine lv_iconst (v := 3) hx hb dL_law_433 (by decide) ?_
  refine lv_iadd hx hb dL_law_434 ?_
  refine lv_topi (fun v13 ev13 => ?_)
  obtain rfl : v13 = 3 := ev13.trans (by decide)
  refine va_sld hx hb hX hbl hbA hS (by unfold vp_in; decide) dL_law_435 ?_
  refine lv_topi (fun v14 ev14 => ?_)
  have e9 : v14 = p2 := ev14.trans (show xs ((3 : Int32).toNatClampNeg) = p2 from h3)
  clear ev14
  subst v14
  have hPc := hP.sub (ws' := [(mo, .inr (9, [.int 0, .ref am, .int 0, .int 0, .int 0])), (am, .inr (4, [.int mm, .ref (zk 0), .int 0]))]) [1, 2] rfl
  have hDc := hD.sub (ws' := [(mo, .inr (9, [.int 0, .ref am, .int 0, .int 0, .int 0])), (am, .inr (4, [.int mm, .ref (zk 0), .int 0]))]) [1, 2] (by decide) rfl
  have hFc := va_free (wc := [(mo, .inr (9, [.int 0, .ref am, .int 0, .int 0, .int 0])), (am, .inr (4, [.int mm, .ref (zk 0), .int 0]))]) hD hS hA [1, 2] rfl
  have hDv := hDc.self (sz := H7.size)
  have hpre := zpre (xs' := []) (av := [.ref mo, .int p0, .int p1, .int p2]) hPc hK (hDc.weaken (fun _ _ _ h => h)) hZ hS hFc (fun r hr => by cases hr)
  refine va_calli (va_runV (As := [.int p0, .int p1, .int p2]) (rest := []) ⟨hx, hb, hml, hown, hts⟩ (k_sayM l dC dI cI cB cR cO zk mo am (.int 0) (.int 0) (.int 0) (.int 0) mm p0 p1 p2 H7.size ) (cwV 3 hts gL_law_X4_say rfl rfl rfl (by decide +kernel) ⟨Nat.le_of_ble_eq_true rfl, Nat.le_of_ble_eq_true rfl⟩) ⟨zblind, (zrecv_9 hK hPc (q0 := 0) rfl), hpre⟩ rfl rfl hl.1 rfl (lv_room (Nat.le_of_ble_eq_true rfl)) dL_law_436 ⟨Nat.le_of_ble_eq_true rfl, Nat.le_of_ble_eq_true rfl⟩) hS (fun q _ h => hFc q h) hFc (fun r16 u t H15 locs ht hvm hw hB hz1 hk1 hS => ?_)
  obtain ⟨hP1, hK1, hD1, hz2⟩ := hB
  rw [ht] at hP1 hz2
  have hPD9 := va_join (wr := [(ou, .inr (7, [.long 0, .null])), (xo, .inr (6, [.ref al, .int 0, .int 0, .int 0, x4, x5, .ref b1, x7])), (al, .inr (4, [.int mc, .ref (zk 0), .int 0]))]) (w1 := [(mo, .inr (9, [.int 1, .ref am, .int 0, .int 0, .int 0])), (am, .inr (4, [.int mm, .ref (zk 0), .int 0]))]) hP hD [1, 2] [0, 3, 4] rfl rfl (by decide) (by decide) hk1 hFc hP1 hD1
  clear hPc hDc hFc hDv hpre hP hD hP1 hK1 hD1
  obtain ⟨hP, hD⟩ := hPD9
  replace hz : s.heap.size + 0 ≤ H15.size := by omega
  clear hz2
  replace hP : va_P (dC, dI) vwCl [(ou, .inr (7, [.long 0, .null])), (xo, .inr (6, [.ref al, .int 0, .int 0, .int 0, x4, x5, .ref b1, x7])), (al, .inr (4, [.int mc, .ref (zk 0), .int 0])), (mo, .inr (9, [.int 1, .ref am, .int 0, .int 0, .int 0])), (am, .inr (4, [.int mm, .ref (zk 0), .int 0]))] H15 := hP
  replace hD : va_D A [(ou, .inr (7, [.long 0, .null])), (xo, .inr (6, [.ref al, .int 0, .int 0, .int 0, x4, x5, .ref b1, x7])), (al, .inr (4, [.int mc, .ref (zk 0), .int 0])), (mo, .inr (9, [.int 1, .ref am, .int 0, .int 0, .int 0])), (am, .inr (4, [.int mm, .ref (zk 0), .int 0]))] := hD
  refine W.widen (k := 18) (n := 85) (by omega) (by omega) ?_
  refine lv_istore (lv' := [(6, .int r16), (5, .int 1), (4, .int 0), (3, .ref ou), (2, .ref mo), (1, .ref xo), (0, .ref b)]) hx hb dL_law_439 hl (by decide) rfl (fun ls hl => ?_)
  refine lv_aload_n hx hb dL_law_441 rfl (lv_at hl 4 rfl) ?_
  have hPc := hP.sub (ws' := [(mo, .inr (9, [.int 1, .ref am, .int 0, .int 0, .int 0]))]) [3] rfl
  have hDc := hD.sub (ws' := [(mo, .inr (9, [.int 1, .ref am, .int 0, .int 0, .int 0]))]) [3] (by decide) rfl
  have hFc := va_free (wc := [(mo, .inr (9, [.int 1, .ref am, .int 0, .int 0, .int 0]))]) hD hS hA [3] rfl
  have hDv := hDc.self (sz := H15.size)
  have hpre := zpre (xs' := []) (av := [.ref mo]) hPc hK (hDc.weaken (fun _ _ _ h => h)) hZ hS hFc (fun r hr => by cases hr)
  refine va_calli (va_runV (As := []) (rest := []) ⟨hx, hb, hml, hown, hts⟩ (k_thz l dC dI cI cB cR cO zk mo am (.int 0) (.int 0) (.int 0) H15.size ) (cwV 0 hts gL_law_X4_thrown rfl rfl rfl (by decide +kernel) ⟨Nat.le_of_ble_eq_true rfl, Nat.le_of_ble_eq_true rfl⟩) ⟨zblind, (zrecv_9 hK hPc (q0 := 0) rfl), hpre⟩ rfl rfl hl.1 rfl (lv_room (Nat.le_of_ble_eq_true rfl)) dL_law_442 ⟨Nat.le_of_ble_eq_true rfl, Nat.le_of_ble_eq_true rfl⟩) hS (fun q _ h => hFc q h) hFc (fun r18 u t H17 locs ht hvm hw hB hz1 hk1 hS => ?_)
  obtain rfl : 1 = r18 := (show r18 = 1 from hw).symm
  obtain ⟨hP1, hK1, hD1, hz2⟩ := hB
  rw [ht] at hP1 hz2
  have hPD9 := va_join (wr := [(ou, .inr (7, [.long 0, .null])), (xo, .inr (6, [.ref al, .int 0, .int 0, .int 0, x4, x5, .ref b1, x7])), (al, .inr (4, [.int mc, .ref (zk 0), .int 0])), (am, .inr (4, [.int mm, .ref (zk 0), .int 0]))]) (w1 := [(mo, .inr (9, [.int 1, .ref am, .int 0, .int 0, .int 0]))]) hP hD [3] [0, 1, 2, 4] rfl rfl (by decide) (by decide) hk1 hFc hP1 hD1
  clear hPc hDc hFc hDv hpre hP hD hP1 hK1 hD1
  obtain ⟨hP, hD⟩ := hPD9
  replace hz : s.heap.size + 0 ≤ H17.size := by omega
  clear hz2
  replace hP : va_P (dC, dI) vwCl [(ou, .inr (7, [.long 0, .null])), (xo, .inr (6, [.ref al, .int 0, .int 0, .int 0, x4, x5, .ref b1, x7])), (al, .inr (4, [.int mc, .ref (zk 0), .int 0])), (am, .inr (4, [.int mm, .ref (zk 0), .int 0])), (mo, .inr (9, [.int 1, .ref am, .int 0, .int 0, .int 0]))] H17 := hP
  replace hD : va_D A [(ou, .inr (7, [.long 0, .null])), (xo, .inr (6, [.ref al, .int 0, .int 0, .int 0, x4, x5, .ref b1, x7])), (al, .inr (4, [.int mc, .ref (zk 0), .int 0])), (am, .inr (4, [.int mm, .ref (zk 0), .int 0])), (mo, .inr (9, [.int 1, .ref am, .int 0, .int 0, .int 0]))] := hD
  refine W.widen (k := 18) (n := 85) (by omega) (by omega) ?_
  refine lv_iload hx hb dL_law_445 (lv_at hl 1 rfl) ?_
  refine lv_icmp_eq (tgt := 452) hx hb dL_law_447 (by decide) (fun c9 => ?_) (fun c9 => ?_)
  rotate_left
  · exact absurd (by decide) c9
  refine lv_iload hx hb dL_law_452 (lv_at hl 1 rfl) ?_
  refine lv_if_ne (tgt := 470) hx hb dL_law_454 (by decide) (fun c9 => ?_) (fun c9 => ?_)
  rotate_left
  · exact absurd c9 (by decide)
  refine lv_goto (tgt := 2155) hx hb dL_law_470 (by decide) ?_
  rw [hAd] at hS
  exact zl_tail l dC dI cI cB cR cO zk b xs C1 hZ0 hK hS (Nat.le_of_ble_eq_true rfl) (Nat.le_of_ble_eq_true rfl) ls (lv_sub hl [6, 2] rfl)

set_option maxHeartbeats 4000000 in
set_option maxRecDepth 100000 in
theorem zl_a_none (l : Launch) (dC : Nat → ClassId) (dI : Nat → Nat → Nat) (cI cB cR cO : ClassId) (zk : Nat → Nat) {p : Program} {e : Env} {s : State} {mY : MethodId} {below : List Frame} {meth : Method} {c : Code} (b : Nat) (xs : Nat → Int32) (hfl : l.stackTraces = false) (C0 : zl_At p s mY meth c b 5 xs) (hZ0 : zR zk [] (fun q => s.heap.size ≤ q) s s.heap) (hK : va_K (dC, dI) vwCl (zT cI cB cR cO) s) (ou xo al b1 : Nat) (x4 x5 x7 : Value) (mc : Int32) (mo am : Nat) (mm : Int32)  (p0 p1 : Int32) (h1 : xs 1 = p0) (h2 : xs 2 = p1)  (H : Heap) (locs : List Loc) (hP : va_P (dC, dI) vwCl [(ou, .inr (7, [.long 0, .null])), (xo, .inr (6, [.ref al, .int 0, .int 0, .int 0, x4, x5, .ref b1, x7])), (al, .inr (4, [.int mc, .ref (zk 0), .int 0])), (mo, .inr (9, [.int 0, .ref am, .int 0, .int 0, .int 0])), (am, .inr (4, [.int mm, .ref (zk 0), .int 0]))] H) (hD : va_D (fun q => s.heap.size ≤ q) [(ou, .inr (7, [.long 0, .null])), (xo, .inr (6, [.ref al, .int 0, .int 0, .int 0, x4, x5, .ref b1, x7])), (al, .inr (4, [.int mc, .ref (zk 0), .int 0])), (mo, .inr (9, [.int 0, .ref am, .int 0, .int 0, .int 0])), (am, .inr (4, [.int mm, .ref (zk 0), .int 0]))]) (hS : va_S (fun q => s.heap.size ≤ q) s.heap H locs) (ls : Array Slot) (hl : lv_has ls 7 [(4, .int 0), (3, .ref ou), (2, .ref mo), (1, .ref xo), (0, .ref b)]) : W p l e room_1 s mY #[Value.ref b] below meth c H locs 17 79 (lw_Z below #[Value.ref b] s) (F0 mY 473 ls []) := by
  have C1 := C0
  obtain ⟨hx, hb, hr, hml, hown, hts0, hX, hbl, hlocks, hNI⟩ := C0
  have hts := fun (w : Cond) (h : w ∈ wsL_law) => hts0 w (wsL_law_in w h)
  obtain ⟨A, hAd⟩ : ∃ A : Nat → Prop, A = fun q => s.heap.size ≤ q := ⟨_, rfl⟩
  have hA : ∀ q : Nat, s.heap.size ≤ q → A q := fun q h => by rw [hAd]; exact h
  have hAf : ∀ q : Nat, A q → s.heap.size ≤ q := fun q h => by rw [hAd] at h; exact h
  have hbA : ¬ A b := fun h => absurd (hAf b h) (Nat.not_le.mpr hbl)
  have hZ : zR zk [] A s s.heap := by rw [hAd]; exact hZ0
  rw [← hAd] at hD hS
  replace hP : va_P (dC, dI) vwCl [(ou, .inr (7, [.long 0, .null])), (xo, .inr (6, [.ref al, .int 0, .int 0, .int 0, x4, x5, .ref b1, x7])), (al, .inr (4, [.int mc, .ref (zk 0), .int 0])), (mo, .inr (9, [.int 0, .ref am, .int 0, .int 0, .int 0])), (am, .inr (4, [.int mm, .ref (zk 0), .int 0]))] H := hP
  replace hD : va_D A [(ou, .inr (7, [.long 0, .null])), (xo, .inr (6, [.ref al, .int 0, .int 0, .int 0, x4, x5, .ref b1, x7])), (al, .inr (4, [.int mc, .ref (zk 0), .int 0])), (mo, .inr (9, [.int 0, .ref am, .int 0, .int 0, .int 0])), (am, .inr (4, [.int mm, .ref (zk 0), .int 0]))] := hD
  have hz : s.heap.size + 0 ≤ H.size := hS.1
  refine lv_aload_n hx hb dL_law_473 rfl (lv_at hl 3 rfl) ?_
  refine lv_aload_n hx hb dL_law_474 rfl (lv_at hl 4 rfl) ?_
  refine lv_iload hx hb dL_law_475 (lv_at hl 0 rfl) ?_
  refine lv_iconst (v := 1) hx hb dL_law_477 (by decide) ?_
  refine lv_iadd hx hb dL_law_478 ?_
  refine lv_topi (fun v1 ev1 => ?_)
  obtain rfl : v1 = 1 := ev1.trans (by decide)
  refine va_sld hx hb hX hbl hbA hS (by unfold vp_in; decide) dL_law_479 ?_
  refine lv_topi (fun v2 ev2 => ?_)
  have e9 : v2 = p0 := ev2.trans (show xs ((1 : Int32).toNatClampNeg) = p0 from h1)
  clear ev2
  subst v2
  refine lv_aload_n hx hb dL_law_480 rfl (lv_at hl 4 rfl) ?_
  refine lv_iload hx hb dL_law_481 (lv_at hl 0 rfl) ?_
  refine lv_iconst (v := 2) hx hb dL_law_483 (by decide) ?_
  refine lv_iadd hx hb dL_law_484 ?_
  refine lv_topi (fun v3 ev3 => ?_)
  obtain rfl : v3 = 2 := ev3.trans (by decide)
  refine va_sld hx hb hX hbl hbA hS (by unfold vp_in; decide) dL_law_485 ?_
  refine lv_topi (fun v4 ev4 => ?_)
  have e9 : v4 = p1 := ev4.trans (show xs ((2 : Int32).toNatClampNeg) = p1 from h2)
  clear ev4
  subst v4
  refine lv_aload_n hx hb dL_law_486 rfl (lv_at hl 1 rfl) ?_
  have hPc := hP.sub (ws' := [(xo, .inr (6, [.ref al, .int 0, .int 0, .int 0, x4, x5, .ref b1, x7])), (al, .inr (4, [.int mc, .ref (zk 0), .int 0]))]) [1, 2] rfl
  have hDc := hD.sub (ws' := [(xo, .inr (6, [.ref al, .int 0, .int 0, .int 0, x4, x5, .ref b1, x7])), (al, .inr (4, [.int mc, .ref (zk 0), .int 0]))]) [1, 2] (by decide) rfl
  have hFc := va_free (wc := [(xo, .inr (6, [.ref al, .int 0, .int 0, .int 0, x4, x5, .ref b1, x7])), (al, .inr (4, [.int mc, .ref (zk 0), .int 0]))]) hD hS hA [1, 2] rfl
  have hDv := hDc.self (sz := H.size)
  have hpre := zpre (xs' := []) (av := [.ref xo, .int p0, .int p1, .ref ou]) hPc hK (hDc.weaken (fun _ _ _ h => h)) hZ hS hFc (fun r hr => by cases hr)
  refine va_calli (vx_runSW (As := [.ref xo, .int p0, .int p1, .ref ou]) (rest := []) ⟨hx, hb, hml, hown, hts⟩ (k_noneH l dC dI cI cB cR cO zk hfl xo al b1 (.int 0) (.int 0) (.int 0) x4 x5 x7 mc p0 p1 ou H.size ) (vx_cwSW 4 hts gL_law_L_none rfl rfl rfl (by decide +kernel) ⟨Nat.le_of_ble_eq_true rfl, Nat.le_of_ble_eq_true rfl⟩) ⟨zblind, hpre⟩ rfl rfl hl.1 rfl (lv_room (Nat.le_of_ble_eq_true rfl)) dL_law_487 ⟨Nat.le_of_ble_eq_true rfl, Nat.le_of_ble_eq_true rfl⟩) hS (fun q _ h => hFc q h) hFc (fun r6 u t H5 locs ht hvm hw hB hz1 hk1 hS => ?_)
  obtain rfl : 1 = r6 := (show r6 = 1 from hw).symm
  obtain ⟨hP1, hK1, hD1, hz2⟩ := hB
  rw [ht] at hP1 hz2
  have hPD9 := va_join (wr := [(ou, .inr (7, [.long 0, .null])), (mo, .inr (9, [.int 0, .ref am, .int 0, .int 0, .int 0])), (am, .inr (4, [.int mm, .ref (zk 0), .int 0]))]) (w1 := [(xo, .inr (6, [.ref al, .int 0, .int 0, .int 0, x4, x5, .ref b1, x7])), (al, .inr (4, [.int mc, .ref (zk 0), .int 0]))]) hP hD [1, 2] [0, 3, 4] rfl rfl (by decide) (by decide) hk1 hFc hP1 hD1
  clear hPc hDc hFc hDv hpre hP hD hP1 hK1 hD1
  obtain ⟨hP, hD⟩ := hPD9
  replace hz : s.heap.size + 0 ≤ H5.size := by omega
  clear hz2
  replace hP : va_P (dC, dI) vwCl [(ou, .inr (7, [.long 0, .null])), (mo, .inr (9, [.int 0, .ref am, .int 0, .int 0, .int 0])), (am, .inr (4, [.int mm, .ref (zk 0), .int 0])), (xo, .inr (6, [.ref al, .int 0, .int 0, .int 0, x4, x5, .ref b1, x7])), (al, .inr (4, [.int mc, .ref (zk 0), .int 0]))] H5 := hP
  replace hD : va_D A [(ou, .inr (7, [.long 0, .null])), (mo, .inr (9, [.int 0, .ref am, .int 0, .int 0, .int 0])), (am, .inr (4, [.int mm, .ref (zk 0), .int 0])), (xo, .inr (6, [.ref al, .int 0, .int 0, .int 0, x4, x5, .ref b1, x7])), (al, .inr (4, [.int mc, .ref (zk 0), .int 0]))] := hD
  refine W.widen (k := 18) (n := 85) (by omega) (by omega) ?_
  refine lv_istore (lv' := [(5, .int 1), (4, .int 0), (3, .ref ou), (2, .ref mo), (1, .ref xo), (0, .ref b)]) hx hb dL_law_490 hl (by decide) rfl (fun ls hl => ?_)
  refine lv_aload_n hx hb dL_law_492 rfl (lv_at hl 3 rfl) ?_
  refine lv_aload_n hx hb dL_law_493 rfl (lv_at hl 5 rfl) ?_
  refine lv_iload hx hb dL_law_494 (lv_at hl 1 rfl) ?_
  refine lv_iconst (v := 1) hx hb dL_law_496 (by decide) ?_
  refine lv_iadd hx hb dL_law_497 ?_
  refine lv_topi (fun v7 ev7 => ?_)
  obtain rfl : v7 = 1 := ev7.trans (by decide)
  refine va_sld hx hb hX hbl hbA hS (by unfold vp_in; decide) dL_law_498 ?_
  refine lv_topi (fun v8 ev8 => ?_)
  have e9 : v8 = p0 := ev8.trans (show xs ((1 : Int32).toNatClampNeg) = p0 from h1)
  clear ev8
  subst v8
  refine lv_aload_n hx hb dL_law_499 rfl (lv_at hl 5 rfl) ?_
  refine lv_iload hx hb dL_law_500 (lv_at hl 1 rfl) ?_
  refine lv_iconst (v := 2) hx hb dL_law_502 (by decide) ?_
  refine lv_iadd hx hb dL_law_503 ?_
  refine lv_topi (fun v9 ev9 => ?_)
  obtain rfl : v9 = 2 := ev9.trans (by decide)
  refine va_sld hx hb hX hbl hbA hS (by unfold vp_in; decide) dL_law_504 ?_
  refine lv_topi (fun v10 ev10 => ?_)
  have e9 : v10 = p1 := ev10.trans (show xs ((2 : Int32).toNatClampNeg) = p1 from h2)
  clear ev10
  subst v10
  have hPc := hP.sub (ws' := [(mo, .inr (9, [.int 0, .ref am, .int 0, .int 0, .int 0])), (am, .inr (4, [.int mm, .ref (zk 0), .int 0]))]) [1, 2] rfl
  have hDc := hD.sub (ws' := [(mo, .inr (9, [.int 0, .ref am, .int 0, .int 0, .int 0])), (am, .inr (4, [.int mm, .ref (zk 0), .int 0]))]) [1, 2] (by decide) rfl
  have hFc := va_free (wc := [(mo, .inr (9, [.int 0, .ref am, .int 0, .int 0, .int 0])), (am, .inr (4, [.int mm, .ref (zk 0), .int 0]))]) hD hS hA [1, 2] rfl
  have hDv := hDc.self (sz := H5.size)
  have hpre := zpre (xs' := []) (av := [.ref mo, .int p0, .int p1]) hPc hK (hDc.weaken (fun _ _ _ h => h)) hZ hS hFc (fun r hr => by cases hr)
  refine va_calli (va_runV (As := [.int p0, .int p1]) (rest := []) ⟨hx, hb, hml, hown, hts⟩ (k_noneM l dC dI cI cB cR cO zk mo am (.int 0) (.int 0) (.int 0) (.int 0) mm p0 p1 H5.size ) (cwV 2 hts gL_law_X4_none rfl rfl rfl (by decide +kernel) ⟨Nat.le_of_ble_eq_true rfl, Nat.le_of_ble_eq_true rfl⟩) ⟨zblind, (zrecv_9 hK hPc (q0 := 0) rfl), hpre⟩ rfl rfl hl.1 rfl (lv_room (Nat.le_of_ble_eq_true rfl)) dL_law_505 ⟨Nat.le_of_ble_eq_true rfl, Nat.le_of_ble_eq_true rfl⟩) hS (fun q _ h => hFc q h) hFc (fun r12 u t H11 locs ht hvm hw hB hz1 hk1 hS => ?_)
  obtain ⟨hP1, hK1, hD1, hz2⟩ := hB
  rw [ht] at hP1 hz2
  have hPD9 := va_join (wr := [(ou, .inr (7, [.long 0, .null])), (xo, .inr (6, [.ref al, .int 0, .int 0, .int 0, x4, x5, .ref b1, x7])), (al, .inr (4, [.int mc, .ref (zk 0), .int 0]))]) (w1 := [(mo, .inr (9, [.int 1, .ref am, .int 0, .int 0, .int 0])), (am, .inr (4, [.int mm, .ref (zk 0), .int 0]))]) hP hD [1, 2] [0, 3, 4] rfl rfl (by decide) (by decide) hk1 hFc hP1 hD1
  clear hPc hDc hFc hDv hpre hP hD hP1 hK1 hD1
  obtain ⟨hP, hD⟩ := hPD9
  replace hz : s.heap.size + 0 ≤ H11.size := by omega
  clear hz2
  replace hP : va_P (dC, dI) vwCl [(ou, .inr (7, [.long 0, .null])), (xo, .inr (6, [.ref al, .int 0, .int 0, .int 0, x4, x5, .ref b1, x7])), (al, .inr (4, [.int mc, .ref (zk 0), .int 0])), (mo, .inr (9, [.int 1, .ref am, .int 0, .int 0, .int 0])), (am, .inr (4, [.int mm, .ref (zk 0), .int 0]))] H11 := hP
  replace hD : va_D A [(ou, .inr (7, [.long 0, .null])), (xo, .inr (6, [.ref al, .int 0, .int 0, .int 0, x4, x5, .ref b1, x7])), (al, .inr (4, [.int mc, .ref (zk 0), .int 0])), (mo, .inr (9, [.int 1, .ref am, .int 0, .int 0, .int 0])), (am, .inr (4, [.int mm, .ref (zk 0), .int 0]))] := hD
  refine W.widen (k := 18) (n := 85) (by omega) (by omega) ?_
  refine lv_istore (lv' := [(6, .int r12), (5, .int 1), (4, .int 0), (3, .ref ou), (2, .ref mo), (1, .ref xo), (0, .ref b)]) hx hb dL_law_508 hl (by decide) rfl (fun ls hl => ?_)
  refine lv_aload_n hx hb dL_law_510 rfl (lv_at hl 4 rfl) ?_
  have hPc := hP.sub (ws' := [(mo, .inr (9, [.int 1, .ref am, .int 0, .int 0, .int 0]))]) [3] rfl
  have hDc := hD.sub (ws' := [(mo, .inr (9, [.int 1, .ref am, .int 0, .int 0, .int 0]))]) [3] (by decide) rfl
  have hFc := va_free (wc := [(mo, .inr (9, [.int 1, .ref am, .int 0, .int 0, .int 0]))]) hD hS hA [3] rfl
  have hDv := hDc.self (sz := H11.size)
  have hpre := zpre (xs' := []) (av := [.ref mo]) hPc hK (hDc.weaken (fun _ _ _ h => h)) hZ hS hFc (fun r hr => by cases hr)
  refine va_calli (va_runV (As := []) (rest := []) ⟨hx, hb, hml, hown, hts⟩ (k_thz l dC dI cI cB cR cO zk mo am (.int 0) (.int 0) (.int 0) H11.size ) (cwV 0 hts gL_law_X4_thrown rfl rfl rfl (by decide +kernel) ⟨Nat.le_of_ble_eq_true rfl, Nat.le_of_ble_eq_true rfl⟩) ⟨zblind, (zrecv_9 hK hPc (q0 := 0) rfl), hpre⟩ rfl rfl hl.1 rfl (lv_room (Nat.le_of_ble_eq_true rfl)) dL_law_511 ⟨Nat.le_of_ble_eq_true rfl, Nat.le_of_ble_eq_true rfl⟩) hS (fun q _ h => hFc q h) hFc (fun r14 u t H13 locs ht hvm hw hB hz1 hk1 hS => ?_)
  obtain rfl : 1 = r14 := (show r14 = 1 from hw).symm
  obtain ⟨hP1, hK1, hD1, hz2⟩ := hB
  rw [ht] at hP1 hz2
  have hPD9 := va_join (wr := [(ou, .inr (7, [.long 0, .null])), (xo, .inr (6, [.ref al, .int 0, .int 0, .int 0, x4, x5, .ref b1, x7])), (al, .inr (4, [.int mc, .ref (zk 0), .int 0])), (am, .inr (4, [.int mm, .ref (zk 0), .int 0]))]) (w1 := [(mo, .inr (9, [.int 1, .ref am, .int 0, .int 0, .int 0]))]) hP hD [3] [0, 1, 2, 4] rfl rfl (by decide) (by decide) hk1 hFc hP1 hD1
  clear hPc hDc hFc hDv hpre hP hD hP1 hK1 hD1
  obtain ⟨hP, hD⟩ := hPD9
  replace hz : s.heap.size + 0 ≤ H13.size := by omega
  clear hz2
  replace hP : va_P (dC, dI) vwCl [(ou, .inr (7, [.long 0, .null])), (xo, .inr (6, [.ref al, .int 0, .int 0, .int 0, x4, x5, .ref b1, x7])), (al, .inr (4, [.int mc, .ref (zk 0), .int 0])), (am, .inr (4, [.int mm, .ref (zk 0), .int 0])), (mo, .inr (9, [.int 1, .ref am, .int 0, .int 0, .int 0]))] H13 := hP
  replace hD : va_D A [(ou, .inr (7, [.long 0, .null])), (xo, .inr (6, [.ref al, .int 0, .int 0, .int 0, x4, x5, .ref b1, x7])), (al, .inr (4, [.int mc, .ref (zk 0), .int 0])), (am, .inr (4, [.int mm, .ref (zk 0), .int 0])), (mo, .inr (9, [.int 1, .ref am, .int 0, .int 0, .int 0]))] := hD
  refine W.widen (k := 18) (n := 85) (by omega) (by omega) ?_
  refine lv_iload hx hb dL_law_514 (lv_at hl 1 rfl) ?_
  refine lv_icmp_eq (tgt := 521) hx hb dL_law_516 (by decide) (fun c9 => ?_) (fun c9 => ?_)
  rotate_left
  · exact absurd (by decide) c9
  refine lv_iload hx hb dL_law_521 (lv_at hl 1 rfl) ?_
  refine lv_if_ne (tgt := 539) hx hb dL_law_523 (by decide) (fun c9 => ?_) (fun c9 => ?_)
  rotate_left
  · exact absurd c9 (by decide)
  refine lv_goto (tgt := 2155) hx hb dL_law_539 (by decide) ?_
  rw [hAd] at hS
  exact zl_tail l dC dI cI cB cR cO zk b xs C1 hZ0 hK hS (Nat.le_of_ble_eq_true rfl) (Nat.le_of_ble_eq_true rfl) ls (lv_sub hl [6, 2] rfl)

set_option maxHeartbeats 4000000 in
set_option maxRecDepth 100000 in
theorem zl_a_hang (l : Launch) (dC : Nat → ClassId) (dI : Nat → Nat → Nat) (cI cB cR cO : ClassId) (zk : Nat → Nat) {p : Program} {e : Env} {s : State} {mY : MethodId} {below : List Frame} {meth : Method} {c : Code} (b : Nat) (xs : Nat → Int32) (hfl : l.stackTraces = false) (C0 : zl_At p s mY meth c b 5 xs) (hZ0 : zR zk [] (fun q => s.heap.size ≤ q) s s.heap) (hK : va_K (dC, dI) vwCl (zT cI cB cR cO) s) (ou xo al b1 : Nat) (x4 x5 x7 : Value) (mc : Int32) (mo am : Nat) (mm : Int32)  (p0 p1 p2 : Int32) (h1 : xs 1 = p0) (h2 : xs 2 = p1) (h3 : xs 3 = p2)  (H : Heap) (locs : List Loc) (hP : va_P (dC, dI) vwCl [(ou, .inr (7, [.long 0, .null])), (xo, .inr (6, [.ref al, .int 0, .int 0, .int 0, x4, x5, .ref b1, x7])), (al, .inr (4, [.int mc, .ref (zk 0), .int 0])), (mo, .inr (9, [.int 0, .ref am, .int 0, .int 0, .int 0])), (am, .inr (4, [.int mm, .ref (zk 0), .int 0]))] H) (hD : va_D (fun q => s.heap.size ≤ q) [(ou, .inr (7, [.long 0, .null])), (xo, .inr (6, [.ref al, .int 0, .int 0, .int 0, x4, x5, .ref b1, x7])), (al, .inr (4, [.int mc, .ref (zk 0), .int 0])), (mo, .inr (9, [.int 0, .ref am, .int 0, .int 0, .int 0])), (am, .inr (4, [.int mm, .ref (zk 0), .int 0]))]) (hS : va_S (fun q => s.heap.size ≤ q) s.heap H locs) (ls : Array Slot) (hl : lv_has ls 7 [(4, .int 0), (3, .ref ou), (2, .ref mo), (1, .ref xo), (0, .ref b)]) : W p l e room_1 s mY #[Value.ref b] below meth c H locs 17 79 (lw_Z below #[Value.ref b] s) (F0 mY 542 ls []) := by
  have C1 := C0
  obtain ⟨hx, hb, hr, hml, hown, hts0, hX, hbl, hlocks, hNI⟩ := C0
  have hts := fun (w : Cond) (h : w ∈ wsL_law) => hts0 w (wsL_law_in w h)
  obtain ⟨A, hAd⟩ : ∃ A : Nat → Prop, A = fun q => s.heap.size ≤ q := ⟨_, rfl⟩
  have hA : ∀ q : Nat, s.heap.size ≤ q → A q := fun q h => by rw [hAd]; exact h
  have hAf : ∀ q : Nat, A q → s.heap.size ≤ q := fun q h => by rw [hAd] at h; exact h
  have hbA : ¬ A b := fun h => absurd (hAf b h) (Nat.not_le.mpr hbl)
  have hZ : zR zk [] A s s.heap := by rw [hAd]; exact hZ0
  rw [← hAd] at hD hS
  replace hP : va_P (dC, dI) vwCl [(ou, .inr (7, [.long 0, .null])), (xo, .inr (6, [.ref al, .int 0, .int 0, .int 0, x4, x5, .ref b1, x7])), (al, .inr (4, [.int mc, .ref (zk 0), .int 0])), (mo, .inr (9, [.int 0, .ref am, .int 0, .int 0, .int 0])), (am, .inr (4, [.int mm, .ref (zk 0), .int 0]))] H := hP
  replace hD : va_D A [(ou, .inr (7, [.long 0, .null])), (xo, .inr (6, [.ref al, .int 0, .int 0, .int 0, x4, x5, .ref b1, x7])), (al, .inr (4, [.int mc, .ref (zk 0), .int 0])), (mo, .inr (9, [.int 0, .ref am, .int 0, .int 0, .int 0])), (am, .inr (4, [.int mm, .ref (zk 0), .int 0]))] := hD
  have hz : s.heap.size + 0 ≤ H.size := hS.1
  refine lv_aload_n hx hb dL_law_542 rfl (lv_at hl 3 rfl) ?_
  refine lv_aload_n hx hb dL_law_543 rfl (lv_at hl 4 rfl) ?_
  refine lv_iload hx hb dL_law_544 (lv_at hl 0 rfl) ?_
  refine lv_iconst (v := 1) hx hb dL_law_546 (by decide) ?_
  refine lv_iadd hx hb dL_law_547 ?_
  refine lv_topi (fun v1 ev1 => ?_)
  obtain rfl : v1 = 1 := ev1.trans (by decide)
  refine va_sld hx hb hX hbl hbA hS (by unfold vp_in; decide) dL_law_548 ?_
  refine lv_topi (fun v2 ev2 => ?_)
  have e9 : v2 = p0 := ev2.trans (show xs ((1 : Int32).toNatClampNeg) = p0 from h1)
  clear ev2
  subst v2
  refine lv_aload_n hx hb dL_law_549 rfl (lv_at hl 4 rfl) ?_
  refine lv_iload hx hb dL_law_550 (lv_at hl 0 rfl) ?_
  refine lv_iconst (v := 2) hx hb dL_law_552 (by decide) ?_
  refine lv_iadd hx hb dL_law_553 ?_
  refine lv_topi (fun v3 ev3 => ?_)
  obtain rfl : v3 = 2 := ev3.trans (by decide)
  refine va_sld hx hb hX hbl hbA hS (by unfold vp_in; decide) dL_law_554 ?_
  refine lv_topi (fun v4 ev4 => ?_)
  have e9 : v4 = p1 := ev4.trans (show xs ((2 : Int32).toNatClampNeg) = p1 from h2)
  clear ev4
  subst v4
  refine lv_aload_n hx hb dL_law_555 rfl (lv_at hl 4 rfl) ?_
  refine lv_iload hx hb dL_law_556 (lv_at hl 0 rfl) ?_
  refine lv_iconst (v := 3) hx hb dL_law_558 (by decide) ?_
  refine lv_iadd hx hb dL_law_559 ?_
  refine lv_topi (fun v5 ev5 => ?_)
  obtain rfl : v5 = 3 := ev5.trans (by decide)
  refine va_sld hx hb hX hbl hbA hS (by unfold vp_in; decide) dL_law_560 ?_
  refine lv_topi (fun v6 ev6 => ?_)
  have e9 : v6 = p2 := ev6.trans (show xs ((3 : Int32).toNatClampNeg) = p2 from h3)
  clear ev6
  subst v6
  refine lv_aload_n hx hb dL_law_561 rfl (lv_at hl 1 rfl) ?_
  have hPc := hP.sub (ws' := [(xo, .inr (6, [.ref al, .int 0, .int 0, .int 0, x4, x5, .ref b1, x7])), (al, .inr (4, [.int mc, .ref (zk 0), .int 0]))]) [1, 2] rfl
  have hDc := hD.sub (ws' := [(xo, .inr (6, [.ref al, .int 0, .int 0, .int 0, x4, x5, .ref b1, x7])), (al, .inr (4, [.int mc, .ref (zk 0), .int 0]))]) [1, 2] (by decide) rfl
  have hFc := va_free (wc := [(xo, .inr (6, [.ref al, .int 0, .int 0, .int 0, x4, x5, .ref b1, x7])), (al, .inr (4, [.int mc, .ref (zk 0), .int 0]))]) hD hS hA [1, 2] rfl
  have hDv := hDc.self (sz := H.size)
  have hpre := zpre (xs' := []) (av := [.ref xo, .int p0, .int p1, .int p2, .ref ou]) hPc hK (hDc.weaken (fun _ _ _ h => h)) hZ hS hFc (fun r hr => by cases hr)
  refine va_calli (vx_runSW (As := [.ref xo, .int p0, .int p1, .int p2, .ref ou]) (rest := []) ⟨hx, hb, hml, hown, hts⟩ (k_hangH l dC dI cI cB cR cO zk hfl xo al b1 (.int 0) (.int 0) (.int 0) x4 x5 x7 mc p0 p1 p2 ou H.size ) (vx_cwSW 5 hts gL_law_L_hang rfl rfl rfl (by decide +kernel) ⟨Nat.le_of_ble_eq_true rfl, Nat.le_of_ble_eq_true rfl⟩) ⟨zblind, hpre⟩ rfl rfl hl.1 rfl (lv_room (Nat.le_of_ble_eq_true rfl)) dL_law_562 ⟨Nat.le_of_ble_eq_true rfl, Nat.le_of_ble_eq_true rfl⟩) hS (fun q _ h => hFc q h) hFc (fun r8 u t H7 locs ht hvm hw hB hz1 hk1 hS => ?_)
  obtain rfl : 1 = r8 := (show r8 = 1 from hw).symm
  obtain ⟨hP1, hK1, hD1, hz2⟩ := hB
  rw [ht] at hP1 hz2
  have hPD9 := va_join (wr := [(ou, .inr (7, [.long 0, .null])), (mo, .inr (9, [.int 0, .ref am, .int 0, .int 0, .int 0])), (am, .inr (4, [.int mm, .ref (zk 0), .int 0]))]) (w1 := [(xo, .inr (6, [.ref al, .int 0, .int 0, .int 0, x4, x5, .ref b1, x7])), (al, .inr (4, [.int mc, .ref (zk 0), .int 0]))]) hP hD [1, 2] [0, 3, 4] rfl rfl (by decide) (by decide) hk1 hFc hP1 hD1
  clear hPc hDc hFc hDv hpre hP hD hP1 hK1 hD1
  obtain ⟨hP, hD⟩ := hPD9
  replace hz : s.heap.size + 0 ≤ H7.size := by omega
  clear hz2
  replace hP : va_P (dC, dI) vwCl [(ou, .inr (7, [.long 0, .null])), (mo, .inr (9, [.int 0, .ref am, .int 0, .int 0, .int 0])), (am, .inr (4, [.int mm, .ref (zk 0), .int 0])), (xo, .inr (6, [.ref al, .int 0, .int 0, .int 0, x4, x5, .ref b1, x7])), (al, .inr (4, [.int mc, .ref (zk 0), .int 0]))] H7 := hP
  replace hD : va_D A [(ou, .inr (7, [.long 0, .null])), (mo, .inr (9, [.int 0, .ref am, .int 0, .int 0, .int 0])), (am, .inr (4, [.int mm, .ref (zk 0), .int 0])), (xo, .inr (6, [.ref al, .int 0, .int 0, .int 0, x4, x5, .ref b1, x7])), (al, .inr (4, [.int mc, .ref (zk 0), .int 0]))] := hD
  refine W.widen (k := 18) (n := 85) (by omega) (by omega) ?_
  refine lv_istore (lv' := [(5, .int 1), (4, .int 0), (3, .ref ou), (2, .ref mo), (1, .ref xo), (0, .ref b)]) hx hb dL_law_565 hl (by decide) rfl (fun ls hl => ?_)
  refine lv_aload_n hx hb dL_law_567 rfl (lv_at hl 3 rfl) ?_
  refine lv_aload_n hx hb dL_law_568 rfl (lv_at hl 5 rfl) ?_
  refine lv_iload hx hb dL_law_569 (lv_at hl 1 rfl) ?_
  refine lv_iconst (v := 1) hx hb dL_law_571 (by decide) ?_
  refine lv_iadd hx hb dL_law_572 ?_
  refine lv_topi (fun v9 ev9 => ?_)
  obtain rfl : v9 = 1 := ev9.trans (by decide)
  refine va_sld hx hb hX hbl hbA hS (by unfold vp_in; decide) dL_law_573 ?_
  refine lv_topi (fun v10 ev10 => ?_)
  have e9 : v10 = p0 := ev10.trans (show xs ((1 : Int32).toNatClampNeg) = p0 from h1)
  clear ev10
  subst v10
  refine lv_aload_n hx hb dL_law_574 rfl (lv_at hl 5 rfl) ?_
  refine lv_iload hx hb dL_law_575 (lv_at hl 1 rfl) ?_
  refine lv_iconst (v := 2) hx hb dL_law_577 (by decide) ?_
  refine lv_iadd hx hb dL_law_578 ?_
  refine lv_topi (fun v11 ev11 => ?_)
  obtain rfl : v11 = 2 := ev11.trans (by decide)
  refine va_sld hx hb hX hbl hbA hS (by unfold vp_in; decide) dL_law_579 ?_
  refine lv_topi (fun v12 ev12 => ?_)
  have e9 : v12 = p1 := ev12.trans (show xs ((2 : Int32).toNatClampNeg) = p1 from h2)
  clear ev12
  subst v12
  refine lv_aload_n hx hb dL_law_580 rfl (lv_at hl 5 rfl) ?_
  refine lv_iload hx hb dL_law_581 (lv_at hl 1 rfl) ?_
  refine lv_iconst (v := 3) hx hb dL_law_583 (by decide) ?_
  refine lv_iadd hx hb dL_law_584 ?_
  refine lv_topi (fun v13 ev13 => ?_)
  obtain rfl : v13 = 3 := ev13.trans (by decide)
  refine va_sld hx hb hX hbl hbA hS (by unfold vp_in; decide) dL_law_585 ?_
  refine lv_topi (fun v14 ev14 => ?_)
  have e9 : v14 = p2 := ev14.trans (show xs ((3 : Int32).toNatClampNeg) = p2 from h3)
  clear ev14
  subst v14
  have hPc := hP.sub (ws' := [(mo, .inr (9, [.int 0, .ref am, .int 0, .int 0, .int 0])), (am, .inr (4, [.int mm, .ref (zk 0), .int 0]))]) [1, 2] rfl
  have hDc := hD.sub (ws' := [(mo, .inr (9, [.int 0, .ref am, .int 0, .int 0, .int 0])), (am, .inr (4, [.int mm, .ref (zk 0), .int 0]))]) [1, 2] (by decide) rfl
  have hFc := va_free (wc := [(mo, .inr (9, [.int 0, .ref am, .int 0, .int 0, .int 0])), (am, .inr (4, [.int mm, .ref (zk 0), .int 0]))]) hD hS hA [1, 2] rfl
  have hDv := hDc.self (sz := H7.size)
  have hpre := zpre (xs' := []) (av := [.ref mo, .int p0, .int p1, .int p2]) hPc hK (hDc.weaken (fun _ _ _ h => h)) hZ hS hFc (fun r hr => by cases hr)
  refine va_calli (va_runV (As := [.int p0, .int p1, .int p2]) (rest := []) ⟨hx, hb, hml, hown, hts⟩ (k_hangM l dC dI cI cB cR cO zk mo am (.int 0) (.int 0) (.int 0) (.int 0) mm p0 p1 p2 H7.size ) (cwV 3 hts gL_law_X4_hang rfl rfl rfl (by decide +kernel) ⟨Nat.le_of_ble_eq_true rfl, Nat.le_of_ble_eq_true rfl⟩) ⟨zblind, (zrecv_9 hK hPc (q0 := 0) rfl), hpre⟩ rfl rfl hl.1 rfl (lv_room (Nat.le_of_ble_eq_true rfl)) dL_law_586 ⟨Nat.le_of_ble_eq_true rfl, Nat.le_of_ble_eq_true rfl⟩) hS (fun q _ h => hFc q h) hFc (fun r16 u t H15 locs ht hvm hw hB hz1 hk1 hS => ?_)
  obtain ⟨hP1, hK1, hD1, hz2⟩ := hB
  rw [ht] at hP1 hz2
  have hPD9 := va_join (wr := [(ou, .inr (7, [.long 0, .null])), (xo, .inr (6, [.ref al, .int 0, .int 0, .int 0, x4, x5, .ref b1, x7])), (al, .inr (4, [.int mc, .ref (zk 0), .int 0]))]) (w1 := [(mo, .inr (9, [.int 1, .ref am, .int 0, .int 0, .int 0])), (am, .inr (4, [.int mm, .ref (zk 0), .int 0]))]) hP hD [1, 2] [0, 3, 4] rfl rfl (by decide) (by decide) hk1 hFc hP1 hD1
  clear hPc hDc hFc hDv hpre hP hD hP1 hK1 hD1
  obtain ⟨hP, hD⟩ := hPD9
  replace hz : s.heap.size + 0 ≤ H15.size := by omega
  clear hz2
  replace hP : va_P (dC, dI) vwCl [(ou, .inr (7, [.long 0, .null])), (xo, .inr (6, [.ref al, .int 0, .int 0, .int 0, x4, x5, .ref b1, x7])), (al, .inr (4, [.int mc, .ref (zk 0), .int 0])), (mo, .inr (9, [.int 1, .ref am, .int 0, .int 0, .int 0])), (am, .inr (4, [.int mm, .ref (zk 0), .int 0]))] H15 := hP
  replace hD : va_D A [(ou, .inr (7, [.long 0, .null])), (xo, .inr (6, [.ref al, .int 0, .int 0, .int 0, x4, x5, .ref b1, x7])), (al, .inr (4, [.int mc, .ref (zk 0), .int 0])), (mo, .inr (9, [.int 1, .ref am, .int 0, .int 0, .int 0])), (am, .inr (4, [.int mm, .ref (zk 0), .int 0]))] := hD
  refine W.widen (k := 18) (n := 85) (by omega) (by omega) ?_
  refine lv_istore (lv' := [(6, .int r16), (5, .int 1), (4, .int 0), (3, .ref ou), (2, .ref mo), (1, .ref xo), (0, .ref b)]) hx hb dL_law_589 hl (by decide) rfl (fun ls hl => ?_)
  refine lv_aload_n hx hb dL_law_591 rfl (lv_at hl 4 rfl) ?_
  have hPc := hP.sub (ws' := [(mo, .inr (9, [.int 1, .ref am, .int 0, .int 0, .int 0]))]) [3] rfl
  have hDc := hD.sub (ws' := [(mo, .inr (9, [.int 1, .ref am, .int 0, .int 0, .int 0]))]) [3] (by decide) rfl
  have hFc := va_free (wc := [(mo, .inr (9, [.int 1, .ref am, .int 0, .int 0, .int 0]))]) hD hS hA [3] rfl
  have hDv := hDc.self (sz := H15.size)
  have hpre := zpre (xs' := []) (av := [.ref mo]) hPc hK (hDc.weaken (fun _ _ _ h => h)) hZ hS hFc (fun r hr => by cases hr)
  refine va_calli (va_runV (As := []) (rest := []) ⟨hx, hb, hml, hown, hts⟩ (k_thz l dC dI cI cB cR cO zk mo am (.int 0) (.int 0) (.int 0) H15.size ) (cwV 0 hts gL_law_X4_thrown rfl rfl rfl (by decide +kernel) ⟨Nat.le_of_ble_eq_true rfl, Nat.le_of_ble_eq_true rfl⟩) ⟨zblind, (zrecv_9 hK hPc (q0 := 0) rfl), hpre⟩ rfl rfl hl.1 rfl (lv_room (Nat.le_of_ble_eq_true rfl)) dL_law_592 ⟨Nat.le_of_ble_eq_true rfl, Nat.le_of_ble_eq_true rfl⟩) hS (fun q _ h => hFc q h) hFc (fun r18 u t H17 locs ht hvm hw hB hz1 hk1 hS => ?_)
  obtain rfl : 1 = r18 := (show r18 = 1 from hw).symm
  obtain ⟨hP1, hK1, hD1, hz2⟩ := hB
  rw [ht] at hP1 hz2
  have hPD9 := va_join (wr := [(ou, .inr (7, [.long 0, .null])), (xo, .inr (6, [.ref al, .int 0, .int 0, .int 0, x4, x5, .ref b1, x7])), (al, .inr (4, [.int mc, .ref (zk 0), .int 0])), (am, .inr (4, [.int mm, .ref (zk 0), .int 0]))]) (w1 := [(mo, .inr (9, [.int 1, .ref am, .int 0, .int 0, .int 0]))]) hP hD [3] [0, 1, 2, 4] rfl rfl (by decide) (by decide) hk1 hFc hP1 hD1
  clear hPc hDc hFc hDv hpre hP hD hP1 hK1 hD1
  obtain ⟨hP, hD⟩ := hPD9
  replace hz : s.heap.size + 0 ≤ H17.size := by omega
  clear hz2
  replace hP : va_P (dC, dI) vwCl [(ou, .inr (7, [.long 0, .null])), (xo, .inr (6, [.ref al, .int 0, .int 0, .int 0, x4, x5, .ref b1, x7])), (al, .inr (4, [.int mc, .ref (zk 0), .int 0])), (am, .inr (4, [.int mm, .ref (zk 0), .int 0])), (mo, .inr (9, [.int 1, .ref am, .int 0, .int 0, .int 0]))] H17 := hP
  replace hD : va_D A [(ou, .inr (7, [.long 0, .null])), (xo, .inr (6, [.ref al, .int 0, .int 0, .int 0, x4, x5, .ref b1, x7])), (al, .inr (4, [.int mc, .ref (zk 0), .int 0])), (am, .inr (4, [.int mm, .ref (zk 0), .int 0])), (mo, .inr (9, [.int 1, .ref am, .int 0, .int 0, .int 0]))] := hD
  refine W.widen (k := 18) (n := 85) (by omega) (by omega) ?_
  refine lv_iload hx hb dL_law_595 (lv_at hl 1 rfl) ?_
  refine lv_icmp_eq (tgt := 602) hx hb dL_law_597 (by decide) (fun c9 => ?_) (fun c9 => ?_)
  rotate_left
  · exact absurd (by decide) c9
  refine lv_iload hx hb dL_law_602 (lv_at hl 1 rfl) ?_
  refine lv_if_ne (tgt := 620) hx hb dL_law_604 (by decide) (fun c9 => ?_) (fun c9 => ?_)
  rotate_left
  · exact absurd c9 (by decide)
  refine lv_goto (tgt := 2155) hx hb dL_law_620 (by decide) ?_
  rw [hAd] at hS
  exact zl_tail l dC dI cI cB cR cO zk b xs C1 hZ0 hK hS (Nat.le_of_ble_eq_true rfl) (Nat.le_of_ble_eq_true rfl) ls (lv_sub hl [6, 2] rfl)

set_option maxHeartbeats 4000000 in
set_option maxRecDepth 100000 in
theorem zl_a_swap (l : Launch) (dC : Nat → ClassId) (dI : Nat → Nat → Nat) (cI cB cR cO : ClassId) (zk : Nat → Nat) {p : Program} {e : Env} {s : State} {mY : MethodId} {below : List Frame} {meth : Method} {c : Code} (b : Nat) (xs : Nat → Int32) (hfl : l.stackTraces = false) (C0 : zl_At p s mY meth c b 5 xs) (hZ0 : zR zk [] (fun q => s.heap.size ≤ q) s s.heap) (hK : va_K (dC, dI) vwCl (zT cI cB cR cO) s) (ou xo al b1 : Nat) (x4 x5 x7 : Value) (mc : Int32) (mo am : Nat) (mm : Int32)  (p0 p1 p2 : Int32) (h1 : xs 1 = p0) (h2 : xs 2 = p1) (h3 : xs 3 = p2)  (H : Heap) (locs : List Loc) (hP : va_P (dC, dI) vwCl [(ou, .inr (7, [.long 0, .null])), (xo, .inr (6, [.ref al, .int 0, .int 0, .int 0, x4, x5, .ref b1, x7])), (al, .inr (4, [.int mc, .ref (zk 0), .int 0])), (mo, .inr (9, [.int 0, .ref am, .int 0, .int 0, .int 0])), (am, .inr (4, [.int mm, .ref (zk 0), .int 0]))] H) (hD : va_D (fun q => s.heap.size ≤ q) [(ou, .inr (7, [.long 0, .null])), (xo, .inr (6, [.ref al, .int 0, .int 0, .int 0, x4, x5, .ref b1, x7])), (al, .inr (4, [.int mc, .ref (zk 0), .int 0])), (mo, .inr (9, [.int 0, .ref am, .int 0, .int 0, .int 0])), (am, .inr (4, [.int mm, .ref (zk 0), .int 0]))]) (hS : va_S (fun q => s.heap.size ≤ q) s.heap H locs) (ls : Array Slot) (hl : lv_has ls 7 [(4, .int 0), (3, .ref ou), (2, .ref mo), (1, .ref xo), (0, .ref b)]) : W p l e room_1 s mY #[Value.ref b] below meth c H locs 17 79 (lw_Z below #[Value.ref b] s) (F0 mY 623 ls []) := by
  have C1 := C0
  obtain ⟨hx, hb, hr, hml, hown, hts0, hX, hbl, hlocks, hNI⟩ := C0
  have hts := fun (w : Cond) (h : w ∈ wsL_law) => hts0 w (wsL_law_in w h)
  obtain ⟨A, hAd⟩ : ∃ A : Nat → Prop, A = fun q => s.heap.size ≤ q := ⟨_, rfl⟩
  have hA : ∀ q : Nat, s.heap.size ≤ q → A q := fun q h => by rw [hAd]; exact h
  have hAf : ∀ q : Nat, A q → s.heap.size ≤ q := fun q h => by rw [hAd] at h; exact h
  have hbA : ¬ A b := fun h => absurd (hAf b h) (Nat.not_le.mpr hbl)
  have hZ : zR zk [] A s s.heap := by rw [hAd]; exact hZ0
  rw [← hAd] at hD hS
  replace hP : va_P (dC, dI) vwCl [(ou, .inr (7, [.long 0, .null])), (xo, .inr (6, [.ref al, .int 0, .int 0, .int 0, x4, x5, .ref b1, x7])), (al, .inr (4, [.int mc, .ref (zk 0), .int 0])), (mo, .inr (9, [.int 0, .ref am, .int 0, .int 0, .int 0])), (am, .inr (4, [.int mm, .ref (zk 0), .int 0]))] H := hP
  replace hD : va_D A [(ou, .inr (7, [.long 0, .null])), (xo, .inr (6, [.ref al, .int 0, .int 0, .int 0, x4, x5, .ref b1, x7])), (al, .inr (4, [.int mc, .ref (zk 0), .int 0])), (mo, .inr (9, [.int 0, .ref am, .int 0, .int 0, .int 0])), (am, .inr (4, [.int mm, .ref (zk 0), .int 0]))] := hD
  have hz : s.heap.size + 0 ≤ H.size := hS.1
  refine lv_aload_n hx hb dL_law_623 rfl (lv_at hl 3 rfl) ?_
  refine lv_aload_n hx hb dL_law_624 rfl (lv_at hl 4 rfl) ?_
  refine lv_iload hx hb dL_law_625 (lv_at hl 0 rfl) ?_
  refine lv_iconst (v := 1) hx hb dL_law_627 (by decide) ?_
  refine lv_iadd hx hb dL_law_628 ?_
  refine lv_topi (fun v1 ev1 => ?_)
  obtain rfl : v1 = 1 := ev1.trans (by decide)
  refine va_sld hx hb hX hbl hbA hS (by unfold vp_in; decide) dL_law_629 ?_
  refine lv_topi (fun v2 ev2 => ?_)
  have e9 : v2 = p0 := ev2.trans (show xs ((1 : Int32).toNatClampNeg) = p0 from h1)
  clear ev2
  subst v2
  refine lv_aload_n hx hb dL_law_630 rfl (lv_at hl 4 rfl) ?_
  refine lv_iload hx hb dL_law_631 (lv_at hl 0 rfl) ?_
  refine lv_iconst (v := 2) hx hb dL_law_633 (by decide) ?_
  refine lv_iadd hx hb dL_law_634 ?_
  refine lv_topi (fun v3 ev3 => ?_)
  obtain rfl : v3 = 2 := ev3.trans (by decide)
  refine va_sld hx hb hX hbl hbA hS (by unfold vp_in; decide) dL_law_635 ?_
  refine lv_topi (fun v4 ev4 => ?_)
  have e9 : v4 = p1 := ev4.trans (show xs ((2 : Int32).toNatClampNeg) = p1 from h2)
  clear ev4
  subst v4
  refine lv_aload_n hx hb dL_law_636 rfl (lv_at hl 4 rfl) ?_
  refine lv_iload hx hb dL_law_637 (lv_at hl 0 rfl) ?_
  refine lv_iconst (v := 3) hx hb dL_law_639 (by decide) ?_
  refine lv_iadd hx hb dL_law_640 ?_
  refine lv_topi (fun v5 ev5 => ?_)
  obtain rfl : v5 = 3 := ev5.trans (by decide)
  refine va_sld hx hb hX hbl hbA hS (by unfold vp_in; decide) dL_law_641 ?_
  refine lv_topi (fun v6 ev6 => ?_)
  have e9 : v6 = p2 := ev6.trans (show xs ((3 : Int32).toNatClampNeg) = p2 from h3)
  clear ev6
  subst v6
  refine lv_aload_n hx hb dL_law_642 rfl (lv_at hl 1 rfl) ?_
  have hPc := hP.sub (ws' := [(xo, .inr (6, [.ref al, .int 0, .int 0, .int 0, x4, x5, .ref b1, x7])), (al, .inr (4, [.int mc, .ref (zk 0), .int 0]))]) [1, 2] rfl
  have hDc := hD.sub (ws' := [(xo, .inr (6, [.ref al, .int 0, .int 0, .int 0, x4, x5, .ref b1, x7])), (al, .inr (4, [.int mc, .ref (zk 0), .int 0]))]) [1, 2] (by decide) rfl
  have hFc := va_free (wc := [(xo, .inr (6, [.ref al, .int 0, .int 0, .int 0, x4, x5, .ref b1, x7])), (al, .inr (4, [.int mc, .ref (zk 0), .int 0]))]) hD hS hA [1, 2] rfl
  have hDv := hDc.self (sz := H.size)
  have hpre := zpre (xs' := []) (av := [.ref xo, .int p0, .int p1, .int p2, .ref ou]) hPc hK (hDc.weaken (fun _ _ _ h => h)) hZ hS hFc (fun r hr => by cases hr)
  refine va_calli (vx_runSW (As := [.ref xo, .int p0, .int p1, .int p2, .ref ou]) (rest := []) ⟨hx, hb, hml, hown, hts⟩ (k_swapH l dC dI cI cB cR cO zk hfl xo al b1 (.int 0) (.int 0) (.int 0) x4 x5 x7 mc p0 p1 p2 ou H.size ) (vx_cwSW 5 hts gL_law_L_swap rfl rfl rfl (by decide +kernel) ⟨Nat.le_of_ble_eq_true rfl, Nat.le_of_ble_eq_true rfl⟩) ⟨zblind, hpre⟩ rfl rfl hl.1 rfl (lv_room (Nat.le_of_ble_eq_true rfl)) dL_law_643 ⟨Nat.le_of_ble_eq_true rfl, Nat.le_of_ble_eq_true rfl⟩) hS (fun q _ h => hFc q h) hFc (fun r8 u t H7 locs ht hvm hw hB hz1 hk1 hS => ?_)
  obtain rfl : 1 = r8 := (show r8 = 1 from hw).symm
  obtain ⟨hP1, hK1, hD1, hz2⟩ := hB
  rw [ht] at hP1 hz2
  have hPD9 := va_join (wr := [(ou, .inr (7, [.long 0, .null])), (mo, .inr (9, [.int 0, .ref am, .int 0, .int 0, .int 0])), (am, .inr (4, [.int mm, .ref (zk 0), .int 0]))]) (w1 := [(xo, .inr (6, [.ref al, .int 0, .int 0, .int 0, x4, x5, .ref b1, x7])), (al, .inr (4, [.int mc, .ref (zk 0), .int 0]))]) hP hD [1, 2] [0, 3, 4] rfl rfl (by decide) (by decide) hk1 hFc hP1 hD1
  clear hPc hDc hFc hDv hpre hP hD hP1 hK1 hD1
  obtain ⟨hP, hD⟩ := hPD9
  replace hz : s.heap.size + 0 ≤ H7.size := by omega
  clear hz2
  replace hP : va_P (dC, dI) vwCl [(ou, .inr (7, [.long 0, .null])), (mo, .inr (9, [.int 0, .ref am, .int 0, .int 0, .int 0])), (am, .inr (4, [.int mm, .ref (zk 0), .int 0])), (xo, .inr (6, [.ref al, .int 0, .int 0, .int 0, x4, x5, .ref b1, x7])), (al, .inr (4, [.int mc, .ref (zk 0), .int 0]))] H7 := hP
  replace hD : va_D A [(ou, .inr (7, [.long 0, .null])), (mo, .inr (9, [.int 0, .ref am, .int 0, .int 0, .int 0])), (am, .inr (4, [.int mm, .ref (zk 0), .int 0])), (xo, .inr (6, [.ref al, .int 0, .int 0, .int 0, x4, x5, .ref b1, x7])), (al, .inr (4, [.int mc, .ref (zk 0), .int 0]))] := hD
  refine W.widen (k := 18) (n := 85) (by omega) (by omega) ?_
  refine lv_istore (lv' := [(5, .int 1), (4, .int 0), (3, .ref ou), (2, .ref mo), (1, .ref xo), (0, .ref b)]) hx hb dL_law_646 hl (by decide) rfl (fun ls hl => ?_)
  refine lv_aload_n hx hb dL_law_648 rfl (lv_at hl 3 rfl) ?_
  refine lv_aload_n hx hb dL_law_649 rfl (lv_at hl 5 rfl) ?_
  refine lv_iload hx hb dL_law_650 (lv_at hl 1 rfl) ?_
  refine lv_iconst (v := 1) hx hb dL_law_652 (by decide) ?_
  refine lv_iadd hx hb dL_law_653 ?_
  refine lv_topi (fun v9 ev9 => ?_)
  obtain rfl : v9 = 1 := ev9.trans (by decide)
  refine va_sld hx hb hX hbl hbA hS (by unfold vp_in; decide) dL_law_654 ?_
  refine lv_topi (fun v10 ev10 => ?_)
  have e9 : v10 = p0 := ev10.trans (show xs ((1 : Int32).toNatClampNeg) = p0 from h1)
  clear ev10
  subst v10
  refine lv_aload_n hx hb dL_law_655 rfl (lv_at hl 5 rfl) ?_
  refine lv_iload hx hb dL_law_656 (lv_at hl 1 rfl) ?_
  refine lv_iconst (v := 2) hx hb dL_law_658 (by decide) ?_
  refine lv_iadd hx hb dL_law_659 ?_
  refine lv_topi (fun v11 ev11 => ?_)
  obtain rfl : v11 = 2 := ev11.trans (by decide)
  refine va_sld hx hb hX hbl hbA hS (by unfold vp_in; decide) dL_law_660 ?_
  refine lv_topi (fun v12 ev12 => ?_)
  have e9 : v12 = p1 := ev12.trans (show xs ((2 : Int32).toNatClampNeg) = p1 from h2)
  clear ev12
  subst v12
  refine lv_aload_n hx hb dL_law_661 rfl (lv_at hl 5 rfl) ?_
  refine lv_iload hx hb dL_law_662 (lv_at hl 1 rfl) ?_
  refine lv_iconst (v := 3) hx hb dL_law_664 (by decide) ?_
  refine lv_iadd hx hb dL_law_665 ?_
  refine lv_topi (fun v13 ev13 => ?_)
  obtain rfl : v13 = 3 := ev13.trans (by decide)
  refine va_sld hx hb hX hbl hbA hS (by unfold vp_in; decide) dL_law_666 ?_
  refine lv_topi (fun v14 ev14 => ?_)
  have e9 : v14 = p2 := ev14.trans (show xs ((3 : Int32).toNatClampNeg) = p2 from h3)
  clear ev14
  subst v14
  have hPc := hP.sub (ws' := [(mo, .inr (9, [.int 0, .ref am, .int 0, .int 0, .int 0])), (am, .inr (4, [.int mm, .ref (zk 0), .int 0]))]) [1, 2] rfl
  have hDc := hD.sub (ws' := [(mo, .inr (9, [.int 0, .ref am, .int 0, .int 0, .int 0])), (am, .inr (4, [.int mm, .ref (zk 0), .int 0]))]) [1, 2] (by decide) rfl
  have hFc := va_free (wc := [(mo, .inr (9, [.int 0, .ref am, .int 0, .int 0, .int 0])), (am, .inr (4, [.int mm, .ref (zk 0), .int 0]))]) hD hS hA [1, 2] rfl
  have hDv := hDc.self (sz := H7.size)
  have hpre := zpre (xs' := []) (av := [.ref mo, .int p0, .int p1, .int p2]) hPc hK (hDc.weaken (fun _ _ _ h => h)) hZ hS hFc (fun r hr => by cases hr)
  refine va_calli (va_runV (As := [.int p0, .int p1, .int p2]) (rest := []) ⟨hx, hb, hml, hown, hts⟩ (k_swapM l dC dI cI cB cR cO zk mo am (.int 0) (.int 0) (.int 0) (.int 0) mm p0 p1 p2 H7.size ) (cwV 3 hts gL_law_X4_swap rfl rfl rfl (by decide +kernel) ⟨Nat.le_of_ble_eq_true rfl, Nat.le_of_ble_eq_true rfl⟩) ⟨zblind, (zrecv_9 hK hPc (q0 := 0) rfl), hpre⟩ rfl rfl hl.1 rfl (lv_room (Nat.le_of_ble_eq_true rfl)) dL_law_667 ⟨Nat.le_of_ble_eq_true rfl, Nat.le_of_ble_eq_true rfl⟩) hS (fun q _ h => hFc q h) hFc (fun r16 u t H15 locs ht hvm hw hB hz1 hk1 hS => ?_)
  obtain ⟨hP1, hK1, hD1, hz2⟩ := hB
  rw [ht] at hP1 hz2
  have hPD9 := va_join (wr := [(ou, .inr (7, [.long 0, .null])), (xo, .inr (6, [.ref al, .int 0, .int 0, .int 0, x4, x5, .ref b1, x7])), (al, .inr (4, [.int mc, .ref (zk 0), .int 0]))]) (w1 := [(mo, .inr (9, [.int 1, .ref am, .int 0, .int 0, .int 0])), (am, .inr (4, [.int mm, .ref (zk 0), .int 0]))]) hP hD [1, 2] [0, 3, 4] rfl rfl (by decide) (by decide) hk1 hFc hP1 hD1
  clear hPc hDc hFc hDv hpre hP hD hP1 hK1 hD1
  obtain ⟨hP, hD⟩ := hPD9
  replace hz : s.heap.size + 0 ≤ H15.size := by omega
  clear hz2
  replace hP : va_P (dC, dI) vwCl [(ou, .inr (7, [.long 0, .null])), (xo, .inr (6, [.ref al, .int 0, .int 0, .int 0, x4, x5, .ref b1, x7])), (al, .inr (4, [.int mc, .ref (zk 0), .int 0])), (mo, .inr (9, [.int 1, .ref am, .int 0, .int 0, .int 0])), (am, .inr (4, [.int mm, .ref (zk 0), .int 0]))] H15 := hP
  replace hD : va_D A [(ou, .inr (7, [.long 0, .null])), (xo, .inr (6, [.ref al, .int 0, .int 0, .int 0, x4, x5, .ref b1, x7])), (al, .inr (4, [.int mc, .ref (zk 0), .int 0])), (mo, .inr (9, [.int 1, .ref am, .int 0, .int 0, .int 0])), (am, .inr (4, [.int mm, .ref (zk 0), .int 0]))] := hD
  refine W.widen (k := 18) (n := 85) (by omega) (by omega) ?_
  refine lv_istore (lv' := [(6, .int r16), (5, .int 1), (4, .int 0), (3, .ref ou), (2, .ref mo), (1, .ref xo), (0, .ref b)]) hx hb dL_law_670 hl (by decide) rfl (fun ls hl => ?_)
  refine lv_aload_n hx hb dL_law_672 rfl (lv_at hl 4 rfl) ?_
  have hPc := hP.sub (ws' := [(mo, .inr (9, [.int 1, .ref am, .int 0, .int 0, .int 0]))]) [3] rfl
  have hDc := hD.sub (ws' := [(mo, .inr (9, [.int 1, .ref am, .int 0, .int 0, .int 0]))]) [3] (by decide) rfl
  have hFc := va_free (wc := [(mo, .inr (9, [.int 1, .ref am, .int 0, .int 0, .int 0]))]) hD hS hA [3] rfl
  have hDv := hDc.self (sz := H15.size)
  have hpre := zpre (xs' := []) (av := [.ref mo]) hPc hK (hDc.weaken (fun _ _ _ h => h)) hZ hS hFc (fun r hr => by cases hr)
  refine va_calli (va_runV (As := []) (rest := []) ⟨hx, hb, hml, hown, hts⟩ (k_thz l dC dI cI cB cR cO zk mo am (.int 0) (.int 0) (.int 0) H15.size ) (cwV 0 hts gL_law_X4_thrown rfl rfl rfl (by decide +kernel) ⟨Nat.le_of_ble_eq_true rfl, Nat.le_of_ble_eq_true rfl⟩) ⟨zblind, (zrecv_9 hK hPc (q0 := 0) rfl), hpre⟩ rfl rfl hl.1 rfl (lv_room (Nat.le_of_ble_eq_true rfl)) dL_law_673 ⟨Nat.le_of_ble_eq_true rfl, Nat.le_of_ble_eq_true rfl⟩) hS (fun q _ h => hFc q h) hFc (fun r18 u t H17 locs ht hvm hw hB hz1 hk1 hS => ?_)
  obtain rfl : 1 = r18 := (show r18 = 1 from hw).symm
  obtain ⟨hP1, hK1, hD1, hz2⟩ := hB
  rw [ht] at hP1 hz2
  have hPD9 := va_join (wr := [(ou, .inr (7, [.long 0, .null])), (xo, .inr (6, [.ref al, .int 0, .int 0, .int 0, x4, x5, .ref b1, x7])), (al, .inr (4, [.int mc, .ref (zk 0), .int 0])), (am, .inr (4, [.int mm, .ref (zk 0), .int 0]))]) (w1 := [(mo, .inr (9, [.int 1, .ref am, .int 0, .int 0, .int 0]))]) hP hD [3] [0, 1, 2, 4] rfl rfl (by decide) (by decide) hk1 hFc hP1 hD1
  clear hPc hDc hFc hDv hpre hP hD hP1 hK1 hD1
  obtain ⟨hP, hD⟩ := hPD9
  replace hz : s.heap.size + 0 ≤ H17.size := by omega
  clear hz2
  replace hP : va_P (dC, dI) vwCl [(ou, .inr (7, [.long 0, .null])), (xo, .inr (6, [.ref al, .int 0, .int 0, .int 0, x4, x5, .ref b1, x7])), (al, .inr (4, [.int mc, .ref (zk 0), .int 0])), (am, .inr (4, [.int mm, .ref (zk 0), .int 0])), (mo, .inr (9, [.int 1, .ref am, .int 0, .int 0, .int 0]))] H17 := hP
  replace hD : va_D A [(ou, .inr (7, [.long 0, .null])), (xo, .inr (6, [.ref al, .int 0, .int 0, .int 0, x4, x5, .ref b1, x7])), (al, .inr (4, [.int mc, .ref (zk 0), .int 0])), (am, .inr (4, [.int mm, .ref (zk 0), .int 0])), (mo, .inr (9, [.int 1, .ref am, .int 0, .int 0, .int 0]))] := hD
  refine W.widen (k := 18) (n := 85) (by omega) (by omega) ?_
  refine lv_iload hx hb dL_law_676 (lv_at hl 1 rfl) ?_
  refine lv_icmp_eq (tgt := 683) hx hb dL_law_678 (by decide) (fun c9 => ?_) (fun c9 => ?_)
  rotate_left
  · exact absurd (by decide) c9
  refine lv_iload hx hb dL_law_683 (lv_at hl 1 rfl) ?_
  refine lv_if_ne (tgt := 701) hx hb dL_law_685 (by decide) (fun c9 => ?_) (fun c9 => ?_)
  rotate_left
  · exact absurd c9 (by decide)
  refine lv_goto (tgt := 2155) hx hb dL_law_701 (by decide) ?_
  rw [hAd] at hS
  exact zl_tail l dC dI cI cB cR cO zk b xs C1 hZ0 hK hS (Nat.le_of_ble_eq_true rfl) (Nat.le_of_ble_eq_true rfl) ls (lv_sub hl [6, 2] rfl)

set_option maxHeartbeats 4000000 in
set_option maxRecDepth 100000 in
theorem zl_a_fill (l : Launch) (dC : Nat → ClassId) (dI : Nat → Nat → Nat) (cI cB cR cO : ClassId) (zk : Nat → Nat) {p : Program} {e : Env} {s : State} {mY : MethodId} {below : List Frame} {meth : Method} {c : Code} (b : Nat) (xs : Nat → Int32) (hfl : l.stackTraces = false) (C0 : zl_At p s mY meth c b 5 xs) (hZ0 : zR zk [] (fun q => s.heap.size ≤ q) s s.heap) (hK : va_K (dC, dI) vwCl (zT cI cB cR cO) s) (ou xo al b1 : Nat) (x4 x5 x7 : Value) (mc : Int32) (mo am : Nat) (mm : Int32)  (p0 p1 : Int32) (h1 : xs 1 = p0) (h2 : xs 2 = p1)  (H : Heap) (locs : List Loc) (hP : va_P (dC, dI) vwCl [(ou, .inr (7, [.long 0, .null])), (xo, .inr (6, [.ref al, .int 0, .int 0, .int 0, x4, x5, .ref b1, x7])), (al, .inr (4, [.int mc, .ref (zk 0), .int 0])), (mo, .inr (9, [.int 0, .ref am, .int 0, .int 0, .int 0])), (am, .inr (4, [.int mm, .ref (zk 0), .int 0]))] H) (hD : va_D (fun q => s.heap.size ≤ q) [(ou, .inr (7, [.long 0, .null])), (xo, .inr (6, [.ref al, .int 0, .int 0, .int 0, x4, x5, .ref b1, x7])), (al, .inr (4, [.int mc, .ref (zk 0), .int 0])), (mo, .inr (9, [.int 0, .ref am, .int 0, .int 0, .int 0])), (am, .inr (4, [.int mm, .ref (zk 0), .int 0]))]) (hS : va_S (fun q => s.heap.size ≤ q) s.heap H locs) (ls : Array Slot) (hl : lv_has ls 7 [(4, .int 0), (3, .ref ou), (2, .ref mo), (1, .ref xo), (0, .ref b)]) : W p l e room_1 s mY #[Value.ref b] below meth c H locs 17 79 (lw_Z below #[Value.ref b] s) (F0 mY 704 ls []) := by
  have C1 := C0
  obtain ⟨hx, hb, hr, hml, hown, hts0, hX, hbl, hlocks, hNI⟩ := C0
  have hts := fun (w : Cond) (h : w ∈ wsL_law) => hts0 w (wsL_law_in w h)
  obtain ⟨A, hAd⟩ : ∃ A : Nat → Prop, A = fun q => s.heap.size ≤ q := ⟨_, rfl⟩
  have hA : ∀ q : Nat, s.heap.size ≤ q → A q := fun q h => by rw [hAd]; exact h
  have hAf : ∀ q : Nat, A q → s.heap.size ≤ q := fun q h => by rw [hAd] at h; exact h
  have hbA : ¬ A b := fun h => absurd (hAf b h) (Nat.not_le.mpr hbl)
  have hZ : zR zk [] A s s.heap := by rw [hAd]; exact hZ0
  rw [← hAd] at hD hS
  replace hP : va_P (dC, dI) vwCl [(ou, .inr (7, [.long 0, .null])), (xo, .inr (6, [.ref al, .int 0, .int 0, .int 0, x4, x5, .ref b1, x7])), (al, .inr (4, [.int mc, .ref (zk 0), .int 0])), (mo, .inr (9, [.int 0, .ref am, .int 0, .int 0, .int 0])), (am, .inr (4, [.int mm, .ref (zk 0), .int 0]))] H := hP
  replace hD : va_D A [(ou, .inr (7, [.long 0, .null])), (xo, .inr (6, [.ref al, .int 0, .int 0, .int 0, x4, x5, .ref b1, x7])), (al, .inr (4, [.int mc, .ref (zk 0), .int 0])), (mo, .inr (9, [.int 0, .ref am, .int 0, .int 0, .int 0])), (am, .inr (4, [.int mm, .ref (zk 0), .int 0]))] := hD
  have hz : s.heap.size + 0 ≤ H.size := hS.1
  refine lv_aload_n hx hb dL_law_704 rfl (lv_at hl 3 rfl) ?_
  refine lv_aload_n hx hb dL_law_705 rfl (lv_at hl 4 rfl) ?_
  refine lv_iload hx hb dL_law_706 (lv_at hl 0 rfl) ?_
  refine lv_iconst (v := 1) hx hb dL_law_708 (by decide) ?_
  refine lv_iadd hx hb dL_law_709 ?_
  refine lv_topi (fun v1 ev1 => ?_)
  obtain rfl : v1 = 1 := ev1.trans (by decide)
  refine va_sld hx hb hX hbl hbA hS (by unfold vp_in; decide) dL_law_710 ?_
  refine lv_topi (fun v2 ev2 => ?_)
  have e9 : v2 = p0 := ev2.trans (show xs ((1 : Int32).toNatClampNeg) = p0 from h1)
  clear ev2
  subst v2
  refine lv_aload_n hx hb dL_law_711 rfl (lv_at hl 4 rfl) ?_
  refine lv_iload hx hb dL_law_712 (lv_at hl 0 rfl) ?_
  refine lv_iconst (v := 2) hx hb dL_law_714 (by decide) ?_
  refine lv_iadd hx hb dL_law_715 ?_
  refine lv_topi (fun v3 ev3 => ?_)
  obtain rfl : v3 = 2 := ev3.trans (by decide)
  refine va_sld hx hb hX hbl hbA hS (by unfold vp_in; decide) dL_law_716 ?_
  refine lv_topi (fun v4 ev4 => ?_)
  have e9 : v4 = p1 := ev4.trans (show xs ((2 : Int32).toNatClampNeg) = p1 from h2)
  clear ev4
  subst v4
  refine lv_aload_n hx hb dL_law_717 rfl (lv_at hl 1 rfl) ?_
  have hPc := hP.sub (ws' := [(xo, .inr (6, [.ref al, .int 0, .int 0, .int 0, x4, x5, .ref b1, x7])), (al, .inr (4, [.int mc, .ref (zk 0), .int 0]))]) [1, 2] rfl
  have hDc := hD.sub (ws' := [(xo, .inr (6, [.ref al, .int 0, .int 0, .int 0, x4, x5, .ref b1, x7])), (al, .inr (4, [.int mc, .ref (zk 0), .int 0]))]) [1, 2] (by decide) rfl
  have hFc := va_free (wc := [(xo, .inr (6, [.ref al, .int 0, .int 0, .int 0, x4, x5, .ref b1, x7])), (al, .inr (4, [.int mc, .ref (zk 0), .int 0]))]) hD hS hA [1, 2] rfl
  have hDv := hDc.self (sz := H.size)
  have hpre := zpre (xs' := []) (av := [.ref xo, .int p0, .int p1, .ref ou]) hPc hK (hDc.weaken (fun _ _ _ h => h)) hZ hS hFc (fun r hr => by cases hr)
  refine va_calli (vx_runSW (As := [.ref xo, .int p0, .int p1, .ref ou]) (rest := []) ⟨hx, hb, hml, hown, hts⟩ (k_fillH l dC dI cI cB cR cO zk hfl xo al b1 (.int 0) (.int 0) (.int 0) x4 x5 x7 mc p0 p1 ou H.size ) (vx_cwSW 4 hts gL_law_L_fill rfl rfl rfl (by decide +kernel) ⟨Nat.le_of_ble_eq_true rfl, Nat.le_of_ble_eq_true rfl⟩) ⟨zblind, hpre⟩ rfl rfl hl.1 rfl (lv_room (Nat.le_of_ble_eq_true rfl)) dL_law_718 ⟨Nat.le_of_ble_eq_true rfl, Nat.le_of_ble_eq_true rfl⟩) hS (fun q _ h => hFc q h) hFc (fun r6 u t H5 locs ht hvm hw hB hz1 hk1 hS => ?_)
  obtain rfl : 1 = r6 := (show r6 = 1 from hw).symm
  obtain ⟨hP1, hK1, hD1, hz2⟩ := hB
  rw [ht] at hP1 hz2
  have hPD9 := va_join (wr := [(ou, .inr (7, [.long 0, .null])), (mo, .inr (9, [.int 0, .ref am, .int 0, .int 0, .int 0])), (am, .inr (4, [.int mm, .ref (zk 0), .int 0]))]) (w1 := [(xo, .inr (6, [.ref al, .int 0, .int 0, .int 0, x4, x5, .ref b1, x7])), (al, .inr (4, [.int mc, .ref (zk 0), .int 0]))]) hP hD [1, 2] [0, 3, 4] rfl rfl (by decide) (by decide) hk1 hFc hP1 hD1
  clear hPc hDc hFc hDv hpre hP hD hP1 hK1 hD1
  obtain ⟨hP, hD⟩ := hPD9
  replace hz : s.heap.size + 0 ≤ H5.size := by omega
  clear hz2
  replace hP : va_P (dC, dI) vwCl [(ou, .inr (7, [.long 0, .null])), (mo, .inr (9, [.int 0, .ref am, .int 0, .int 0, .int 0])), (am, .inr (4, [.int mm, .ref (zk 0), .int 0])), (xo, .inr (6, [.ref al, .int 0, .int 0, .int 0, x4, x5, .ref b1, x7])), (al, .inr (4, [.int mc, .ref (zk 0), .int 0]))] H5 := hP
  replace hD : va_D A [(ou, .inr (7, [.long 0, .null])), (mo, .inr (9, [.int 0, .ref am, .int 0, .int 0, .int 0])), (am, .inr (4, [.int mm, .ref (zk 0), .int 0])), (xo, .inr (6, [.ref al, .int 0, .int 0, .int 0, x4, x5, .ref b1, x7])), (al, .inr (4, [.int mc, .ref (zk 0), .int 0]))] := hD
  refine W.widen (k := 18) (n := 85) (by omega) (by omega) ?_
  refine lv_istore (lv' := [(5, .int 1), (4, .int 0), (3, .ref ou), (2, .ref mo), (1, .ref xo), (0, .ref b)]) hx hb dL_law_721 hl (by decide) rfl (fun ls hl => ?_)
  refine lv_aload_n hx hb dL_law_723 rfl (lv_at hl 3 rfl) ?_
  refine lv_aload_n hx hb dL_law_724 rfl (lv_at hl 5 rfl) ?_
  refine lv_iload hx hb dL_law_725 (lv_at hl 1 rfl) ?_
  refine lv_iconst (v := 1) hx hb dL_law_727 (by decide) ?_
  refine lv_iadd hx hb dL_law_728 ?_
  refine lv_topi (fun v7 ev7 => ?_)
  obtain rfl : v7 = 1 := ev7.trans (by decide)
  refine va_sld hx hb hX hbl hbA hS (by unfold vp_in; decide) dL_law_729 ?_
  refine lv_topi (fun v8 ev8 => ?_)
  have e9 : v8 = p0 := ev8.trans (show xs ((1 : Int32).toNatClampNeg) = p0 from h1)
  clear ev8
  subst v8
  refine lv_aload_n hx hb dL_law_730 rfl (lv_at hl 5 rfl) ?_
  refine lv_iload hx hb dL_law_731 (lv_at hl 1 rfl) ?_
  refine lv_iconst (v := 2) hx hb dL_law_733 (by decide) ?_
  refine lv_iadd hx hb dL_law_734 ?_
  refine lv_topi (fun v9 ev9 => ?_)
  obtain rfl : v9 = 2 := ev9.trans (by decide)
  refine va_sld hx hb hX hbl hbA hS (by unfold vp_in; decide) dL_law_735 ?_
  refine lv_topi (fun v10 ev10 => ?_)
  have e9 : v10 = p1 := ev10.trans (show xs ((2 : Int32).toNatClampNeg) = p1 from h2)
  clear ev10
  subst v10
  have hPc := hP.sub (ws' := [(mo, .inr (9, [.int 0, .ref am, .int 0, .int 0, .int 0])), (am, .inr (4, [.int mm, .ref (zk 0), .int 0]))]) [1, 2] rfl
  have hDc := hD.sub (ws' := [(mo, .inr (9, [.int 0, .ref am, .int 0, .int 0, .int 0])), (am, .inr (4, [.int mm, .ref (zk 0), .int 0]))]) [1, 2] (by decide) rfl
  have hFc := va_free (wc := [(mo, .inr (9, [.int 0, .ref am, .int 0, .int 0, .int 0])), (am, .inr (4, [.int mm, .ref (zk 0), .int 0]))]) hD hS hA [1, 2] rfl
  have hDv := hDc.self (sz := H5.size)
  have hpre := zpre (xs' := []) (av := [.ref mo, .int p0, .int p1]) hPc hK (hDc.weaken (fun _ _ _ h => h)) hZ hS hFc (fun r hr => by cases hr)
  refine va_calli (va_runV (As := [.int p0, .int p1]) (rest := []) ⟨hx, hb, hml, hown, hts⟩ (k_fillM l dC dI cI cB cR cO zk mo am (.int 0) (.int 0) (.int 0) (.int 0) mm p0 p1 H5.size ) (cwV 2 hts gL_law_X4_fill rfl rfl rfl (by decide +kernel) ⟨Nat.le_of_ble_eq_true rfl, Nat.le_of_ble_eq_true rfl⟩) ⟨zblind, (zrecv_9 hK hPc (q0 := 0) rfl), hpre⟩ rfl rfl hl.1 rfl (lv_room (Nat.le_of_ble_eq_true rfl)) dL_law_736 ⟨Nat.le_of_ble_eq_true rfl, Nat.le_of_ble_eq_true rfl⟩) hS (fun q _ h => hFc q h) hFc (fun r12 u t H11 locs ht hvm hw hB hz1 hk1 hS => ?_)
  obtain ⟨hP1, hK1, hD1, hz2⟩ := hB
  rw [ht] at hP1 hz2
  have hPD9 := va_join (wr := [(ou, .inr (7, [.long 0, .null])), (xo, .inr (6, [.ref al, .int 0, .int 0, .int 0, x4, x5, .ref b1, x7])), (al, .inr (4, [.int mc, .ref (zk 0), .int 0]))]) (w1 := [(mo, .inr (9, [.int 1, .ref am, .int 0, .int 0, .int 0])), (am, .inr (4, [.int mm, .ref (zk 0), .int 0]))]) hP hD [1, 2] [0, 3, 4] rfl rfl (by decide) (by decide) hk1 hFc hP1 hD1
  clear hPc hDc hFc hDv hpre hP hD hP1 hK1 hD1
  obtain ⟨hP, hD⟩ := hPD9
  replace hz : s.heap.size + 0 ≤ H11.size := by omega
  clear hz2
  replace hP : va_P (dC, dI) vwCl [(ou, .inr (7, [.long 0, .null])), (xo, .inr (6, [.ref al, .int 0, .int 0, .int 0, x4, x5, .ref b1, x7])), (al, .inr (4, [.int mc, .ref (zk 0), .int 0])), (mo, .inr (9, [.int 1, .ref am, .int 0, .int 0, .int 0])), (am, .inr (4, [.int mm, .ref (zk 0), .int 0]))] H11 := hP
  replace hD : va_D A [(ou, .inr (7, [.long 0, .null])), (xo, .inr (6, [.ref al, .int 0, .int 0, .int 0, x4, x5, .ref b1, x7])), (al, .inr (4, [.int mc, .ref (zk 0), .int 0])), (mo, .inr (9, [.int 1, .ref am, .int 0, .int 0, .int 0])), (am, .inr (4, [.int mm, .ref (zk 0), .int 0]))] := hD
  refine W.widen (k := 18) (n := 85) (by omega) (by omega) ?_
  refine lv_istore (lv' := [(6, .int r12), (5, .int 1), (4, .int 0), (3, .ref ou), (2, .ref mo), (1, .ref xo), (0, .ref b)]) hx hb dL_law_739 hl (by decide) rfl (fun ls hl => ?_)
  refine lv_aload_n hx hb dL_law_741 rfl (lv_at hl 4 rfl) ?_
  have hPc := hP.sub (ws' := [(mo, .inr (9, [.int 1, .ref am, .int 0, .int 0, .int 0]))]) [3] rfl
  have hDc := hD.sub (ws' := [(mo, .inr (9, [.int 1, .ref am, .int 0, .int 0, .int 0]))]) [3] (by decide) rfl
  have hFc := va_free (wc := [(mo, .inr (9, [.int 1, .ref am, .int 0, .int 0, .int 0]))]) hD hS hA [3] rfl
  have hDv := hDc.self (sz := H11.size)
  have hpre := zpre (xs' := []) (av := [.ref mo]) hPc hK (hDc.weaken (fun _ _ _ h => h)) hZ hS hFc (fun r hr => by cases hr)
  refine va_calli (va_runV (As := []) (rest := []) ⟨hx, hb, hml, hown, hts⟩ (k_thz l dC dI cI cB cR cO zk mo am (.int 0) (.int 0) (.int 0) H11.size ) (cwV 0 hts gL_law_X4_thrown rfl rfl rfl (by decide +kernel) ⟨Nat.le_of_ble_eq_true rfl, Nat.le_of_ble_eq_true rfl⟩) ⟨zblind, (zrecv_9 hK hPc (q0 := 0) rfl), hpre⟩ rfl rfl hl.1 rfl (lv_room (Nat.le_of_ble_eq_true rfl)) dL_law_742 ⟨Nat.le_of_ble_eq_true rfl, Nat.le_of_ble_eq_true rfl⟩) hS (fun q _ h => hFc q h) hFc (fun r14 u t H13 locs ht hvm hw hB hz1 hk1 hS => ?_)
  obtain rfl : 1 = r14 := (show r14 = 1 from hw).symm
  obtain ⟨hP1, hK1, hD1, hz2⟩ := hB
  rw [ht] at hP1 hz2
  have hPD9 := va_join (wr := [(ou, .inr (7, [.long 0, .null])), (xo, .inr (6, [.ref al, .int 0, .int 0, .int 0, x4, x5, .ref b1, x7])), (al, .inr (4, [.int mc, .ref (zk 0), .int 0])), (am, .inr (4, [.int mm, .ref (zk 0), .int 0]))]) (w1 := [(mo, .inr (9, [.int 1, .ref am, .int 0, .int 0, .int 0]))]) hP hD [3] [0, 1, 2, 4] rfl rfl (by decide) (by decide) hk1 hFc hP1 hD1
  clear hPc hDc hFc hDv hpre hP hD hP1 hK1 hD1
  obtain ⟨hP, hD⟩ := hPD9
  replace hz : s.heap.size + 0 ≤ H13.size := by omega
  clear hz2
  replace hP : va_P (dC, dI) vwCl [(ou, .inr (7, [.long 0, .null])), (xo, .inr (6, [.ref al, .int 0, .int 0, .int 0, x4, x5, .ref b1, x7])), (al, .inr (4, [.int mc, .ref (zk 0), .int 0])), (am, .inr (4, [.int mm, .ref (zk 0), .int 0])), (mo, .inr (9, [.int 1, .ref am, .int 0, .int 0, .int 0]))] H13 := hP
  replace hD : va_D A [(ou, .inr (7, [.long 0, .null])), (xo, .inr (6, [.ref al, .int 0, .int 0, .int 0, x4, x5, .ref b1, x7])), (al, .inr (4, [.int mc, .ref (zk 0), .int 0])), (am, .inr (4, [.int mm, .ref (zk 0), .int 0])), (mo, .inr (9, [.int 1, .ref am, .int 0, .int 0, .int 0]))] := hD
  refine W.widen (k := 18) (n := 85) (by omega) (by omega) ?_
  refine lv_iload hx hb dL_law_745 (lv_at hl 1 rfl) ?_
  refine lv_icmp_eq (tgt := 752) hx hb dL_law_747 (by decide) (fun c9 => ?_) (fun c9 => ?_)
  rotate_left
  · exact absurd (by decide) c9
  refine lv_iload hx hb dL_law_752 (lv_at hl 1 rfl) ?_
  refine lv_if_ne (tgt := 770) hx hb dL_law_754 (by decide) (fun c9 => ?_) (fun c9 => ?_)
  rotate_left
  · exact absurd c9 (by decide)
  refine lv_goto (tgt := 2155) hx hb dL_law_770 (by decide) ?_
  rw [hAd] at hS
  exact zl_tail l dC dI cI cB cR cO zk b xs C1 hZ0 hK hS (Nat.le_of_ble_eq_true rfl) (Nat.le_of_ble_eq_true rfl) ls (lv_sub hl [6, 2] rfl)

set_option maxHeartbeats 4000000 in
set_option maxRecDepth 100000 in
theorem zl_a_fillRow (l : Launch) (dC : Nat → ClassId) (dI : Nat → Nat → Nat) (cI cB cR cO : ClassId) (zk : Nat → Nat) {p : Program} {e : Env} {s : State} {mY : MethodId} {below : List Frame} {meth : Method} {c : Code} (b : Nat) (xs : Nat → Int32) (hfl : l.stackTraces = false) (C0 : zl_At p s mY meth c b 5 xs) (hZ0 : zR zk [] (fun q => s.heap.size ≤ q) s s.heap) (hK : va_K (dC, dI) vwCl (zT cI cB cR cO) s) (ou xo al b1 : Nat) (x4 x5 x7 : Value) (mc : Int32) (mo am : Nat) (mm : Int32)  (p0 p1 : Int32) (h1 : xs 1 = p0) (h2 : xs 2 = p1)  (H : Heap) (locs : List Loc) (hP : va_P (dC, dI) vwCl [(ou, .inr (7, [.long 0, .null])), (xo, .inr (6, [.ref al, .int 0, .int 0, .int 0, x4, x5, .ref b1, x7])), (al, .inr (4, [.int mc, .ref (zk 0), .int 0])), (mo, .inr (9, [.int 0, .ref am, .int 0, .int 0, .int 0])), (am, .inr (4, [.int mm, .ref (zk 0), .int 0]))] H) (hD : va_D (fun q => s.heap.size ≤ q) [(ou, .inr (7, [.long 0, .null])), (xo, .inr (6, [.ref al, .int 0, .int 0, .int 0, x4, x5, .ref b1, x7])), (al, .inr (4, [.int mc, .ref (zk 0), .int 0])), (mo, .inr (9, [.int 0, .ref am, .int 0, .int 0, .int 0])), (am, .inr (4, [.int mm, .ref (zk 0), .int 0]))]) (hS : va_S (fun q => s.heap.size ≤ q) s.heap H locs) (ls : Array Slot) (hl : lv_has ls 7 [(4, .int 0), (3, .ref ou), (2, .ref mo), (1, .ref xo), (0, .ref b)]) : W p l e room_1 s mY #[Value.ref b] below meth c H locs 17 79 (lw_Z below #[Value.ref b] s) (F0 mY 773 ls []) := by
  have C1 := C0
  obtain ⟨hx, hb, hr, hml, hown, hts0, hX, hbl, hlocks, hNI⟩ := C0
  have hts := fun (w : Cond) (h : w ∈ wsL_law) => hts0 w (wsL_law_in w h)
  obtain ⟨A, hAd⟩ : ∃ A : Nat → Prop, A = fun q => s.heap.size ≤ q := ⟨_, rfl⟩
  have hA : ∀ q : Nat, s.heap.size ≤ q → A q := fun q h => by rw [hAd]; exact h
  have hAf : ∀ q : Nat, A q → s.heap.size ≤ q := fun q h => by rw [hAd] at h; exact h
  have hbA : ¬ A b := fun h => absurd (hAf b h) (Nat.not_le.mpr hbl)
  have hZ : zR zk [] A s s.heap := by rw [hAd]; exact hZ0
  rw [← hAd] at hD hS
  replace hP : va_P (dC, dI) vwCl [(ou, .inr (7, [.long 0, .null])), (xo, .inr (6, [.ref al, .int 0, .int 0, .int 0, x4, x5, .ref b1, x7])), (al, .inr (4, [.int mc, .ref (zk 0), .int 0])), (mo, .inr (9, [.int 0, .ref am, .int 0, .int 0, .int 0])), (am, .inr (4, [.int mm, .ref (zk 0), .int 0]))] H := hP
  replace hD : va_D A [(ou, .inr (7, [.long 0, .null])), (xo, .inr (6, [.ref al, .int 0, .int 0, .int 0, x4, x5, .ref b1, x7])), (al, .inr (4, [.int mc, .ref (zk 0), .int 0])), (mo, .inr (9, [.int 0, .ref am, .int 0, .int 0, .int 0])), (am, .inr (4, [.int mm, .ref (zk 0), .int 0]))] := hD
  have hz : s.heap.size + 0 ≤ H.size := hS.1
  refine lv_aload_n hx hb dL_law_773 rfl (lv_at hl 3 rfl) ?_
  refine lv_aload_n hx hb dL_law_774 rfl (lv_at hl 4 rfl) ?_
  refine lv_iload hx hb dL_law_775 (lv_at hl 0 rfl) ?_
  refine lv_iconst (v := 1) hx hb dL_law_777 (by decide) ?_
  refine lv_iadd hx hb dL_law_778 ?_
  refine lv_topi (fun v1 ev1 => ?_)
  obtain rfl : v1 = 1 := ev1.trans (by decide)
  refine va_sld hx hb hX hbl hbA hS (by unfold vp_in; decide) dL_law_779 ?_
  refine lv_topi (fun v2 ev2 => ?_)
  have e9 : v2 = p0 := ev2.trans (show xs ((1 : Int32).toNatClampNeg) = p0 from h1)
  clear ev2
  subst v2
  refine lv_aload_n hx hb dL_law_780 rfl (lv_at hl 4 rfl) ?_
  refine lv_iload hx hb dL_law_781 (lv_at hl 0 rfl) ?_
  refine lv_iconst (v := 2) hx hb dL_law_783 (by decide) ?_
  refine lv_iadd hx hb dL_law_784 ?_
  refine lv_topi (fun v3 ev3 => ?_)
  obtain rfl : v3 = 2 := ev3.trans (by decide)
  refine va_sld hx hb hX hbl hbA hS (by unfold vp_in; decide) dL_law_785 ?_
  refine lv_topi (fun v4 ev4 => ?_)
  have e9 : v4 = p1 := ev4.trans (show xs ((2 : Int32).toNatClampNeg) = p1 from h2)
  clear ev4
  subst v4
  refine lv_aload_n hx hb dL_law_786 rfl (lv_at hl 1 rfl) ?_
  have hPc := hP.sub (ws' := [(xo, .inr (6, [.ref al, .int 0, .int 0, .int 0, x4, x5, .ref b1, x7])), (al, .inr (4, [.int mc, .ref (zk 0), .int 0]))]) [1, 2] rfl
  have hDc := hD.sub (ws' := [(xo, .inr (6, [.ref al, .int 0, .int 0, .int 0, x4, x5, .ref b1, x7])), (al, .inr (4, [.int mc, .ref (zk 0), .int 0]))]) [1, 2] (by decide) rfl
  have hFc := va_free (wc := [(xo, .inr (6, [.ref al, .int 0, .int 0, .int 0, x4, x5, .ref b1, x7])), (al, .inr (4, [.int mc, .ref (zk 0), .int 0]))]) hD hS hA [1, 2] rfl
  have hDv := hDc.self (sz := H.size)
  have hpre := zpre (xs' := []) (av := [.ref xo, .int p0, .int p1, .ref ou]) hPc hK (hDc.weaken (fun _ _ _ h => h)) hZ hS hFc (fun r hr => by cases hr)
  refine va_calli (vx_runSW (As := [.ref xo, .int p0, .int p1, .ref ou]) (rest := []) ⟨hx, hb, hml, hown, hts⟩ (k_fillRowH l dC dI cI cB cR cO zk hfl xo al b1 (.int 0) (.int 0) (.int 0) x4 x5 x7 mc p0 p1 ou H.size ) (vx_cwSW 4 hts gL_law_L_fillRow rfl rfl rfl (by decide +kernel) ⟨Nat.le_of_ble_eq_true rfl, Nat.le_of_ble_eq_true rfl⟩) ⟨zblind, hpre⟩ rfl rfl hl.1 rfl (lv_room (Nat.le_of_ble_eq_true rfl)) dL_law_787 ⟨Nat.le_of_ble_eq_true rfl, Nat.le_of_ble_eq_true rfl⟩) hS (fun q _ h => hFc q h) hFc (fun r6 u t H5 locs ht hvm hw hB hz1 hk1 hS => ?_)
  obtain rfl : 1 = r6 := (show r6 = 1 from hw).symm
  obtain ⟨hP1, hK1, hD1, hz2⟩ := hB
  rw [ht] at hP1 hz2
  have hPD9 := va_join (wr := [(ou, .inr (7, [.long 0, .null])), (mo, .inr (9, [.int 0, .ref am, .int 0, .int 0, .int 0])), (am, .inr (4, [.int mm, .ref (zk 0), .int 0]))]) (w1 := [(xo, .inr (6, [.ref al, .int 0, .int 0, .int 0, x4, x5, .ref b1, x7])), (al, .inr (4, [.int mc, .ref (zk 0), .int 0]))]) hP hD [1, 2] [0, 3, 4] rfl rfl (by decide) (by decide) hk1 hFc hP1 hD1
  clear hPc hDc hFc hDv hpre hP hD hP1 hK1 hD1
  obtain ⟨hP, hD⟩ := hPD9
  replace hz : s.heap.size + 0 ≤ H5.size := by omega
  clear hz2
  replace hP : va_P (dC, dI) vwCl [(ou, .inr (7, [.long 0, .null])), (mo, .inr (9, [.int 0, .ref am, .int 0, .int 0, .int 0])), (am, .inr (4, [.int mm, .ref (zk 0), .int 0])), (xo, .inr (6, [.ref al, .int 0, .int 0, .int 0, x4, x5, .ref b1, x7])), (al, .inr (4, [.int mc, .ref (zk 0), .int 0]))] H5 := hP
  replace hD : va_D A [(ou, .inr (7, [.long 0, .null])), (mo, .inr (9, [.int 0, .ref am, .int 0, .int 0, .int 0])), (am, .inr (4, [.int mm, .ref (zk 0), .int 0])), (xo, .inr (6, [.ref al, .int 0, .int 0, .int 0, x4, x5, .ref b1, x7])), (al, .inr (4, [.int mc, .ref (zk 0), .int 0]))] := hD
  refine W.widen (k := 18) (n := 85) (by omega) (by omega) ?_
  refine lv_istore (lv' := [(5, .int 1), (4, .int 0), (3, .ref ou), (2, .ref mo), (1, .ref xo), (0, .ref b)]) hx hb dL_law_790 hl (by decide) rfl (fun ls hl => ?_)
  refine lv_aload_n hx hb dL_law_792 rfl (lv_at hl 3 rfl) ?_
  refine lv_aload_n hx hb dL_law_793 rfl (lv_at hl 5 rfl) ?_
  refine lv_iload hx hb dL_law_794 (lv_at hl 1 rfl) ?_
  refine lv_iconst (v := 1) hx hb dL_law_796 (by decide) ?_
  refine lv_iadd hx hb dL_law_797 ?_
  refine lv_topi (fun v7 ev7 => ?_)
  obtain rfl : v7 = 1 := ev7.trans (by decide)
  refine va_sld hx hb hX hbl hbA hS (by unfold vp_in; decide) dL_law_798 ?_
  refine lv_topi (fun v8 ev8 => ?_)
  have e9 : v8 = p0 := ev8.trans (show xs ((1 : Int32).toNatClampNeg) = p0 from h1)
  clear ev8
  subst v8
  refine lv_aload_n hx hb dL_law_799 rfl (lv_at hl 5 rfl) ?_
  refine lv_iload hx hb dL_law_800 (lv_at hl 1 rfl) ?_
  refine lv_iconst (v := 2) hx hb dL_law_802 (by decide) ?_
  refine lv_iadd hx hb dL_law_803 ?_
  refine lv_topi (fun v9 ev9 => ?_)
  obtain rfl : v9 = 2 := ev9.trans (by decide)
  refine va_sld hx hb hX hbl hbA hS (by unfold vp_in; decide) dL_law_804 ?_
  refine lv_topi (fun v10 ev10 => ?_)
  have e9 : v10 = p1 := ev10.trans (show xs ((2 : Int32).toNatClampNeg) = p1 from h2)
  clear ev10
  subst v10
  have hPc := hP.sub (ws' := [(mo, .inr (9, [.int 0, .ref am, .int 0, .int 0, .int 0])), (am, .inr (4, [.int mm, .ref (zk 0), .int 0]))]) [1, 2] rfl
  have hDc := hD.sub (ws' := [(mo, .inr (9, [.int 0, .ref am, .int 0, .int 0, .int 0])), (am, .inr (4, [.int mm, .ref (zk 0), .int 0]))]) [1, 2] (by decide) rfl
  have hFc := va_free (wc := [(mo, .inr (9, [.int 0, .ref am, .int 0, .int 0, .int 0])), (am, .inr (4, [.int mm, .ref (zk 0), .int 0]))]) hD hS hA [1, 2] rfl
  have hDv := hDc.self (sz := H5.size)
  have hpre := zpre (xs' := []) (av := [.ref mo, .int p0, .int p1]) hPc hK (hDc.weaken (fun _ _ _ h => h)) hZ hS hFc (fun r hr => by cases hr)
  refine va_calli (va_runV (As := [.int p0, .int p1]) (rest := []) ⟨hx, hb, hml, hown, hts⟩ (k_fillRowM l dC dI cI cB cR cO zk mo am (.int 0) (.int 0) (.int 0) (.int 0) mm p0 p1 H5.size ) (cwV 2 hts gL_law_X4_fillRow rfl rfl rfl (by decide +kernel) ⟨Nat.le_of_ble_eq_true rfl, Nat.le_of_ble_eq_true rfl⟩) ⟨zblind, (zrecv_9 hK hPc (q0 := 0) rfl), hpre⟩ rfl rfl hl.1 rfl (lv_room (Nat.le_of_ble_eq_true rfl)) dL_law_805 ⟨Nat.le_of_ble_eq_true rfl, Nat.le_of_ble_eq_true rfl⟩) hS (fun q _ h => hFc q h) hFc (fun r12 u t H11 locs ht hvm hw hB hz1 hk1 hS => ?_)
  obtain ⟨hP1, hK1, hD1, hz2⟩ := hB
  rw [ht] at hP1 hz2
  have hPD9 := va_join (wr := [(ou, .inr (7, [.long 0, .null])), (xo, .inr (6, [.ref al, .int 0, .int 0, .int 0, x4, x5, .ref b1, x7])), (al, .inr (4, [.int mc, .ref (zk 0), .int 0]))]) (w1 := [(mo, .inr (9, [.int 1, .ref am, .int 0, .int 0, .int 0])), (am, .inr (4, [.int mm, .ref (zk 0), .int 0]))]) hP hD [1, 2] [0, 3, 4] rfl rfl (by decide) (by decide) hk1 hFc hP1 hD1
  clear hPc hDc hFc hDv hpre hP hD hP1 hK1 hD1
  obtain ⟨hP, hD⟩ := hPD9
  replace hz : s.heap.size + 0 ≤ H11.size := by omega
  clear hz2
  replace hP : va_P (dC, dI) vwCl [(ou, .inr (7, [.long 0, .null])), (xo, .inr (6, [.ref al, .int 0, .int 0, .int 0, x4, x5, .ref b1, x7])), (al, .inr (4, [.int mc, .ref (zk 0), .int 0])), (mo, .inr (9, [.int 1, .ref am, .int 0, .int 0, .int 0])), (am, .inr (4, [.int mm, .ref (zk 0), .int 0]))] H11 := hP
  replace hD : va_D A [(ou, .inr (7, [.long 0, .null])), (xo, .inr (6, [.ref al, .int 0, .int 0, .int 0, x4, x5, .ref b1, x7])), (al, .inr (4, [.int mc, .ref (zk 0), .int 0])), (mo, .inr (9, [.int 1, .ref am, .int 0, .int 0, .int 0])), (am, .inr (4, [.int mm, .ref (zk 0), .int 0]))] := hD
  refine W.widen (k := 18) (n := 85) (by omega) (by omega) ?_
  refine lv_istore (lv' := [(6, .int r12), (5, .int 1), (4, .int 0), (3, .ref ou), (2, .ref mo), (1, .ref xo), (0, .ref b)]) hx hb dL_law_808 hl (by decide) rfl (fun ls hl => ?_)
  refine lv_aload_n hx hb dL_law_810 rfl (lv_at hl 4 rfl) ?_
  have hPc := hP.sub (ws' := [(mo, .inr (9, [.int 1, .ref am, .int 0, .int 0, .int 0]))]) [3] rfl
  have hDc := hD.sub (ws' := [(mo, .inr (9, [.int 1, .ref am, .int 0, .int 0, .int 0]))]) [3] (by decide) rfl
  have hFc := va_free (wc := [(mo, .inr (9, [.int 1, .ref am, .int 0, .int 0, .int 0]))]) hD hS hA [3] rfl
  have hDv := hDc.self (sz := H11.size)
  have hpre := zpre (xs' := []) (av := [.ref mo]) hPc hK (hDc.weaken (fun _ _ _ h => h)) hZ hS hFc (fun r hr => by cases hr)
  refine va_calli (va_runV (As := []) (rest := []) ⟨hx, hb, hml, hown, hts⟩ (k_thz l dC dI cI cB cR cO zk mo am (.int 0) (.int 0) (.int 0) H11.size ) (cwV 0 hts gL_law_X4_thrown rfl rfl rfl (by decide +kernel) ⟨Nat.le_of_ble_eq_true rfl, Nat.le_of_ble_eq_true rfl⟩) ⟨zblind, (zrecv_9 hK hPc (q0 := 0) rfl), hpre⟩ rfl rfl hl.1 rfl (lv_room (Nat.le_of_ble_eq_true rfl)) dL_law_811 ⟨Nat.le_of_ble_eq_true rfl, Nat.le_of_ble_eq_true rfl⟩) hS (fun q _ h => hFc q h) hFc (fun r14 u t H13 locs ht hvm hw hB hz1 hk1 hS => ?_)
  obtain rfl : 1 = r14 := (show r14 = 1 from hw).symm
  obtain ⟨hP1, hK1, hD1, hz2⟩ := hB
  rw [ht] at hP1 hz2
  have hPD9 := va_join (wr := [(ou, .inr (7, [.long 0, .null])), (xo, .inr (6, [.ref al, .int 0, .int 0, .int 0, x4, x5, .ref b1, x7])), (al, .inr (4, [.int mc, .ref (zk 0), .int 0])), (am, .inr (4, [.int mm, .ref (zk 0), .int 0]))]) (w1 := [(mo, .inr (9, [.int 1, .ref am, .int 0, .int 0, .int 0]))]) hP hD [3] [0, 1, 2, 4] rfl rfl (by decide) (by decide) hk1 hFc hP1 hD1
  clear hPc hDc hFc hDv hpre hP hD hP1 hK1 hD1
  obtain ⟨hP, hD⟩ := hPD9
  replace hz : s.heap.size + 0 ≤ H13.size := by omega
  clear hz2
  replace hP : va_P (dC, dI) vwCl [(ou, .inr (7, [.long 0, .null])), (xo, .inr (6, [.ref al, .int 0, .int 0, .int 0, x4, x5, .ref b1, x7])), (al, .inr (4, [.int mc, .ref (zk 0), .int 0])), (am, .inr (4, [.int mm, .ref (zk 0), .int 0])), (mo, .inr (9, [.int 1, .ref am, .int 0, .int 0, .int 0]))] H13 := hP
  replace hD : va_D A [(ou, .inr (7, [.long 0, .null])), (xo, .inr (6, [.ref al, .int 0, .int 0, .int 0, x4, x5, .ref b1, x7])), (al, .inr (4, [.int mc, .ref (zk 0), .int 0])), (am, .inr (4, [.int mm, .ref (zk 0), .int 0])), (mo, .inr (9, [.int 1, .ref am, .int 0, .int 0, .int 0]))] := hD
  refine W.widen (k := 18) (n := 85) (by omega) (by omega) ?_
  refine lv_iload hx hb dL_law_814 (lv_at hl 1 rfl) ?_
  refine lv_icmp_eq (tgt := 821) hx hb dL_law_816 (by decide) (fun c9 => ?_) (fun c9 => ?_)
  rotate_left
  · exact absurd (by decide) c9
  refine lv_iload hx hb dL_law_821 (lv_at hl 1 rfl) ?_
  refine lv_if_ne (tgt := 839) hx hb dL_law_823 (by decide) (fun c9 => ?_) (fun c9 => ?_)
  rotate_left
  · exact absurd c9 (by decide)
  refine lv_goto (tgt := 2155) hx hb dL_law_839 (by decide) ?_
  rw [hAd] at hS
  exact zl_tail l dC dI cI cB cR cO zk b xs C1 hZ0 hK hS (Nat.le_of_ble_eq_true rfl) (Nat.le_of_ble_eq_true rfl) ls (lv_sub hl [6, 2] rfl)

set_option maxHeartbeats 4000000 in
set_option maxRecDepth 100000 in
theorem zl_a_setAll (l : Launch) (dC : Nat → ClassId) (dI : Nat → Nat → Nat) (cI cB cR cO : ClassId) (zk : Nat → Nat) {p : Program} {e : Env} {s : State} {mY : MethodId} {below : List Frame} {meth : Method} {c : Code} (b : Nat) (xs : Nat → Int32) (hfl : l.stackTraces = false) (C0 : zl_At p s mY meth c b 5 xs) (hZ0 : zR zk [] (fun q => s.heap.size ≤ q) s s.heap) (hK : va_K (dC, dI) vwCl (zT cI cB cR cO) s) (ou xo al b1 : Nat) (x4 x5 x7 : Value) (mc : Int32) (mo am : Nat) (mm : Int32)  (p0 p1 p2 p3 : Int32) (h1 : xs 1 = p0) (h2 : xs 2 = p1) (h3 : xs 3 = p2) (h4 : xs 4 = p3)  (H : Heap) (locs : List Loc) (hP : va_P (dC, dI) vwCl [(ou, .inr (7, [.long 0, .null])), (xo, .inr (6, [.ref al, .int 0, .int 0, .int 0, x4, x5, .ref b1, x7])), (al, .inr (4, [.int mc, .ref (zk 0), .int 0])), (mo, .inr (9, [.int 0, .ref am, .int 0, .int 0, .int 0])), (am, .inr (4, [.int mm, .ref (zk 0), .int 0]))] H) (hD : va_D (fun q => s.heap.size ≤ q) [(ou, .inr (7, [.long 0, .null])), (xo, .inr (6, [.ref al, .int 0, .int 0, .int 0, x4, x5, .ref b1, x7])), (al, .inr (4, [.int mc, .ref (zk 0), .int 0])), (mo, .inr (9, [.int 0, .ref am, .int 0, .int 0, .int 0])), (am, .inr (4, [.int mm, .ref (zk 0), .int 0]))]) (hS : va_S (fun q => s.heap.size ≤ q) s.heap H locs) (ls : Array Slot) (hl : lv_has ls 7 [(4, .int 0), (3, .ref ou), (2, .ref mo), (1, .ref xo), (0, .ref b)]) : W p l e room_1 s mY #[Value.ref b] below meth c H locs 17 79 (lw_Z below #[Value.ref b] s) (F0 mY 842 ls []) := by
  have C1 := C0
  obtain ⟨hx, hb, hr, hml, hown, hts0, hX, hbl, hlocks, hNI⟩ := C0
  have hts := fun (w : Cond) (h : w ∈ wsL_law) => hts0 w (wsL_law_in w h)
  obtain ⟨A, hAd⟩ : ∃ A : Nat → Prop, A = fun q => s.heap.size ≤ q := ⟨_, rfl⟩
  have hA : ∀ q : Nat, s.heap.size ≤ q → A q := fun q h => by rw [hAd]; exact h
  have hAf : ∀ q : Nat, A q → s.heap.size ≤ q := fun q h => by rw [hAd] at h; exact h
  have hbA : ¬ A b := fun h => absurd (hAf b h) (Nat.not_le.mpr hbl)
  have hZ : zR zk [] A s s.heap := by rw [hAd]; exact hZ0
  rw [← hAd] at hD hS
  replace hP : va_P (dC, dI) vwCl [(ou, .inr (7, [.long 0, .null])), (xo, .inr (6, [.ref al, .int 0, .int 0, .int 0, x4, x5, .ref b1, x7])), (al, .inr (4, [.int mc, .ref (zk 0), .int 0])), (mo, .inr (9, [.int 0, .ref am, .int 0, .int 0, .int 0])), (am, .inr (4, [.int mm, .ref (zk 0), .int 0]))] H := hP
  replace hD : va_D A [(ou, .inr (7, [.long 0, .null])), (xo, .inr (6, [.ref al, .int 0, .int 0, .int 0, x4, x5, .ref b1, x7])), (al, .inr (4, [.int mc, .ref (zk 0), .int 0])), (mo, .inr (9, [.int 0, .ref am, .int 0, .int 0, .int 0])), (am, .inr (4, [.int mm, .ref (zk 0), .int 0]))] := hD
  have hz : s.heap.size + 0 ≤ H.size := hS.1
  refine lv_aload_n hx hb dL_law_842 rfl (lv_at hl 3 rfl) ?_
  refine lv_aload_n hx hb dL_law_843 rfl (lv_at hl 4 rfl) ?_
  refine lv_iload hx hb dL_law_844 (lv_at hl 0 rfl) ?_
  refine lv_iconst (v := 1) hx hb dL_law_846 (by decide) ?_
  refine lv_iadd hx hb dL_law_847 ?_
  refine lv_topi (fun v1 ev1 => ?_)
  obtain rfl : v1 = 1 := ev1.trans (by decide)
  refine va_sld hx hb hX hbl hbA hS (by unfold vp_in; decide) dL_law_848 ?_
  refine lv_topi (fun v2 ev2 => ?_)
  have e9 : v2 = p0 := ev2.trans (show xs ((1 : Int32).toNatClampNeg) = p0 from h1)
  clear ev2
  subst v2
  refine lv_aload_n hx hb dL_law_849 rfl (lv_at hl 4 rfl) ?_
  refine lv_iload hx hb dL_law_850 (lv_at hl 0 rfl) ?_
  refine lv_iconst (v := 2) hx hb dL_law_852 (by decide) ?_
  refine lv_iadd hx hb dL_law_853 ?_
  refine lv_topi (fun v3 ev3 => ?_)
  obtain rfl : v3 = 2 := ev3.trans (by decide)
  refine va_sld hx hb hX hbl hbA hS (by unfold vp_in; decide) dL_law_854 ?_
  refine lv_topi (fun v4 ev4 => ?_)
  have e9 : v4 = p1 := ev4.trans (show xs ((2 : Int32).toNatClampNeg) = p1 from h2)
  clear ev4
  subst v4
  refine lv_aload_n hx hb dL_law_855 rfl (lv_at hl 4 rfl) ?_
  refine lv_iload hx hb dL_law_856 (lv_at hl 0 rfl) ?_
  refine lv_iconst (v := 3) hx hb dL_law_858 (by decide) ?_
  refine lv_iadd hx hb dL_law_859 ?_
  refine lv_topi (fun v5 ev5 => ?_)
  obtain rfl : v5 = 3 := ev5.trans (by decide)
  refine va_sld hx hb hX hbl hbA hS (by unfold vp_in; decide) dL_law_860 ?_
  refine lv_topi (fun v6 ev6 => ?_)
  have e9 : v6 = p2 := ev6.trans (show xs ((3 : Int32).toNatClampNeg) = p2 from h3)
  clear ev6
  subst v6
  refine lv_aload_n hx hb dL_law_861 rfl (lv_at hl 4 rfl) ?_
  refine lv_iload hx hb dL_law_862 (lv_at hl 0 rfl) ?_
  refine lv_iconst (v := 4) hx hb dL_law_864 (by decide) ?_
  refine lv_iadd hx hb dL_law_865 ?_
  refine lv_topi (fun v7 ev7 => ?_)
  obtain rfl : v7 = 4 := ev7.trans (by decide)
  refine va_sld hx hb hX hbl hbA hS (by unfold vp_in; decide) dL_law_866 ?_
  refine lv_topi (fun v8 ev8 => ?_)
  have e9 : v8 = p3 := ev8.trans (show xs ((4 : Int32).toNatClampNeg) = p3 from h4)
  clear ev8
  subst v8
  refine lv_aload_n hx hb dL_law_867 rfl (lv_at hl 1 rfl) ?_
  have hPc := hP.sub (ws' := [(xo, .inr (6, [.ref al, .int 0, .int 0, .int 0, x4, x5, .ref b1, x7])), (al, .inr (4, [.int mc, .ref (zk 0), .int 0]))]) [1, 2] rfl
  have hDc := hD.sub (ws' := [(xo, .inr (6, [.ref al, .int 0, .int 0, .int 0, x4, x5, .ref b1, x7])), (al, .inr (4, [.int mc, .ref (zk 0), .int 0]))]) [1, 2] (by decide) rfl
  have hFc := va_free (wc := [(xo, .inr (6, [.ref al, .int 0, .int 0, .int 0, x4, x5, .ref b1, x7])), (al, .inr (4, [.int mc, .ref (zk 0), .int 0]))]) hD hS hA [1, 2] rfl
  have hDv := hDc.self (sz := H.size)
  have hpre := zpre (xs' := []) (av := [.ref xo, .int p0, .int p1, .int p2, .int p3, .ref ou]) hPc hK (hDc.weaken (fun _ _ _ h => h)) hZ hS hFc (fun r hr => by cases hr)
  refine va_calli (vx_runSW (As := [.ref xo, .int p0, .int p1, .int p2, .int p3, .ref ou]) (rest := []) ⟨hx, hb, hml, hown, hts⟩ (k_setAllH l dC dI cI cB cR cO zk hfl xo al b1 (.int 0) (.int 0) (.int 0) x4 x5 x7 mc p0 p1 p2 p3 ou H.size ) (vx_cwSW 6 hts gL_law_L_setAll rfl rfl rfl (by decide +kernel) ⟨Nat.le_of_ble_eq_true rfl, Nat.le_of_ble_eq_true rfl⟩) ⟨zblind, hpre⟩ rfl rfl hl.1 rfl (lv_room (Nat.le_of_ble_eq_true rfl)) dL_law_868 ⟨Nat.le_of_ble_eq_true rfl, Nat.le_of_ble_eq_true rfl⟩) hS (fun q _ h => hFc q h) hFc (fun r10 u t H9 locs ht hvm hw hB hz1 hk1 hS => ?_)
  obtain rfl : 1 = r10 := (show r10 = 1 from hw).symm
  obtain ⟨hP1, hK1, hD1, hz2⟩ := hB
  rw [ht] at hP1 hz2
  have hPD9 := va_join (wr := [(ou, .inr (7, [.long 0, .null])), (mo, .inr (9, [.int 0, .ref am, .int 0, .int 0, .int 0])), (am, .inr (4, [.int mm, .ref (zk 0), .int 0]))]) (w1 := [(xo, .inr (6, [.ref al, .int 0, .int 0, .int 0, x4, x5, .ref b1, x7])), (al, .inr (4, [.int mc, .ref (zk 0), .int 0]))]) hP hD [1, 2] [0, 3, 4] rfl rfl (by decide) (by decide) hk1 hFc hP1 hD1
  clear hPc hDc hFc hDv hpre hP hD hP1 hK1 hD1
  obtain ⟨hP, hD⟩ := hPD9
  replace hz : s.heap.size + 0 ≤ H9.size := by omega
  clear hz2
  replace hP : va_P (dC, dI) vwCl [(ou, .inr (7, [.long 0, .null])), (mo, .inr (9, [.int 0, .ref am, .int 0, .int 0, .int 0])), (am, .inr (4, [.int mm, .ref (zk 0), .int 0])), (xo, .inr (6, [.ref al, .int 0, .int 0, .int 0, x4, x5, .ref b1, x7])), (al, .inr (4, [.int mc, .ref (zk 0), .int 0]))] H9 := hP
  replace hD : va_D A [(ou, .inr (7, [.long 0, .null])), (mo, .inr (9, [.int 0, .ref am, .int 0, .int 0, .int 0])), (am, .inr (4, [.int mm, .ref (zk 0), .int 0])), (xo, .inr (6, [.ref al, .int 0, .int 0, .int 0, x4, x5, .ref b1, x7])), (al, .inr (4, [.int mc, .ref (zk 0), .int 0]))] := hD
  refine W.widen (k := 18) (n := 85) (by omega) (by omega) ?_
  refine lv_istore (lv' := [(5, .int 1), (4, .int 0), (3, .ref ou), (2, .ref mo), (1, .ref xo), (0, .ref b)]) hx hb dL_law_871 hl (by decide) rfl (fun ls hl => ?_)
  refine lv_aload_n hx hb dL_law_873 rfl (lv_at hl 3 rfl) ?_
  refine lv_aload_n hx hb dL_law_874 rfl (lv_at hl 5 rfl) ?_
  refine lv_iload hx hb dL_law_875 (lv_at hl 1 rfl) ?_
  refine lv_iconst (v := 1) hx hb dL_law_877 (by decide) ?_
  refine lv_iadd hx hb dL_law_878 ?_
  refine lv_topi (fun v11 ev11 => ?_)
  obtain rfl : v11 = 1 := ev11.trans (by decide)
  refine va_sld hx hb hX hbl hbA hS (by unfold vp_in; decide) dL_law_879 ?_
  refine lv_topi (fun v12 ev12 => ?_)
  have e9 : v12 = p0 := ev12.trans (show xs ((1 : Int32).toNatClampNeg) = p0 from h1)
  clear ev12
  subst v12
  refine lv_aload_n hx hb dL_law_880 rfl (lv_at hl 5 rfl) ?_
  refine lv_iload hx hb dL_law_881 (lv_at hl 1 rfl) ?_
  refine lv_iconst (v := 2) hx hb dL_law_883 (by decide) ?_
  refine lv_iadd hx hb dL_law_884 ?_
  refine lv_topi (fun v13 ev13 => ?_)
  obtain rfl : v13 = 2 := ev13.trans (by decide)
  refine va_sld hx hb hX hbl hbA hS (by unfold vp_in; decide) dL_law_885 ?_
  refine lv_topi (fun v14 ev14 => ?_)
  have e9 : v14 = p1 := ev14.trans (show xs ((2 : Int32).toNatClampNeg) = p1 from h2)
  clear ev14
  subst v14
  refine lv_aload_n hx hb dL_law_886 rfl (lv_at hl 5 rfl) ?_
  refine lv_iload hx hb dL_law_887 (lv_at hl 1 rfl) ?_
  refine lv_iconst (v := 3) hx hb dL_law_889 (by decide) ?_
  refine lv_iadd hx hb dL_law_890 ?_
  refine lv_topi (fun v15 ev15 => ?_)
  obtain rfl : v15 = 3 := ev15.trans (by decide)
  refine va_sld hx hb hX hbl hbA hS (by unfold vp_in; decide) dL_law_891 ?_
  refine lv_topi (fun v16 ev16 => ?_)
  have e9 : v16 = p2 := ev16.trans (show xs ((3 : Int32).toNatClampNeg) = p2 from h3)
  clear ev16
  subst v16
  refine lv_aload_n hx hb dL_law_892 rfl (lv_at hl 5 rfl) ?_
  refine lv_iload hx hb dL_law_893 (lv_at hl 1 rfl) ?_
  refine lv_iconst (v := 4) hx hb dL_law_895 (by decide) ?_
  refine lv_iadd hx hb dL_law_896 ?_
  refine lv_topi (fun v17 ev17 => ?_)
  obtain rfl : v17 = 4 := ev17.trans (by decide)
  refine va_sld hx hb hX hbl hbA hS (by unfold vp_in; decide) dL_law_897 ?_
  refine lv_topi (fun v18 ev18 => ?_)
  have e9 : v18 = p3 := ev18.trans (show xs ((4 : Int32).toNatClampNeg) = p3 from h4)
  clear ev18
  subst v18
  have hPc := hP.sub (ws' := [(mo, .inr (9, [.int 0, .ref am, .int 0, .int 0, .int 0])), (am, .inr (4, [.int mm, .ref (zk 0), .int 0]))]) [1, 2] rfl
  have hDc := hD.sub (ws' := [(mo, .inr (9, [.int 0, .ref am, .int 0, .int 0, .int 0])), (am, .inr (4, [.int mm, .ref (zk 0), .int 0]))]) [1, 2] (by decide) rfl
  have hFc := va_free (wc := [(mo, .inr (9, [.int 0, .ref am, .int 0, .int 0, .int 0])), (am, .inr (4, [.int mm, .ref (zk 0), .int 0]))]) hD hS hA [1, 2] rfl
  have hDv := hDc.self (sz := H9.size)
  have hpre := zpre (xs' := []) (av := [.ref mo, .int p0, .int p1, .int p2, .int p3]) hPc hK (hDc.weaken (fun _ _ _ h => h)) hZ hS hFc (fun r hr => by cases hr)
  refine va_calli (va_runV (As := [.int p0, .int p1, .int p2, .int p3]) (rest := []) ⟨hx, hb, hml, hown, hts⟩ (k_setAllM l dC dI cI cB cR cO zk mo am (.int 0) (.int 0) (.int 0) (.int 0) mm p0 p1 p2 p3 H9.size ) (cwV 4 hts gL_law_X4_setAll rfl rfl rfl (by decide +kernel) ⟨Nat.le_of_ble_eq_true rfl, Nat.le_of_ble_eq_true rfl⟩) ⟨zblind, (zrecv_9 hK hPc (q0 := 0) rfl), hpre⟩ rfl rfl hl.1 rfl (lv_room (Nat.le_of_ble_eq_true rfl)) dL_law_898 ⟨Nat.le_of_ble_eq_true rfl, Nat.le_of_ble_eq_true rfl⟩) hS (fun q _ h => hFc q h) hFc (fun r20 u t H19 locs ht hvm hw hB hz1 hk1 hS => ?_)
  obtain ⟨hP1, hK1, hD1, hz2⟩ := hB
  rw [ht] at hP1 hz2
  have hPD9 := va_join (wr := [(ou, .inr (7, [.long 0, .null])), (xo, .inr (6, [.ref al, .int 0, .int 0, .int 0, x4, x5, .ref b1, x7])), (al, .inr (4, [.int mc, .ref (zk 0), .int 0]))]) (w1 := [(mo, .inr (9, [.int 1, .ref am, .int 0, .int 0, .int 0])), (am, .inr (4, [.int mm, .ref (zk 0), .int 0]))]) hP hD [1, 2] [0, 3, 4] rfl rfl (by decide) (by decide) hk1 hFc hP1 hD1
  clear hPc hDc hFc hDv hpre hP hD hP1 hK1 hD1
  obtain ⟨hP, hD⟩ := hPD9
  replace hz : s.heap.size + 0 ≤ H19.size := by omega
  clear hz2
  replace hP : va_P (dC, dI) vwCl [(ou, .inr (7, [.long 0, .null])), (xo, .inr (6, [.ref al, .int 0, .int 0, .int 0, x4, x5, .ref b1, x7])), (al, .inr (4, [.int mc, .ref (zk 0), .int 0])), (mo, .inr (9, [.int 1, .ref am, .int 0, .int 0, .int 0])), (am, .inr (4, [.int mm, .ref (zk 0), .int 0]))] H19 := hP
  replace hD : va_D A [(ou, .inr (7, [.long 0, .null])), (xo, .inr (6, [.ref al, .int 0, .int 0, .int 0, x4, x5, .ref b1, x7])), (al, .inr (4, [.int mc, .ref (zk 0), .int 0])), (mo, .inr (9, [.int 1, .ref am, .int 0, .int 0, .int 0])), (am, .inr (4, [.int mm, .ref (zk 0), .int 0]))] := hD
  refine W.widen (k := 18) (n := 85) (by omega) (by omega) ?_
  refine lv_istore (lv' := [(6, .int r20), (5, .int 1), (4, .int 0), (3, .ref ou), (2, .ref mo), (1, .ref xo), (0, .ref b)]) hx hb dL_law_901 hl (by decide) rfl (fun ls hl => ?_)
  refine lv_aload_n hx hb dL_law_903 rfl (lv_at hl 4 rfl) ?_
  have hPc := hP.sub (ws' := [(mo, .inr (9, [.int 1, .ref am, .int 0, .int 0, .int 0]))]) [3] rfl
  have hDc := hD.sub (ws' := [(mo, .inr (9, [.int 1, .ref am, .int 0, .int 0, .int 0]))]) [3] (by decide) rfl
  have hFc := va_free (wc := [(mo, .inr (9, [.int 1, .ref am, .int 0, .int 0, .int 0]))]) hD hS hA [3] rfl
  have hDv := hDc.self (sz := H19.size)
  have hpre := zpre (xs' := []) (av := [.ref mo]) hPc hK (hDc.weaken (fun _ _ _ h => h)) hZ hS hFc (fun r hr => by cases hr)
  refine va_calli (va_runV (As := []) (rest := []) ⟨hx, hb, hml, hown, hts⟩ (k_thz l dC dI cI cB cR cO zk mo am (.int 0) (.int 0) (.int 0) H19.size ) (cwV 0 hts gL_law_X4_thrown rfl rfl rfl (by decide +kernel) ⟨Nat.le_of_ble_eq_true rfl, Nat.le_of_ble_eq_true rfl⟩) ⟨zblind, (zrecv_9 hK hPc (q0 := 0) rfl), hpre⟩ rfl rfl hl.1 rfl (lv_room (Nat.le_of_ble_eq_true rfl)) dL_law_904 ⟨Nat.le_of_ble_eq_true rfl, Nat.le_of_ble_eq_true rfl⟩) hS (fun q _ h => hFc q h) hFc (fun r22 u t H21 locs ht hvm hw hB hz1 hk1 hS => ?_)
  obtain rfl : 1 = r22 := (show r22 = 1 from hw).symm
  obtain ⟨hP1, hK1, hD1, hz2⟩ := hB
  rw [ht] at hP1 hz2
  have hPD9 := va_join (wr := [(ou, .inr (7, [.long 0, .null])), (xo, .inr (6, [.ref al, .int 0, .int 0, .int 0, x4, x5, .ref b1, x7])), (al, .inr (4, [.int mc, .ref (zk 0), .int 0])), (am, .inr (4, [.int mm, .ref (zk 0), .int 0]))]) (w1 := [(mo, .inr (9, [.int 1, .ref am, .int 0, .int 0, .int 0]))]) hP hD [3] [0, 1, 2, 4] rfl rfl (by decide) (by decide) hk1 hFc hP1 hD1
  clear hPc hDc hFc hDv hpre hP hD hP1 hK1 hD1
  obtain ⟨hP, hD⟩ := hPD9
  replace hz : s.heap.size + 0 ≤ H21.size := by omega
  clear hz2
  replace hP : va_P (dC, dI) vwCl [(ou, .inr (7, [.long 0, .null])), (xo, .inr (6, [.ref al, .int 0, .int 0, .int 0, x4, x5, .ref b1, x7])), (al, .inr (4, [.int mc, .ref (zk 0), .int 0])), (am, .inr (4, [.int mm, .ref (zk 0), .int 0])), (mo, .inr (9, [.int 1, .ref am, .int 0, .int 0, .int 0]))] H21 := hP
  replace hD : va_D A [(ou, .inr (7, [.long 0, .null])), (xo, .inr (6, [.ref al, .int 0, .int 0, .int 0, x4, x5, .ref b1, x7])), (al, .inr (4, [.int mc, .ref (zk 0), .int 0])), (am, .inr (4, [.int mm, .ref (zk 0), .int 0])), (mo, .inr (9, [.int 1, .ref am, .int 0, .int 0, .int 0]))] := hD
  refine W.widen (k := 18) (n := 85) (by omega) (by omega) ?_
  refine lv_iload hx hb dL_law_907 (lv_at hl 1 rfl) ?_
  refine lv_icmp_eq (tgt := 914) hx hb dL_law_909 (by decide) (fun c9 => ?_) (fun c9 => ?_)
  rotate_left
  · exact absurd (by decide) c9
  refine lv_iload hx hb dL_law_914 (lv_at hl 1 rfl) ?_
  refine lv_if_ne (tgt := 932) hx hb dL_law_916 (by decide) (fun c9 => ?_) (fun c9 => ?_)
  rotate_left
  · exact absurd c9 (by decide)
  refine lv_goto (tgt := 2155) hx hb dL_law_932 (by decide) ?_
  rw [hAd] at hS
  exact zl_tail l dC dI cI cB cR cO zk b xs C1 hZ0 hK hS (Nat.le_of_ble_eq_true rfl) (Nat.le_of_ble_eq_true rfl) ls (lv_sub hl [6, 2] rfl)

set_option maxHeartbeats 4000000 in
set_option maxRecDepth 100000 in
theorem zl_a_setRows (l : Launch) (dC : Nat → ClassId) (dI : Nat → Nat → Nat) (cI cB cR cO : ClassId) (zk : Nat → Nat) {p : Program} {e : Env} {s : State} {mY : MethodId} {below : List Frame} {meth : Method} {c : Code} (b : Nat) (xs : Nat → Int32) (hfl : l.stackTraces = false) (C0 : zl_At p s mY meth c b 5 xs) (hZ0 : zR zk [] (fun q => s.heap.size ≤ q) s s.heap) (hK : va_K (dC, dI) vwCl (zT cI cB cR cO) s) (ou xo al b1 : Nat) (x4 x5 x7 : Value) (mc : Int32) (mo am : Nat) (mm : Int32)  (p0 p1 : Int32) (h1 : xs 1 = p0) (h2 : xs 2 = p1)  (H : Heap) (locs : List Loc) (hP : va_P (dC, dI) vwCl [(ou, .inr (7, [.long 0, .null])), (xo, .inr (6, [.ref al, .int 0, .int 0, .int 0, x4, x5, .ref b1, x7])), (al, .inr (4, [.int mc, .ref (zk 0), .int 0])), (mo, .inr (9, [.int 0, .ref am, .int 0, .int 0, .int 0])), (am, .inr (4, [.int mm, .ref (zk 0), .int 0]))] H) (hD : va_D (fun q => s.heap.size ≤ q) [(ou, .inr (7, [.long 0, .null])), (xo, .inr (6, [.ref al, .int 0, .int 0, .int 0, x4, x5, .ref b1, x7])), (al, .inr (4, [.int mc, .ref (zk 0), .int 0])), (mo, .inr (9, [.int 0, .ref am, .int 0, .int 0, .int 0])), (am, .inr (4, [.int mm, .ref (zk 0), .int 0]))]) (hS : va_S (fun q => s.heap.size ≤ q) s.heap H locs) (ls : Array Slot) (hl : lv_has ls 7 [(4, .int 0), (3, .ref ou), (2, .ref mo), (1, .ref xo), (0, .ref b)]) : W p l e room_1 s mY #[Value.ref b] below meth c H locs 17 79 (lw_Z below #[Value.ref b] s) (F0 mY 935 ls []) := by
  have C1 := C0
  obtain ⟨hx, hb, hr, hml, hown, hts0, hX, hbl, hlocks, hNI⟩ := C0
  have hts := fun (w : Cond) (h : w ∈ wsL_law) => hts0 w (wsL_law_in w h)
  obtain ⟨A, hAd⟩ : ∃ A : Nat → Prop, A = fun q => s.heap.size ≤ q := ⟨_, rfl⟩
  have hA : ∀ q : Nat, s.heap.size ≤ q → A q := fun q h => by rw [hAd]; exact h
  have hAf : ∀ q : Nat, A q → s.heap.size ≤ q := fun q h => by rw [hAd] at h; exact h
  have hbA : ¬ A b := fun h => absurd (hAf b h) (Nat.not_le.mpr hbl)
  have hZ : zR zk [] A s s.heap := by rw [hAd]; exact hZ0
  rw [← hAd] at hD hS
  replace hP : va_P (dC, dI) vwCl [(ou, .inr (7, [.long 0, .null])), (xo, .inr (6, [.ref al, .int 0, .int 0, .int 0, x4, x5, .ref b1, x7])), (al, .inr (4, [.int mc, .ref (zk 0), .int 0])), (mo, .inr (9, [.int 0, .ref am, .int 0, .int 0, .int 0])), (am, .inr (4, [.int mm, .ref (zk 0), .int 0]))] H := hP
  replace hD : va_D A [(ou, .inr (7, [.long 0, .null])), (xo, .inr (6, [.ref al, .int 0, .int 0, .int 0, x4, x5, .ref b1, x7])), (al, .inr (4, [.int mc, .ref (zk 0), .int 0])), (mo, .inr (9, [.int 0, .ref am, .int 0, .int 0, .int 0])), (am, .inr (4, [.int mm, .ref (zk 0), .int 0]))] := hD
  have hz : s.heap.size + 0 ≤ H.size := hS.1
  refine lv_aload_n hx hb dL_law_935 rfl (lv_at hl 3 rfl) ?_
  refine lv_aload_n hx hb dL_law_936 rfl (lv_at hl 4 rfl) ?_
  refine lv_iload hx hb dL_law_937 (lv_at hl 0 rfl) ?_
  refine lv_iconst (v := 1) hx hb dL_law_939 (by decide) ?_
  refine lv_iadd hx hb dL_law_940 ?_
  refine lv_topi (fun v1 ev1 => ?_)
  obtain rfl : v1 = 1 := ev1.trans (by decide)
  refine va_sld hx hb hX hbl hbA hS (by unfold vp_in; decide) dL_law_941 ?_
  refine lv_topi (fun v2 ev2 => ?_)
  have e9 : v2 = p0 := ev2.trans (show xs ((1 : Int32).toNatClampNeg) = p0 from h1)
  clear ev2
  subst v2
  refine lv_aload_n hx hb dL_law_942 rfl (lv_at hl 4 rfl) ?_
  refine lv_iload hx hb dL_law_943 (lv_at hl 0 rfl) ?_
  refine lv_iconst (v := 2) hx hb dL_law_945 (by decide) ?_
  refine lv_iadd hx hb dL_law_946 ?_
  refine lv_topi (fun v3 ev3 => ?_)
  obtain rfl : v3 = 2 := ev3.trans (by decide)
  refine va_sld hx hb hX hbl hbA hS (by unfold vp_in; decide) dL_law_947 ?_
  refine lv_topi (fun v4 ev4 => ?_)
  have e9 : v4 = p1 := ev4.trans (show xs ((2 : Int32).toNatClampNeg) = p1 from h2)
  clear ev4
  subst v4
  refine lv_aload_n hx hb dL_law_948 rfl (lv_at hl 1 rfl) ?_
  have hPc := hP.sub (ws' := [(xo, .inr (6, [.ref al, .int 0, .int 0, .int 0, x4, x5, .ref b1, x7])), (al, .inr (4, [.int mc, .ref (zk 0), .int 0]))]) [1, 2] rfl
  have hDc := hD.sub (ws' := [(xo, .inr (6, [.ref al, .int 0, .int 0, .int 0, x4, x5, .ref b1, x7])), (al, .inr (4, [.int mc, .ref (zk 0), .int 0]))]) [1, 2] (by decide) rfl
  have hFc := va_free (wc := [(xo, .inr (6, [.ref al, .int 0, .int 0, .int 0, x4, x5, .ref b1, x7])), (al, .inr (4, [.int mc, .ref (zk 0), .int 0]))]) hD hS hA [1, 2] rfl
  have hDv := hDc.self (sz := H.size)
  have hpre := zpre (xs' := []) (av := [.ref xo, .int p0, .int p1, .ref ou]) hPc hK (hDc.weaken (fun _ _ _ h => h)) hZ hS hFc (fun r hr => by cases hr)
  refine va_calli (vx_runSW (As := [.ref xo, .int p0, .int p1, .ref ou]) (rest := []) ⟨hx, hb, hml, hown, hts⟩ (k_setRowsH l dC dI cI cB cR cO zk hfl xo al b1 (.int 0) (.int 0) (.int 0) x4 x5 x7 mc p0 p1 ou H.size ) (vx_cwSW 4 hts gL_law_L_setRows rfl rfl rfl (by decide +kernel) ⟨Nat.le_of_ble_eq_true rfl, Nat.le_of_ble_eq_true rfl⟩) ⟨zblind, hpre⟩ rfl rfl hl.1 rfl (lv_room (Nat.le_of_ble_eq_true rfl)) dL_law_949 ⟨Nat.le_of_ble_eq_true rfl, Nat.le_of_ble_eq_true rfl⟩) hS (fun q _ h => hFc q h) hFc (fun r6 u t H5 locs ht hvm hw hB hz1 hk1 hS => ?_)
  obtain rfl : 1 = r6 := (show r6 = 1 from hw).symm
  obtain ⟨hP1, hK1, hD1, hz2⟩ := hB
  rw [ht] at hP1 hz2
  have hPD9 := va_join (wr := [(ou, .inr (7, [.long 0, .null])), (mo, .inr (9, [.int 0, .ref am, .int 0, .int 0, .int 0])), (am, .inr (4, [.int mm, .ref (zk 0), .int 0]))]) (w1 := [(xo, .inr (6, [.ref al, .int 0, .int 0, .int 0, x4, x5, .ref b1, x7])), (al, .inr (4, [.int mc, .ref (zk 0), .int 0]))]) hP hD [1, 2] [0, 3, 4] rfl rfl (by decide) (by decide) hk1 hFc hP1 hD1
  clear hPc hDc hFc hDv hpre hP hD hP1 hK1 hD1
  obtain ⟨hP, hD⟩ := hPD9
  replace hz : s.heap.size + 0 ≤ H5.size := by omega
  clear hz2
  replace hP : va_P (dC, dI) vwCl [(ou, .inr (7, [.long 0, .null])), (mo, .inr (9, [.int 0, .ref am, .int 0, .int 0, .int 0])), (am, .inr (4, [.int mm, .ref (zk 0), .int 0])), (xo, .inr (6, [.ref al, .int 0, .int 0, .int 0, x4, x5, .ref b1, x7])), (al, .inr (4, [.int mc, .ref (zk 0), .int 0]))] H5 := hP
  replace hD : va_D A [(ou, .inr (7, [.long 0, .null])), (mo, .inr (9, [.int 0, .ref am, .int 0, .int 0, .int 0])), (am, .inr (4, [.int mm, .ref (zk 0), .int 0])), (xo, .inr (6, [.ref al, .int 0, .int 0, .int 0, x4, x5, .ref b1, x7])), (al, .inr (4, [.int mc, .ref (zk 0), .int 0]))] := hD
  refine W.widen (k := 18) (n := 85) (by omega) (by omega) ?_
  refine lv_istore (lv' := [(5, .int 1), (4, .int 0), (3, .ref ou), (2, .ref mo), (1, .ref xo), (0, .ref b)]) hx hb dL_law_952 hl (by decide) rfl (fun ls hl => ?_)
  refine lv_aload_n hx hb dL_law_954 rfl (lv_at hl 3 rfl) ?_
  refine lv_aload_n hx hb dL_law_955 rfl (lv_at hl 5 rfl) ?_
  refine lv_iload hx hb dL_law_956 (lv_at hl 1 rfl) ?_
  refine lv_iconst (v := 1) hx hb dL_law_958 (by decide) ?_
  refine lv_iadd hx hb dL_law_959 ?_
  refine lv_topi (fun v7 ev7 => ?_)
  obtain rfl : v7 = 1 := ev7.trans (by decide)
  refine va_sld hx hb hX hbl hbA hS (by unfold vp_in; decide) dL_law_960 ?_
  refine lv_topi (fun v8 ev8 => ?_)
  have e9 : v8 = p0 := ev8.trans (show xs ((1 : Int32).toNatClampNeg) = p0 from h1)
  clear ev8
  subst v8
  refine lv_aload_n hx hb dL_law_961 rfl (lv_at hl 5 rfl) ?_
  refine lv_iload hx hb dL_law_962 (lv_at hl 1 rfl) ?_
  refine lv_iconst (v := 2) hx hb dL_law_964 (by decide) ?_
  refine lv_iadd hx hb dL_law_965 ?_
  refine lv_topi (fun v9 ev9 => ?_)
  obtain rfl : v9 = 2 := ev9.trans (by decide)
  refine va_sld hx hb hX hbl hbA hS (by unfold vp_in; decide) dL_law_966 ?_
  refine lv_topi (fun v10 ev10 => ?_)
  have e9 : v10 = p1 := ev10.trans (show xs ((2 : Int32).toNatClampNeg) = p1 from h2)
  clear ev10
  subst v10
  have hPc := hP.sub (ws' := [(mo, .inr (9, [.int 0, .ref am, .int 0, .int 0, .int 0])), (am, .inr (4, [.int mm, .ref (zk 0), .int 0]))]) [1, 2] rfl
  have hDc := hD.sub (ws' := [(mo, .inr (9, [.int 0, .ref am, .int 0, .int 0, .int 0])), (am, .inr (4, [.int mm, .ref (zk 0), .int 0]))]) [1, 2] (by decide) rfl
  have hFc := va_free (wc := [(mo, .inr (9, [.int 0, .ref am, .int 0, .int 0, .int 0])), (am, .inr (4, [.int mm, .ref (zk 0), .int 0]))]) hD hS hA [1, 2] rfl
  have hDv := hDc.self (sz := H5.size)
  have hpre := zpre (xs' := []) (av := [.ref mo, .int p0, .int p1]) hPc hK (hDc.weaken (fun _ _ _ h => h)) hZ hS hFc (fun r hr => by cases hr)
  refine va_calli (va_runV (As := [.int p0, .int p1]) (rest := []) ⟨hx, hb, hml, hown, hts⟩ (k_setRowsM l dC dI cI cB cR cO zk mo am (.int 0) (.int 0) (.int 0) (.int 0) mm p0 p1 H5.size ) (cwV 2 hts gL_law_X4_setRows rfl rfl rfl (by decide +kernel) ⟨Nat.le_of_ble_eq_true rfl, Nat.le_of_ble_eq_true rfl⟩) ⟨zblind, (zrecv_9 hK hPc (q0 := 0) rfl), hpre⟩ rfl rfl hl.1 rfl (lv_room (Nat.le_of_ble_eq_true rfl)) dL_law_967 ⟨Nat.le_of_ble_eq_true rfl, Nat.le_of_ble_eq_true rfl⟩) hS (fun q _ h => hFc q h) hFc (fun r12 u t H11 locs ht hvm hw hB hz1 hk1 hS => ?_)
  obtain ⟨hP1, hK1, hD1, hz2⟩ := hB
  rw [ht] at hP1 hz2
  have hPD9 := va_join (wr := [(ou, .inr (7, [.long 0, .null])), (xo, .inr (6, [.ref al, .int 0, .int 0, .int 0, x4, x5, .ref b1, x7])), (al, .inr (4, [.int mc, .ref (zk 0), .int 0]))]) (w1 := [(mo, .inr (9, [.int 1, .ref am, .int 0, .int 0, .int 0])), (am, .inr (4, [.int mm, .ref (zk 0), .int 0]))]) hP hD [1, 2] [0, 3, 4] rfl rfl (by decide) (by decide) hk1 hFc hP1 hD1
  clear hPc hDc hFc hDv hpre hP hD hP1 hK1 hD1
  obtain ⟨hP, hD⟩ := hPD9
  replace hz : s.heap.size + 0 ≤ H11.size := by omega
  clear hz2
  replace hP : va_P (dC, dI) vwCl [(ou, .inr (7, [.long 0, .null])), (xo, .inr (6, [.ref al, .int 0, .int 0, .int 0, x4, x5, .ref b1, x7])), (al, .inr (4, [.int mc, .ref (zk 0), .int 0])), (mo, .inr (9, [.int 1, .ref am, .int 0, .int 0, .int 0])), (am, .inr (4, [.int mm, .ref (zk 0), .int 0]))] H11 := hP
  replace hD : va_D A [(ou, .inr (7, [.long 0, .null])), (xo, .inr (6, [.ref al, .int 0, .int 0, .int 0, x4, x5, .ref b1, x7])), (al, .inr (4, [.int mc, .ref (zk 0), .int 0])), (mo, .inr (9, [.int 1, .ref am, .int 0, .int 0, .int 0])), (am, .inr (4, [.int mm, .ref (zk 0), .int 0]))] := hD
  refine W.widen (k := 18) (n := 85) (by omega) (by omega) ?_
  refine lv_istore (lv' := [(6, .int r12), (5, .int 1), (4, .int 0), (3, .ref ou), (2, .ref mo), (1, .ref xo), (0, .ref b)]) hx hb dL_law_970 hl (by decide) rfl (fun ls hl => ?_)
  refine lv_aload_n hx hb dL_law_972 rfl (lv_at hl 4 rfl) ?_
  have hPc := hP.sub (ws' := [(mo, .inr (9, [.int 1, .ref am, .int 0, .int 0, .int 0]))]) [3] rfl
  have hDc := hD.sub (ws' := [(mo, .inr (9, [.int 1, .ref am, .int 0, .int 0, .int 0]))]) [3] (by decide) rfl
  have hFc := va_free (wc := [(mo, .inr (9, [.int 1, .ref am, .int 0, .int 0, .int 0]))]) hD hS hA [3] rfl
  have hDv := hDc.self (sz := H11.size)
  have hpre := zpre (xs' := []) (av := [.ref mo]) hPc hK (hDc.weaken (fun _ _ _ h => h)) hZ hS hFc (fun r hr => by cases hr)
  refine va_calli (va_runV (As := []) (rest := []) ⟨hx, hb, hml, hown, hts⟩ (k_thz l dC dI cI cB cR cO zk mo am (.int 0) (.int 0) (.int 0) H11.size ) (cwV 0 hts gL_law_X4_thrown rfl rfl rfl (by decide +kernel) ⟨Nat.le_of_ble_eq_true rfl, Nat.le_of_ble_eq_true rfl⟩) ⟨zblind, (zrecv_9 hK hPc (q0 := 0) rfl), hpre⟩ rfl rfl hl.1 rfl (lv_room (Nat.le_of_ble_eq_true rfl)) dL_law_973 ⟨Nat.le_of_ble_eq_true rfl, Nat.le_of_ble_eq_true rfl⟩) hS (fun q _ h => hFc q h) hFc (fun r14 u t H13 locs ht hvm hw hB hz1 hk1 hS => ?_)
  obtain rfl : 1 = r14 := (show r14 = 1 from hw).symm
  obtain ⟨hP1, hK1, hD1, hz2⟩ := hB
  rw [ht] at hP1 hz2
  have hPD9 := va_join (wr := [(ou, .inr (7, [.long 0, .null])), (xo, .inr (6, [.ref al, .int 0, .int 0, .int 0, x4, x5, .ref b1, x7])), (al, .inr (4, [.int mc, .ref (zk 0), .int 0])), (am, .inr (4, [.int mm, .ref (zk 0), .int 0]))]) (w1 := [(mo, .inr (9, [.int 1, .ref am, .int 0, .int 0, .int 0]))]) hP hD [3] [0, 1, 2, 4] rfl rfl (by decide) (by decide) hk1 hFc hP1 hD1
  clear hPc hDc hFc hDv hpre hP hD hP1 hK1 hD1
  obtain ⟨hP, hD⟩ := hPD9
  replace hz : s.heap.size + 0 ≤ H13.size := by omega
  clear hz2
  replace hP : va_P (dC, dI) vwCl [(ou, .inr (7, [.long 0, .null])), (xo, .inr (6, [.ref al, .int 0, .int 0, .int 0, x4, x5, .ref b1, x7])), (al, .inr (4, [.int mc, .ref (zk 0), .int 0])), (am, .inr (4, [.int mm, .ref (zk 0), .int 0])), (mo, .inr (9, [.int 1, .ref am, .int 0, .int 0, .int 0]))] H13 := hP
  replace hD : va_D A [(ou, .inr (7, [.long 0, .null])), (xo, .inr (6, [.ref al, .int 0, .int 0, .int 0, x4, x5, .ref b1, x7])), (al, .inr (4, [.int mc, .ref (zk 0), .int 0])), (am, .inr (4, [.int mm, .ref (zk 0), .int 0])), (mo, .inr (9, [.int 1, .ref am, .int 0, .int 0, .int 0]))] := hD
  refine W.widen (k := 18) (n := 85) (by omega) (by omega) ?_
  refine lv_iload hx hb dL_law_976 (lv_at hl 1 rfl) ?_
  refine lv_icmp_eq (tgt := 983) hx hb dL_law_978 (by decide) (fun c9 => ?_) (fun c9 => ?_)
  rotate_left
  · exact absurd (by decide) c9
  refine lv_iload hx hb dL_law_983 (lv_at hl 1 rfl) ?_
  refine lv_if_ne (tgt := 1001) hx hb dL_law_985 (by decide) (fun c9 => ?_) (fun c9 => ?_)
  rotate_left
  · exact absurd c9 (by decide)
  refine lv_goto (tgt := 2155) hx hb dL_law_1001 (by decide) ?_
  rw [hAd] at hS
  exact zl_tail l dC dI cI cB cR cO zk b xs C1 hZ0 hK hS (Nat.le_of_ble_eq_true rfl) (Nat.le_of_ble_eq_true rfl) ls (lv_sub hl [6, 2] rfl)

set_option maxHeartbeats 4000000 in
set_option maxRecDepth 100000 in
theorem zl_a_twin (l : Launch) (dC : Nat → ClassId) (dI : Nat → Nat → Nat) (cI cB cR cO : ClassId) (zk : Nat → Nat) {p : Program} {e : Env} {s : State} {mY : MethodId} {below : List Frame} {meth : Method} {c : Code} (b : Nat) (xs : Nat → Int32) (hfl : l.stackTraces = false) (C0 : zl_At p s mY meth c b 5 xs) (hZ0 : zR zk [] (fun q => s.heap.size ≤ q) s s.heap) (hK : va_K (dC, dI) vwCl (zT cI cB cR cO) s) (ou xo al b1 : Nat) (x4 x5 x7 : Value) (mc : Int32) (mo am : Nat) (mm : Int32)  (p0 : Int32) (h1 : xs 1 = p0)  (H : Heap) (locs : List Loc) (hP : va_P (dC, dI) vwCl [(ou, .inr (7, [.long 0, .null])), (xo, .inr (6, [.ref al, .int 0, .int 0, .int 0, x4, x5, .ref b1, x7])), (al, .inr (4, [.int mc, .ref (zk 0), .int 0])), (mo, .inr (9, [.int 0, .ref am, .int 0, .int 0, .int 0])), (am, .inr (4, [.int mm, .ref (zk 0), .int 0]))] H) (hD : va_D (fun q => s.heap.size ≤ q) [(ou, .inr (7, [.long 0, .null])), (xo, .inr (6, [.ref al, .int 0, .int 0, .int 0, x4, x5, .ref b1, x7])), (al, .inr (4, [.int mc, .ref (zk 0), .int 0])), (mo, .inr (9, [.int 0, .ref am, .int 0, .int 0, .int 0])), (am, .inr (4, [.int mm, .ref (zk 0), .int 0]))]) (hS : va_S (fun q => s.heap.size ≤ q) s.heap H locs) (ls : Array Slot) (hl : lv_has ls 7 [(4, .int 0), (3, .ref ou), (2, .ref mo), (1, .ref xo), (0, .ref b)]) : W p l e room_1 s mY #[Value.ref b] below meth c H locs 17 79 (lw_Z below #[Value.ref b] s) (F0 mY 1004 ls []) := by
  have C1 := C0
  obtain ⟨hx, hb, hr, hml, hown, hts0, hX, hbl, hlocks, hNI⟩ := C0
  have hts := fun (w : Cond) (h : w ∈ wsL_law) => hts0 w (wsL_law_in w h)
  obtain ⟨A, hAd⟩ : ∃ A : Nat → Prop, A = fun q => s.heap.size ≤ q := ⟨_, rfl⟩
  have hA : ∀ q : Nat, s.heap.size ≤ q → A q := fun q h => by rw [hAd]; exact h
  have hAf : ∀ q : Nat, A q → s.heap.size ≤ q := fun q h => by rw [hAd] at h; exact h
  have hbA : ¬ A b := fun h => absurd (hAf b h) (Nat.not_le.mpr hbl)
  have hZ : zR zk [] A s s.heap := by rw [hAd]; exact hZ0
  rw [← hAd] at hD hS
  replace hP : va_P (dC, dI) vwCl [(ou, .inr (7, [.long 0, .null])), (xo, .inr (6, [.ref al, .int 0, .int 0, .int 0, x4, x5, .ref b1, x7])), (al, .inr (4, [.int mc, .ref (zk 0), .int 0])), (mo, .inr (9, [.int 0, .ref am, .int 0, .int 0, .int 0])), (am, .inr (4, [.int mm, .ref (zk 0), .int 0]))] H := hP
  replace hD : va_D A [(ou, .inr (7, [.long 0, .null])), (xo, .inr (6, [.ref al, .int 0, .int 0, .int 0, x4, x5, .ref b1, x7])), (al, .inr (4, [.int mc, .ref (zk 0), .int 0])), (mo, .inr (9, [.int 0, .ref am, .int 0, .int 0, .int 0])), (am, .inr (4, [.int mm, .ref (zk 0), .int 0]))] := hD
  have hz : s.heap.size + 0 ≤ H.size := hS.1
  refine lv_aload_n hx hb dL_law_1004 rfl (lv_at hl 3 rfl) ?_
  refine lv_aload_n hx hb dL_law_1005 rfl (lv_at hl 4 rfl) ?_
  refine lv_iload hx hb dL_law_1006 (lv_at hl 0 rfl) ?_
  refine lv_iconst (v := 1) hx hb dL_law_1008 (by decide) ?_
  refine lv_iadd hx hb dL_law_1009 ?_
  refine lv_topi (fun v1 ev1 => ?_)
  obtain rfl : v1 = 1 := ev1.trans (by decide)
  refine va_sld hx hb hX hbl hbA hS (by unfold vp_in; decide) dL_law_1010 ?_
  refine lv_topi (fun v2 ev2 => ?_)
  have e9 : v2 = p0 := ev2.trans (show xs ((1 : Int32).toNatClampNeg) = p0 from h1)
  clear ev2
  subst v2
  refine lv_aload_n hx hb dL_law_1011 rfl (lv_at hl 1 rfl) ?_
  have hPc := hP.sub (ws' := [(xo, .inr (6, [.ref al, .int 0, .int 0, .int 0, x4, x5, .ref b1, x7])), (al, .inr (4, [.int mc, .ref (zk 0), .int 0]))]) [1, 2] rfl
  have hDc := hD.sub (ws' := [(xo, .inr (6, [.ref al, .int 0, .int 0, .int 0, x4, x5, .ref b1, x7])), (al, .inr (4, [.int mc, .ref (zk 0), .int 0]))]) [1, 2] (by decide) rfl
  have hFc := va_free (wc := [(xo, .inr (6, [.ref al, .int 0, .int 0, .int 0, x4, x5, .ref b1, x7])), (al, .inr (4, [.int mc, .ref (zk 0), .int 0]))]) hD hS hA [1, 2] rfl
  have hDv := hDc.self (sz := H.size)
  have hpre := zpre (xs' := []) (av := [.ref xo, .int p0, .ref ou]) hPc hK (hDc.weaken (fun _ _ _ h => h)) hZ hS hFc (fun r hr => by cases hr)
  refine va_calli (vx_runSW (As := [.ref xo, .int p0, .ref ou]) (rest := []) ⟨hx, hb, hml, hown, hts⟩ (k_twinH l dC dI cI cB cR cO zk hfl xo al b1 (.int 0) (.int 0) (.int 0) x4 x5 x7 mc p0 ou H.size ) (vx_cwSW 3 hts gL_law_L_twin rfl rfl rfl (by decide +kernel) ⟨Nat.le_of_ble_eq_true rfl, Nat.le_of_ble_eq_true rfl⟩) ⟨zblind, hpre⟩ rfl rfl hl.1 rfl (lv_room (Nat.le_of_ble_eq_true rfl)) dL_law_1012 ⟨Nat.le_of_ble_eq_true rfl, Nat.le_of_ble_eq_true rfl⟩) hS (fun q _ h => hFc q h) hFc (fun r4 u t H3 locs ht hvm hw hB hz1 hk1 hS => ?_)
  obtain rfl : 1 = r4 := (show r4 = 1 from hw).symm
  obtain ⟨hP1, hK1, hD1, hz2⟩ := hB
  rw [ht] at hP1 hz2
  have hPD9 := va_join (wr := [(ou, .inr (7, [.long 0, .null])), (mo, .inr (9, [.int 0, .ref am, .int 0, .int 0, .int 0])), (am, .inr (4, [.int mm, .ref (zk 0), .int 0]))]) (w1 := [(xo, .inr (6, [.ref al, .int 0, .int 0, .int 0, x4, x5, .ref b1, x7])), (al, .inr (4, [.int mc, .ref (zk 0), .int 0]))]) hP hD [1, 2] [0, 3, 4] rfl rfl (by decide) (by decide) hk1 hFc hP1 hD1
  clear hPc hDc hFc hDv hpre hP hD hP1 hK1 hD1
  obtain ⟨hP, hD⟩ := hPD9
  replace hz : s.heap.size + 0 ≤ H3.size := by omega
  clear hz2
  replace hP : va_P (dC, dI) vwCl [(ou, .inr (7, [.long 0, .null])), (mo, .inr (9, [.int 0, .ref am, .int 0, .int 0, .int 0])), (am, .inr (4, [.int mm, .ref (zk 0), .int 0])), (xo, .inr (6, [.ref al, .int 0, .int 0, .int 0, x4, x5, .ref b1, x7])), (al, .inr (4, [.int mc, .ref (zk 0), .int 0]))] H3 := hP
  replace hD : va_D A [(ou, .inr (7, [.long 0, .null])), (mo, .inr (9, [.int 0, .ref am, .int 0, .int 0, .int 0])), (am, .inr (4, [.int mm, .ref (zk 0), .int 0])), (xo, .inr (6, [.ref al, .int 0, .int 0, .int 0, x4, x5, .ref b1, x7])), (al, .inr (4, [.int mc, .ref (zk 0), .int 0]))] := hD
  refine W.widen (k := 18) (n := 85) (by omega) (by omega) ?_
  refine lv_istore (lv' := [(5, .int 1), (4, .int 0), (3, .ref ou), (2, .ref mo), (1, .ref xo), (0, .ref b)]) hx hb dL_law_1015 hl (by decide) rfl (fun ls hl => ?_)
  refine lv_aload_n hx hb dL_law_1017 rfl (lv_at hl 3 rfl) ?_
  refine lv_aload_n hx hb dL_law_1018 rfl (lv_at hl 5 rfl) ?_
  refine lv_iload hx hb dL_law_1019 (lv_at hl 1 rfl) ?_
  refine lv_iconst (v := 1) hx hb dL_law_1021 (by decide) ?_
  refine lv_iadd hx hb dL_law_1022 ?_
  refine lv_topi (fun v5 ev5 => ?_)
  obtain rfl : v5 = 1 := ev5.trans (by decide)
  refine va_sld hx hb hX hbl hbA hS (by unfold vp_in; decide) dL_law_1023 ?_
  refine lv_topi (fun v6 ev6 => ?_)
  have e9 : v6 = p0 := ev6.trans (show xs ((1 : Int32).toNatClampNeg) = p0 from h1)
  clear ev6
  subst v6
  have hPc := hP.sub (ws' := [(mo, .inr (9, [.int 0, .ref am, .int 0, .int 0, .int 0])), (am, .inr (4, [.int mm, .ref (zk 0), .int 0]))]) [1, 2] rfl
  have hDc := hD.sub (ws' := [(mo, .inr (9, [.int 0, .ref am, .int 0, .int 0, .int 0])), (am, .inr (4, [.int mm, .ref (zk 0), .int 0]))]) [1, 2] (by decide) rfl
  have hFc := va_free (wc := [(mo, .inr (9, [.int 0, .ref am, .int 0, .int 0, .int 0])), (am, .inr (4, [.int mm, .ref (zk 0), .int 0]))]) hD hS hA [1, 2] rfl
  have hDv := hDc.self (sz := H3.size)
  have hpre := zpre (xs' := []) (av := [.ref mo, .int p0]) hPc hK (hDc.weaken (fun _ _ _ h => h)) hZ hS hFc (fun r hr => by cases hr)
  refine va_calli (va_runV (As := [.int p0]) (rest := []) ⟨hx, hb, hml, hown, hts⟩ (k_twinM l dC dI cI cB cR cO zk mo am (.int 0) (.int 0) (.int 0) (.int 0) mm p0 H3.size ) (cwV 1 hts gL_law_X4_twin rfl rfl rfl (by decide +kernel) ⟨Nat.le_of_ble_eq_true rfl, Nat.le_of_ble_eq_true rfl⟩) ⟨zblind, (zrecv_9 hK hPc (q0 := 0) rfl), hpre⟩ rfl rfl hl.1 rfl (lv_room (Nat.le_of_ble_eq_true rfl)) dL_law_1024 ⟨Nat.le_of_ble_eq_true rfl, Nat.le_of_ble_eq_true rfl⟩) hS (fun q _ h => hFc q h) hFc (fun r8 u t H7 locs ht hvm hw hB hz1 hk1 hS => ?_)
  obtain ⟨hP1, hK1, hD1, hz2⟩ := hB
  rw [ht] at hP1 hz2
  have hPD9 := va_join (wr := [(ou, .inr (7, [.long 0, .null])), (xo, .inr (6, [.ref al, .int 0, .int 0, .int 0, x4, x5, .ref b1, x7])), (al, .inr (4, [.int mc, .ref (zk 0), .int 0]))]) (w1 := [(mo, .inr (9, [.int 1, .ref am, .int 0, .int 0, .int 0])), (am, .inr (4, [.int mm, .ref (zk 0), .int 0]))]) hP hD [1, 2] [0, 3, 4] rfl rfl (by decide) (by decide) hk1 hFc hP1 hD1
  clear hPc hDc hFc hDv hpre hP hD hP1 hK1 hD1
  obtain ⟨hP, hD⟩ := hPD9
  replace hz : s.heap.size + 0 ≤ H7.size := by omega
  clear hz2
  replace hP : va_P (dC, dI) vwCl [(ou, .inr (7, [.long 0, .null])), (xo, .inr (6, [.ref al, .int 0, .int 0, .int 0, x4, x5, .ref b1, x7])), (al, .inr (4, [.int mc, .ref (zk 0), .int 0])), (mo, .inr (9, [.int 1, .ref am, .int 0, .int 0, .int 0])), (am, .inr (4, [.int mm, .ref (zk 0), .int 0]))] H7 := hP
  replace hD : va_D A [(ou, .inr (7, [.long 0, .null])), (xo, .inr (6, [.ref al, .int 0, .int 0, .int 0, x4, x5, .ref b1, x7])), (al, .inr (4, [.int mc, .ref (zk 0), .int 0])), (mo, .inr (9, [.int 1, .ref am, .int 0, .int 0, .int 0])), (am, .inr (4, [.int mm, .ref (zk 0), .int 0]))] := hD
  refine W.widen (k := 18) (n := 85) (by omega) (by omega) ?_
  refine lv_istore (lv' := [(6, .int r8), (5, .int 1), (4, .int 0), (3, .ref ou), (2, .ref mo), (1, .ref xo), (0, .ref b)]) hx hb dL_law_1027 hl (by decide) rfl (fun ls hl => ?_)
  refine lv_aload_n hx hb dL_law_1029 rfl (lv_at hl 4 rfl) ?_
  have hPc := hP.sub (ws' := [(mo, .inr (9, [.int 1, .ref am, .int 0, .int 0, .int 0]))]) [3] rfl
  have hDc := hD.sub (ws' := [(mo, .inr (9, [.int 1, .ref am, .int 0, .int 0, .int 0]))]) [3] (by decide) rfl
  have hFc := va_free (wc := [(mo, .inr (9, [.int 1, .ref am, .int 0, .int 0, .int 0]))]) hD hS hA [3] rfl
  have hDv := hDc.self (sz := H7.size)
  have hpre := zpre (xs' := []) (av := [.ref mo]) hPc hK (hDc.weaken (fun _ _ _ h => h)) hZ hS hFc (fun r hr => by cases hr)
  refine va_calli (va_runV (As := []) (rest := []) ⟨hx, hb, hml, hown, hts⟩ (k_thz l dC dI cI cB cR cO zk mo am (.int 0) (.int 0) (.int 0) H7.size ) (cwV 0 hts gL_law_X4_thrown rfl rfl rfl (by decide +kernel) ⟨Nat.le_of_ble_eq_true rfl, Nat.le_of_ble_eq_true rfl⟩) ⟨zblind, (zrecv_9 hK hPc (q0 := 0) rfl), hpre⟩ rfl rfl hl.1 rfl (lv_room (Nat.le_of_ble_eq_true rfl)) dL_law_1030 ⟨Nat.le_of_ble_eq_true rfl, Nat.le_of_ble_eq_true rfl⟩) hS (fun q _ h => hFc q h) hFc (fun r10 u t H9 locs ht hvm hw hB hz1 hk1 hS => ?_)
  obtain rfl : 1 = r10 := (show r10 = 1 from hw).symm
  obtain ⟨hP1, hK1, hD1, hz2⟩ := hB
  rw [ht] at hP1 hz2
  have hPD9 := va_join (wr := [(ou, .inr (7, [.long 0, .null])), (xo, .inr (6, [.ref al, .int 0, .int 0, .int 0, x4, x5, .ref b1, x7])), (al, .inr (4, [.int mc, .ref (zk 0), .int 0])), (am, .inr (4, [.int mm, .ref (zk 0), .int 0]))]) (w1 := [(mo, .inr (9, [.int 1, .ref am, .int 0, .int 0, .int 0]))]) hP hD [3] [0, 1, 2, 4] rfl rfl (by decide) (by decide) hk1 hFc hP1 hD1
  clear hPc hDc hFc hDv hpre hP hD hP1 hK1 hD1
  obtain ⟨hP, hD⟩ := hPD9
  replace hz : s.heap.size + 0 ≤ H9.size := by omega
  clear hz2
  replace hP : va_P (dC, dI) vwCl [(ou, .inr (7, [.long 0, .null])), (xo, .inr (6, [.ref al, .int 0, .int 0, .int 0, x4, x5, .ref b1, x7])), (al, .inr (4, [.int mc, .ref (zk 0), .int 0])), (am, .inr (4, [.int mm, .ref (zk 0), .int 0])), (mo, .inr (9, [.int 1, .ref am, .int 0, .int 0, .int 0]))] H9 := hP
  replace hD : va_D A [(ou, .inr (7, [.long 0, .null])), (xo, .inr (6, [.ref al, .int 0, .int 0, .int 0, x4, x5, .ref b1, x7])), (al, .inr (4, [.int mc, .ref (zk 0), .int 0])), (am, .inr (4, [.int mm, .ref (zk 0), .int 0])), (mo, .inr (9, [.int 1, .ref am, .int 0, .int 0, .int 0]))] := hD
  refine W.widen (k := 18) (n := 85) (by omega) (by omega) ?_
  refine lv_iload hx hb dL_law_1033 (lv_at hl 1 rfl) ?_
  refine lv_icmp_eq (tgt := 1040) hx hb dL_law_1035 (by decide) (fun c9 => ?_) (fun c9 => ?_)
  rotate_left
  · exact absurd (by decide) c9
  refine lv_iload hx hb dL_law_1040 (lv_at hl 1 rfl) ?_
  refine lv_if_ne (tgt := 1058) hx hb dL_law_1042 (by decide) (fun c9 => ?_) (fun c9 => ?_)
  rotate_left
  · exact absurd c9 (by decide)
  refine lv_goto (tgt := 2155) hx hb dL_law_1058 (by decide) ?_
  rw [hAd] at hS
  exact zl_tail l dC dI cI cB cR cO zk b xs C1 hZ0 hK hS (Nat.le_of_ble_eq_true rfl) (Nat.le_of_ble_eq_true rfl) ls (lv_sub hl [6, 2] rfl)

set_option maxHeartbeats 4000000 in
set_option maxRecDepth 100000 in
theorem zl_a_deepTwin (l : Launch) (dC : Nat → ClassId) (dI : Nat → Nat → Nat) (cI cB cR cO : ClassId) (zk : Nat → Nat) {p : Program} {e : Env} {s : State} {mY : MethodId} {below : List Frame} {meth : Method} {c : Code} (b : Nat) (xs : Nat → Int32) (hfl : l.stackTraces = false) (C0 : zl_At p s mY meth c b 5 xs) (hZ0 : zR zk [] (fun q => s.heap.size ≤ q) s s.heap) (hK : va_K (dC, dI) vwCl (zT cI cB cR cO) s) (ou xo al b1 : Nat) (x4 x5 x7 : Value) (mc : Int32) (mo am : Nat) (mm : Int32)  (p0 : Int32) (h1 : xs 1 = p0)  (H : Heap) (locs : List Loc) (hP : va_P (dC, dI) vwCl [(ou, .inr (7, [.long 0, .null])), (xo, .inr (6, [.ref al, .int 0, .int 0, .int 0, x4, x5, .ref b1, x7])), (al, .inr (4, [.int mc, .ref (zk 0), .int 0])), (mo, .inr (9, [.int 0, .ref am, .int 0, .int 0, .int 0])), (am, .inr (4, [.int mm, .ref (zk 0), .int 0]))] H) (hD : va_D (fun q => s.heap.size ≤ q) [(ou, .inr (7, [.long 0, .null])), (xo, .inr (6, [.ref al, .int 0, .int 0, .int 0, x4, x5, .ref b1, x7])), (al, .inr (4, [.int mc, .ref (zk 0), .int 0])), (mo, .inr (9, [.int 0, .ref am, .int 0, .int 0, .int 0])), (am, .inr (4, [.int mm, .ref (zk 0), .int 0]))]) (hS : va_S (fun q => s.heap.size ≤ q) s.heap H locs) (ls : Array Slot) (hl : lv_has ls 7 [(4, .int 0), (3, .ref ou), (2, .ref mo), (1, .ref xo), (0, .ref b)]) : W p l e room_1 s mY #[Value.ref b] below meth c H locs 17 79 (lw_Z below #[Value.ref b] s) (F0 mY 1061 ls []) := by
  have C1 := C0
  obtain ⟨hx, hb, hr, hml, hown, hts0, hX, hbl, hlocks, hNI⟩ := C0
  have hts := fun (w : Cond) (h : w ∈ wsL_law) => hts0 w (wsL_law_in w h)
  obtain ⟨A, hAd⟩ : ∃ A : Nat → Prop, A = fun q => s.heap.size ≤ q := ⟨_, rfl⟩
  have hA : ∀ q : Nat, s.heap.size ≤ q → A q := fun q h => by rw [hAd]; exact h
  have hAf : ∀ q : Nat, A q → s.heap.size ≤ q := fun q h => by rw [hAd] at h; exact h
  have hbA : ¬ A b := fun h => absurd (hAf b h) (Nat.not_le.mpr hbl)
  have hZ : zR zk [] A s s.heap := by rw [hAd]; exact hZ0
  rw [← hAd] at hD hS
  replace hP : va_P (dC, dI) vwCl [(ou, .inr (7, [.long 0, .null])), (xo, .inr (6, [.ref al, .int 0, .int 0, .int 0, x4, x5, .ref b1, x7])), (al, .inr (4, [.int mc, .ref (zk 0), .int 0])), (mo, .inr (9, [.int 0, .ref am, .int 0, .int 0, .int 0])), (am, .inr (4, [.int mm, .ref (zk 0), .int 0]))] H := hP
  replace hD : va_D A [(ou, .inr (7, [.long 0, .null])), (xo, .inr (6, [.ref al, .int 0, .int 0, .int 0, x4, x5, .ref b1, x7])), (al, .inr (4, [.int mc, .ref (zk 0), .int 0])), (mo, .inr (9, [.int 0, .ref am, .int 0, .int 0, .int 0])), (am, .inr (4, [.int mm, .ref (zk 0), .int 0]))] := hD
  have hz : s.heap.size + 0 ≤ H.size := hS.1
  refine lv_aload_n hx hb dL_law_1061 rfl (lv_at hl 3 rfl) ?_
  refine lv_aload_n hx hb dL_law_1062 rfl (lv_at hl 4 rfl) ?_
  refine lv_iload hx hb dL_law_1063 (lv_at hl 0 rfl) ?_
  refine lv_iconst (v := 1) hx hb dL_law_1065 (by decide) ?_
  refine lv_iadd hx hb dL_law_1066 ?_
  refine lv_topi (fun v1 ev1 => ?_)
  obtain rfl : v1 = 1 := ev1.trans (by decide)
  refine va_sld hx hb hX hbl hbA hS (by unfold vp_in; decide) dL_law_1067 ?_
  refine lv_topi (fun v2 ev2 => ?_)
  have e9 : v2 = p0 := ev2.trans (show xs ((1 : Int32).toNatClampNeg) = p0 from h1)
  clear ev2
  subst v2
  refine lv_aload_n hx hb dL_law_1068 rfl (lv_at hl 1 rfl) ?_
  have hPc := hP.sub (ws' := [(xo, .inr (6, [.ref al, .int 0, .int 0, .int 0, x4, x5, .ref b1, x7])), (al, .inr (4, [.int mc, .ref (zk 0), .int 0]))]) [1, 2] rfl
  have hDc := hD.sub (ws' := [(xo, .inr (6, [.ref al, .int 0, .int 0, .int 0, x4, x5, .ref b1, x7])), (al, .inr (4, [.int mc, .ref (zk 0), .int 0]))]) [1, 2] (by decide) rfl
  have hFc := va_free (wc := [(xo, .inr (6, [.ref al, .int 0, .int 0, .int 0, x4, x5, .ref b1, x7])), (al, .inr (4, [.int mc, .ref (zk 0), .int 0]))]) hD hS hA [1, 2] rfl
  have hDv := hDc.self (sz := H.size)
  have hpre := zpre (xs' := []) (av := [.ref xo, .int p0, .ref ou]) hPc hK (hDc.weaken (fun _ _ _ h => h)) hZ hS hFc (fun r hr => by cases hr)
  refine va_calli (vx_runSW (As := [.ref xo, .int p0, .ref ou]) (rest := []) ⟨hx, hb, hml, hown, hts⟩ (k_deepTwinH l dC dI cI cB cR cO zk hfl xo al b1 (.int 0) (.int 0) (.int 0) x4 x5 x7 mc p0 ou H.size ) (vx_cwSW 3 hts gL_law_L_deepTwin rfl rfl rfl (by decide +kernel) ⟨Nat.le_of_ble_eq_true rfl, Nat.le_of_ble_eq_true rfl⟩) ⟨zblind, hpre⟩ rfl rfl hl.1 rfl (lv_room (Nat.le_of_ble_eq_true rfl)) dL_law_1069 ⟨Nat.le_of_ble_eq_true rfl, Nat.le_of_ble_eq_true rfl⟩) hS (fun q _ h => hFc q h) hFc (fun r4 u t H3 locs ht hvm hw hB hz1 hk1 hS => ?_)
  obtain rfl : 1 = r4 := (show r4 = 1 from hw).symm
  obtain ⟨hP1, hK1, hD1, hz2⟩ := hB
  rw [ht] at hP1 hz2
  have hPD9 := va_join (wr := [(ou, .inr (7, [.long 0, .null])), (mo, .inr (9, [.int 0, .ref am, .int 0, .int 0, .int 0])), (am, .inr (4, [.int mm, .ref (zk 0), .int 0]))]) (w1 := [(xo, .inr (6, [.ref al, .int 0, .int 0, .int 0, x4, x5, .ref b1, x7])), (al, .inr (4, [.int mc, .ref (zk 0), .int 0]))]) hP hD [1, 2] [0, 3, 4] rfl rfl (by decide) (by decide) hk1 hFc hP1 hD1
  clear hPc hDc hFc hDv hpre hP hD hP1 hK1 hD1
  obtain ⟨hP, hD⟩ := hPD9
  replace hz : s.heap.size + 0 ≤ H3.size := by omega
  clear hz2
  replace hP : va_P (dC, dI) vwCl [(ou, .inr (7, [.long 0, .null])), (mo, .inr (9, [.int 0, .ref am, .int 0, .int 0, .int 0])), (am, .inr (4, [.int mm, .ref (zk 0), .int 0])), (xo, .inr (6, [.ref al, .int 0, .int 0, .int 0, x4, x5, .ref b1, x7])), (al, .inr (4, [.int mc, .ref (zk 0), .int 0]))] H3 := hP
  replace hD : va_D A [(ou, .inr (7, [.long 0, .null])), (mo, .inr (9, [.int 0, .ref am, .int 0, .int 0, .int 0])), (am, .inr (4, [.int mm, .ref (zk 0), .int 0])), (xo, .inr (6, [.ref al, .int 0, .int 0, .int 0, x4, x5, .ref b1, x7])), (al, .inr (4, [.int mc, .ref (zk 0), .int 0]))] := hD
  refine W.widen (k := 18) (n := 85) (by omega) (by omega) ?_
  refine lv_istore (lv' := [(5, .int 1), (4, .int 0), (3, .ref ou), (2, .ref mo), (1, .ref xo), (0, .ref b)]) hx hb dL_law_1072 hl (by decide) rfl (fun ls hl => ?_)
  refine lv_aload_n hx hb dL_law_1074 rfl (lv_at hl 3 rfl) ?_
  refine lv_aload_n hx hb dL_law_1075 rfl (lv_at hl 5 rfl) ?_
  refine lv_iload hx hb dL_law_1076 (lv_at hl 1 rfl) ?_
  refine lv_iconst (v := 1) hx hb dL_law_1078 (by decide) ?_
  refine lv_iadd hx hb dL_law_1079 ?_
  refine lv_topi (fun v5 ev5 => ?_)
  obtain rfl : v5 = 1 := ev5.trans (by decide)
  refine va_sld hx hb hX hbl hbA hS (by unfold vp_in; decide) dL_law_1080 ?_
  refine lv_topi (fun v6 ev6 => ?_)
  have e9 : v6 = p0 := ev6.trans (show xs ((1 : Int32).toNatClampNeg) = p0 from h1)
  clear ev6
  subst v6
  have hPc := hP.sub (ws' := [(mo, .inr (9, [.int 0, .ref am, .int 0, .int 0, .int 0])), (am, .inr (4, [.int mm, .ref (zk 0), .int 0]))]) [1, 2] rfl
  have hDc := hD.sub (ws' := [(mo, .inr (9, [.int 0, .ref am, .int 0, .int 0, .int 0])), (am, .inr (4, [.int mm, .ref (zk 0), .int 0]))]) [1, 2] (by decide) rfl
  have hFc := va_free (wc := [(mo, .inr (9, [.int 0, .ref am, .int 0, .int 0, .int 0])), (am, .inr (4, [.int mm, .ref (zk 0), .int 0]))]) hD hS hA [1, 2] rfl
  have hDv := hDc.self (sz := H3.size)
  have hpre := zpre (xs' := []) (av := [.ref mo, .int p0]) hPc hK (hDc.weaken (fun _ _ _ h => h)) hZ hS hFc (fun r hr => by cases hr)
  refine va_calli (va_runV (As := [.int p0]) (rest := []) ⟨hx, hb, hml, hown, hts⟩ (k_deepTwinM l dC dI cI cB cR cO zk mo am (.int 0) (.int 0) (.int 0) (.int 0) mm p0 H3.size ) (cwV 1 hts gL_law_X4_deepTwin rfl rfl rfl (by decide +kernel) ⟨Nat.le_of_ble_eq_true rfl, Nat.le_of_ble_eq_true rfl⟩) ⟨zblind, (zrecv_9 hK hPc (q0 := 0) rfl), hpre⟩ rfl rfl hl.1 rfl (lv_room (Nat.le_of_ble_eq_true rfl)) dL_law_1081 ⟨Nat.le_of_ble_eq_true rfl, Nat.le_of_ble_eq_true rfl⟩) hS (fun q _ h => hFc q h) hFc (fun r8 u t H7 locs ht hvm hw hB hz1 hk1 hS => ?_)
  obtain ⟨hP1, hK1, hD1, hz2⟩ := hB
  rw [ht] at hP1 hz2
  have hPD9 := va_join (wr := [(ou, .inr (7, [.long 0, .null])), (xo, .inr (6, [.ref al, .int 0, .int 0, .int 0, x4, x5, .ref b1, x7])), (al, .inr (4, [.int mc, .ref (zk 0), .int 0]))]) (w1 := [(mo, .inr (9, [.int 1, .ref am, .int 0, .int 0, .int 0])), (am, .inr (4, [.int mm, .ref (zk 0), .int 0]))]) hP hD [1, 2] [0, 3, 4] rfl rfl (by decide) (by decide) hk1 hFc hP1 hD1
  clear hPc hDc hFc hDv hpre hP hD hP1 hK1 hD1
  obtain ⟨hP, hD⟩ := hPD9
  replace hz : s.heap.size + 0 ≤ H7.size := by omega
  clear hz2
  replace hP : va_P (dC, dI) vwCl [(ou, .inr (7, [.long 0, .null])), (xo, .inr (6, [.ref al, .int 0, .int 0, .int 0, x4, x5, .ref b1, x7])), (al, .inr (4, [.int mc, .ref (zk 0), .int 0])), (mo, .inr (9, [.int 1, .ref am, .int 0, .int 0, .int 0])), (am, .inr (4, [.int mm, .ref (zk 0), .int 0]))] H7 := hP
  replace hD : va_D A [(ou, .inr (7, [.long 0, .null])), (xo, .inr (6, [.ref al, .int 0, .int 0, .int 0, x4, x5, .ref b1, x7])), (al, .inr (4, [.int mc, .ref (zk 0), .int 0])), (mo, .inr (9, [.int 1, .ref am, .int 0, .int 0, .int 0])), (am, .inr (4, [.int mm, .ref (zk 0), .int 0]))] := hD
  refine W.widen (k := 18) (n := 85) (by omega) (by omega) ?_
  refine lv_istore (lv' := [(6, .int r8), (5, .int 1), (4, .int 0), (3, .ref ou), (2, .ref mo), (1, .ref xo), (0, .ref b)]) hx hb dL_law_1084 hl (by decide) rfl (fun ls hl => ?_)
  refine lv_aload_n hx hb dL_law_1086 rfl (lv_at hl 4 rfl) ?_
  have hPc := hP.sub (ws' := [(mo, .inr (9, [.int 1, .ref am, .int 0, .int 0, .int 0]))]) [3] rfl
  have hDc := hD.sub (ws' := [(mo, .inr (9, [.int 1, .ref am, .int 0, .int 0, .int 0]))]) [3] (by decide) rfl
  have hFc := va_free (wc := [(mo, .inr (9, [.int 1, .ref am, .int 0, .int 0, .int 0]))]) hD hS hA [3] rfl
  have hDv := hDc.self (sz := H7.size)
  have hpre := zpre (xs' := []) (av := [.ref mo]) hPc hK (hDc.weaken (fun _ _ _ h => h)) hZ hS hFc (fun r hr => by cases hr)
  refine va_calli (va_runV (As := []) (rest := []) ⟨hx, hb, hml, hown, hts⟩ (k_thz l dC dI cI cB cR cO zk mo am (.int 0) (.int 0) (.int 0) H7.size ) (cwV 0 hts gL_law_X4_thrown rfl rfl rfl (by decide +kernel) ⟨Nat.le_of_ble_eq_true rfl, Nat.le_of_ble_eq_true rfl⟩) ⟨zblind, (zrecv_9 hK hPc (q0 := 0) rfl), hpre⟩ rfl rfl hl.1 rfl (lv_room (Nat.le_of_ble_eq_true rfl)) dL_law_1087 ⟨Nat.le_of_ble_eq_true rfl, Nat.le_of_ble_eq_true rfl⟩) hS (fun q _ h => hFc q h) hFc (fun r10 u t H9 locs ht hvm hw hB hz1 hk1 hS => ?_)
  obtain rfl : 1 = r10 := (show r10 = 1 from hw).symm
  obtain ⟨hP1, hK1, hD1, hz2⟩ := hB
  rw [ht] at hP1 hz2
  have hPD9 := va_join (wr := [(ou, .inr (7, [.long 0, .null])), (xo, .inr (6, [.ref al, .int 0, .int 0, .int 0, x4, x5, .ref b1, x7])), (al, .inr (4, [.int mc, .ref (zk 0), .int 0])), (am, .inr (4, [.int mm, .ref (zk 0), .int 0]))]) (w1 := [(mo, .inr (9, [.int 1, .ref am, .int 0, .int 0, .int 0]))]) hP hD [3] [0, 1, 2, 4] rfl rfl (by decide) (by decide) hk1 hFc hP1 hD1
  clear hPc hDc hFc hDv hpre hP hD hP1 hK1 hD1
  obtain ⟨hP, hD⟩ := hPD9
  replace hz : s.heap.size + 0 ≤ H9.size := by omega
  clear hz2
  replace hP : va_P (dC, dI) vwCl [(ou, .inr (7, [.long 0, .null])), (xo, .inr (6, [.ref al, .int 0, .int 0, .int 0, x4, x5, .ref b1, x7])), (al, .inr (4, [.int mc, .ref (zk 0), .int 0])), (am, .inr (4, [.int mm, .ref (zk 0), .int 0])), (mo, .inr (9, [.int 1, .ref am, .int 0, .int 0, .int 0]))] H9 := hP
  replace hD : va_D A [(ou, .inr (7, [.long 0, .null])), (xo, .inr (6, [.ref al, .int 0, .int 0, .int 0, x4, x5, .ref b1, x7])), (al, .inr (4, [.int mc, .ref (zk 0), .int 0])), (am, .inr (4, [.int mm, .ref (zk 0), .int 0])), (mo, .inr (9, [.int 1, .ref am, .int 0, .int 0, .int 0]))] := hD
  refine W.widen (k := 18) (n := 85) (by omega) (by omega) ?_
  refine lv_iload hx hb dL_law_1090 (lv_at hl 1 rfl) ?_
  refine lv_icmp_eq (tgt := 1097) hx hb dL_law_1092 (by decide) (fun c9 => ?_) (fun c9 => ?_)
  rotate_left
  · exact absurd (by decide) c9
  refine lv_iload hx hb dL_law_1097 (lv_at hl 1 rfl) ?_
  refine lv_if_ne (tgt := 1115) hx hb dL_law_1099 (by decide) (fun c9 => ?_) (fun c9 => ?_)
  rotate_left
  · exact absurd c9 (by decide)
  refine lv_goto (tgt := 2155) hx hb dL_law_1115 (by decide) ?_
  rw [hAd] at hS
  exact zl_tail l dC dI cI cB cR cO zk b xs C1 hZ0 hK hS (Nat.le_of_ble_eq_true rfl) (Nat.le_of_ble_eq_true rfl) ls (lv_sub hl [6, 2] rfl)

set_option maxHeartbeats 4000000 in
set_option maxRecDepth 100000 in
theorem zl_a_copy (l : Launch) (dC : Nat → ClassId) (dI : Nat → Nat → Nat) (cI cB cR cO : ClassId) (zk : Nat → Nat) {p : Program} {e : Env} {s : State} {mY : MethodId} {below : List Frame} {meth : Method} {c : Code} (b : Nat) (xs : Nat → Int32) (hfl : l.stackTraces = false) (C0 : zl_At p s mY meth c b 5 xs) (hZ0 : zR zk [] (fun q => s.heap.size ≤ q) s s.heap) (hK : va_K (dC, dI) vwCl (zT cI cB cR cO) s) (ou xo al b1 : Nat) (x4 x5 x7 : Value) (mc : Int32) (mo am : Nat) (mm : Int32)  (p0 p1 : Int32) (h1 : xs 1 = p0) (h2 : xs 2 = p1)  (H : Heap) (locs : List Loc) (hP : va_P (dC, dI) vwCl [(ou, .inr (7, [.long 0, .null])), (xo, .inr (6, [.ref al, .int 0, .int 0, .int 0, x4, x5, .ref b1, x7])), (al, .inr (4, [.int mc, .ref (zk 0), .int 0])), (mo, .inr (9, [.int 0, .ref am, .int 0, .int 0, .int 0])), (am, .inr (4, [.int mm, .ref (zk 0), .int 0]))] H) (hD : va_D (fun q => s.heap.size ≤ q) [(ou, .inr (7, [.long 0, .null])), (xo, .inr (6, [.ref al, .int 0, .int 0, .int 0, x4, x5, .ref b1, x7])), (al, .inr (4, [.int mc, .ref (zk 0), .int 0])), (mo, .inr (9, [.int 0, .ref am, .int 0, .int 0, .int 0])), (am, .inr (4, [.int mm, .ref (zk 0), .int 0]))]) (hS : va_S (fun q => s.heap.size ≤ q) s.heap H locs) (ls : Array Slot) (hl : lv_has ls 7 [(4, .int 0), (3, .ref ou), (2, .ref mo), (1, .ref xo), (0, .ref b)]) : W p l e room_1 s mY #[Value.ref b] below meth c H locs 17 79 (lw_Z below #[Value.ref b] s) (F0 mY 1118 ls []) := by
  have C1 := C0
  obtain ⟨hx, hb, hr, hml, hown, hts0, hX, hbl, hlocks, hNI⟩ := C0
  have hts := fun (w : Cond) (h : w ∈ wsL_law) => hts0 w (wsL_law_in w h)
  obtain ⟨A, hAd⟩ : ∃ A : Nat → Prop, A = fun q => s.heap.size ≤ q := ⟨_, rfl⟩
  have hA : ∀ q : Nat, s.heap.size ≤ q → A q := fun q h => by rw [hAd]; exact h
  have hAf : ∀ q : Nat, A q → s.heap.size ≤ q := fun q h => by rw [hAd] at h; exact h
  have hbA : ¬ A b := fun h => absurd (hAf b h) (Nat.not_le.mpr hbl)
  have hZ : zR zk [] A s s.heap := by rw [hAd]; exact hZ0
  rw [← hAd] at hD hS
  replace hP : va_P (dC, dI) vwCl [(ou, .inr (7, [.long 0, .null])), (xo, .inr (6, [.ref al, .int 0, .int 0, .int 0, x4, x5, .ref b1, x7])), (al, .inr (4, [.int mc, .ref (zk 0), .int 0])), (mo, .inr (9, [.int 0, .ref am, .int 0, .int 0, .int 0])), (am, .inr (4, [.int mm, .ref (zk 0), .int 0]))] H := hP
  replace hD : va_D A [(ou, .inr (7, [.long 0, .null])), (xo, .inr (6, [.ref al, .int 0, .int 0, .int 0, x4, x5, .ref b1, x7])), (al, .inr (4, [.int mc, .ref (zk 0), .int 0])), (mo, .inr (9, [.int 0, .ref am, .int 0, .int 0, .int 0])), (am, .inr (4, [.int mm, .ref (zk 0), .int 0]))] := hD
  have hz : s.heap.size + 0 ≤ H.size := hS.1
  refine lv_aload_n hx hb dL_law_1118 rfl (lv_at hl 3 rfl) ?_
  refine lv_aload_n hx hb dL_law_1119 rfl (lv_at hl 4 rfl) ?_
  refine lv_iload hx hb dL_law_1120 (lv_at hl 0 rfl) ?_
  refine lv_iconst (v := 1) hx hb dL_law_1122 (by decide) ?_
  refine lv_iadd hx hb dL_law_1123 ?_
  refine lv_topi (fun v1 ev1 => ?_)
  obtain rfl : v1 = 1 := ev1.trans (by decide)
  refine va_sld hx hb hX hbl hbA hS (by unfold vp_in; decide) dL_law_1124 ?_
  refine lv_topi (fun v2 ev2 => ?_)
  have e9 : v2 = p0 := ev2.trans (show xs ((1 : Int32).toNatClampNeg) = p0 from h1)
  clear ev2
  subst v2
  refine lv_aload_n hx hb dL_law_1125 rfl (lv_at hl 4 rfl) ?_
  refine lv_iload hx hb dL_law_1126 (lv_at hl 0 rfl) ?_
  refine lv_iconst (v := 2) hx hb dL_law_1128 (by decide) ?_
  refine lv_iadd hx hb dL_law_1129 ?_
  refine lv_topi (fun v3 ev3 => ?_)
  obtain rfl : v3 = 2 := ev3.trans (by decide)
  refine va_sld hx hb hX hbl hbA hS (by unfold vp_in; decide) dL_law_1130 ?_
  refine lv_topi (fun v4 ev4 => ?_)
  have e9 : v4 = p1 := ev4.trans (show xs ((2 : Int32).toNatClampNeg) = p1 from h2)
  clear ev4
  subst v4
  refine lv_aload_n hx hb dL_law_1131 rfl (lv_at hl 1 rfl) ?_
  have hPc := hP.sub (ws' := [(xo, .inr (6, [.ref al, .int 0, .int 0, .int 0, x4, x5, .ref b1, x7])), (al, .inr (4, [.int mc, .ref (zk 0), .int 0]))]) [1, 2] rfl
  have hDc := hD.sub (ws' := [(xo, .inr (6, [.ref al, .int 0, .int 0, .int 0, x4, x5, .ref b1, x7])), (al, .inr (4, [.int mc, .ref (zk 0), .int 0]))]) [1, 2] (by decide) rfl
  have hFc := va_free (wc := [(xo, .inr (6, [.ref al, .int 0, .int 0, .int 0, x4, x5, .ref b1, x7])), (al, .inr (4, [.int mc, .ref (zk 0), .int 0]))]) hD hS hA [1, 2] rfl
  have hDv := hDc.self (sz := H.size)
  have hpre := zpre (xs' := []) (av := [.ref xo, .int p0, .int p1, .ref ou]) hPc hK (hDc.weaken (fun _ _ _ h => h)) hZ hS hFc (fun r hr => by cases hr)
  refine va_calli (vx_runSW (As := [.ref xo, .int p0, .int p1, .ref ou]) (rest := []) ⟨hx, hb, hml, hown, hts⟩ (k_copyH l dC dI cI cB cR cO zk hfl xo al b1 (.int 0) (.int 0) (.int 0) x4 x5 x7 mc p0 p1 ou H.size ) (vx_cwSW 4 hts gL_law_L_copy rfl rfl rfl (by decide +kernel) ⟨Nat.le_of_ble_eq_true rfl, Nat.le_of_ble_eq_true rfl⟩) ⟨zblind, hpre⟩ rfl rfl hl.1 rfl (lv_room (Nat.le_of_ble_eq_true rfl)) dL_law_1132 ⟨Nat.le_of_ble_eq_true rfl, Nat.le_of_ble_eq_true rfl⟩) hS (fun q _ h => hFc q h) hFc (fun r6 u t H5 locs ht hvm hw hB hz1 hk1 hS => ?_)
  obtain rfl : 1 = r6 := (show r6 = 1 from hw).symm
  obtain ⟨hP1, hK1, hD1, hz2⟩ := hB
  rw [ht] at hP1 hz2
  have hPD9 := va_join (wr := [(ou, .inr (7, [.long 0, .null])), (mo, .inr (9, [.int 0, .ref am, .int 0, .int 0, .int 0])), (am, .inr (4, [.int mm, .ref (zk 0), .int 0]))]) (w1 := [(xo, .inr (6, [.ref al, .int 0, .int 0, .int 0, x4, x5, .ref b1, x7])), (al, .inr (4, [.int mc, .ref (zk 0), .int 0]))]) hP hD [1, 2] [0, 3, 4] rfl rfl (by decide) (by decide) hk1 hFc hP1 hD1
  clear hPc hDc hFc hDv hpre hP hD hP1 hK1 hD1
  obtain ⟨hP, hD⟩ := hPD9
  replace hz : s.heap.size + 0 ≤ H5.size := by omega
  clear hz2
  replace hP : va_P (dC, dI) vwCl [(ou, .inr (7, [.long 0, .null])), (mo, .inr (9, [.int 0, .ref am, .int 0, .int 0, .int 0])), (am, .inr (4, [.int mm, .ref (zk 0), .int 0])), (xo, .inr (6, [.ref al, .int 0, .int 0, .int 0, x4, x5, .ref b1, x7])), (al, .inr (4, [.int mc, .ref (zk 0), .int 0]))] H5 := hP
  replace hD : va_D A [(ou, .inr (7, [.long 0, .null])), (mo, .inr (9, [.int 0, .ref am, .int 0, .int 0, .int 0])), (am, .inr (4, [.int mm, .ref (zk 0), .int 0])), (xo, .inr (6, [.ref al, .int 0, .int 0, .int 0, x4, x5, .ref b1, x7])), (al, .inr (4, [.int mc, .ref (zk 0), .int 0]))] := hD
  refine W.widen (k := 18) (n := 85) (by omega) (by omega) ?_
  refine lv_istore (lv' := [(5, .int 1), (4, .int 0), (3, .ref ou), (2, .ref mo), (1, .ref xo), (0, .ref b)]) hx hb dL_law_1135 hl (by decide) rfl (fun ls hl => ?_)
  refine lv_aload_n hx hb dL_law_1137 rfl (lv_at hl 3 rfl) ?_
  refine lv_aload_n hx hb dL_law_1138 rfl (lv_at hl 5 rfl) ?_
  refine lv_iload hx hb dL_law_1139 (lv_at hl 1 rfl) ?_
  refine lv_iconst (v := 1) hx hb dL_law_1141 (by decide) ?_
  refine lv_iadd hx hb dL_law_1142 ?_
  refine lv_topi (fun v7 ev7 => ?_)
  obtain rfl : v7 = 1 := ev7.trans (by decide)
  refine va_sld hx hb hX hbl hbA hS (by unfold vp_in; decide) dL_law_1143 ?_
  refine lv_topi (fun v8 ev8 => ?_)
  have e9 : v8 = p0 := ev8.trans (show xs ((1 : Int32).toNatClampNeg) = p0 from h1)
  clear ev8
  subst v8
  refine lv_aload_n hx hb dL_law_1144 rfl (lv_at hl 5 rfl) ?_
  refine lv_iload hx hb dL_law_1145 (lv_at hl 1 rfl) ?_
  refine lv_iconst (v := 2) hx hb dL_law_1147 (by decide) ?_
  refine lv_iadd hx hb dL_law_1148 ?_
  refine lv_topi (fun v9 ev9 => ?_)
  obtain rfl : v9 = 2 := ev9.trans (by decide)
  refine va_sld hx hb hX hbl hbA hS (by unfold vp_in; decide) dL_law_1149 ?_
  refine lv_topi (fun v10 ev10 => ?_)
  have e9 : v10 = p1 := ev10.trans (show xs ((2 : Int32).toNatClampNeg) = p1 from h2)
  clear ev10
  subst v10
  have hPc := hP.sub (ws' := [(mo, .inr (9, [.int 0, .ref am, .int 0, .int 0, .int 0])), (am, .inr (4, [.int mm, .ref (zk 0), .int 0]))]) [1, 2] rfl
  have hDc := hD.sub (ws' := [(mo, .inr (9, [.int 0, .ref am, .int 0, .int 0, .int 0])), (am, .inr (4, [.int mm, .ref (zk 0), .int 0]))]) [1, 2] (by decide) rfl
  have hFc := va_free (wc := [(mo, .inr (9, [.int 0, .ref am, .int 0, .int 0, .int 0])), (am, .inr (4, [.int mm, .ref (zk 0), .int 0]))]) hD hS hA [1, 2] rfl
  have hDv := hDc.self (sz := H5.size)
  have hpre := zpre (xs' := []) (av := [.ref mo, .int p0, .int p1]) hPc hK (hDc.weaken (fun _ _ _ h => h)) hZ hS hFc (fun r hr => by cases hr)
  refine va_calli (va_runV (As := [.int p0, .int p1]) (rest := []) ⟨hx, hb, hml, hown, hts⟩ (k_copyM l dC dI cI cB cR cO zk mo am (.int 0) (.int 0) (.int 0) (.int 0) mm p0 p1 H5.size ) (cwV 2 hts gL_law_X4_copy rfl rfl rfl (by decide +kernel) ⟨Nat.le_of_ble_eq_true rfl, Nat.le_of_ble_eq_true rfl⟩) ⟨zblind, (zrecv_9 hK hPc (q0 := 0) rfl), hpre⟩ rfl rfl hl.1 rfl (lv_room (Nat.le_of_ble_eq_true rfl)) dL_law_1150 ⟨Nat.le_of_ble_eq_true rfl, Nat.le_of_ble_eq_true rfl⟩) hS (fun q _ h => hFc q h) hFc (fun r12 u t H11 locs ht hvm hw hB hz1 hk1 hS => ?_)
  obtain ⟨hP1, hK1, hD1, hz2⟩ := hB
  rw [ht] at hP1 hz2
  have hPD9 := va_join (wr := [(ou, .inr (7, [.long 0, .null])), (xo, .inr (6, [.ref al, .int 0, .int 0, .int 0, x4, x5, .ref b1, x7])), (al, .inr (4, [.int mc, .ref (zk 0), .int 0]))]) (w1 := [(mo, .inr (9, [.int 1, .ref am, .int 0, .int 0, .int 0])), (am, .inr (4, [.int mm, .ref (zk 0), .int 0]))]) hP hD [1, 2] [0, 3, 4] rfl rfl (by decide) (by decide) hk1 hFc hP1 hD1
  clear hPc hDc hFc hDv hpre hP hD hP1 hK1 hD1
  obtain ⟨hP, hD⟩ := hPD9
  replace hz : s.heap.size + 0 ≤ H11.size := by omega
  clear hz2
  replace hP : va_P (dC, dI) vwCl [(ou, .inr (7, [.long 0, .null])), (xo, .inr (6, [.ref al, .int 0, .int 0, .int 0, x4, x5, .ref b1, x7])), (al, .inr (4, [.int mc, .ref (zk 0), .int 0])), (mo, .inr (9, [.int 1, .ref am, .int 0, .int 0, .int 0])), (am, .inr (4, [.int mm, .ref (zk 0), .int 0]))] H11 := hP
  replace hD : va_D A [(ou, .inr (7, [.long 0, .null])), (xo, .inr (6, [.ref al, .int 0, .int 0, .int 0, x4, x5, .ref b1, x7])), (al, .inr (4, [.int mc, .ref (zk 0), .int 0])), (mo, .inr (9, [.int 1, .ref am, .int 0, .int 0, .int 0])), (am, .inr (4, [.int mm, .ref (zk 0), .int 0]))] := hD
  refine W.widen (k := 18) (n := 85) (by omega) (by omega) ?_
  refine lv_istore (lv' := [(6, .int r12), (5, .int 1), (4, .int 0), (3, .ref ou), (2, .ref mo), (1, .ref xo), (0, .ref b)]) hx hb dL_law_1153 hl (by decide) rfl (fun ls hl => ?_)
  refine lv_aload_n hx hb dL_law_1155 rfl (lv_at hl 4 rfl) ?_
  have hPc := hP.sub (ws' := [(mo, .inr (9, [.int 1, .ref am, .int 0, .int 0, .int 0]))]) [3] rfl
  have hDc := hD.sub (ws' := [(mo, .inr (9, [.int 1, .ref am, .int 0, .int 0, .int 0]))]) [3] (by decide) rfl
  have hFc := va_free (wc := [(mo, .inr (9, [.int 1, .ref am, .int 0, .int 0, .int 0]))]) hD hS hA [3] rfl
  have hDv := hDc.self (sz := H11.size)
  have hpre := zpre (xs' := []) (av := [.ref mo]) hPc hK (hDc.weaken (fun _ _ _ h => h)) hZ hS hFc (fun r hr => by cases hr)
  refine va_calli (va_runV (As := []) (rest := []) ⟨hx, hb, hml, hown, hts⟩ (k_thz l dC dI cI cB cR cO zk mo am (.int 0) (.int 0) (.int 0) H11.size ) (cwV 0 hts gL_law_X4_thrown rfl rfl rfl (by decide +kernel) ⟨Nat.le_of_ble_eq_true rfl, Nat.le_of_ble_eq_true rfl⟩) ⟨zblind, (zrecv_9 hK hPc (q0 := 0) rfl), hpre⟩ rfl rfl hl.1 rfl (lv_room (Nat.le_of_ble_eq_true rfl)) dL_law_1156 ⟨Nat.le_of_ble_eq_true rfl, Nat.le_of_ble_eq_true rfl⟩) hS (fun q _ h => hFc q h) hFc (fun r14 u t H13 locs ht hvm hw hB hz1 hk1 hS => ?_)
  obtain rfl : 1 = r14 := (show r14 = 1 from hw).symm
  obtain ⟨hP1, hK1, hD1, hz2⟩ := hB
  rw [ht] at hP1 hz2
  have hPD9 := va_join (wr := [(ou, .inr (7, [.long 0, .null])), (xo, .inr (6, [.ref al, .int 0, .int 0, .int 0, x4, x5, .ref b1, x7])), (al, .inr (4, [.int mc, .ref (zk 0), .int 0])), (am, .inr (4, [.int mm, .ref (zk 0), .int 0]))]) (w1 := [(mo, .inr (9, [.int 1, .ref am, .int 0, .int 0, .int 0]))]) hP hD [3] [0, 1, 2, 4] rfl rfl (by decide) (by decide) hk1 hFc hP1 hD1
  clear hPc hDc hFc hDv hpre hP hD hP1 hK1 hD1
  obtain ⟨hP, hD⟩ := hPD9
  replace hz : s.heap.size + 0 ≤ H13.size := by omega
  clear hz2
  replace hP : va_P (dC, dI) vwCl [(ou, .inr (7, [.long 0, .null])), (xo, .inr (6, [.ref al, .int 0, .int 0, .int 0, x4, x5, .ref b1, x7])), (al, .inr (4, [.int mc, .ref (zk 0), .int 0])), (am, .inr (4, [.int mm, .ref (zk 0), .int 0])), (mo, .inr (9, [.int 1, .ref am, .int 0, .int 0, .int 0]))] H13 := hP
  replace hD : va_D A [(ou, .inr (7, [.long 0, .null])), (xo, .inr (6, [.ref al, .int 0, .int 0, .int 0, x4, x5, .ref b1, x7])), (al, .inr (4, [.int mc, .ref (zk 0), .int 0])), (am, .inr (4, [.int mm, .ref (zk 0), .int 0])), (mo, .inr (9, [.int 1, .ref am, .int 0, .int 0, .int 0]))] := hD
  refine W.widen (k := 18) (n := 85) (by omega) (by omega) ?_
  refine lv_iload hx hb dL_law_1159 (lv_at hl 1 rfl) ?_
  refine lv_icmp_eq (tgt := 1166) hx hb dL_law_1161 (by decide) (fun c9 => ?_) (fun c9 => ?_)
  rotate_left
  · exact absurd (by decide) c9
  refine lv_iload hx hb dL_law_1166 (lv_at hl 1 rfl) ?_
  refine lv_if_ne (tgt := 1184) hx hb dL_law_1168 (by decide) (fun c9 => ?_) (fun c9 => ?_)
  rotate_left
  · exact absurd c9 (by decide)
  refine lv_goto (tgt := 2155) hx hb dL_law_1184 (by decide) ?_
  rw [hAd] at hS
  exact zl_tail l dC dI cI cB cR cO zk b xs C1 hZ0 hK hS (Nat.le_of_ble_eq_true rfl) (Nat.le_of_ble_eq_true rfl) ls (lv_sub hl [6, 2] rfl)

set_option maxHeartbeats 4000000 in
set_option maxRecDepth 100000 in
theorem zl_a_kind (l : Launch) (dC : Nat → ClassId) (dI : Nat → Nat → Nat) (cI cB cR cO : ClassId) (zk : Nat → Nat) {p : Program} {e : Env} {s : State} {mY : MethodId} {below : List Frame} {meth : Method} {c : Code} (b : Nat) (xs : Nat → Int32) (hfl : l.stackTraces = false) (C0 : zl_At p s mY meth c b 5 xs) (hZ0 : zR zk [] (fun q => s.heap.size ≤ q) s s.heap) (hK : va_K (dC, dI) vwCl (zT cI cB cR cO) s) (ou xo al b1 : Nat) (x4 x5 x7 : Value) (mc : Int32) (mo am : Nat) (mm : Int32)  (p0 : Int32) (h1 : xs 1 = p0)  (H : Heap) (locs : List Loc) (hP : va_P (dC, dI) vwCl [(ou, .inr (7, [.long 0, .null])), (xo, .inr (6, [.ref al, .int 0, .int 0, .int 0, x4, x5, .ref b1, x7])), (al, .inr (4, [.int mc, .ref (zk 0), .int 0])), (mo, .inr (9, [.int 0, .ref am, .int 0, .int 0, .int 0])), (am, .inr (4, [.int mm, .ref (zk 0), .int 0]))] H) (hD : va_D (fun q => s.heap.size ≤ q) [(ou, .inr (7, [.long 0, .null])), (xo, .inr (6, [.ref al, .int 0, .int 0, .int 0, x4, x5, .ref b1, x7])), (al, .inr (4, [.int mc, .ref (zk 0), .int 0])), (mo, .inr (9, [.int 0, .ref am, .int 0, .int 0, .int 0])), (am, .inr (4, [.int mm, .ref (zk 0), .int 0]))]) (hS : va_S (fun q => s.heap.size ≤ q) s.heap H locs) (ls : Array Slot) (hl : lv_has ls 7 [(4, .int 0), (3, .ref ou), (2, .ref mo), (1, .ref xo), (0, .ref b)]) : W p l e room_1 s mY #[Value.ref b] below meth c H locs 17 79 (lw_Z below #[Value.ref b] s) (F0 mY 1187 ls []) := by
  have C1 := C0
  obtain ⟨hx, hb, hr, hml, hown, hts0, hX, hbl, hlocks, hNI⟩ := C0
  have hts := fun (w : Cond) (h : w ∈ wsL_law) => hts0 w (wsL_law_in w h)
  obtain ⟨A, hAd⟩ : ∃ A : Nat → Prop, A = fun q => s.heap.size ≤ q := ⟨_, rfl⟩
  have hA : ∀ q : Nat, s.heap.size ≤ q → A q := fun q h => by rw [hAd]; exact h
  have hAf : ∀ q : Nat, A q → s.heap.size ≤ q := fun q h => by rw [hAd] at h; exact h
  have hbA : ¬ A b := fun h => absurd (hAf b h) (Nat.not_le.mpr hbl)
  have hZ : zR zk [] A s s.heap := by rw [hAd]; exact hZ0
  rw [← hAd] at hD hS
  replace hP : va_P (dC, dI) vwCl [(ou, .inr (7, [.long 0, .null])), (xo, .inr (6, [.ref al, .int 0, .int 0, .int 0, x4, x5, .ref b1, x7])), (al, .inr (4, [.int mc, .ref (zk 0), .int 0])), (mo, .inr (9, [.int 0, .ref am, .int 0, .int 0, .int 0])), (am, .inr (4, [.int mm, .ref (zk 0), .int 0]))] H := hP
  replace hD : va_D A [(ou, .inr (7, [.long 0, .null])), (xo, .inr (6, [.ref al, .int 0, .int 0, .int 0, x4, x5, .ref b1, x7])), (al, .inr (4, [.int mc, .ref (zk 0), .int 0])), (mo, .inr (9, [.int 0, .ref am, .int 0, .int 0, .int 0])), (am, .inr (4, [.int mm, .ref (zk 0), .int 0]))] := hD
  have hz : s.heap.size + 0 ≤ H.size := hS.1
  refine lv_aload_n hx hb dL_law_1187 rfl (lv_at hl 3 rfl) ?_
  refine lv_aload_n hx hb dL_law_1188 rfl (lv_at hl 4 rfl) ?_
  refine lv_iload hx hb dL_law_1189 (lv_at hl 0 rfl) ?_
  refine lv_iconst (v := 1) hx hb dL_law_1191 (by decide) ?_
  refine lv_iadd hx hb dL_law_1192 ?_
  refine lv_topi (fun v1 ev1 => ?_)
  obtain rfl : v1 = 1 := ev1.trans (by decide)
  refine va_sld hx hb hX hbl hbA hS (by unfold vp_in; decide) dL_law_1193 ?_
  refine lv_topi (fun v2 ev2 => ?_)
  have e9 : v2 = p0 := ev2.trans (show xs ((1 : Int32).toNatClampNeg) = p0 from h1)
  clear ev2
  subst v2
  refine lv_aload_n hx hb dL_law_1194 rfl (lv_at hl 1 rfl) ?_
  have hPc := hP.sub (ws' := [(xo, .inr (6, [.ref al, .int 0, .int 0, .int 0, x4, x5, .ref b1, x7])), (al, .inr (4, [.int mc, .ref (zk 0), .int 0]))]) [1, 2] rfl
  have hDc := hD.sub (ws' := [(xo, .inr (6, [.ref al, .int 0, .int 0, .int 0, x4, x5, .ref b1, x7])), (al, .inr (4, [.int mc, .ref (zk 0), .int 0]))]) [1, 2] (by decide) rfl
  have hFc := va_free (wc := [(xo, .inr (6, [.ref al, .int 0, .int 0, .int 0, x4, x5, .ref b1, x7])), (al, .inr (4, [.int mc, .ref (zk 0), .int 0]))]) hD hS hA [1, 2] rfl
  have hDv := hDc.self (sz := H.size)
  have hpre := zpre (xs' := []) (av := [.ref xo, .int p0, .ref ou]) hPc hK (hDc.weaken (fun _ _ _ h => h)) hZ hS hFc (fun r hr => by cases hr)
  refine va_calli (vx_runSW (As := [.ref xo, .int p0, .ref ou]) (rest := []) ⟨hx, hb, hml, hown, hts⟩ (k_kindH l dC dI cI cB cR cO zk hfl xo al b1 (.int 0) (.int 0) (.int 0) x4 x5 x7 mc p0 ou H.size ) (vx_cwSW 3 hts gL_law_L_kind rfl rfl rfl (by decide +kernel) ⟨Nat.le_of_ble_eq_true rfl, Nat.le_of_ble_eq_true rfl⟩) ⟨zblind, hpre⟩ rfl rfl hl.1 rfl (lv_room (Nat.le_of_ble_eq_true rfl)) dL_law_1195 ⟨Nat.le_of_ble_eq_true rfl, Nat.le_of_ble_eq_true rfl⟩) hS (fun q _ h => hFc q h) hFc (fun r4 u t H3 locs ht hvm hw hB hz1 hk1 hS => ?_)
  obtain rfl : 1 = r4 := (show r4 = 1 from hw).symm
  obtain ⟨hP1, hK1, hD1, hz2⟩ := hB
  rw [ht] at hP1 hz2
  have hPD9 := va_join (wr := [(ou, .inr (7, [.long 0, .null])), (mo, .inr (9, [.int 0, .ref am, .int 0, .int 0, .int 0])), (am, .inr (4, [.int mm, .ref (zk 0), .int 0]))]) (w1 := [(xo, .inr (6, [.ref al, .int 0, .int 0, .int 0, x4, x5, .ref b1, x7])), (al, .inr (4, [.int mc, .ref (zk 0), .int 0]))]) hP hD [1, 2] [0, 3, 4] rfl rfl (by decide) (by decide) hk1 hFc hP1 hD1
  clear hPc hDc hFc hDv hpre hP hD hP1 hK1 hD1
  obtain ⟨hP, hD⟩ := hPD9
  replace hz : s.heap.size + 0 ≤ H3.size := by omega
  clear hz2
  replace hP : va_P (dC, dI) vwCl [(ou, .inr (7, [.long 0, .null])), (mo, .inr (9, [.int 0, .ref am, .int 0, .int 0, .int 0])), (am, .inr (4, [.int mm, .ref (zk 0), .int 0])), (xo, .inr (6, [.ref al, .int 0, .int 0, .int 0, x4, x5, .ref b1, x7])), (al, .inr (4, [.int mc, .ref (zk 0), .int 0]))] H3 := hP
  replace hD : va_D A [(ou, .inr (7, [.long 0, .null])), (mo, .inr (9, [.int 0, .ref am, .int 0, .int 0, .int 0])), (am, .inr (4, [.int mm, .ref (zk 0), .int 0])), (xo, .inr (6, [.ref al, .int 0, .int 0, .int 0, x4, x5, .ref b1, x7])), (al, .inr (4, [.int mc, .ref (zk 0), .int 0]))] := hD
  refine W.widen (k := 18) (n := 85) (by omega) (by omega) ?_
  refine lv_istore (lv' := [(5, .int 1), (4, .int 0), (3, .ref ou), (2, .ref mo), (1, .ref xo), (0, .ref b)]) hx hb dL_law_1198 hl (by decide) rfl (fun ls hl => ?_)
  refine lv_aload_n hx hb dL_law_1200 rfl (lv_at hl 3 rfl) ?_
  refine lv_aload_n hx hb dL_law_1201 rfl (lv_at hl 5 rfl) ?_
  refine lv_iload hx hb dL_law_1202 (lv_at hl 1 rfl) ?_
  refine lv_iconst (v := 1) hx hb dL_law_1204 (by decide) ?_
  refine lv_iadd hx hb dL_law_1205 ?_
  refine lv_topi (fun v5 ev5 => ?_)
  obtain rfl : v5 = 1 := ev5.trans (by decide)
  refine va_sld hx hb hX hbl hbA hS (by unfold vp_in; decide) dL_law_1206 ?_
  refine lv_topi (fun v6 ev6 => ?_)
  have e9 : v6 = p0 := ev6.trans (show xs ((1 : Int32).toNatClampNeg) = p0 from h1)
  clear ev6
  subst v6
  have hPc := hP.sub (ws' := [(mo, .inr (9, [.int 0, .ref am, .int 0, .int 0, .int 0])), (am, .inr (4, [.int mm, .ref (zk 0), .int 0]))]) [1, 2] rfl
  have hDc := hD.sub (ws' := [(mo, .inr (9, [.int 0, .ref am, .int 0, .int 0, .int 0])), (am, .inr (4, [.int mm, .ref (zk 0), .int 0]))]) [1, 2] (by decide) rfl
  have hFc := va_free (wc := [(mo, .inr (9, [.int 0, .ref am, .int 0, .int 0, .int 0])), (am, .inr (4, [.int mm, .ref (zk 0), .int 0]))]) hD hS hA [1, 2] rfl
  have hDv := hDc.self (sz := H3.size)
  have hpre := zpre (xs' := []) (av := [.ref mo, .int p0]) hPc hK (hDc.weaken (fun _ _ _ h => h)) hZ hS hFc (fun r hr => by cases hr)
  refine va_calli (va_runV (As := [.int p0]) (rest := []) ⟨hx, hb, hml, hown, hts⟩ (k_kindM l dC dI cI cB cR cO zk mo am (.int 0) (.int 0) (.int 0) (.int 0) mm p0 H3.size ) (cwV 1 hts gL_law_X4_kind rfl rfl rfl (by decide +kernel) ⟨Nat.le_of_ble_eq_true rfl, Nat.le_of_ble_eq_true rfl⟩) ⟨zblind, (zrecv_9 hK hPc (q0 := 0) rfl), hpre⟩ rfl rfl hl.1 rfl (lv_room (Nat.le_of_ble_eq_true rfl)) dL_law_1207 ⟨Nat.le_of_ble_eq_true rfl, Nat.le_of_ble_eq_true rfl⟩) hS (fun q _ h => hFc q h) hFc (fun r8 u t H7 locs ht hvm hw hB hz1 hk1 hS => ?_)
  obtain ⟨hP1, hK1, hD1, hz2⟩ := hB
  rw [ht] at hP1 hz2
  have hPD9 := va_join (wr := [(ou, .inr (7, [.long 0, .null])), (xo, .inr (6, [.ref al, .int 0, .int 0, .int 0, x4, x5, .ref b1, x7])), (al, .inr (4, [.int mc, .ref (zk 0), .int 0]))]) (w1 := [(mo, .inr (9, [.int 1, .ref am, .int 0, .int 0, .int 0])), (am, .inr (4, [.int mm, .ref (zk 0), .int 0]))]) hP hD [1, 2] [0, 3, 4] rfl rfl (by decide) (by decide) hk1 hFc hP1 hD1
  clear hPc hDc hFc hDv hpre hP hD hP1 hK1 hD1
  obtain ⟨hP, hD⟩ := hPD9
  replace hz : s.heap.size + 0 ≤ H7.size := by omega
  clear hz2
  replace hP : va_P (dC, dI) vwCl [(ou, .inr (7, [.long 0, .null])), (xo, .inr (6, [.ref al, .int 0, .int 0, .int 0, x4, x5, .ref b1, x7])), (al, .inr (4, [.int mc, .ref (zk 0), .int 0])), (mo, .inr (9, [.int 1, .ref am, .int 0, .int 0, .int 0])), (am, .inr (4, [.int mm, .ref (zk 0), .int 0]))] H7 := hP
  replace hD : va_D A [(ou, .inr (7, [.long 0, .null])), (xo, .inr (6, [.ref al, .int 0, .int 0, .int 0, x4, x5, .ref b1, x7])), (al, .inr (4, [.int mc, .ref (zk 0), .int 0])), (mo, .inr (9, [.int 1, .ref am, .int 0, .int 0, .int 0])), (am, .inr (4, [.int mm, .ref (zk 0), .int 0]))] := hD
  refine W.widen (k := 18) (n := 85) (by omega) (by omega) ?_
  refine lv_istore (lv' := [(6, .int r8), (5, .int 1), (4, .int 0), (3, .ref ou), (2, .ref mo), (1, .ref xo), (0, .ref b)]) hx hb dL_law_1210 hl (by decide) rfl (fun ls hl => ?_)
  refine lv_aload_n hx hb dL_law_1212 rfl (lv_at hl 4 rfl) ?_
  have hPc := hP.sub (ws' := [(mo, .inr (9, [.int 1, .ref am, .int 0, .int 0, .int 0]))]) [3] rfl
  have hDc := hD.sub (ws' := [(mo, .inr (9, [.int 1, .ref am, .int 0, .int 0, .int 0]))]) [3] (by decide) rfl
  have hFc := va_free (wc := [(mo, .inr (9, [.int 1, .ref am, .int 0, .int 0, .int 0]))]) hD hS hA [3] rfl
  have hDv := hDc.self (sz := H7.size)
  have hpre := zpre (xs' := []) (av := [.ref mo]) hPc hK (hDc.weaken (fun _ _ _ h => h)) hZ hS hFc (fun r hr => by cases hr)
  refine va_calli (va_runV (As := []) (rest := []) ⟨hx, hb, hml, hown, hts⟩ (k_thz l dC dI cI cB cR cO zk mo am (.int 0) (.int 0) (.int 0) H7.size ) (cwV 0 hts gL_law_X4_thrown rfl rfl rfl (by decide +kernel) ⟨Nat.le_of_ble_eq_true rfl, Nat.le_of_ble_eq_true rfl⟩) ⟨zblind, (zrecv_9 hK hPc (q0 := 0) rfl), hpre⟩ rfl rfl hl.1 rfl (lv_room (Nat.le_of_ble_eq_true rfl)) dL_law_1213 ⟨Nat.le_of_ble_eq_true rfl, Nat.le_of_ble_eq_true rfl⟩) hS (fun q _ h => hFc q h) hFc (fun r10 u t H9 locs ht hvm hw hB hz1 hk1 hS => ?_)
  obtain rfl : 1 = r10 := (show r10 = 1 from hw).symm
  obtain ⟨hP1, hK1, hD1, hz2⟩ := hB
  rw [ht] at hP1 hz2
  have hPD9 := va_join (wr := [(ou, .inr (7, [.long 0, .null])), (xo, .inr (6, [.ref al, .int 0, .int 0, .int 0, x4, x5, .ref b1, x7])), (al, .inr (4, [.int mc, .ref (zk 0), .int 0])), (am, .inr (4, [.int mm, .ref (zk 0), .int 0]))]) (w1 := [(mo, .inr (9, [.int 1, .ref am, .int 0, .int 0, .int 0]))]) hP hD [3] [0, 1, 2, 4] rfl rfl (by decide) (by decide) hk1 hFc hP1 hD1
  clear hPc hDc hFc hDv hpre hP hD hP1 hK1 hD1
  obtain ⟨hP, hD⟩ := hPD9
  replace hz : s.heap.size + 0 ≤ H9.size := by omega
  clear hz2
  replace hP : va_P (dC, dI) vwCl [(ou, .inr (7, [.long 0, .null])), (xo, .inr (6, [.ref al, .int 0, .int 0, .int 0, x4, x5, .ref b1, x7])), (al, .inr (4, [.int mc, .ref (zk 0), .int 0])), (am, .inr (4, [.int mm, .ref (zk 0), .int 0])), (mo, .inr (9, [.int 1, .ref am, .int 0, .int 0, .int 0]))] H9 := hP
  replace hD : va_D A [(ou, .inr (7, [.long 0, .null])), (xo, .inr (6, [.ref al, .int 0, .int 0, .int 0, x4, x5, .ref b1, x7])), (al, .inr (4, [.int mc, .ref (zk 0), .int 0])), (am, .inr (4, [.int mm, .ref (zk 0), .int 0])), (mo, .inr (9, [.int 1, .ref am, .int 0, .int 0, .int 0]))] := hD
  refine W.widen (k := 18) (n := 85) (by omega) (by omega) ?_
  refine lv_iload hx hb dL_law_1216 (lv_at hl 1 rfl) ?_
  refine lv_icmp_eq (tgt := 1223) hx hb dL_law_1218 (by decide) (fun c9 => ?_) (fun c9 => ?_)
  rotate_left
  · exact absurd (by decide) c9
  refine lv_iload hx hb dL_law_1223 (lv_at hl 1 rfl) ?_
  refine lv_if_ne (tgt := 1241) hx hb dL_law_1225 (by decide) (fun c9 => ?_) (fun c9 => ?_)
  rotate_left
  · exact absurd c9 (by decide)
  refine lv_goto (tgt := 2155) hx hb dL_law_1241 (by decide) ?_
  rw [hAd] at hS
  exact zl_tail l dC dI cI cB cR cO zk b xs C1 hZ0 hK hS (Nat.le_of_ble_eq_true rfl) (Nat.le_of_ble_eq_true rfl) ls (lv_sub hl [6, 2] rfl)

set_option maxHeartbeats 4000000 in
set_option maxRecDepth 100000 in
theorem zl_a_length (l : Launch) (dC : Nat → ClassId) (dI : Nat → Nat → Nat) (cI cB cR cO : ClassId) (zk : Nat → Nat) {p : Program} {e : Env} {s : State} {mY : MethodId} {below : List Frame} {meth : Method} {c : Code} (b : Nat) (xs : Nat → Int32) (hfl : l.stackTraces = false) (C0 : zl_At p s mY meth c b 5 xs) (hZ0 : zR zk [] (fun q => s.heap.size ≤ q) s s.heap) (hK : va_K (dC, dI) vwCl (zT cI cB cR cO) s) (ou xo al b1 : Nat) (x4 x5 x7 : Value) (mc : Int32) (mo am : Nat) (mm : Int32)  (p0 : Int32) (h1 : xs 1 = p0)  (H : Heap) (locs : List Loc) (hP : va_P (dC, dI) vwCl [(ou, .inr (7, [.long 0, .null])), (xo, .inr (6, [.ref al, .int 0, .int 0, .int 0, x4, x5, .ref b1, x7])), (al, .inr (4, [.int mc, .ref (zk 0), .int 0])), (mo, .inr (9, [.int 0, .ref am, .int 0, .int 0, .int 0])), (am, .inr (4, [.int mm, .ref (zk 0), .int 0]))] H) (hD : va_D (fun q => s.heap.size ≤ q) [(ou, .inr (7, [.long 0, .null])), (xo, .inr (6, [.ref al, .int 0, .int 0, .int 0, x4, x5, .ref b1, x7])), (al, .inr (4, [.int mc, .ref (zk 0), .int 0])), (mo, .inr (9, [.int 0, .ref am, .int 0, .int 0, .int 0])), (am, .inr (4, [.int mm, .ref (zk 0), .int 0]))]) (hS : va_S (fun q => s.heap.size ≤ q) s.heap H locs) (ls : Array Slot) (hl : lv_has ls 7 [(4, .int 0), (3, .ref ou), (2, .ref mo), (1, .ref xo), (0, .ref b)]) : W p l e room_1 s mY #[Value.ref b] below meth c H locs 17 79 (lw_Z below #[Value.ref b] s) (F0 mY 1244 ls []) := by
  have C1 := C0
  obtain ⟨hx, hb, hr, hml, hown, hts0, hX, hbl, hlocks, hNI⟩ := C0
  have hts := fun (w : Cond) (h : w ∈ wsL_law) => hts0 w (wsL_law_in w h)
  obtain ⟨A, hAd⟩ : ∃ A : Nat → Prop, A = fun q => s.heap.size ≤ q := ⟨_, rfl⟩
  have hA : ∀ q : Nat, s.heap.size ≤ q → A q := fun q h => by rw [hAd]; exact h
  have hAf : ∀ q : Nat, A q → s.heap.size ≤ q := fun q h => by rw [hAd] at h; exact h
  have hbA : ¬ A b := fun h => absurd (hAf b h) (Nat.not_le.mpr hbl)
  have hZ : zR zk [] A s s.heap := by rw [hAd]; exact hZ0
  rw [← hAd] at hD hS
  replace hP : va_P (dC, dI) vwCl [(ou, .inr (7, [.long 0, .null])), (xo, .inr (6, [.ref al, .int 0, .int 0, .int 0, x4, x5, .ref b1, x7])), (al, .inr (4, [.int mc, .ref (zk 0), .int 0])), (mo, .inr (9, [.int 0, .ref am, .int 0, .int 0, .int 0])), (am, .inr (4, [.int mm, .ref (zk 0), .int 0]))] H := hP
  replace hD : va_D A [(ou, .inr (7, [.long 0, .null])), (xo, .inr (6, [.ref al, .int 0, .int 0, .int 0, x4, x5, .ref b1, x7])), (al, .inr (4, [.int mc, .ref (zk 0), .int 0])), (mo, .inr (9, [.int 0, .ref am, .int 0, .int 0, .int 0])), (am, .inr (4, [.int mm, .ref (zk 0), .int 0]))] := hD
  have hz : s.heap.size + 0 ≤ H.size := hS.1
  refine lv_aload_n hx hb dL_law_1244 rfl (lv_at hl 3 rfl) ?_
  refine lv_aload_n hx hb dL_law_1245 rfl (lv_at hl 4 rfl) ?_
  refine lv_iload hx hb dL_law_1246 (lv_at hl 0 rfl) ?_
  refine lv_iconst (v := 1) hx hb dL_law_1248 (by decide) ?_
  refine lv_iadd hx hb dL_law_1249 ?_
  refine lv_topi (fun v1 ev1 => ?_)
  obtain rfl : v1 = 1 := ev1.trans (by decide)
  refine va_sld hx hb hX hbl hbA hS (by unfold vp_in; decide) dL_law_1250 ?_
  refine lv_topi (fun v2 ev2 => ?_)
  have e9 : v2 = p0 := ev2.trans (show xs ((1 : Int32).toNatClampNeg) = p0 from h1)
  clear ev2
  subst v2
  refine lv_aload_n hx hb dL_law_1251 rfl (lv_at hl 1 rfl) ?_
  have hPc := hP.sub (ws' := [(xo, .inr (6, [.ref al, .int 0, .int 0, .int 0, x4, x5, .ref b1, x7])), (al, .inr (4, [.int mc, .ref (zk 0), .int 0]))]) [1, 2] rfl
  have hDc := hD.sub (ws' := [(xo, .inr (6, [.ref al, .int 0, .int 0, .int 0, x4, x5, .ref b1, x7])), (al, .inr (4, [.int mc, .ref (zk 0), .int 0]))]) [1, 2] (by decide) rfl
  have hFc := va_free (wc := [(xo, .inr (6, [.ref al, .int 0, .int 0, .int 0, x4, x5, .ref b1, x7])), (al, .inr (4, [.int mc, .ref (zk 0), .int 0]))]) hD hS hA [1, 2] rfl
  have hDv := hDc.self (sz := H.size)
  have hpre := zpre (xs' := []) (av := [.ref xo, .int p0, .ref ou]) hPc hK (hDc.weaken (fun _ _ _ h => h)) hZ hS hFc (fun r hr => by cases hr)
  refine va_calli (vx_runSW (As := [.ref xo, .int p0, .ref ou]) (rest := []) ⟨hx, hb, hml, hown, hts⟩ (k_lengthH l dC dI cI cB cR cO zk hfl xo al b1 (.int 0) (.int 0) (.int 0) x4 x5 x7 mc p0 ou H.size ) (vx_cwSW 3 hts gL_law_L_length rfl rfl rfl (by decide +kernel) ⟨Nat.le_of_ble_eq_true rfl, Nat.le_of_ble_eq_true rfl⟩) ⟨zblind, hpre⟩ rfl rfl hl.1 rfl (lv_room (Nat.le_of_ble_eq_true rfl)) dL_law_1252 ⟨Nat.le_of_ble_eq_true rfl, Nat.le_of_ble_eq_true rfl⟩) hS (fun q _ h => hFc q h) hFc (fun r4 u t H3 locs ht hvm hw hB hz1 hk1 hS => ?_)
  obtain rfl : 1 = r4 := (show r4 = 1 from hw).symm
  obtain ⟨hP1, hK1, hD1, hz2⟩ := hB
  rw [ht] at hP1 hz2
  have hPD9 := va_join (wr := [(ou, .inr (7, [.long 0, .null])), (mo, .inr (9, [.int 0, .ref am, .int 0, .int 0, .int 0])), (am, .inr (4, [.int mm, .ref (zk 0), .int 0]))]) (w1 := [(xo, .inr (6, [.ref al, .int 0, .int 0, .int 0, x4, x5, .ref b1, x7])), (al, .inr (4, [.int mc, .ref (zk 0), .int 0]))]) hP hD [1, 2] [0, 3, 4] rfl rfl (by decide) (by decide) hk1 hFc hP1 hD1
  clear hPc hDc hFc hDv hpre hP hD hP1 hK1 hD1
  obtain ⟨hP, hD⟩ := hPD9
  replace hz : s.heap.size + 0 ≤ H3.size := by omega
  clear hz2
  replace hP : va_P (dC, dI) vwCl [(ou, .inr (7, [.long 0, .null])), (mo, .inr (9, [.int 0, .ref am, .int 0, .int 0, .int 0])), (am, .inr (4, [.int mm, .ref (zk 0), .int 0])), (xo, .inr (6, [.ref al, .int 0, .int 0, .int 0, x4, x5, .ref b1, x7])), (al, .inr (4, [.int mc, .ref (zk 0), .int 0]))] H3 := hP
  replace hD : va_D A [(ou, .inr (7, [.long 0, .null])), (mo, .inr (9, [.int 0, .ref am, .int 0, .int 0, .int 0])), (am, .inr (4, [.int mm, .ref (zk 0), .int 0])), (xo, .inr (6, [.ref al, .int 0, .int 0, .int 0, x4, x5, .ref b1, x7])), (al, .inr (4, [.int mc, .ref (zk 0), .int 0]))] := hD
  refine W.widen (k := 18) (n := 85) (by omega) (by omega) ?_
  refine lv_istore (lv' := [(5, .int 1), (4, .int 0), (3, .ref ou), (2, .ref mo), (1, .ref xo), (0, .ref b)]) hx hb dL_law_1255 hl (by decide) rfl (fun ls hl => ?_)
  refine lv_aload_n hx hb dL_law_1257 rfl (lv_at hl 3 rfl) ?_
  refine lv_aload_n hx hb dL_law_1258 rfl (lv_at hl 5 rfl) ?_
  refine lv_iload hx hb dL_law_1259 (lv_at hl 1 rfl) ?_
  refine lv_iconst (v := 1) hx hb dL_law_1261 (by decide) ?_
  refine lv_iadd hx hb dL_law_1262 ?_
  refine lv_topi (fun v5 ev5 => ?_)
  obtain rfl : v5 = 1 := ev5.trans (by decide)
  refine va_sld hx hb hX hbl hbA hS (by unfold vp_in; decide) dL_law_1263 ?_
  refine lv_topi (fun v6 ev6 => ?_)
  have e9 : v6 = p0 := ev6.trans (show xs ((1 : Int32).toNatClampNeg) = p0 from h1)
  clear ev6
  subst v6
  have hPc := hP.sub (ws' := [(mo, .inr (9, [.int 0, .ref am, .int 0, .int 0, .int 0])), (am, .inr (4, [.int mm, .ref (zk 0), .int 0]))]) [1, 2] rfl
  have hDc := hD.sub (ws' := [(mo, .inr (9, [.int 0, .ref am, .int 0, .int 0, .int 0])), (am, .inr (4, [.int mm, .ref (zk 0), .int 0]))]) [1, 2] (by decide) rfl
  have hFc := va_free (wc := [(mo, .inr (9, [.int 0, .ref am, .int 0, .int 0, .int 0])), (am, .inr (4, [.int mm, .ref (zk 0), .int 0]))]) hD hS hA [1, 2] rfl
  have hDv := hDc.self (sz := H3.size)
  have hpre := zpre (xs' := []) (av := [.ref mo, .int p0]) hPc hK (hDc.weaken (fun _ _ _ h => h)) hZ hS hFc (fun r hr => by cases hr)
  refine va_calli (va_runV (As := [.int p0]) (rest := []) ⟨hx, hb, hml, hown, hts⟩ (k_lengthM l dC dI cI cB cR cO zk mo am (.int 0) (.int 0) (.int 0) (.int 0) mm p0 H3.size ) (cwV 1 hts gL_law_X4_length rfl rfl rfl (by decide +kernel) ⟨Nat.le_of_ble_eq_true rfl, Nat.le_of_ble_eq_true rfl⟩) ⟨zblind, (zrecv_9 hK hPc (q0 := 0) rfl), hpre⟩ rfl rfl hl.1 rfl (lv_room (Nat.le_of_ble_eq_true rfl)) dL_law_1264 ⟨Nat.le_of_ble_eq_true rfl, Nat.le_of_ble_eq_true rfl⟩) hS (fun q _ h => hFc q h) hFc (fun r8 u t H7 locs ht hvm hw hB hz1 hk1 hS => ?_)
  obtain ⟨hP1, hK1, hD1, hz2⟩ := hB
  rw [ht] at hP1 hz2
  have hPD9 := va_join (wr := [(ou, .inr (7, [.long 0, .null])), (xo, .inr (6, [.ref al, .int 0, .int 0, .int 0, x4, x5, .ref b1, x7])), (al, .inr (4, [.int mc, .ref (zk 0), .int 0]))]) (w1 := [(mo, .inr (9, [.int 1, .ref am, .int 0, .int 0, .int 0])), (am, .inr (4, [.int mm, .ref (zk 0), .int 0]))]) hP hD [1, 2] [0, 3, 4] rfl rfl (by decide) (by decide) hk1 hFc hP1 hD1
  clear hPc hDc hFc hDv hpre hP hD hP1 hK1 hD1
  obtain ⟨hP, hD⟩ := hPD9
  replace hz : s.heap.size + 0 ≤ H7.size := by omega
  clear hz2
  replace hP : va_P (dC, dI) vwCl [(ou, .inr (7, [.long 0, .null])), (xo, .inr (6, [.ref al, .int 0, .int 0, .int 0, x4, x5, .ref b1, x7])), (al, .inr (4, [.int mc, .ref (zk 0), .int 0])), (mo, .inr (9, [.int 1, .ref am, .int 0, .int 0, .int 0])), (am, .inr (4, [.int mm, .ref (zk 0), .int 0]))] H7 := hP
  replace hD : va_D A [(ou, .inr (7, [.long 0, .null])), (xo, .inr (6, [.ref al, .int 0, .int 0, .int 0, x4, x5, .ref b1, x7])), (al, .inr (4, [.int mc, .ref (zk 0), .int 0])), (mo, .inr (9, [.int 1, .ref am, .int 0, .int 0, .int 0])), (am, .inr (4, [.int mm, .ref (zk 0), .int 0]))] := hD
  refine W.widen (k := 18) (n := 85) (by omega) (by omega) ?_
  refine lv_istore (lv' := [(6, .int r8), (5, .int 1), (4, .int 0), (3, .ref ou), (2, .ref mo), (1, .ref xo), (0, .ref b)]) hx hb dL_law_1267 hl (by decide) rfl (fun ls hl => ?_)
  refine lv_aload_n hx hb dL_law_1269 rfl (lv_at hl 4 rfl) ?_
  have hPc := hP.sub (ws' := [(mo, .inr (9, [.int 1, .ref am, .int 0, .int 0, .int 0]))]) [3] rfl
  have hDc := hD.sub (ws' := [(mo, .inr (9, [.int 1, .ref am, .int 0, .int 0, .int 0]))]) [3] (by decide) rfl
  have hFc := va_free (wc := [(mo, .inr (9, [.int 1, .ref am, .int 0, .int 0, .int 0]))]) hD hS hA [3] rfl
  have hDv := hDc.self (sz := H7.size)
  have hpre := zpre (xs' := []) (av := [.ref mo]) hPc hK (hDc.weaken (fun _ _ _ h => h)) hZ hS hFc (fun r hr => by cases hr)
  refine va_calli (va_runV (As := []) (rest := []) ⟨hx, hb, hml, hown, hts⟩ (k_thz l dC dI cI cB cR cO zk mo am (.int 0) (.int 0) (.int 0) H7.size ) (cwV 0 hts gL_law_X4_thrown rfl rfl rfl (by decide +kernel) ⟨Nat.le_of_ble_eq_true rfl, Nat.le_of_ble_eq_true rfl⟩) ⟨zblind, (zrecv_9 hK hPc (q0 := 0) rfl), hpre⟩ rfl rfl hl.1 rfl (lv_room (Nat.le_of_ble_eq_true rfl)) dL_law_1270 ⟨Nat.le_of_ble_eq_true rfl, Nat.le_of_ble_eq_true rfl⟩) hS (fun q _ h => hFc q h) hFc (fun r10 u t H9 locs ht hvm hw hB hz1 hk1 hS => ?_)
  obtain rfl : 1 = r10 := (show r10 = 1 from hw).symm
  obtain ⟨hP1, hK1, hD1, hz2⟩ := hB
  rw [ht] at hP1 hz2
  have hPD9 := va_join (wr := [(ou, .inr (7, [.long 0, .null])), (xo, .inr (6, [.ref al, .int 0, .int 0, .int 0, x4, x5, .ref b1, x7])), (al, .inr (4, [.int mc, .ref (zk 0), .int 0])), (am, .inr (4, [.int mm, .ref (zk 0), .int 0]))]) (w1 := [(mo, .inr (9, [.int 1, .ref am, .int 0, .int 0, .int 0]))]) hP hD [3] [0, 1, 2, 4] rfl rfl (by decide) (by decide) hk1 hFc hP1 hD1
  clear hPc hDc hFc hDv hpre hP hD hP1 hK1 hD1
  obtain ⟨hP, hD⟩ := hPD9
  replace hz : s.heap.size + 0 ≤ H9.size := by omega
  clear hz2
  replace hP : va_P (dC, dI) vwCl [(ou, .inr (7, [.long 0, .null])), (xo, .inr (6, [.ref al, .int 0, .int 0, .int 0, x4, x5, .ref b1, x7])), (al, .inr (4, [.int mc, .ref (zk 0), .int 0])), (am, .inr (4, [.int mm, .ref (zk 0), .int 0])), (mo, .inr (9, [.int 1, .ref am, .int 0, .int 0, .int 0]))] H9 := hP
  replace hD : va_D A [(ou, .inr (7, [.long 0, .null])), (xo, .inr (6, [.ref al, .int 0, .int 0, .int 0, x4, x5, .ref b1, x7])), (al, .inr (4, [.int mc, .ref (zk 0), .int 0])), (am, .inr (4, [.int mm, .ref (zk 0), .int 0])), (mo, .inr (9, [.int 1, .ref am, .int 0, .int 0, .int 0]))] := hD
  refine W.widen (k := 18) (n := 85) (by omega) (by omega) ?_
  refine lv_iload hx hb dL_law_1273 (lv_at hl 1 rfl) ?_
  refine lv_icmp_eq (tgt := 1280) hx hb dL_law_1275 (by decide) (fun c9 => ?_) (fun c9 => ?_)
  rotate_left
  · exact absurd (by decide) c9
  refine lv_iload hx hb dL_law_1280 (lv_at hl 1 rfl) ?_
  refine lv_if_ne (tgt := 1298) hx hb dL_law_1282 (by decide) (fun c9 => ?_) (fun c9 => ?_)
  rotate_left
  · exact absurd c9 (by decide)
  refine lv_goto (tgt := 2155) hx hb dL_law_1298 (by decide) ?_
  rw [hAd] at hS
  exact zl_tail l dC dI cI cB cR cO zk b xs C1 hZ0 hK hS (Nat.le_of_ble_eq_true rfl) (Nat.le_of_ble_eq_true rfl) ls (lv_sub hl [6, 2] rfl)

set_option maxHeartbeats 4000000 in
set_option maxRecDepth 100000 in
theorem zl_a_depth (l : Launch) (dC : Nat → ClassId) (dI : Nat → Nat → Nat) (cI cB cR cO : ClassId) (zk : Nat → Nat) {p : Program} {e : Env} {s : State} {mY : MethodId} {below : List Frame} {meth : Method} {c : Code} (b : Nat) (xs : Nat → Int32) (hfl : l.stackTraces = false) (C0 : zl_At p s mY meth c b 5 xs) (hZ0 : zR zk [] (fun q => s.heap.size ≤ q) s s.heap) (hK : va_K (dC, dI) vwCl (zT cI cB cR cO) s) (ou xo al b1 : Nat) (x4 x5 x7 : Value) (mc : Int32) (mo am : Nat) (mm : Int32)  (p0 : Int32) (h1 : xs 1 = p0)  (H : Heap) (locs : List Loc) (hP : va_P (dC, dI) vwCl [(ou, .inr (7, [.long 0, .null])), (xo, .inr (6, [.ref al, .int 0, .int 0, .int 0, x4, x5, .ref b1, x7])), (al, .inr (4, [.int mc, .ref (zk 0), .int 0])), (mo, .inr (9, [.int 0, .ref am, .int 0, .int 0, .int 0])), (am, .inr (4, [.int mm, .ref (zk 0), .int 0]))] H) (hD : va_D (fun q => s.heap.size ≤ q) [(ou, .inr (7, [.long 0, .null])), (xo, .inr (6, [.ref al, .int 0, .int 0, .int 0, x4, x5, .ref b1, x7])), (al, .inr (4, [.int mc, .ref (zk 0), .int 0])), (mo, .inr (9, [.int 0, .ref am, .int 0, .int 0, .int 0])), (am, .inr (4, [.int mm, .ref (zk 0), .int 0]))]) (hS : va_S (fun q => s.heap.size ≤ q) s.heap H locs) (ls : Array Slot) (hl : lv_has ls 7 [(4, .int 0), (3, .ref ou), (2, .ref mo), (1, .ref xo), (0, .ref b)]) : W p l e room_1 s mY #[Value.ref b] below meth c H locs 17 79 (lw_Z below #[Value.ref b] s) (F0 mY 1301 ls []) := by
  have C1 := C0
  obtain ⟨hx, hb, hr, hml, hown, hts0, hX, hbl, hlocks, hNI⟩ := C0
  have hts := fun (w : Cond) (h : w ∈ wsL_law) => hts0 w (wsL_law_in w h)
  obtain ⟨A, hAd⟩ : ∃ A : Nat → Prop, A = fun q => s.heap.size ≤ q := ⟨_, rfl⟩
  have hA : ∀ q : Nat, s.heap.size ≤ q → A q := fun q h => by rw [hAd]; exact h
  have hAf : ∀ q : Nat, A q → s.heap.size ≤ q := fun q h => by rw [hAd] at h; exact h
  have hbA : ¬ A b := fun h => absurd (hAf b h) (Nat.not_le.mpr hbl)
  have hZ : zR zk [] A s s.heap := by rw [hAd]; exact hZ0
  rw [← hAd] at hD hS
  replace hP : va_P (dC, dI) vwCl [(ou, .inr (7, [.long 0, .null])), (xo, .inr (6, [.ref al, .int 0, .int 0, .int 0, x4, x5, .ref b1, x7])), (al, .inr (4, [.int mc, .ref (zk 0), .int 0])), (mo, .inr (9, [.int 0, .ref am, .int 0, .int 0, .int 0])), (am, .inr (4, [.int mm, .ref (zk 0), .int 0]))] H := hP
  replace hD : va_D A [(ou, .inr (7, [.long 0, .null])), (xo, .inr (6, [.ref al, .int 0, .int 0, .int 0, x4, x5, .ref b1, x7])), (al, .inr (4, [.int mc, .ref (zk 0), .int 0])), (mo, .inr (9, [.int 0, .ref am, .int 0, .int 0, .int 0])), (am, .inr (4, [.int mm, .ref (zk 0), .int 0]))] := hD
  have hz : s.heap.size + 0 ≤ H.size := hS.1
  refine lv_aload_n hx hb dL_law_1301 rfl (lv_at hl 3 rfl) ?_
  refine lv_aload_n hx hb dL_law_1302 rfl (lv_at hl 4 rfl) ?_
  refine lv_iload hx hb dL_law_1303 (lv_at hl 0 rfl) ?_
  refine lv_iconst (v := 1) hx hb dL_law_1305 (by decide) ?_
  refine lv_iadd hx hb dL_law_1306 ?_
  refine lv_topi (fun v1 ev1 => ?_)
  obtain rfl : v1 = 1 := ev1.trans (by decide)
  refine va_sld hx hb hX hbl hbA hS (by unfold vp_in; decide) dL_law_1307 ?_
  refine lv_topi (fun v2 ev2 => ?_)
  have e9 : v2 = p0 := ev2.trans (show xs ((1 : Int32).toNatClampNeg) = p0 from h1)
  clear ev2
  subst v2
  refine lv_aload_n hx hb dL_law_1308 rfl (lv_at hl 1 rfl) ?_
  have hPc := hP.sub (ws' := [(xo, .inr (6, [.ref al, .int 0, .int 0, .int 0, x4, x5, .ref b1, x7])), (al, .inr (4, [.int mc, .ref (zk 0), .int 0]))]) [1, 2] rfl
  have hDc := hD.sub (ws' := [(xo, .inr (6, [.ref al, .int 0, .int 0, .int 0, x4, x5, .ref b1, x7])), (al, .inr (4, [.int mc, .ref (zk 0), .int 0]))]) [1, 2] (by decide) rfl
  have hFc := va_free (wc := [(xo, .inr (6, [.ref al, .int 0, .int 0, .int 0, x4, x5, .ref b1, x7])), (al, .inr (4, [.int mc, .ref (zk 0), .int 0]))]) hD hS hA [1, 2] rfl
  have hDv := hDc.self (sz := H.size)
  have hpre := zpre (xs' := []) (av := [.ref xo, .int p0, .ref ou]) hPc hK (hDc.weaken (fun _ _ _ h => h)) hZ hS hFc (fun r hr => by cases hr)
  refine va_calli (vx_runSW (As := [.ref xo, .int p0, .ref ou]) (rest := []) ⟨hx, hb, hml, hown, hts⟩ (k_depthH l dC dI cI cB cR cO zk hfl xo al b1 (.int 0) (.int 0) (.int 0) x4 x5 x7 mc p0 ou H.size ) (vx_cwSW 3 hts gL_law_L_depth rfl rfl rfl (by decide +kernel) ⟨Nat.le_of_ble_eq_true rfl, Nat.le_of_ble_eq_true rfl⟩) ⟨zblind, hpre⟩ rfl rfl hl.1 rfl (lv_room (Nat.le_of_ble_eq_true rfl)) dL_law_1309 ⟨Nat.le_of_ble_eq_true rfl, Nat.le_of_ble_eq_true rfl⟩) hS (fun q _ h => hFc q h) hFc (fun r4 u t H3 locs ht hvm hw hB hz1 hk1 hS => ?_)
  obtain rfl : 1 = r4 := (show r4 = 1 from hw).symm
  obtain ⟨hP1, hK1, hD1, hz2⟩ := hB
  rw [ht] at hP1 hz2
  have hPD9 := va_join (wr := [(ou, .inr (7, [.long 0, .null])), (mo, .inr (9, [.int 0, .ref am, .int 0, .int 0, .int 0])), (am, .inr (4, [.int mm, .ref (zk 0), .int 0]))]) (w1 := [(xo, .inr (6, [.ref al, .int 0, .int 0, .int 0, x4, x5, .ref b1, x7])), (al, .inr (4, [.int mc, .ref (zk 0), .int 0]))]) hP hD [1, 2] [0, 3, 4] rfl rfl (by decide) (by decide) hk1 hFc hP1 hD1
  clear hPc hDc hFc hDv hpre hP hD hP1 hK1 hD1
  obtain ⟨hP, hD⟩ := hPD9
  replace hz : s.heap.size + 0 ≤ H3.size := by omega
  clear hz2
  replace hP : va_P (dC, dI) vwCl [(ou, .inr (7, [.long 0, .null])), (mo, .inr (9, [.int 0, .ref am, .int 0, .int 0, .int 0])), (am, .inr (4, [.int mm, .ref (zk 0), .int 0])), (xo, .inr (6, [.ref al, .int 0, .int 0, .int 0, x4, x5, .ref b1, x7])), (al, .inr (4, [.int mc, .ref (zk 0), .int 0]))] H3 := hP
  replace hD : va_D A [(ou, .inr (7, [.long 0, .null])), (mo, .inr (9, [.int 0, .ref am, .int 0, .int 0, .int 0])), (am, .inr (4, [.int mm, .ref (zk 0), .int 0])), (xo, .inr (6, [.ref al, .int 0, .int 0, .int 0, x4, x5, .ref b1, x7])), (al, .inr (4, [.int mc, .ref (zk 0), .int 0]))] := hD
  refine W.widen (k := 18) (n := 85) (by omega) (by omega) ?_
  refine lv_istore (lv' := [(5, .int 1), (4, .int 0), (3, .ref ou), (2, .ref mo), (1, .ref xo), (0, .ref b)]) hx hb dL_law_1312 hl (by decide) rfl (fun ls hl => ?_)
  refine lv_aload_n hx hb dL_law_1314 rfl (lv_at hl 3 rfl) ?_
  refine lv_aload_n hx hb dL_law_1315 rfl (lv_at hl 5 rfl) ?_
  refine lv_iload hx hb dL_law_1316 (lv_at hl 1 rfl) ?_
  refine lv_iconst (v := 1) hx hb dL_law_1318 (by decide) ?_
  refine lv_iadd hx hb dL_law_1319 ?_
  refine lv_topi (fun v5 ev5 => ?_)
  obtain rfl : v5 = 1 := ev5.trans (by decide)
  refine va_sld hx hb hX hbl hbA hS (by unfold vp_in; decide) dL_law_1320 ?_
  refine lv_topi (fun v6 ev6 => ?_)
  have e9 : v6 = p0 := ev6.trans (show xs ((1 : Int32).toNatClampNeg) = p0 from h1)
  clear ev6
  subst v6
  have hPc := hP.sub (ws' := [(mo, .inr (9, [.int 0, .ref am, .int 0, .int 0, .int 0])), (am, .inr (4, [.int mm, .ref (zk 0), .int 0]))]) [1, 2] rfl
  have hDc := hD.sub (ws' := [(mo, .inr (9, [.int 0, .ref am, .int 0, .int 0, .int 0])), (am, .inr (4, [.int mm, .ref (zk 0), .int 0]))]) [1, 2] (by decide) rfl
  have hFc := va_free (wc := [(mo, .inr (9, [.int 0, .ref am, .int 0, .int 0, .int 0])), (am, .inr (4, [.int mm, .ref (zk 0), .int 0]))]) hD hS hA [1, 2] rfl
  have hDv := hDc.self (sz := H3.size)
  have hpre := zpre (xs' := []) (av := [.ref mo, .int p0]) hPc hK (hDc.weaken (fun _ _ _ h => h)) hZ hS hFc (fun r hr => by cases hr)
  refine va_calli (va_runV (As := [.int p0]) (rest := []) ⟨hx, hb, hml, hown, hts⟩ (k_depthM l dC dI cI cB cR cO zk mo am (.int 0) (.int 0) (.int 0) (.int 0) mm p0 H3.size ) (cwV 1 hts gL_law_X4_depth rfl rfl rfl (by decide +kernel) ⟨Nat.le_of_ble_eq_true rfl, Nat.le_of_ble_eq_true rfl⟩) ⟨zblind, (zrecv_9 hK hPc (q0 := 0) rfl), hpre⟩ rfl rfl hl.1 rfl (lv_room (Nat.le_of_ble_eq_true rfl)) dL_law_1321 ⟨Nat.le_of_ble_eq_true rfl, Nat.le_of_ble_eq_true rfl⟩) hS (fun q _ h => hFc q h) hFc (fun r8 u t H7 locs ht hvm hw hB hz1 hk1 hS => ?_)
  obtain ⟨hP1, hK1, hD1, hz2⟩ := hB
  rw [ht] at hP1 hz2
  have hPD9 := va_join (wr := [(ou, .inr (7, [.long 0, .null])), (xo, .inr (6, [.ref al, .int 0, .int 0, .int 0, x4, x5, .ref b1, x7])), (al, .inr (4, [.int mc, .ref (zk 0), .int 0]))]) (w1 := [(mo, .inr (9, [.int 1, .ref am, .int 0, .int 0, .int 0])), (am, .inr (4, [.int mm, .ref (zk 0), .int 0]))]) hP hD [1, 2] [0, 3, 4] rfl rfl (by decide) (by decide) hk1 hFc hP1 hD1
  clear hPc hDc hFc hDv hpre hP hD hP1 hK1 hD1
  obtain ⟨hP, hD⟩ := hPD9
  replace hz : s.heap.size + 0 ≤ H7.size := by omega
  clear hz2
  replace hP : va_P (dC, dI) vwCl [(ou, .inr (7, [.long 0, .null])), (xo, .inr (6, [.ref al, .int 0, .int 0, .int 0, x4, x5, .ref b1, x7])), (al, .inr (4, [.int mc, .ref (zk 0), .int 0])), (mo, .inr (9, [.int 1, .ref am, .int 0, .int 0, .int 0])), (am, .inr (4, [.int mm, .ref (zk 0), .int 0]))] H7 := hP
  replace hD : va_D A [(ou, .inr (7, [.long 0, .null])), (xo, .inr (6, [.ref al, .int 0, .int 0, .int 0, x4, x5, .ref b1, x7])), (al, .inr (4, [.int mc, .ref (zk 0), .int 0])), (mo, .inr (9, [.int 1, .ref am, .int 0, .int 0, .int 0])), (am, .inr (4, [.int mm, .ref (zk 0), .int 0]))] := hD
  refine W.widen (k := 18) (n := 85) (by omega) (by omega) ?_
  refine lv_istore (lv' := [(6, .int r8), (5, .int 1), (4, .int 0), (3, .ref ou), (2, .ref mo), (1, .ref xo), (0, .ref b)]) hx hb dL_law_1324 hl (by decide) rfl (fun ls hl => ?_)
  refine lv_aload_n hx hb dL_law_1326 rfl (lv_at hl 4 rfl) ?_
  have hPc := hP.sub (ws' := [(mo, .inr (9, [.int 1, .ref am, .int 0, .int 0, .int 0]))]) [3] rfl
  have hDc := hD.sub (ws' := [(mo, .inr (9, [.int 1, .ref am, .int 0, .int 0, .int 0]))]) [3] (by decide) rfl
  have hFc := va_free (wc := [(mo, .inr (9, [.int 1, .ref am, .int 0, .int 0, .int 0]))]) hD hS hA [3] rfl
  have hDv := hDc.self (sz := H7.size)
  have hpre := zpre (xs' := []) (av := [.ref mo]) hPc hK (hDc.weaken (fun _ _ _ h => h)) hZ hS hFc (fun r hr => by cases hr)
  refine va_calli (va_runV (As := []) (rest := []) ⟨hx, hb, hml, hown, hts⟩ (k_thz l dC dI cI cB cR cO zk mo am (.int 0) (.int 0) (.int 0) H7.size ) (cwV 0 hts gL_law_X4_thrown rfl rfl rfl (by decide +kernel) ⟨Nat.le_of_ble_eq_true rfl, Nat.le_of_ble_eq_true rfl⟩) ⟨zblind, (zrecv_9 hK hPc (q0 := 0) rfl), hpre⟩ rfl rfl hl.1 rfl (lv_room (Nat.le_of_ble_eq_true rfl)) dL_law_1327 ⟨Nat.le_of_ble_eq_true rfl, Nat.le_of_ble_eq_true rfl⟩) hS (fun q _ h => hFc q h) hFc (fun r10 u t H9 locs ht hvm hw hB hz1 hk1 hS => ?_)
  obtain rfl : 1 = r10 := (show r10 = 1 from hw).symm
  obtain ⟨hP1, hK1, hD1, hz2⟩ := hB
  rw [ht] at hP1 hz2
  have hPD9 := va_join (wr := [(ou, .inr (7, [.long 0, .null])), (xo, .inr (6, [.ref al, .int 0, .int 0, .int 0, x4, x5, .ref b1, x7])), (al, .inr (4, [.int mc, .ref (zk 0), .int 0])), (am, .inr (4, [.int mm, .ref (zk 0), .int 0]))]) (w1 := [(mo, .inr (9, [.int 1, .ref am, .int 0, .int 0, .int 0]))]) hP hD [3] [0, 1, 2, 4] rfl rfl (by decide) (by decide) hk1 hFc hP1 hD1
  clear hPc hDc hFc hDv hpre hP hD hP1 hK1 hD1
  obtain ⟨hP, hD⟩ := hPD9
  replace hz : s.heap.size + 0 ≤ H9.size := by omega
  clear hz2
  replace hP : va_P (dC, dI) vwCl [(ou, .inr (7, [.long 0, .null])), (xo, .inr (6, [.ref al, .int 0, .int 0, .int 0, x4, x5, .ref b1, x7])), (al, .inr (4, [.int mc, .ref (zk 0), .int 0])), (am, .inr (4, [.int mm, .ref (zk 0), .int 0])), (mo, .inr (9, [.int 1, .ref am, .int 0, .int 0, .int 0]))] H9 := hP
  replace hD : va_D A [(ou, .inr (7, [.long 0, .null])), (xo, .inr (6, [.ref al, .int 0, .int 0, .int 0, x4, x5, .ref b1, x7])), (al, .inr (4, [.int mc, .ref (zk 0), .int 0])), (am, .inr (4, [.int mm, .ref (zk 0), .int 0])), (mo, .inr (9, [.int 1, .ref am, .int 0, .int 0, .int 0]))] := hD
  refine W.widen (k := 18) (n := 85) (by omega) (by omega) ?_
  refine lv_iload hx hb dL_law_1330 (lv_at hl 1 rfl) ?_
  refine lv_icmp_eq (tgt := 1337) hx hb dL_law_1332 (by decide) (fun c9 => ?_) (fun c9 => ?_)
  rotate_left
  · exact absurd (by decide) c9
  refine lv_iload hx hb dL_law_1337 (lv_at hl 1 rfl) ?_
  refine lv_if_ne (tgt := 1355) hx hb dL_law_1339 (by decide) (fun c9 => ?_) (fun c9 => ?_)
  rotate_left
  · exact absurd c9 (by decide)
  refine lv_goto (tgt := 2155) hx hb dL_law_1355 (by decide) ?_
  rw [hAd] at hS
  exact zl_tail l dC dI cI cB cR cO zk b xs C1 hZ0 hK hS (Nat.le_of_ble_eq_true rfl) (Nat.le_of_ble_eq_true rfl) ls (lv_sub hl [6, 2] rfl)

set_option maxHeartbeats 4000000 in
set_option maxRecDepth 100000 in
theorem zl_a_what (l : Launch) (dC : Nat → ClassId) (dI : Nat → Nat → Nat) (cI cB cR cO : ClassId) (zk : Nat → Nat) {p : Program} {e : Env} {s : State} {mY : MethodId} {below : List Frame} {meth : Method} {c : Code} (b : Nat) (xs : Nat → Int32) (hfl : l.stackTraces = false) (C0 : zl_At p s mY meth c b 5 xs) (hZ0 : zR zk [] (fun q => s.heap.size ≤ q) s s.heap) (hK : va_K (dC, dI) vwCl (zT cI cB cR cO) s) (ou xo al b1 : Nat) (x4 x5 x7 : Value) (mc : Int32) (mo am : Nat) (mm : Int32)  (p0 p1 : Int32) (h1 : xs 1 = p0) (h2 : xs 2 = p1)  (H : Heap) (locs : List Loc) (hP : va_P (dC, dI) vwCl [(ou, .inr (7, [.long 0, .null])), (xo, .inr (6, [.ref al, .int 0, .int 0, .int 0, x4, x5, .ref b1, x7])), (al, .inr (4, [.int mc, .ref (zk 0), .int 0])), (mo, .inr (9, [.int 0, .ref am, .int 0, .int 0, .int 0])), (am, .inr (4, [.int mm, .ref (zk 0), .int 0]))] H) (hD : va_D (fun q => s.heap.size ≤ q) [(ou, .inr (7, [.long 0, .null])), (xo, .inr (6, [.ref al, .int 0, .int 0, .int 0, x4, x5, .ref b1, x7])), (al, .inr (4, [.int mc, .ref (zk 0), .int 0])), (mo, .inr (9, [.int 0, .ref am, .int 0, .int 0, .int 0])), (am, .inr (4, [.int mm, .ref (zk 0), .int 0]))]) (hS : va_S (fun q => s.heap.size ≤ q) s.heap H locs) (ls : Array Slot) (hl : lv_has ls 7 [(4, .int 0), (3, .ref ou), (2, .ref mo), (1, .ref xo), (0, .ref b)]) : W p l e room_1 s mY #[Value.ref b] below meth c H locs 17 79 (lw_Z below #[Value.ref b] s) (F0 mY 1358 ls []) := by
  have C1 := C0
  obtain ⟨hx, hb, hr, hml, hown, hts0, hX, hbl, hlocks, hNI⟩ := C0
  have hts := fun (w : Cond) (h : w ∈ wsL_law) => hts0 w (wsL_law_in w h)
  obtain ⟨A, hAd⟩ : ∃ A : Nat → Prop, A = fun q => s.heap.size ≤ q := ⟨_, rfl⟩
  have hA : ∀ q : Nat, s.heap.size ≤ q → A q := fun q h => by rw [hAd]; exact h
  have hAf : ∀ q : Nat, A q → s.heap.size ≤ q := fun q h => by rw [hAd] at h; exact h
  have hbA : ¬ A b := fun h => absurd (hAf b h) (Nat.not_le.mpr hbl)
  have hZ : zR zk [] A s s.heap := by rw [hAd]; exact hZ0
  rw [← hAd] at hD hS
  replace hP : va_P (dC, dI) vwCl [(ou, .inr (7, [.long 0, .null])), (xo, .inr (6, [.ref al, .int 0, .int 0, .int 0, x4, x5, .ref b1, x7])), (al, .inr (4, [.int mc, .ref (zk 0), .int 0])), (mo, .inr (9, [.int 0, .ref am, .int 0, .int 0, .int 0])), (am, .inr (4, [.int mm, .ref (zk 0), .int 0]))] H := hP
  replace hD : va_D A [(ou, .inr (7, [.long 0, .null])), (xo, .inr (6, [.ref al, .int 0, .int 0, .int 0, x4, x5, .ref b1, x7])), (al, .inr (4, [.int mc, .ref (zk 0), .int 0])), (mo, .inr (9, [.int 0, .ref am, .int 0, .int 0, .int 0])), (am, .inr (4, [.int mm, .ref (zk 0), .int 0]))] := hD
  have hz : s.heap.size + 0 ≤ H.size := hS.1
  refine lv_aload_n hx hb dL_law_1358 rfl (lv_at hl 3 rfl) ?_
  refine lv_aload_n hx hb dL_law_1359 rfl (lv_at hl 4 rfl) ?_
  refine lv_iload hx hb dL_law_1360 (lv_at hl 0 rfl) ?_
  refine lv_iconst (v := 1) hx hb dL_law_1362 (by decide) ?_
  refine lv_iadd hx hb dL_law_1363 ?_
  refine lv_topi (fun v1 ev1 => ?_)
  obtain rfl : v1 = 1 := ev1.trans (by decide)
  refine va_sld hx hb hX hbl hbA hS (by unfold vp_in; decide) dL_law_1364 ?_
  refine lv_topi (fun v2 ev2 => ?_)
  have e9 : v2 = p0 := ev2.trans (show xs ((1 : Int32).toNatClampNeg) = p0 from h1)
  clear ev2
  subst v2
  refine lv_aload_n hx hb dL_law_1365 rfl (lv_at hl 4 rfl) ?_
  refine lv_iload hx hb dL_law_1366 (lv_at hl 0 rfl) ?_
  refine lv_iconst (v := 2) hx hb dL_law_1368 (by decide) ?_
  refine lv_iadd hx hb dL_law_1369 ?_
  refine lv_topi (fun v3 ev3 => ?_)
  obtain rfl : v3 = 2 := ev3.trans (by decide)
  refine va_sld hx hb hX hbl hbA hS (by unfold vp_in; decide) dL_law_1370 ?_
  refine lv_topi (fun v4 ev4 => ?_)
  have e9 : v4 = p1 := ev4.trans (show xs ((2 : Int32).toNatClampNeg) = p1 from h2)
  clear ev4
  subst v4
  refine lv_aload_n hx hb dL_law_1371 rfl (lv_at hl 1 rfl) ?_
  have hPc := hP.sub (ws' := [(xo, .inr (6, [.ref al, .int 0, .int 0, .int 0, x4, x5, .ref b1, x7])), (al, .inr (4, [.int mc, .ref (zk 0), .int 0]))]) [1, 2] rfl
  have hDc := hD.sub (ws' := [(xo, .inr (6, [.ref al, .int 0, .int 0, .int 0, x4, x5, .ref b1, x7])), (al, .inr (4, [.int mc, .ref (zk 0), .int 0]))]) [1, 2] (by decide) rfl
  have hFc := va_free (wc := [(xo, .inr (6, [.ref al, .int 0, .int 0, .int 0, x4, x5, .ref b1, x7])), (al, .inr (4, [.int mc, .ref (zk 0), .int 0]))]) hD hS hA [1, 2] rfl
  have hDv := hDc.self (sz := H.size)
  have hpre := zpre (xs' := []) (av := [.ref xo, .int p0, .int p1, .ref ou]) hPc hK (hDc.weaken (fun _ _ _ h => h)) hZ hS hFc (fun r hr => by cases hr)
  refine va_calli (vx_runSW (As := [.ref xo, .int p0, .int p1, .ref ou]) (rest := []) ⟨hx, hb, hml, hown, hts⟩ (k_whatH l dC dI cI cB cR cO zk hfl xo al b1 (.int 0) (.int 0) (.int 0) x4 x5 x7 mc p0 p1 ou H.size ) (vx_cwSW 4 hts gL_law_L_what rfl rfl rfl (by decide +kernel) ⟨Nat.le_of_ble_eq_true rfl, Nat.le_of_ble_eq_true rfl⟩) ⟨zblind, hpre⟩ rfl rfl hl.1 rfl (lv_room (Nat.le_of_ble_eq_true rfl)) dL_law_1372 ⟨Nat.le_of_ble_eq_true rfl, Nat.le_of_ble_eq_true rfl⟩) hS (fun q _ h => hFc q h) hFc (fun r6 u t H5 locs ht hvm hw hB hz1 hk1 hS => ?_)
  obtain rfl : 1 = r6 := (show r6 = 1 from hw).symm
  obtain ⟨hP1, hK1, hD1, hz2⟩ := hB
  rw [ht] at hP1 hz2
  have hPD9 := va_join (wr := [(ou, .inr (7, [.long 0, .null])), (mo, .inr (9, [.int 0, .ref am, .int 0, .int 0, .int 0])), (am, .inr (4, [.int mm, .ref (zk 0), .int 0]))]) (w1 := [(xo, .inr (6, [.ref al, .int 0, .int 0, .int 0, x4, x5, .ref b1, x7])), (al, .inr (4, [.int mc, .ref (zk 0), .int 0]))]) hP hD [1, 2] [0, 3, 4] rfl rfl (by decide) (by decide) hk1 hFc hP1 hD1
  clear hPc hDc hFc hDv hpre hP hD hP1 hK1 hD1
  obtain ⟨hP, hD⟩ := hPD9
  replace hz : s.heap.size + 0 ≤ H5.size := by omega
  clear hz2
  replace hP : va_P (dC, dI) vwCl [(ou, .inr (7, [.long 0, .null])), (mo, .inr (9, [.int 0, .ref am, .int 0, .int 0, .int 0])), (am, .inr (4, [.int mm, .ref (zk 0), .int 0])), (xo, .inr (6, [.ref al, .int 0, .int 0, .int 0, x4, x5, .ref b1, x7])), (al, .inr (4, [.int mc, .ref (zk 0), .int 0]))] H5 := hP
  replace hD : va_D A [(ou, .inr (7, [.long 0, .null])), (mo, .inr (9, [.int 0, .ref am, .int 0, .int 0, .int 0])), (am, .inr (4, [.int mm, .ref (zk 0), .int 0])), (xo, .inr (6, [.ref al, .int 0, .int 0, .int 0, x4, x5, .ref b1, x7])), (al, .inr (4, [.int mc, .ref (zk 0), .int 0]))] := hD
  refine W.widen (k := 18) (n := 85) (by omega) (by omega) ?_
  refine lv_istore (lv' := [(5, .int 1), (4, .int 0), (3, .ref ou), (2, .ref mo), (1, .ref xo), (0, .ref b)]) hx hb dL_law_1375 hl (by decide) rfl (fun ls hl => ?_)
  refine lv_aload_n hx hb dL_law_1377 rfl (lv_at hl 3 rfl) ?_
  refine lv_aload_n hx hb dL_law_1378 rfl (lv_at hl 5 rfl) ?_
  refine lv_iload hx hb dL_law_1379 (lv_at hl 1 rfl) ?_
  refine lv_iconst (v := 1) hx hb dL_law_1381 (by decide) ?_
  refine lv_iadd hx hb dL_law_1382 ?_
  refine lv_topi (fun v7 ev7 => ?_)
  obtain rfl : v7 = 1 := ev7.trans (by decide)
  refine va_sld hx hb hX hbl hbA hS (by unfold vp_in; decide) dL_law_1383 ?_
  refine lv_topi (fun v8 ev8 => ?_)
  have e9 : v8 = p0 := ev8.trans (show xs ((1 : Int32).toNatClampNeg) = p0 from h1)
  clear ev8
  subst v8
  refine lv_aload_n hx hb dL_law_1384 rfl (lv_at hl 5 rfl) ?_
  refine lv_iload hx hb dL_law_1385 (lv_at hl 1 rfl) ?_
  refine lv_iconst (v := 2) hx hb dL_law_1387 (by decide) ?_
  refine lv_iadd hx hb dL_law_1388 ?_
  refine lv_topi (fun v9 ev9 => ?_)
  obtain rfl : v9 = 2 := ev9.trans (by decide)
  refine va_sld hx hb hX hbl hbA hS (by unfold vp_in; decide) dL_law_1389 ?_
  refine lv_topi (fun v10 ev10 => ?_)
  have e9 : v10 = p1 := ev10.trans (show xs ((2 : Int32).toNatClampNeg) = p1 from h2)
  clear ev10
  subst v10
  have hPc := hP.sub (ws' := [(mo, .inr (9, [.int 0, .ref am, .int 0, .int 0, .int 0])), (am, .inr (4, [.int mm, .ref (zk 0), .int 0]))]) [1, 2] rfl
  have hDc := hD.sub (ws' := [(mo, .inr (9, [.int 0, .ref am, .int 0, .int 0, .int 0])), (am, .inr (4, [.int mm, .ref (zk 0), .int 0]))]) [1, 2] (by decide) rfl
  have hFc := va_free (wc := [(mo, .inr (9, [.int 0, .ref am, .int 0, .int 0, .int 0])), (am, .inr (4, [.int mm, .ref (zk 0), .int 0]))]) hD hS hA [1, 2] rfl
  have hDv := hDc.self (sz := H5.size)
  have hpre := zpre (xs' := []) (av := [.ref mo, .int p0, .int p1]) hPc hK (hDc.weaken (fun _ _ _ h => h)) hZ hS hFc (fun r hr => by cases hr)
  refine va_calli (va_runV (As := [.int p0, .int p1]) (rest := []) ⟨hx, hb, hml, hown, hts⟩ (k_whatM l dC dI cI cB cR cO zk mo am (.int 0) (.int 0) (.int 0) (.int 0) mm p0 p1 H5.size ) (cwV 2 hts gL_law_X4_what rfl rfl rfl (by decide +kernel) ⟨Nat.le_of_ble_eq_true rfl, Nat.le_of_ble_eq_true rfl⟩) ⟨zblind, (zrecv_9 hK hPc (q0 := 0) rfl), hpre⟩ rfl rfl hl.1 rfl (lv_room (Nat.le_of_ble_eq_true rfl)) dL_law_1390 ⟨Nat.le_of_ble_eq_true rfl, Nat.le_of_ble_eq_true rfl⟩) hS (fun q _ h => hFc q h) hFc (fun r12 u t H11 locs ht hvm hw hB hz1 hk1 hS => ?_)
  obtain ⟨hP1, hK1, hD1, hz2⟩ := hB
  rw [ht] at hP1 hz2
  have hPD9 := va_join (wr := [(ou, .inr (7, [.long 0, .null])), (xo, .inr (6, [.ref al, .int 0, .int 0, .int 0, x4, x5, .ref b1, x7])), (al, .inr (4, [.int mc, .ref (zk 0), .int 0]))]) (w1 := [(mo, .inr (9, [.int 1, .ref am, .int 0, .int 0, .int 0])), (am, .inr (4, [.int mm, .ref (zk 0), .int 0]))]) hP hD [1, 2] [0, 3, 4] rfl rfl (by decide) (by decide) hk1 hFc hP1 hD1
  clear hPc hDc hFc hDv hpre hP hD hP1 hK1 hD1
  obtain ⟨hP, hD⟩ := hPD9
  replace hz : s.heap.size + 0 ≤ H11.size := by omega
  clear hz2
  replace hP : va_P (dC, dI) vwCl [(ou, .inr (7, [.long 0, .null])), (xo, .inr (6, [.ref al, .int 0, .int 0, .int 0, x4, x5, .ref b1, x7])), (al, .inr (4, [.int mc, .ref (zk 0), .int 0])), (mo, .inr (9, [.int 1, .ref am, .int 0, .int 0, .int 0])), (am, .inr (4, [.int mm, .ref (zk 0), .int 0]))] H11 := hP
  replace hD : va_D A [(ou, .inr (7, [.long 0, .null])), (xo, .inr (6, [.ref al, .int 0, .int 0, .int 0, x4, x5, .ref b1, x7])), (al, .inr (4, [.int mc, .ref (zk 0), .int 0])), (mo, .inr (9, [.int 1, .ref am, .int 0, .int 0, .int 0])), (am, .inr (4, [.int mm, .ref (zk 0), .int 0]))] := hD
  refine W.widen (k := 18) (n := 85) (by omega) (by omega) ?_
  refine lv_istore (lv' := [(6, .int r12), (5, .int 1), (4, .int 0), (3, .ref ou), (2, .ref mo), (1, .ref xo), (0, .ref b)]) hx hb dL_law_1393 hl (by decide) rfl (fun ls hl => ?_)
  refine lv_aload_n hx hb dL_law_1395 rfl (lv_at hl 4 rfl) ?_
  have hPc := hP.sub (ws' := [(mo, .inr (9, [.int 1, .ref am, .int 0, .int 0, .int 0]))]) [3] rfl
  have hDc := hD.sub (ws' := [(mo, .inr (9, [.int 1, .ref am, .int 0, .int 0, .int 0]))]) [3] (by decide) rfl
  have hFc := va_free (wc := [(mo, .inr (9, [.int 1, .ref am, .int 0, .int 0, .int 0]))]) hD hS hA [3] rfl
  have hDv := hDc.self (sz := H11.size)
  have hpre := zpre (xs' := []) (av := [.ref mo]) hPc hK (hDc.weaken (fun _ _ _ h => h)) hZ hS hFc (fun r hr => by cases hr)
  refine va_calli (va_runV (As := []) (rest := []) ⟨hx, hb, hml, hown, hts⟩ (k_thz l dC dI cI cB cR cO zk mo am (.int 0) (.int 0) (.int 0) H11.size ) (cwV 0 hts gL_law_X4_thrown rfl rfl rfl (by decide +kernel) ⟨Nat.le_of_ble_eq_true rfl, Nat.le_of_ble_eq_true rfl⟩) ⟨zblind, (zrecv_9 hK hPc (q0 := 0) rfl), hpre⟩ rfl rfl hl.1 rfl (lv_room (Nat.le_of_ble_eq_true rfl)) dL_law_1396 ⟨Nat.le_of_ble_eq_true rfl, Nat.le_of_ble_eq_true rfl⟩) hS (fun q _ h => hFc q h) hFc (fun r14 u t H13 locs ht hvm hw hB hz1 hk1 hS => ?_)
  obtain rfl : 1 = r14 := (show r14 = 1 from hw).symm
  obtain ⟨hP1, hK1, hD1, hz2⟩ := hB
  rw [ht] at hP1 hz2
  have hPD9 := va_join (wr := [(ou, .inr (7, [.long 0, .null])), (xo, .inr (6, [.ref al, .int 0, .int 0, .int 0, x4, x5, .ref b1, x7])), (al, .inr (4, [.int mc, .ref (zk 0), .int 0])), (am, .inr (4, [.int mm, .ref (zk 0), .int 0]))]) (w1 := [(mo, .inr (9, [.int 1, .ref am, .int 0, .int 0, .int 0]))]) hP hD [3] [0, 1, 2, 4] rfl rfl (by decide) (by decide) hk1 hFc hP1 hD1
  clear hPc hDc hFc hDv hpre hP hD hP1 hK1 hD1
  obtain ⟨hP, hD⟩ := hPD9
  replace hz : s.heap.size + 0 ≤ H13.size := by omega
  clear hz2
  replace hP : va_P (dC, dI) vwCl [(ou, .inr (7, [.long 0, .null])), (xo, .inr (6, [.ref al, .int 0, .int 0, .int 0, x4, x5, .ref b1, x7])), (al, .inr (4, [.int mc, .ref (zk 0), .int 0])), (am, .inr (4, [.int mm, .ref (zk 0), .int 0])), (mo, .inr (9, [.int 1, .ref am, .int 0, .int 0, .int 0]))] H13 := hP
  replace hD : va_D A [(ou, .inr (7, [.long 0, .null])), (xo, .inr (6, [.ref al, .int 0, .int 0, .int 0, x4, x5, .ref b1, x7])), (al, .inr (4, [.int mc, .ref (zk 0), .int 0])), (am, .inr (4, [.int mm, .ref (zk 0), .int 0])), (mo, .inr (9, [.int 1, .ref am, .int 0, .int 0, .int 0]))] := hD
  refine W.widen (k := 18) (n := 85) (by omega) (by omega) ?_
  refine lv_iload hx hb dL_law_1399 (lv_at hl 1 rfl) ?_
  refine lv_icmp_eq (tgt := 1406) hx hb dL_law_1401 (by decide) (fun c9 => ?_) (fun c9 => ?_)
  rotate_left
  · exact absurd (by decide) c9
  refine lv_iload hx hb dL_law_1406 (lv_at hl 1 rfl) ?_
  refine lv_if_ne (tgt := 1424) hx hb dL_law_1408 (by decide) (fun c9 => ?_) (fun c9 => ?_)
  rotate_left
  · exact absurd c9 (by decide)
  refine lv_goto (tgt := 2155) hx hb dL_law_1424 (by decide) ?_
  rw [hAd] at hS
  exact zl_tail l dC dI cI cB cR cO zk b xs C1 hZ0 hK hS (Nat.le_of_ble_eq_true rfl) (Nat.le_of_ble_eq_true rfl) ls (lv_sub hl [6, 2] rfl)

set_option maxHeartbeats 4000000 in
set_option maxRecDepth 100000 in
theorem zl_a_at (l : Launch) (dC : Nat → ClassId) (dI : Nat → Nat → Nat) (cI cB cR cO : ClassId) (zk : Nat → Nat) {p : Program} {e : Env} {s : State} {mY : MethodId} {below : List Frame} {meth : Method} {c : Code} (b : Nat) (xs : Nat → Int32) (hfl : l.stackTraces = false) (C0 : zl_At p s mY meth c b 5 xs) (hZ0 : zR zk [] (fun q => s.heap.size ≤ q) s s.heap) (hK : va_K (dC, dI) vwCl (zT cI cB cR cO) s) (ou xo al b1 : Nat) (x4 x5 x7 : Value) (mc : Int32) (mo am : Nat) (mm : Int32)  (p0 p1 : Int32) (h1 : xs 1 = p0) (h2 : xs 2 = p1)  (H : Heap) (locs : List Loc) (hP : va_P (dC, dI) vwCl [(ou, .inr (7, [.long 0, .null])), (xo, .inr (6, [.ref al, .int 0, .int 0, .int 0, x4, x5, .ref b1, x7])), (al, .inr (4, [.int mc, .ref (zk 0), .int 0])), (mo, .inr (9, [.int 0, .ref am, .int 0, .int 0, .int 0])), (am, .inr (4, [.int mm, .ref (zk 0), .int 0]))] H) (hD : va_D (fun q => s.heap.size ≤ q) [(ou, .inr (7, [.long 0, .null])), (xo, .inr (6, [.ref al, .int 0, .int 0, .int 0, x4, x5, .ref b1, x7])), (al, .inr (4, [.int mc, .ref (zk 0), .int 0])), (mo, .inr (9, [.int 0, .ref am, .int 0, .int 0, .int 0])), (am, .inr (4, [.int mm, .ref (zk 0), .int 0]))]) (hS : va_S (fun q => s.heap.size ≤ q) s.heap H locs) (ls : Array Slot) (hl : lv_has ls 7 [(4, .int 0), (3, .ref ou), (2, .ref mo), (1, .ref xo), (0, .ref b)]) : W p l e room_1 s mY #[Value.ref b] below meth c H locs 17 79 (lw_Z below #[Value.ref b] s) (F0 mY 1427 ls []) := by
  have C1 := C0
  obtain ⟨hx, hb, hr, hml, hown, hts0, hX, hbl, hlocks, hNI⟩ := C0
  have hts := fun (w : Cond) (h : w ∈ wsL_law) => hts0 w (wsL_law_in w h)
  obtain ⟨A, hAd⟩ : ∃ A : Nat → Prop, A = fun q => s.heap.size ≤ q := ⟨_, rfl⟩
  have hA : ∀ q : Nat, s.heap.size ≤ q → A q := fun q h => by rw [hAd]; exact h
  have hAf : ∀ q : Nat, A q → s.heap.size ≤ q := fun q h => by rw [hAd] at h; exact h
  have hbA : ¬ A b := fun h => absurd (hAf b h) (Nat.not_le.mpr hbl)
  have hZ : zR zk [] A s s.heap := by rw [hAd]; exact hZ0
  rw [← hAd] at hD hS
  replace hP : va_P (dC, dI) vwCl [(ou, .inr (7, [.long 0, .null])), (xo, .inr (6, [.ref al, .int 0, .int 0, .int 0, x4, x5, .ref b1, x7])), (al, .inr (4, [.int mc, .ref (zk 0), .int 0])), (mo, .inr (9, [.int 0, .ref am, .int 0, .int 0, .int 0])), (am, .inr (4, [.int mm, .ref (zk 0), .int 0]))] H := hP
  replace hD : va_D A [(ou, .inr (7, [.long 0, .null])), (xo, .inr (6, [.ref al, .int 0, .int 0, .int 0, x4, x5, .ref b1, x7])), (al, .inr (4, [.int mc, .ref (zk 0), .int 0])), (mo, .inr (9, [.int 0, .ref am, .int 0, .int 0, .int 0])), (am, .inr (4, [.int mm, .ref (zk 0), .int 0]))] := hD
  have hz : s.heap.size + 0 ≤ H.size := hS.1
  refine lv_aload_n hx hb dL_law_1427 rfl (lv_at hl 3 rfl) ?_
  refine lv_aload_n hx hb dL_law_1428 rfl (lv_at hl 4 rfl) ?_
  refine lv_iload hx hb dL_law_1429 (lv_at hl 0 rfl) ?_
  refine lv_iconst (v := 1) hx hb dL_law_1431 (by decide) ?_
  refine lv_iadd hx hb dL_law_1432 ?_
  refine lv_topi (fun v1 ev1 => ?_)
  obtain rfl : v1 = 1 := ev1.trans (by decide)
  refine va_sld hx hb hX hbl hbA hS (by unfold vp_in; decide) dL_law_1433 ?_
  refine lv_topi (fun v2 ev2 => ?_)
  have e9 : v2 = p0 := ev2.trans (show xs ((1 : Int32).toNatClampNeg) = p0 from h1)
  clear ev2
  subst v2
  refine lv_aload_n hx hb dL_law_1434 rfl (lv_at hl 4 rfl) ?_
  refine lv_iload hx hb dL_law_1435 (lv_at hl 0 rfl) ?_
  refine lv_iconst (v := 2) hx hb dL_law_1437 (by decide) ?_
  refine lv_iadd hx hb dL_law_1438 ?_
  refine lv_topi (fun v3 ev3 => ?_)
  obtain rfl : v3 = 2 := ev3.trans (by decide)
  refine va_sld hx hb hX hbl hbA hS (by unfold vp_in; decide) dL_law_1439 ?_
  refine lv_topi (fun v4 ev4 => ?_)
  have e9 : v4 = p1 := ev4.trans (show xs ((2 : Int32).toNatClampNeg) = p1 from h2)
  clear ev4
  subst v4
  refine lv_aload_n hx hb dL_law_1440 rfl (lv_at hl 1 rfl) ?_
  have hPc := hP.sub (ws' := [(xo, .inr (6, [.ref al, .int 0, .int 0, .int 0, x4, x5, .ref b1, x7])), (al, .inr (4, [.int mc, .ref (zk 0), .int 0]))]) [1, 2] rfl
  have hDc := hD.sub (ws' := [(xo, .inr (6, [.ref al, .int 0, .int 0, .int 0, x4, x5, .ref b1, x7])), (al, .inr (4, [.int mc, .ref (zk 0), .int 0]))]) [1, 2] (by decide) rfl
  have hFc := va_free (wc := [(xo, .inr (6, [.ref al, .int 0, .int 0, .int 0, x4, x5, .ref b1, x7])), (al, .inr (4, [.int mc, .ref (zk 0), .int 0]))]) hD hS hA [1, 2] rfl
  have hDv := hDc.self (sz := H.size)
  have hpre := zpre (xs' := []) (av := [.ref xo, .int p0, .int p1, .ref ou]) hPc hK (hDc.weaken (fun _ _ _ h => h)) hZ hS hFc (fun r hr => by cases hr)
  refine va_calli (vx_runSW (As := [.ref xo, .int p0, .int p1, .ref ou]) (rest := []) ⟨hx, hb, hml, hown, hts⟩ (k_atH l dC dI cI cB cR cO zk hfl xo al b1 (.int 0) (.int 0) (.int 0) x4 x5 x7 mc p0 p1 ou H.size ) (vx_cwSW 4 hts gL_law_L_at rfl rfl rfl (by decide +kernel) ⟨Nat.le_of_ble_eq_true rfl, Nat.le_of_ble_eq_true rfl⟩) ⟨zblind, hpre⟩ rfl rfl hl.1 rfl (lv_room (Nat.le_of_ble_eq_true rfl)) dL_law_1441 ⟨Nat.le_of_ble_eq_true rfl, Nat.le_of_ble_eq_true rfl⟩) hS (fun q _ h => hFc q h) hFc (fun r6 u t H5 locs ht hvm hw hB hz1 hk1 hS => ?_)
  obtain rfl : 1 = r6 := (show r6 = 1 from hw).symm
  obtain ⟨hP1, hK1, hD1, hz2⟩ := hB
  rw [ht] at hP1 hz2
  have hPD9 := va_join (wr := [(ou, .inr (7, [.long 0, .null])), (mo, .inr (9, [.int 0, .ref am, .int 0, .int 0, .int 0])), (am, .inr (4, [.int mm, .ref (zk 0), .int 0]))]) (w1 := [(xo, .inr (6, [.ref al, .int 0, .int 0, .int 0, x4, x5, .ref b1, x7])), (al, .inr (4, [.int mc, .ref (zk 0), .int 0]))]) hP hD [1, 2] [0, 3, 4] rfl rfl (by decide) (by decide) hk1 hFc hP1 hD1
  clear hPc hDc hFc hDv hpre hP hD hP1 hK1 hD1
  obtain ⟨hP, hD⟩ := hPD9
  replace hz : s.heap.size + 0 ≤ H5.size := by omega
  clear hz2
  replace hP : va_P (dC, dI) vwCl [(ou, .inr (7, [.long 0, .null])), (mo, .inr (9, [.int 0, .ref am, .int 0, .int 0, .int 0])), (am, .inr (4, [.int mm, .ref (zk 0), .int 0])), (xo, .inr (6, [.ref al, .int 0, .int 0, .int 0, x4, x5, .ref b1, x7])), (al, .inr (4, [.int mc, .ref (zk 0), .int 0]))] H5 := hP
  replace hD : va_D A [(ou, .inr (7, [.long 0, .null])), (mo, .inr (9, [.int 0, .ref am, .int 0, .int 0, .int 0])), (am, .inr (4, [.int mm, .ref (zk 0), .int 0])), (xo, .inr (6, [.ref al, .int 0, .int 0, .int 0, x4, x5, .ref b1, x7])), (al, .inr (4, [.int mc, .ref (zk 0), .int 0]))] := hD
  refine W.widen (k := 18) (n := 85) (by omega) (by omega) ?_
  refine lv_istore (lv' := [(5, .int 1), (4, .int 0), (3, .ref ou), (2, .ref mo), (1, .ref xo), (0, .ref b)]) hx hb dL_law_1444 hl (by decide) rfl (fun ls hl => ?_)
  refine lv_aload_n hx hb dL_law_1446 rfl (lv_at hl 3 rfl) ?_
  refine lv_aload_n hx hb dL_law_1447 rfl (lv_at hl 5 rfl) ?_
  refine lv_iload hx hb dL_law_1448 (lv_at hl 1 rfl) ?_
  refine lv_iconst (v := 1) hx hb dL_law_1450 (by decide) ?_
  refine lv_iadd hx hb dL_law_1451 ?_
  refine lv_topi (fun v7 ev7 => ?_)
  obtain rfl : v7 = 1 := ev7.trans (by decide)
  refine va_sld hx hb hX hbl hbA hS (by unfold vp_in; decide) dL_law_1452 ?_
  refine lv_topi (fun v8 ev8 => ?_)
  have e9 : v8 = p0 := ev8.trans (show xs ((1 : Int32).toNatClampNeg) = p0 from h1)
  clear ev8
  subst v8
  refine lv_aload_n hx hb dL_law_1453 rfl (lv_at hl 5 rfl) ?_
  refine lv_iload hx hb dL_law_1454 (lv_at hl 1 rfl) ?_
  refine lv_iconst (v := 2) hx hb dL_law_1456 (by decide) ?_
  refine lv_iadd hx hb dL_law_1457 ?_
  refine lv_topi (fun v9 ev9 => ?_)
  obtain rfl : v9 = 2 := ev9.trans (by decide)
  refine va_sld hx hb hX hbl hbA hS (by unfold vp_in; decide) dL_law_1458 ?_
  refine lv_topi (fun v10 ev10 => ?_)
  have e9 : v10 = p1 := ev10.trans (show xs ((2 : Int32).toNatClampNeg) = p1 from h2)
  clear ev10
  subst v10
  have hPc := hP.sub (ws' := [(mo, .inr (9, [.int 0, .ref am, .int 0, .int 0, .int 0])), (am, .inr (4, [.int mm, .ref (zk 0), .int 0]))]) [1, 2] rfl
  have hDc := hD.sub (ws' := [(mo, .inr (9, [.int 0, .ref am, .int 0, .int 0, .int 0])), (am, .inr (4, [.int mm, .ref (zk 0), .int 0]))]) [1, 2] (by decide) rfl
  have hFc := va_free (wc := [(mo, .inr (9, [.int 0, .ref am, .int 0, .int 0, .int 0])), (am, .inr (4, [.int mm, .ref (zk 0), .int 0]))]) hD hS hA [1, 2] rfl
  have hDv := hDc.self (sz := H5.size)
  have hpre := zpre (xs' := []) (av := [.ref mo, .int p0, .int p1]) hPc hK (hDc.weaken (fun _ _ _ h => h)) hZ hS hFc (fun r hr => by cases hr)
  refine va_calli (va_runV (As := [.int p0, .int p1]) (rest := []) ⟨hx, hb, hml, hown, hts⟩ (k_atM l dC dI cI cB cR cO zk mo am (.int 0) (.int 0) (.int 0) (.int 0) mm p0 p1 H5.size ) (cwV 2 hts gL_law_X4_at rfl rfl rfl (by decide +kernel) ⟨Nat.le_of_ble_eq_true rfl, Nat.le_of_ble_eq_true rfl⟩) ⟨zblind, (zrecv_9 hK hPc (q0 := 0) rfl), hpre⟩ rfl rfl hl.1 rfl (lv_room (Nat.le_of_ble_eq_true rfl)) dL_law_1459 ⟨Nat.le_of_ble_eq_true rfl, Nat.le_of_ble_eq_true rfl⟩) hS (fun q _ h => hFc q h) hFc (fun r12 u t H11 locs ht hvm hw hB hz1 hk1 hS => ?_)
  obtain ⟨hP1, hK1, hD1, hz2⟩ := hB
  rw [ht] at hP1 hz2
  have hPD9 := va_join (wr := [(ou, .inr (7, [.long 0, .null])), (xo, .inr (6, [.ref al, .int 0, .int 0, .int 0, x4, x5, .ref b1, x7])), (al, .inr (4, [.int mc, .ref (zk 0), .int 0]))]) (w1 := [(mo, .inr (9, [.int 1, .ref am, .int 0, .int 0, .int 0])), (am, .inr (4, [.int mm, .ref (zk 0), .int 0]))]) hP hD [1, 2] [0, 3, 4] rfl rfl (by decide) (by decide) hk1 hFc hP1 hD1
  clear hPc hDc hFc hDv hpre hP hD hP1 hK1 hD1
  obtain ⟨hP, hD⟩ := hPD9
  replace hz : s.heap.size + 0 ≤ H11.size := by omega
  clear hz2
  replace hP : va_P (dC, dI) vwCl [(ou, .inr (7, [.long 0, .null])), (xo, .inr (6, [.ref al, .int 0, .int 0, .int 0, x4, x5, .ref b1, x7])), (al, .inr (4, [.int mc, .ref (zk 0), .int 0])), (mo, .inr (9, [.int 1, .ref am, .int 0, .int 0, .int 0])), (am, .inr (4, [.int mm, .ref (zk 0), .int 0]))] H11 := hP
  replace hD : va_D A [(ou, .inr (7, [.long 0, .null])), (xo, .inr (6, [.ref al, .int 0, .int 0, .int 0, x4, x5, .ref b1, x7])), (al, .inr (4, [.int mc, .ref (zk 0), .int 0])), (mo, .inr (9, [.int 1, .ref am, .int 0, .int 0, .int 0])), (am, .inr (4, [.int mm, .ref (zk 0), .int 0]))] := hD
  refine W.widen (k := 18) (n := 85) (by omega) (by omega) ?_
  refine lv_istore (lv' := [(6, .int r12), (5, .int 1), (4, .int 0), (3, .ref ou), (2, .ref mo), (1, .ref xo), (0, .ref b)]) hx hb dL_law_1462 hl (by decide) rfl (fun ls hl => ?_)
  refine lv_aload_n hx hb dL_law_1464 rfl (lv_at hl 4 rfl) ?_
  have hPc := hP.sub (ws' := [(mo, .inr (9, [.int 1, .ref am, .int 0, .int 0, .int 0]))]) [3] rfl
  have hDc := hD.sub (ws' := [(mo, .inr (9, [.int 1, .ref am, .int 0, .int 0, .int 0]))]) [3] (by decide) rfl
  have hFc := va_free (wc := [(mo, .inr (9, [.int 1, .ref am, .int 0, .int 0, .int 0]))]) hD hS hA [3] rfl
  have hDv := hDc.self (sz := H11.size)
  have hpre := zpre (xs' := []) (av := [.ref mo]) hPc hK (hDc.weaken (fun _ _ _ h => h)) hZ hS hFc (fun r hr => by cases hr)
  refine va_calli (va_runV (As := []) (rest := []) ⟨hx, hb, hml, hown, hts⟩ (k_thz l dC dI cI cB cR cO zk mo am (.int 0) (.int 0) (.int 0) H11.size ) (cwV 0 hts gL_law_X4_thrown rfl rfl rfl (by decide +kernel) ⟨Nat.le_of_ble_eq_true rfl, Nat.le_of_ble_eq_true rfl⟩) ⟨zblind, (zrecv_9 hK hPc (q0 := 0) rfl), hpre⟩ rfl rfl hl.1 rfl (lv_room (Nat.le_of_ble_eq_true rfl)) dL_law_1465 ⟨Nat.le_of_ble_eq_true rfl, Nat.le_of_ble_eq_true rfl⟩) hS (fun q _ h => hFc q h) hFc (fun r14 u t H13 locs ht hvm hw hB hz1 hk1 hS => ?_)
  obtain rfl : 1 = r14 := (show r14 = 1 from hw).symm
  obtain ⟨hP1, hK1, hD1, hz2⟩ := hB
  rw [ht] at hP1 hz2
  have hPD9 := va_join (wr := [(ou, .inr (7, [.long 0, .null])), (xo, .inr (6, [.ref al, .int 0, .int 0, .int 0, x4, x5, .ref b1, x7])), (al, .inr (4, [.int mc, .ref (zk 0), .int 0])), (am, .inr (4, [.int mm, .ref (zk 0), .int 0]))]) (w1 := [(mo, .inr (9, [.int 1, .ref am, .int 0, .int 0, .int 0]))]) hP hD [3] [0, 1, 2, 4] rfl rfl (by decide) (by decide) hk1 hFc hP1 hD1
  clear hPc hDc hFc hDv hpre hP hD hP1 hK1 hD1
  obtain ⟨hP, hD⟩ := hPD9
  replace hz : s.heap.size + 0 ≤ H13.size := by omega
  clear hz2
  replace hP : va_P (dC, dI) vwCl [(ou, .inr (7, [.long 0, .null])), (xo, .inr (6, [.ref al, .int 0, .int 0, .int 0, x4, x5, .ref b1, x7])), (al, .inr (4, [.int mc, .ref (zk 0), .int 0])), (am, .inr (4, [.int mm, .ref (zk 0), .int 0])), (mo, .inr (9, [.int 1, .ref am, .int 0, .int 0, .int 0]))] H13 := hP
  replace hD : va_D A [(ou, .inr (7, [.long 0, .null])), (xo, .inr (6, [.ref al, .int 0, .int 0, .int 0, x4, x5, .ref b1, x7])), (al, .inr (4, [.int mc, .ref (zk 0), .int 0])), (am, .inr (4, [.int mm, .ref (zk 0), .int 0])), (mo, .inr (9, [.int 1, .ref am, .int 0, .int 0, .int 0]))] := hD
  refine W.widen (k := 18) (n := 85) (by omega) (by omega) ?_
  refine lv_iload hx hb dL_law_1468 (lv_at hl 1 rfl) ?_
  refine lv_icmp_eq (tgt := 1475) hx hb dL_law_1470 (by decide) (fun c9 => ?_) (fun c9 => ?_)
  rotate_left
  · exact absurd (by decide) c9
  refine lv_iload hx hb dL_law_1475 (lv_at hl 1 rfl) ?_
  refine lv_if_ne (tgt := 1493) hx hb dL_law_1477 (by decide) (fun c9 => ?_) (fun c9 => ?_)
  rotate_left
  · exact absurd c9 (by decide)
  refine lv_goto (tgt := 2155) hx hb dL_law_1493 (by decide) ?_
  rw [hAd] at hS
  exact zl_tail l dC dI cI cB cR cO zk b xs C1 hZ0 hK hS (Nat.le_of_ble_eq_true rfl) (Nat.le_of_ble_eq_true rfl) ls (lv_sub hl [6, 2] rfl)

set_option maxHeartbeats 4000000 in
set_option maxRecDepth 100000 in
theorem zl_a_isDeep (l : Launch) (dC : Nat → ClassId) (dI : Nat → Nat → Nat) (cI cB cR cO : ClassId) (zk : Nat → Nat) {p : Program} {e : Env} {s : State} {mY : MethodId} {below : List Frame} {meth : Method} {c : Code} (b : Nat) (xs : Nat → Int32) (hfl : l.stackTraces = false) (C0 : zl_At p s mY meth c b 5 xs) (hZ0 : zR zk [] (fun q => s.heap.size ≤ q) s s.heap) (hK : va_K (dC, dI) vwCl (zT cI cB cR cO) s) (ou xo al b1 : Nat) (x4 x5 x7 : Value) (mc : Int32) (mo am : Nat) (mm : Int32)  (p0 p1 : Int32) (h1 : xs 1 = p0) (h2 : xs 2 = p1)  (H : Heap) (locs : List Loc) (hP : va_P (dC, dI) vwCl [(ou, .inr (7, [.long 0, .null])), (xo, .inr (6, [.ref al, .int 0, .int 0, .int 0, x4, x5, .ref b1, x7])), (al, .inr (4, [.int mc, .ref (zk 0), .int 0])), (mo, .inr (9, [.int 0, .ref am, .int 0, .int 0, .int 0])), (am, .inr (4, [.int mm, .ref (zk 0), .int 0]))] H) (hD : va_D (fun q => s.heap.size ≤ q) [(ou, .inr (7, [.long 0, .null])), (xo, .inr (6, [.ref al, .int 0, .int 0, .int 0, x4, x5, .ref b1, x7])), (al, .inr (4, [.int mc, .ref (zk 0), .int 0])), (mo, .inr (9, [.int 0, .ref am, .int 0, .int 0, .int 0])), (am, .inr (4, [.int mm, .ref (zk 0), .int 0]))]) (hS : va_S (fun q => s.heap.size ≤ q) s.heap H locs) (ls : Array Slot) (hl : lv_has ls 7 [(4, .int 0), (3, .ref ou), (2, .ref mo), (1, .ref xo), (0, .ref b)]) : W p l e room_1 s mY #[Value.ref b] below meth c H locs 17 79 (lw_Z below #[Value.ref b] s) (F0 mY 1496 ls []) := by
  have C1 := C0
  obtain ⟨hx, hb, hr, hml, hown, hts0, hX, hbl, hlocks, hNI⟩ := C0
  have hts := fun (w : Cond) (h : w ∈ wsL_law) => hts0 w (wsL_law_in w h)
  obtain ⟨A, hAd⟩ : ∃ A : Nat → Prop, A = fun q => s.heap.size ≤ q := ⟨_, rfl⟩
  have hA : ∀ q : Nat, s.heap.size ≤ q → A q := fun q h => by rw [hAd]; exact h
  have hAf : ∀ q : Nat, A q → s.heap.size ≤ q := fun q h => by rw [hAd] at h; exact h
  have hbA : ¬ A b := fun h => absurd (hAf b h) (Nat.not_le.mpr hbl)
  have hZ : zR zk [] A s s.heap := by rw [hAd]; exact hZ0
  rw [← hAd] at hD hS
  replace hP : va_P (dC, dI) vwCl [(ou, .inr (7, [.long 0, .null])), (xo, .inr (6, [.ref al, .int 0, .int 0, .int 0, x4, x5, .ref b1, x7])), (al, .inr (4, [.int mc, .ref (zk 0), .int 0])), (mo, .inr (9, [.int 0, .ref am, .int 0, .int 0, .int 0])), (am, .inr (4, [.int mm, .ref (zk 0), .int 0]))] H := hP
  replace hD : va_D A [(ou, .inr (7, [.long 0, .null])), (xo, .inr (6, [.ref al, .int 0, .int 0, .int 0, x4, x5, .ref b1, x7])), (al, .inr (4, [.int mc, .ref (zk 0), .int 0])), (mo, .inr (9, [.int 0, .ref am, .int 0, .int 0, .int 0])), (am, .inr (4, [.int mm, .ref (zk 0), .int 0]))] := hD
  have hz : s.heap.size + 0 ≤ H.size := hS.1
  refine lv_aload_n hx hb dL_law_1496 rfl (lv_at hl 3 rfl) ?_
  refine lv_aload_n hx hb dL_law_1497 rfl (lv_at hl 4 rfl) ?_
  refine lv_iload hx hb dL_law_1498 (lv_at hl 0 rfl) ?_
  refine lv_iconst (v := 1) hx hb dL_law_1500 (by decide) ?_
  refine lv_iadd hx hb dL_law_1501 ?_
  refine lv_topi (fun v1 ev1 => ?_)
  obtain rfl : v1 = 1 := ev1.trans (by decide)
  refine va_sld hx hb hX hbl hbA hS (by unfold vp_in; decide) dL_law_1502 ?_
  refine lv_topi (fun v2 ev2 => ?_)
  have e9 : v2 = p0 := ev2.trans (show xs ((1 : Int32).toNatClampNeg) = p0 from h1)
  clear ev2
  subst v2
  refine lv_aload_n hx hb dL_law_1503 rfl (lv_at hl 4 rfl) ?_
  refine lv_iload hx hb dL_law_1504 (lv_at hl 0 rfl) ?_
  refine lv_iconst (v := 2) hx hb dL_law_1506 (by decide) ?_
  refine lv_iadd hx hb dL_law_1507 ?_
  refine lv_topi (fun v3 ev3 => ?_)
  obtain rfl : v3 = 2 := ev3.trans (by decide)
  refine va_sld hx hb hX hbl hbA hS (by unfold vp_in; decide) dL_law_1508 ?_
  refine lv_topi (fun v4 ev4 => ?_)
  have e9 : v4 = p1 := ev4.trans (show xs ((2 : Int32).toNatClampNeg) = p1 from h2)
  clear ev4
  subst v4
  refine lv_aload_n hx hb dL_law_1509 rfl (lv_at hl 1 rfl) ?_
  have hPc := hP.sub (ws' := [(xo, .inr (6, [.ref al, .int 0, .int 0, .int 0, x4, x5, .ref b1, x7])), (al, .inr (4, [.int mc, .ref (zk 0), .int 0]))]) [1, 2] rfl
  have hDc := hD.sub (ws' := [(xo, .inr (6, [.ref al, .int 0, .int 0, .int 0, x4, x5, .ref b1, x7])), (al, .inr (4, [.int mc, .ref (zk 0), .int 0]))]) [1, 2] (by decide) rfl
  have hFc := va_free (wc := [(xo, .inr (6, [.ref al, .int 0, .int 0, .int 0, x4, x5, .ref b1, x7])), (al, .inr (4, [.int mc, .ref (zk 0), .int 0]))]) hD hS hA [1, 2] rfl
  have hDv := hDc.self (sz := H.size)
  have hpre := zpre (xs' := []) (av := [.ref xo, .int p0, .int p1, .ref ou]) hPc hK (hDc.weaken (fun _ _ _ h => h)) hZ hS hFc (fun r hr => by cases hr)
  refine va_calli (vx_runSW (As := [.ref xo, .int p0, .int p1, .ref ou]) (rest := []) ⟨hx, hb, hml, hown, hts⟩ (k_isDeepH l dC dI cI cB cR cO zk hfl xo al b1 (.int 0) (.int 0) (.int 0) x4 x5 x7 mc p0 p1 ou H.size ) (vx_cwSW 4 hts gL_law_L_isDeep rfl rfl rfl (by decide +kernel) ⟨Nat.le_of_ble_eq_true rfl, Nat.le_of_ble_eq_true rfl⟩) ⟨zblind, hpre⟩ rfl rfl hl.1 rfl (lv_room (Nat.le_of_ble_eq_true rfl)) dL_law_1510 ⟨Nat.le_of_ble_eq_true rfl, Nat.le_of_ble_eq_true rfl⟩) hS (fun q _ h => hFc q h) hFc (fun r6 u t H5 locs ht hvm hw hB hz1 hk1 hS => ?_)
  obtain rfl : 1 = r6 := (show r6 = 1 from hw).symm
  obtain ⟨hP1, hK1, hD1, hz2⟩ := hB
  rw [ht] at hP1 hz2
  have hPD9 := va_join (wr := [(ou, .inr (7, [.long 0, .null])), (mo, .inr (9, [.int 0, .ref am, .int 0, .int 0, .int 0])), (am, .inr (4, [.int mm, .ref (zk 0), .int 0]))]) (w1 := [(xo, .inr (6, [.ref al, .int 0, .int 0, .int 0, x4, x5, .ref b1, x7])), (al, .inr (4, [.int mc, .ref (zk 0), .int 0]))]) hP hD [1, 2] [0, 3, 4] rfl rfl (by decide) (by decide) hk1 hFc hP1 hD1
  clear hPc hDc hFc hDv hpre hP hD hP1 hK1 hD1
  obtain ⟨hP, hD⟩ := hPD9
  replace hz : s.heap.size + 0 ≤ H5.size := by omega
  clear hz2
  replace hP : va_P (dC, dI) vwCl [(ou, .inr (7, [.long 0, .null])), (mo, .inr (9, [.int 0, .ref am, .int 0, .int 0, .int 0])), (am, .inr (4, [.int mm, .ref (zk 0), .int 0])), (xo, .inr (6, [.ref al, .int 0, .int 0, .int 0, x4, x5, .ref b1, x7])), (al, .inr (4, [.int mc, .ref (zk 0), .int 0]))] H5 := hP
  replace hD : va_D A [(ou, .inr (7, [.long 0, .null])), (mo, .inr (9, [.int 0, .ref am, .int 0, .int 0, .int 0])), (am, .inr (4, [.int mm, .ref (zk 0), .int 0])), (xo, .inr (6, [.ref al, .int 0, .int 0, .int 0, x4, x5, .ref b1, x7])), (al, .inr (4, [.int mc, .ref (zk 0), .int 0]))] := hD
  refine W.widen (k := 18) (n := 85) (by omega) (by omega) ?_
  refine lv_istore (lv' := [(5, .int 1), (4, .int 0), (3, .ref ou), (2, .ref mo), (1, .ref xo), (0, .ref b)]) hx hb dL_law_1513 hl (by decide) rfl (fun ls hl => ?_)
  refine lv_aload_n hx hb dL_law_1515 rfl (lv_at hl 3 rfl) ?_
  refine lv_aload_n hx hb dL_law_1516 rfl (lv_at hl 5 rfl) ?_
  refine lv_iload hx hb dL_law_1517 (lv_at hl 1 rfl) ?_
  refine lv_iconst (v := 1) hx hb dL_law_1519 (by decide) ?_
  refine lv_iadd hx hb dL_law_1520 ?_
  refine lv_topi (fun v7 ev7 => ?_)
  obtain rfl : v7 = 1 := ev7.trans (by decide)
  refine va_sld hx hb hX hbl hbA hS (by unfold vp_in; decide) dL_law_1521 ?_
  refine lv_topi (fun v8 ev8 => ?_)
  have e9 : v8 = p0 := ev8.trans (show xs ((1 : Int32).toNatClampNeg) = p0 from h1)
  clear ev8
  subst v8
  refine lv_aload_n hx hb dL_law_1522 rfl (lv_at hl 5 rfl) ?_
  refine lv_iload hx hb dL_law_1523 (lv_at hl 1 rfl) ?_
  refine lv_iconst (v := 2) hx hb dL_law_1525 (by decide) ?_
  refine lv_iadd hx hb dL_law_1526 ?_
  refine lv_topi (fun v9 ev9 => ?_)
  obtain rfl : v9 = 2 := ev9.trans (by decide)
  refine va_sld hx hb hX hbl hbA hS (by unfold vp_in; decide) dL_law_1527 ?_
  refine lv_topi (fun v10 ev10 => ?_)
  have e9 : v10 = p1 := ev10.trans (show xs ((2 : Int32).toNatClampNeg) = p1 from h2)
  clear ev10
  subst v10
  have hPc := hP.sub (ws' := [(mo, .inr (9, [.int 0, .ref am, .int 0, .int 0, .int 0])), (am, .inr (4, [.int mm, .ref (zk 0), .int 0]))]) [1, 2] rfl
  have hDc := hD.sub (ws' := [(mo, .inr (9, [.int 0, .ref am, .int 0, .int 0, .int 0])), (am, .inr (4, [.int mm, .ref (zk 0), .int 0]))]) [1, 2] (by decide) rfl
  have hFc := va_free (wc := [(mo, .inr (9, [.int 0, .ref am, .int 0, .int 0, .int 0])), (am, .inr (4, [.int mm, .ref (zk 0), .int 0]))]) hD hS hA [1, 2] rfl
  have hDv := hDc.self (sz := H5.size)
  have hpre := zpre (xs' := []) (av := [.ref mo, .int p0, .int p1]) hPc hK (hDc.weaken (fun _ _ _ h => h)) hZ hS hFc (fun r hr => by cases hr)
  refine va_calli (va_runV (As := [.int p0, .int p1]) (rest := []) ⟨hx, hb, hml, hown, hts⟩ (k_isDeepM l dC dI cI cB cR cO zk mo am (.int 0) (.int 0) (.int 0) (.int 0) mm p0 p1 H5.size ) (cwV 2 hts gL_law_X4_isDeep rfl rfl rfl (by decide +kernel) ⟨Nat.le_of_ble_eq_true rfl, Nat.le_of_ble_eq_true rfl⟩) ⟨zblind, (zrecv_9 hK hPc (q0 := 0) rfl), hpre⟩ rfl rfl hl.1 rfl (lv_room (Nat.le_of_ble_eq_true rfl)) dL_law_1528 ⟨Nat.le_of_ble_eq_true rfl, Nat.le_of_ble_eq_true rfl⟩) hS (fun q _ h => hFc q h) hFc (fun r12 u t H11 locs ht hvm hw hB hz1 hk1 hS => ?_)
  obtain ⟨hP1, hK1, hD1, hz2⟩ := hB
  rw [ht] at hP1 hz2
  have hPD9 := va_join (wr := [(ou, .inr (7, [.long 0, .null])), (xo, .inr (6, [.ref al, .int 0, .int 0, .int 0, x4, x5, .ref b1, x7])), (al, .inr (4, [.int mc, .ref (zk 0), .int 0]))]) (w1 := [(mo, .inr (9, [.int 1, .ref am, .int 0, .int 0, .int 0])), (am, .inr (4, [.int mm, .ref (zk 0), .int 0]))]) hP hD [1, 2] [0, 3, 4] rfl rfl (by decide) (by decide) hk1 hFc hP1 hD1
  clear hPc hDc hFc hDv hpre hP hD hP1 hK1 hD1
  obtain ⟨hP, hD⟩ := hPD9
  replace hz : s.heap.size + 0 ≤ H11.size := by omega
  clear hz2
  replace hP : va_P (dC, dI) vwCl [(ou, .inr (7, [.long 0, .null])), (xo, .inr (6, [.ref al, .int 0, .int 0, .int 0, x4, x5, .ref b1, x7])), (al, .inr (4, [.int mc, .ref (zk 0), .int 0])), (mo, .inr (9, [.int 1, .ref am, .int 0, .int 0, .int 0])), (am, .inr (4, [.int mm, .ref (zk 0), .int 0]))] H11 := hP
  replace hD : va_D A [(ou, .inr (7, [.long 0, .null])), (xo, .inr (6, [.ref al, .int 0, .int 0, .int 0, x4, x5, .ref b1, x7])), (al, .inr (4, [.int mc, .ref (zk 0), .int 0])), (mo, .inr (9, [.int 1, .ref am, .int 0, .int 0, .int 0])), (am, .inr (4, [.int mm, .ref (zk 0), .int 0]))] := hD
  refine W.widen (k := 18) (n := 85) (by omega) (by omega) ?_
  refine lv_istore (lv' := [(6, .int r12), (5, .int 1), (4, .int 0), (3, .ref ou), (2, .ref mo), (1, .ref xo), (0, .ref b)]) hx hb dL_law_1531 hl (by decide) rfl (fun ls hl => ?_)
  refine lv_aload_n hx hb dL_law_1533 rfl (lv_at hl 4 rfl) ?_
  have hPc := hP.sub (ws' := [(mo, .inr (9, [.int 1, .ref am, .int 0, .int 0, .int 0]))]) [3] rfl
  have hDc := hD.sub (ws' := [(mo, .inr (9, [.int 1, .ref am, .int 0, .int 0, .int 0]))]) [3] (by decide) rfl
  have hFc := va_free (wc := [(mo, .inr (9, [.int 1, .ref am, .int 0, .int 0, .int 0]))]) hD hS hA [3] rfl
  have hDv := hDc.self (sz := H11.size)
  have hpre := zpre (xs' := []) (av := [.ref mo]) hPc hK (hDc.weaken (fun _ _ _ h => h)) hZ hS hFc (fun r hr => by cases hr)
  refine va_calli (va_runV (As := []) (rest := []) ⟨hx, hb, hml, hown, hts⟩ (k_thz l dC dI cI cB cR cO zk mo am (.int 0) (.int 0) (.int 0) H11.size ) (cwV 0 hts gL_law_X4_thrown rfl rfl rfl (by decide +kernel) ⟨Nat.le_of_ble_eq_true rfl, Nat.le_of_ble_eq_true rfl⟩) ⟨zblind, (zrecv_9 hK hPc (q0 := 0) rfl), hpre⟩ rfl rfl hl.1 rfl (lv_room (Nat.le_of_ble_eq_true rfl)) dL_law_1534 ⟨Nat.le_of_ble_eq_true rfl, Nat.le_of_ble_eq_true rfl⟩) hS (fun q _ h => hFc q h) hFc (fun r14 u t H13 locs ht hvm hw hB hz1 hk1 hS => ?_)
  obtain rfl : 1 = r14 := (show r14 = 1 from hw).symm
  obtain ⟨hP1, hK1, hD1, hz2⟩ := hB
  rw [ht] at hP1 hz2
  have hPD9 := va_join (wr := [(ou, .inr (7, [.long 0, .null])), (xo, .inr (6, [.ref al, .int 0, .int 0, .int 0, x4, x5, .ref b1, x7])), (al, .inr (4, [.int mc, .ref (zk 0), .int 0])), (am, .inr (4, [.int mm, .ref (zk 0), .int 0]))]) (w1 := [(mo, .inr (9, [.int 1, .ref am, .int 0, .int 0, .int 0]))]) hP hD [3] [0, 1, 2, 4] rfl rfl (by decide) (by decide) hk1 hFc hP1 hD1
  clear hPc hDc hFc hDv hpre hP hD hP1 hK1 hD1
  obtain ⟨hP, hD⟩ := hPD9
  replace hz : s.heap.size + 0 ≤ H13.size := by omega
  clear hz2
  replace hP : va_P (dC, dI) vwCl [(ou, .inr (7, [.long 0, .null])), (xo, .inr (6, [.ref al, .int 0, .int 0, .int 0, x4, x5, .ref b1, x7])), (al, .inr (4, [.int mc, .ref (zk 0), .int 0])), (am, .inr (4, [.int mm, .ref (zk 0), .int 0])), (mo, .inr (9, [.int 1, .ref am, .int 0, .int 0, .int 0]))] H13 := hP
  replace hD : va_D A [(ou, .inr (7, [.long 0, .null])), (xo, .inr (6, [.ref al, .int 0, .int 0, .int 0, x4, x5, .ref b1, x7])), (al, .inr (4, [.int mc, .ref (zk 0), .int 0])), (am, .inr (4, [.int mm, .ref (zk 0), .int 0])), (mo, .inr (9, [.int 1, .ref am, .int 0, .int 0, .int 0]))] := hD
  refine W.widen (k := 18) (n := 85) (by omega) (by omega) ?_
  refine lv_iload hx hb dL_law_1537 (lv_at hl 1 rfl) ?_
  refine lv_icmp_eq (tgt := 1544) hx hb dL_law_1539 (by decide) (fun c9 => ?_) (fun c9 => ?_)
  rotate_left
  · exact absurd (by decide) c9
  refine lv_iload hx hb dL_law_1544 (lv_at hl 1 rfl) ?_
  refine lv_if_ne (tgt := 1569) hx hb dL_law_1546 (by decide) (fun c9 => ?_) (fun c9 => ?_)
  rotate_left
  · exact absurd c9 (by decide)
  refine lv_goto (tgt := 2155) hx hb dL_law_1569 (by decide) ?_
  rw [hAd] at hS
  exact zl_tail l dC dI cI cB cR cO zk b xs C1 hZ0 hK hS (Nat.le_of_ble_eq_true rfl) (Nat.le_of_ble_eq_true rfl) ls (lv_sub hl [6, 2] rfl)

set_option maxHeartbeats 4000000 in
set_option maxRecDepth 100000 in
theorem zl_a_isFlat (l : Launch) (dC : Nat → ClassId) (dI : Nat → Nat → Nat) (cI cB cR cO : ClassId) (zk : Nat → Nat) {p : Program} {e : Env} {s : State} {mY : MethodId} {below : List Frame} {meth : Method} {c : Code} (b : Nat) (xs : Nat → Int32) (hfl : l.stackTraces = false) (C0 : zl_At p s mY meth c b 5 xs) (hZ0 : zR zk [] (fun q => s.heap.size ≤ q) s s.heap) (hK : va_K (dC, dI) vwCl (zT cI cB cR cO) s) (ou xo al b1 : Nat) (x4 x5 x7 : Value) (mc : Int32) (mo am : Nat) (mm : Int32)  (p0 p1 : Int32) (h1 : xs 1 = p0) (h2 : xs 2 = p1)  (H : Heap) (locs : List Loc) (hP : va_P (dC, dI) vwCl [(ou, .inr (7, [.long 0, .null])), (xo, .inr (6, [.ref al, .int 0, .int 0, .int 0, x4, x5, .ref b1, x7])), (al, .inr (4, [.int mc, .ref (zk 0), .int 0])), (mo, .inr (9, [.int 0, .ref am, .int 0, .int 0, .int 0])), (am, .inr (4, [.int mm, .ref (zk 0), .int 0]))] H) (hD : va_D (fun q => s.heap.size ≤ q) [(ou, .inr (7, [.long 0, .null])), (xo, .inr (6, [.ref al, .int 0, .int 0, .int 0, x4, x5, .ref b1, x7])), (al, .inr (4, [.int mc, .ref (zk 0), .int 0])), (mo, .inr (9, [.int 0, .ref am, .int 0, .int 0, .int 0])), (am, .inr (4, [.int mm, .ref (zk 0), .int 0]))]) (hS : va_S (fun q => s.heap.size ≤ q) s.heap H locs) (ls : Array Slot) (hl : lv_has ls 7 [(4, .int 0), (3, .ref ou), (2, .ref mo), (1, .ref xo), (0, .ref b)]) : W p l e room_1 s mY #[Value.ref b] below meth c H locs 17 79 (lw_Z below #[Value.ref b] s) (F0 mY 1572 ls []) := by
  have C1 := C0
  obtain ⟨hx, hb, hr, hml, hown, hts0, hX, hbl, hlocks, hNI⟩ := C0
  have hts := fun (w : Cond) (h : w ∈ wsL_law) => hts0 w (wsL_law_in w h)
  obtain ⟨A, hAd⟩ : ∃ A : Nat → Prop, A = fun q => s.heap.size ≤ q := ⟨_, rfl⟩
  have hA : ∀ q : Nat, s.heap.size ≤ q → A q := fun q h => by rw [hAd]; exact h
  have hAf : ∀ q : Nat, A q → s.heap.size ≤ q := fun q h => by rw [hAd] at h; exact h
  have hbA : ¬ A b := fun h => absurd (hAf b h) (Nat.not_le.mpr hbl)
  have hZ : zR zk [] A s s.heap := by rw [hAd]; exact hZ0
  rw [← hAd] at hD hS
  replace hP : va_P (dC, dI) vwCl [(ou, .inr (7, [.long 0, .null])), (xo, .inr (6, [.ref al, .int 0, .int 0, .int 0, x4, x5, .ref b1, x7])), (al, .inr (4, [.int mc, .ref (zk 0), .int 0])), (mo, .inr (9, [.int 0, .ref am, .int 0, .int 0, .int 0])), (am, .inr (4, [.int mm, .ref (zk 0), .int 0]))] H := hP
  replace hD : va_D A [(ou, .inr (7, [.long 0, .null])), (xo, .inr (6, [.ref al, .int 0, .int 0, .int 0, x4, x5, .ref b1, x7])), (al, .inr (4, [.int mc, .ref (zk 0), .int 0])), (mo, .inr (9, [.int 0, .ref am, .int 0, .int 0, .int 0])), (am, .inr (4, [.int mm, .ref (zk 0), .int 0]))] := hD
  have hz : s.heap.size + 0 ≤ H.size := hS.1
  refine lv_aload_n hx hb dL_law_1572 rfl (lv_at hl 3 rfl) ?_
  refine lv_aload_n hx hb dL_law_1573 rfl (lv_at hl 4 rfl) ?_
  refine lv_iload hx hb dL_law_1574 (lv_at hl 0 rfl) ?_
  refine lv_iconst (v := 1) hx hb dL_law_1576 (by decide) ?_
  refine lv_iadd hx hb dL_law_1577 ?_
  refine lv_topi (fun v1 ev1 => ?_)
  obtain rfl : v1 = 1 := ev1.trans (by decide)
  refine va_sld hx hb hX hbl hbA hS (by unfold vp_in; decide) dL_law_1578 ?_
  refine lv_topi (fun v2 ev2 => ?_)
  have e9 : v2 = p0 := ev2.trans (show xs ((1 : Int32).toNatClampNeg) = p0 from h1)
  clear ev2
  subst v2
  refine lv_aload_n hx hb dL_law_1579 rfl (lv_at hl 4 rfl) ?_
  refine lv_iload hx hb dL_law_1580 (lv_at hl 0 rfl) ?_
  refine lv_iconst (v := 2) hx hb dL_law_1582 (by decide) ?_
  refine lv_iadd hx hb dL_law_1583 ?_
  refine lv_topi (fun v3 ev3 => ?_)
  obtain rfl : v3 = 2 := ev3.trans (by decide)
  refine va_sld hx hb hX hbl hbA hS (by unfold vp_in; decide) dL_law_1584 ?_
  refine lv_topi (fun v4 ev4 => ?_)
  have e9 : v4 = p1 := ev4.trans (show xs ((2 : Int32).toNatClampNeg) = p1 from h2)
  clear ev4
  subst v4
  refine lv_aload_n hx hb dL_law_1585 rfl (lv_at hl 1 rfl) ?_
  have hPc := hP.sub (ws' := [(xo, .inr (6, [.ref al, .int 0, .int 0, .int 0, x4, x5, .ref b1, x7])), (al, .inr (4, [.int mc, .ref (zk 0), .int 0]))]) [1, 2] rfl
  have hDc := hD.sub (ws' := [(xo, .inr (6, [.ref al, .int 0, .int 0, .int 0, x4, x5, .ref b1, x7])), (al, .inr (4, [.int mc, .ref (zk 0), .int 0]))]) [1, 2] (by decide) rfl
  have hFc := va_free (wc := [(xo, .inr (6, [.ref al, .int 0, .int 0, .int 0, x4, x5, .ref b1, x7])), (al, .inr (4, [.int mc, .ref (zk 0), .int 0]))]) hD hS hA [1, 2] rfl
  have hDv := hDc.self (sz := H.size)
  have hpre := zpre (xs' := []) (av := [.ref xo, .int p0, .int p1, .ref ou]) hPc hK (hDc.weaken (fun _ _ _ h => h)) hZ hS hFc (fun r hr => by cases hr)
  refine va_calli (vx_runSW (As := [.ref xo, .int p0, .int p1, .ref ou]) (rest := []) ⟨hx, hb, hml, hown, hts⟩ (k_isFlatH l dC dI cI cB cR cO zk hfl xo al b1 (.int 0) (.int 0) (.int 0) x4 x5 x7 mc p0 p1 ou H.size ) (vx_cwSW 4 hts gL_law_L_isFlat rfl rfl rfl (by decide +kernel) ⟨Nat.le_of_ble_eq_true rfl, Nat.le_of_ble_eq_true rfl⟩) ⟨zblind, hpre⟩ rfl rfl hl.1 rfl (lv_room (Nat.le_of_ble_eq_true rfl)) dL_law_1586 ⟨Nat.le_of_ble_eq_true rfl, Nat.le_of_ble_eq_true rfl⟩) hS (fun q _ h => hFc q h) hFc (fun r6 u t H5 locs ht hvm hw hB hz1 hk1 hS => ?_)
  obtain rfl : 1 = r6 := (show r6 = 1 from hw).symm
  obtain ⟨hP1, hK1, hD1, hz2⟩ := hB
  rw [ht] at hP1 hz2
  have hPD9 := va_join (wr := [(ou, .inr (7, [.long 0, .null])), (mo, .inr (9, [.int 0, .ref am, .int 0, .int 0, .int 0])), (am, .inr (4, [.int mm, .ref (zk 0), .int 0]))]) (w1 := [(xo, .inr (6, [.ref al, .int 0, .int 0, .int 0, x4, x5, .ref b1, x7])), (al, .inr (4, [.int mc, .ref (zk 0), .int 0]))]) hP hD [1, 2] [0, 3, 4] rfl rfl (by decide) (by decide) hk1 hFc hP1 hD1
  clear hPc hDc hFc hDv hpre hP hD hP1 hK1 hD1
  obtain ⟨hP, hD⟩ := hPD9
  replace hz : s.heap.size + 0 ≤ H5.size := by omega
  clear hz2
  replace hP : va_P (dC, dI) vwCl [(ou, .inr (7, [.long 0, .null])), (mo, .inr (9, [.int 0, .ref am, .int 0, .int 0, .int 0])), (am, .inr (4, [.int mm, .ref (zk 0), .int 0])), (xo, .inr (6, [.ref al, .int 0, .int 0, .int 0, x4, x5, .ref b1, x7])), (al, .inr (4, [.int mc, .ref (zk 0), .int 0]))] H5 := hP
  replace hD : va_D A [(ou, .inr (7, [.long 0, .null])), (mo, .inr (9, [.int 0, .ref am, .int 0, .int 0, .int 0])), (am, .inr (4, [.int mm, .ref (zk 0), .int 0])), (xo, .inr (6, [.ref al, .int 0, .int 0, .int 0, x4, x5, .ref b1, x7])), (al, .inr (4, [.int mc, .ref (zk 0), .int 0]))] := hD
  refine W.widen (k := 18) (n := 85) (by omega) (by omega) ?_
  refine lv_istore (lv' := [(5, .int 1), (4, .int 0), (3, .ref ou), (2, .ref mo), (1, .ref xo), (0, .ref b)]) hx hb dL_law_1589 hl (by decide) rfl (fun ls hl => ?_)
  refine lv_aload_n hx hb dL_law_1591 rfl (lv_at hl 3 rfl) ?_
  refine lv_aload_n hx hb dL_law_1592 rfl (lv_at hl 5 rfl) ?_
  refine lv_iload hx hb dL_law_1593 (lv_at hl 1 rfl) ?_
  refine lv_iconst (v := 1) hx hb dL_law_1595 (by decide) ?_
  refine lv_iadd hx hb dL_law_1596 ?_
  refine lv_topi (fun v7 ev7 => ?_)
  obtain rfl : v7 = 1 := ev7.trans (by decide)
  refine va_sld hx hb hX hbl hbA hS (by unfold vp_in; decide) dL_law_1597 ?_
  refine lv_topi (fun v8 ev8 => ?_)
  have e9 : v8 = p0 := ev8.trans (show xs ((1 : Int32).toNatClampNeg) = p0 from h1)
  clear ev8
  subst v8
  refine lv_aload_n hx hb dL_law_1598 rfl (lv_at hl 5 rfl) ?_
  refine lv_iload hx hb dL_law_1599 (lv_at hl 1 rfl) ?_
  refine lv_iconst (v := 2) hx hb dL_law_1601 (by decide) ?_
  refine lv_iadd hx hb dL_law_1602 ?_
  refine lv_topi (fun v9 ev9 => ?_)
  obtain rfl : v9 = 2 := ev9.trans (by decide)
  refine va_sld hx hb hX hbl hbA hS (by unfold vp_in; decide) dL_law_1603 ?_
  refine lv_topi (fun v10 ev10 => ?_)
  have e9 : v10 = p1 := ev10.trans (show xs ((2 : Int32).toNatClampNeg) = p1 from h2)
  clear ev10
  subst v10
  have hPc := hP.sub (ws' := [(mo, .inr (9, [.int 0, .ref am, .int 0, .int 0, .int 0])), (am, .inr (4, [.int mm, .ref (zk 0), .int 0]))]) [1, 2] rfl
  have hDc := hD.sub (ws' := [(mo, .inr (9, [.int 0, .ref am, .int 0, .int 0, .int 0])), (am, .inr (4, [.int mm, .ref (zk 0), .int 0]))]) [1, 2] (by decide) rfl
  have hFc := va_free (wc := [(mo, .inr (9, [.int 0, .ref am, .int 0, .int 0, .int 0])), (am, .inr (4, [.int mm, .ref (zk 0), .int 0]))]) hD hS hA [1, 2] rfl
  have hDv := hDc.self (sz := H5.size)
  have hpre := zpre (xs' := []) (av := [.ref mo, .int p0, .int p1]) hPc hK (hDc.weaken (fun _ _ _ h => h)) hZ hS hFc (fun r hr => by cases hr)
  refine va_calli (va_runV (As := [.int p0, .int p1]) (rest := []) ⟨hx, hb, hml, hown, hts⟩ (k_isFlatM l dC dI cI cB cR cO zk mo am (.int 0) (.int 0) (.int 0) (.int 0) mm p0 p1 H5.size ) (cwV 2 hts gL_law_X4_isFlat rfl rfl rfl (by decide +kernel) ⟨Nat.le_of_ble_eq_true rfl, Nat.le_of_ble_eq_true rfl⟩) ⟨zblind, (zrecv_9 hK hPc (q0 := 0) rfl), hpre⟩ rfl rfl hl.1 rfl (lv_room (Nat.le_of_ble_eq_true rfl)) dL_law_1604 ⟨Nat.le_of_ble_eq_true rfl, Nat.le_of_ble_eq_true rfl⟩) hS (fun q _ h => hFc q h) hFc (fun r12 u t H11 locs ht hvm hw hB hz1 hk1 hS => ?_)
  obtain ⟨hP1, hK1, hD1, hz2⟩ := hB
  rw [ht] at hP1 hz2
  have hPD9 := va_join (wr := [(ou, .inr (7, [.long 0, .null])), (xo, .inr (6, [.ref al, .int 0, .int 0, .int 0, x4, x5, .ref b1, x7])), (al, .inr (4, [.int mc, .ref (zk 0), .int 0]))]) (w1 := [(mo, .inr (9, [.int 1, .ref am, .int 0, .int 0, .int 0])), (am, .inr (4, [.int mm, .ref (zk 0), .int 0]))]) hP hD [1, 2] [0, 3, 4] rfl rfl (by decide) (by decide) hk1 hFc hP1 hD1
  clear hPc hDc hFc hDv hpre hP hD hP1 hK1 hD1
  obtain ⟨hP, hD⟩ := hPD9
  replace hz : s.heap.size + 0 ≤ H11.size := by omega
  clear hz2
  replace hP : va_P (dC, dI) vwCl [(ou, .inr (7, [.long 0, .null])), (xo, .inr (6, [.ref al, .int 0, .int 0, .int 0, x4, x5, .ref b1, x7])), (al, .inr (4, [.int mc, .ref (zk 0), .int 0])), (mo, .inr (9, [.int 1, .ref am, .int 0, .int 0, .int 0])), (am, .inr (4, [.int mm, .ref (zk 0), .int 0]))] H11 := hP
  replace hD : va_D A [(ou, .inr (7, [.long 0, .null])), (xo, .inr (6, [.ref al, .int 0, .int 0, .int 0, x4, x5, .ref b1, x7])), (al, .inr (4, [.int mc, .ref (zk 0), .int 0])), (mo, .inr (9, [.int 1, .ref am, .int 0, .int 0, .int 0])), (am, .inr (4, [.int mm, .ref (zk 0), .int 0]))] := hD
  refine W.widen (k := 18) (n := 85) (by omega) (by omega) ?_
  refine lv_istore (lv' := [(6, .int r12), (5, .int 1), (4, .int 0), (3, .ref ou), (2, .ref mo), (1, .ref xo), (0, .ref b)]) hx hb dL_law_1607 hl (by decide) rfl (fun ls hl => ?_)
  refine lv_aload_n hx hb dL_law_1609 rfl (lv_at hl 4 rfl) ?_
  have hPc := hP.sub (ws' := [(mo, .inr (9, [.int 1, .ref am, .int 0, .int 0, .int 0]))]) [3] rfl
  have hDc := hD.sub (ws' := [(mo, .inr (9, [.int 1, .ref am, .int 0, .int 0, .int 0]))]) [3] (by decide) rfl
  have hFc := va_free (wc := [(mo, .inr (9, [.int 1, .ref am, .int 0, .int 0, .int 0]))]) hD hS hA [3] rfl
  have hDv := hDc.self (sz := H11.size)
  have hpre := zpre (xs' := []) (av := [.ref mo]) hPc hK (hDc.weaken (fun _ _ _ h => h)) hZ hS hFc (fun r hr => by cases hr)
  refine va_calli (va_runV (As := []) (rest := []) ⟨hx, hb, hml, hown, hts⟩ (k_thz l dC dI cI cB cR cO zk mo am (.int 0) (.int 0) (.int 0) H11.size ) (cwV 0 hts gL_law_X4_thrown rfl rfl rfl (by decide +kernel) ⟨Nat.le_of_ble_eq_true rfl, Nat.le_of_ble_eq_true rfl⟩) ⟨zblind, (zrecv_9 hK hPc (q0 := 0) rfl), hpre⟩ rfl rfl hl.1 rfl (lv_room (Nat.le_of_ble_eq_true rfl)) dL_law_1610 ⟨Nat.le_of_ble_eq_true rfl, Nat.le_of_ble_eq_true rfl⟩) hS (fun q _ h => hFc q h) hFc (fun r14 u t H13 locs ht hvm hw hB hz1 hk1 hS => ?_)
  obtain rfl : 1 = r14 := (show r14 = 1 from hw).symm
  obtain ⟨hP1, hK1, hD1, hz2⟩ := hB
  rw [ht] at hP1 hz2
  have hPD9 := va_join (wr := [(ou, .inr (7, [.long 0, .null])), (xo, .inr (6, [.ref al, .int 0, .int 0, .int 0, x4, x5, .ref b1, x7])), (al, .inr (4, [.int mc, .ref (zk 0), .int 0])), (am, .inr (4, [.int mm, .ref (zk 0), .int 0]))]) (w1 := [(mo, .inr (9, [.int 1, .ref am, .int 0, .int 0, .int 0]))]) hP hD [3] [0, 1, 2, 4] rfl rfl (by decide) (by decide) hk1 hFc hP1 hD1
  clear hPc hDc hFc hDv hpre hP hD hP1 hK1 hD1
  obtain ⟨hP, hD⟩ := hPD9
  replace hz : s.heap.size + 0 ≤ H13.size := by omega
  clear hz2
  replace hP : va_P (dC, dI) vwCl [(ou, .inr (7, [.long 0, .null])), (xo, .inr (6, [.ref al, .int 0, .int 0, .int 0, x4, x5, .ref b1, x7])), (al, .inr (4, [.int mc, .ref (zk 0), .int 0])), (am, .inr (4, [.int mm, .ref (zk 0), .int 0])), (mo, .inr (9, [.int 1, .ref am, .int 0, .int 0, .int 0]))] H13 := hP
  replace hD : va_D A [(ou, .inr (7, [.long 0, .null])), (xo, .inr (6, [.ref al, .int 0, .int 0, .int 0, x4, x5, .ref b1, x7])), (al, .inr (4, [.int mc, .ref (zk 0), .int 0])), (am, .inr (4, [.int mm, .ref (zk 0), .int 0])), (mo, .inr (9, [.int 1, .ref am, .int 0, .int 0, .int 0]))] := hD
  refine W.widen (k := 18) (n := 85) (by omega) (by omega) ?_
  refine lv_iload hx hb dL_law_1613 (lv_at hl 1 rfl) ?_
  refine lv_icmp_eq (tgt := 1620) hx hb dL_law_1615 (by decide) (fun c9 => ?_) (fun c9 => ?_)
  rotate_left
  · exact absurd (by decide) c9
  refine lv_iload hx hb dL_law_1620 (lv_at hl 1 rfl) ?_
  refine lv_if_ne (tgt := 1645) hx hb dL_law_1622 (by decide) (fun c9 => ?_) (fun c9 => ?_)
  rotate_left
  · exact absurd c9 (by decide)
  refine lv_goto (tgt := 2155) hx hb dL_law_1645 (by decide) ?_
  rw [hAd] at hS
  exact zl_tail l dC dI cI cB cR cO zk b xs C1 hZ0 hK hS (Nat.le_of_ble_eq_true rfl) (Nat.le_of_ble_eq_true rfl) ls (lv_sub hl [6, 2] rfl)

set_option maxHeartbeats 4000000 in
set_option maxRecDepth 100000 in
theorem zl_a_areDeep (l : Launch) (dC : Nat → ClassId) (dI : Nat → Nat → Nat) (cI cB cR cO : ClassId) (zk : Nat → Nat) {p : Program} {e : Env} {s : State} {mY : MethodId} {below : List Frame} {meth : Method} {c : Code} (b : Nat) (xs : Nat → Int32) (hfl : l.stackTraces = false) (C0 : zl_At p s mY meth c b 5 xs) (hZ0 : zR zk [] (fun q => s.heap.size ≤ q) s s.heap) (hK : va_K (dC, dI) vwCl (zT cI cB cR cO) s) (ou xo al b1 : Nat) (x4 x5 x7 : Value) (mc : Int32) (mo am : Nat) (mm : Int32)  (p0 p1 p2 p3 : Int32) (h1 : xs 1 = p0) (h2 : xs 2 = p1) (h3 : xs 3 = p2) (h4 : xs 4 = p3)  (H : Heap) (locs : List Loc) (hP : va_P (dC, dI) vwCl [(ou, .inr (7, [.long 0, .null])), (xo, .inr (6, [.ref al, .int 0, .int 0, .int 0, x4, x5, .ref b1, x7])), (al, .inr (4, [.int mc, .ref (zk 0), .int 0])), (mo, .inr (9, [.int 0, .ref am, .int 0, .int 0, .int 0])), (am, .inr (4, [.int mm, .ref (zk 0), .int 0]))] H) (hD : va_D (fun q => s.heap.size ≤ q) [(ou, .inr (7, [.long 0, .null])), (xo, .inr (6, [.ref al, .int 0, .int 0, .int 0, x4, x5, .ref b1, x7])), (al, .inr (4, [.int mc, .ref (zk 0), .int 0])), (mo, .inr (9, [.int 0, .ref am, .int 0, .int 0, .int 0])), (am, .inr (4, [.int mm, .ref (zk 0), .int 0]))]) (hS : va_S (fun q => s.heap.size ≤ q) s.heap H locs) (ls : Array Slot) (hl : lv_has ls 7 [(4, .int 0), (3, .ref ou), (2, .ref mo), (1, .ref xo), (0, .ref b)]) : W p l e room_1 s mY #[Value.ref b] below meth c H locs 17 79 (lw_Z below #[Value.ref b] s) (F0 mY 1648 ls []) := by
  have C1 := C0
  obtain ⟨hx, hb, hr, hml, hown, hts0, hX, hbl, hlocks, hNI⟩ := C0
  have hts := fun (w : Cond) (h : w ∈ wsL_law) => hts0 w (wsL_law_in w h)
  obtain ⟨A, hAd⟩ : ∃ A : Nat → Prop, A = fun q => s.heap.size ≤ q := ⟨_, rfl⟩
  have hA : ∀ q : Nat, s.heap.size ≤ q → A q := fun q h => by rw [hAd]; exact h
  have hAf : ∀ q : Nat, A q → s.heap.size ≤ q := fun q h => by rw [hAd] at h; exact h
  have hbA : ¬ A b := fun h => absurd (hAf b h) (Nat.not_le.mpr hbl)
  have hZ : zR zk [] A s s.heap := by rw [hAd]; exact hZ0
  rw [← hAd] at hD hS
  replace hP : va_P (dC, dI) vwCl [(ou, .inr (7, [.long 0, .null])), (xo, .inr (6, [.ref al, .int 0, .int 0, .int 0, x4, x5, .ref b1, x7])), (al, .inr (4, [.int mc, .ref (zk 0), .int 0])), (mo, .inr (9, [.int 0, .ref am, .int 0, .int 0, .int 0])), (am, .inr (4, [.int mm, .ref (zk 0), .int 0]))] H := hP
  replace hD : va_D A [(ou, .inr (7, [.long 0, .null])), (xo, .inr (6, [.ref al, .int 0, .int 0, .int 0, x4, x5, .ref b1, x7])), (al, .inr (4, [.int mc, .ref (zk 0), .int 0])), (mo, .inr (9, [.int 0, .ref am, .int 0, .int 0, .int 0])), (am, .inr (4, [.int mm, .ref (zk 0), .int 0]))] := hD
  have hz : s.heap.size + 0 ≤ H.size := hS.1
  refine lv_aload_n hx hb dL_law_1648 rfl (lv_at hl 3 rfl) ?_
  refine lv_aload_n hx hb dL_law_1649 rfl (lv_at hl 4 rfl) ?_
  refine lv_iload hx hb dL_law_1650 (lv_at hl 0 rfl) ?_
  refine lv_iconst (v := 1) hx hb dL_law_1652 (by decide) ?_
  refine lv_iadd hx hb dL_law_1653 ?_
  refine lv_topi (fun v1 ev1 => ?_)
  obtain rfl : v1 = 1 := ev1.trans (by decide)
  refine va_sld hx hb hX hbl hbA hS (by unfold vp_in; decide) dL_law_1654 ?_
  refine lv_topi (fun v2 ev2 => ?_)
  have e9 : v2 = p0 := ev2.trans (show xs ((1 : Int32).toNatClampNeg) = p0 from h1)
  clear ev2
  subst v2
  refine lv_aload_n hx hb dL_law_1655 rfl (lv_at hl 4 rfl) ?_
  refine lv_iload hx hb dL_law_1656 (lv_at hl 0 rfl) ?_
  refine lv_iconst (v := 2) hx hb dL_law_1658 (by decide) ?_
  refine lv_iadd hx hb dL_law_1659 ?_
  refine lv_topi (fun v3 ev3 => ?_)
  obtain rfl : v3 = 2 := ev3.trans (by decide)
  refine va_sld hx hb hX hbl hbA hS (by unfold vp_in; decide) dL_law_1660 ?_
  refine lv_topi (fun v4 ev4 => ?_)
  have e9 : v4 = p1 := ev4.trans (show xs ((2 : Int32).toNatClampNeg) = p1 from h2)
  clear ev4
  subst v4
  refine lv_aload_n hx hb dL_law_1661 rfl (lv_at hl 4 rfl) ?_
  refine lv_iload hx hb dL_law_1662 (lv_at hl 0 rfl) ?_
  refine lv_iconst (v := 3) hx hb dL_law_1664 (by decide) ?_
  refine lv_iadd hx hb dL_law_1665 ?_
  refine lv_topi (fun v5 ev5 => ?_)
  obtain rfl : v5 = 3 := ev5.trans (by decide)
  refine va_sld hx hb hX hbl hbA hS (by unfold vp_in; decide) dL_law_1666 ?_
  refine lv_topi (fun v6 ev6 => ?_)
  have e9 : v6 = p2 := ev6.trans (show xs ((3 : Int32).toNatClampNeg) = p2 from h3)
  clear ev6
  subst v6
  refine lv_aload_n hx hb dL_law_1667 rfl (lv_at hl 4 rfl) ?_
  refine lv_iload hx hb dL_law_1668 (lv_at hl 0 rfl) ?_
  refine lv_iconst (v := 4) hx hb dL_law_1670 (by decide) ?_
  refine lv_iadd hx hb dL_law_1671 ?_
  refine lv_topi (fun v7 ev7 => ?_)
  obtain rfl : v7 = 4 := ev7.trans (by decide)
  refine va_sld hx hb hX hbl hbA hS (by unfold vp_in; decide) dL_law_1672 ?_
  refine lv_topi (fun v8 ev8 => ?_)
  have e9 : v8 = p3 := ev8.trans (show xs ((4 : Int32).toNatClampNeg) = p3 from h4)
  clear ev8
  subst v8
  refine lv_aload_n hx hb dL_law_1673 rfl (lv_at hl 1 rfl) ?_
  have hPc := hP.sub (ws' := [(xo, .inr (6, [.ref al, .int 0, .int 0, .int 0, x4, x5, .ref b1, x7])), (al, .inr (4, [.int mc, .ref (zk 0), .int 0]))]) [1, 2] rfl
  have hDc := hD.sub (ws' := [(xo, .inr (6, [.ref al, .int 0, .int 0, .int 0, x4, x5, .ref b1, x7])), (al, .inr (4, [.int mc, .ref (zk 0), .int 0]))]) [1, 2] (by decide) rfl
  have hFc := va_free (wc := [(xo, .inr (6, [.ref al, .int 0, .int 0, .int 0, x4, x5, .ref b1, x7])), (al, .inr (4, [.int mc, .ref (zk 0), .int 0]))]) hD hS hA [1, 2] rfl
  have hDv := hDc.self (sz := H.size)
  have hpre := zpre (xs' := []) (av := [.ref xo, .int p0, .int p1, .int p2, .int p3, .ref ou]) hPc hK (hDc.weaken (fun _ _ _ h => h)) hZ hS hFc (fun r hr => by cases hr)
  refine va_calli (vx_runSW (As := [.ref xo, .int p0, .int p1, .int p2, .int p3, .ref ou]) (rest := []) ⟨hx, hb, hml, hown, hts⟩ (k_areDeepH l dC dI cI cB cR cO zk hfl xo al b1 (.int 0) (.int 0) (.int 0) x4 x5 x7 mc p0 p1 p2 p3 ou H.size ) (vx_cwSW 6 hts gL_law_L_areDeep rfl rfl rfl (by decide +kernel) ⟨Nat.le_of_ble_eq_true rfl, Nat.le_of_ble_eq_true rfl⟩) ⟨zblind, hpre⟩ rfl rfl hl.1 rfl (lv_room (Nat.le_of_ble_eq_true rfl)) dL_law_1674 ⟨Nat.le_of_ble_eq_true rfl, Nat.le_of_ble_eq_true rfl⟩) hS (fun q _ h => hFc q h) hFc (fun r10 u t H9 locs ht hvm hw hB hz1 hk1 hS => ?_)
  obtain rfl : 1 = r10 := (show r10 = 1 from hw).symm
  obtain ⟨hP1, hK1, hD1, hz2⟩ := hB
  rw [ht] at hP1 hz2
  have hPD9 := va_join (wr := [(ou, .inr (7, [.long 0, .null])), (mo, .inr (9, [.int 0, .ref am, .int 0, .int 0, .int 0])), (am, .inr (4, [.int mm, .ref (zk 0), .int 0]))]) (w1 := [(xo, .inr (6, [.ref al, .int 0, .int 0, .int 0, x4, x5, .ref b1, x7])), (al, .inr (4, [.int mc, .ref (zk 0), .int 0]))]) hP hD [1, 2] [0, 3, 4] rfl rfl (by decide) (by decide) hk1 hFc hP1 hD1
  clear hPc hDc hFc hDv hpre hP hD hP1 hK1 hD1
  obtain ⟨hP, hD⟩ := hPD9
  replace hz : s.heap.size + 0 ≤ H9.size := by omega
  clear hz2
  replace hP : va_P (dC, dI) vwCl [(ou, .inr (7, [.long 0, .null])), (mo, .inr (9, [.int 0, .ref am, .int 0, .int 0, .int 0])), (am, .inr (4, [.int mm, .ref (zk 0), .int 0])), (xo, .inr (6, [.ref al, .int 0, .int 0, .int 0, x4, x5, .ref b1, x7])), (al, .inr (4, [.int mc, .ref (zk 0), .int 0]))] H9 := hP
  replace hD : va_D A [(ou, .inr (7, [.long 0, .null])), (mo, .inr (9, [.int 0, .ref am, .int 0, .int 0, .int 0])), (am, .inr (4, [.int mm, .ref (zk 0), .int 0])), (xo, .inr (6, [.ref al, .int 0, .int 0, .int 0, x4, x5, .ref b1, x7])), (al, .inr (4, [.int mc, .ref (zk 0), .int 0]))] := hD
  refine W.widen (k := 18) (n := 85) (by omega) (by omega) ?_
  refine lv_istore (lv' := [(5, .int 1), (4, .int 0), (3, .ref ou), (2, .ref mo), (1, .ref xo), (0, .ref b)]) hx hb dL_law_1677 hl (by decide) rfl (fun ls hl => ?_)
  refine lv_aload_n hx hb dL_law_1679 rfl (lv_at hl 3 rfl) ?_
  refine lv_aload_n hx hb dL_law_1680 rfl (lv_at hl 5 rfl) ?_
  refine lv_iload hx hb dL_law_1681 (lv_at hl 1 rfl) ?_
  refine lv_iconst (v := 1) hx hb dL_law_1683 (by decide) ?_
  refine lv_iadd hx hb dL_law_1684 ?_
  refine lv_topi (fun v11 ev11 => ?_)
  obtain rfl : v11 = 1 := ev11.trans (by decide)
  refine va_sld hx hb hX hbl hbA hS (by unfold vp_in; decide) dL_law_1685 ?_
  refine lv_topi (fun v12 ev12 => ?_)
  have e9 : v12 = p0 := ev12.trans (show xs ((1 : Int32).toNatClampNeg) = p0 from h1)
  clear ev12
  subst v12
  refine lv_aload_n hx hb dL_law_1686 rfl (lv_at hl 5 rfl) ?_
  refine lv_iload hx hb dL_law_1687 (lv_at hl 1 rfl) ?_
  refine lv_iconst (v := 2) hx hb dL_law_1689 (by decide) ?_
  refine lv_iadd hx hb dL_law_1690 ?_
  refine lv_topi (fun v13 ev13 => ?_)
  obtain rfl : v13 = 2 := ev13.trans (by decide)
  refine va_sld hx hb hX hbl hbA hS (by unfold vp_in; decide) dL_law_1691 ?_
  refine lv_topi (fun v14 ev14 => ?_)
  have e9 : v14 = p1 := ev14.trans (show xs ((2 : Int32).toNatClampNeg) = p1 from h2)
  clear ev14
  subst v14
  refine lv_aload_n hx hb dL_law_1692 rfl (lv_at hl 5 rfl) ?_
  refine lv_iload hx hb dL_law_1693 (lv_at hl 1 rfl) ?_
  refine lv_iconst (v := 3) hx hb dL_law_1695 (by decide) ?_
  refine lv_iadd hx hb dL_law_1696 ?_
  refine lv_topi (fun v15 ev15 => ?_)
  obtain rfl : v15 = 3 := ev15.trans (by decide)
  refine va_sld hx hb hX hbl hbA hS (by unfold vp_in; decide) dL_law_1697 ?_
  refine lv_topi (fun v16 ev16 => ?_)
  have e9 : v16 = p2 := ev16.trans (show xs ((3 : Int32).toNatClampNeg) = p2 from h3)
  clear ev16
  subst v16
  refine lv_aload_n hx hb dL_law_1698 rfl (lv_at hl 5 rfl) ?_
  refine lv_iload hx hb dL_law_1699 (lv_at hl 1 rfl) ?_
  refine lv_iconst (v := 4) hx hb dL_law_1701 (by decide) ?_
  refine lv_iadd hx hb dL_law_1702 ?_
  refine lv_topi (fun v17 ev17 => ?_)
  obtain rfl : v17 = 4 := ev17.trans (by decide)
  refine va_sld hx hb hX hbl hbA hS (by unfold vp_in; decide) dL_law_1703 ?_
  refine lv_topi (fun v18 ev18 => ?_)
  have e9 : v18 = p3 := ev18.trans (show xs ((4 : Int32).toNatClampNeg) = p3 from h4)
  clear ev18
  subst v18
  have hPc := hP.sub (ws' := [(mo, .inr (9, [.int 0, .ref am, .int 0, .int 0, .int 0])), (am, .inr (4, [.int mm, .ref (zk 0), .int 0]))]) [1, 2] rfl
  have hDc := hD.sub (ws' := [(mo, .inr (9, [.int 0, .ref am, .int 0, .int 0, .int 0])), (am, .inr (4, [.int mm, .ref (zk 0), .int 0]))]) [1, 2] (by decide) rfl
  have hFc := va_free (wc := [(mo, .inr (9, [.int 0, .ref am, .int 0, .int 0, .int 0])), (am, .inr (4, [.int mm, .ref (zk 0), .int 0]))]) hD hS hA [1, 2] rfl
  have hDv := hDc.self (sz := H9.size)
  have hpre := zpre (xs' := []) (av := [.ref mo, .int p0, .int p1, .int p2, .int p3]) hPc hK (hDc.weaken (fun _ _ _ h => h)) hZ hS hFc (fun r hr => by cases hr)
  refine va_calli (va_runV (As := [.int p0, .int p1, .int p2, .int p3]) (rest := []) ⟨hx, hb, hml, hown, hts⟩ (k_areDeepM l dC dI cI cB cR cO zk mo am (.int 0) (.int 0) (.int 0) (.int 0) mm p0 p1 p2 p3 H9.size ) (cwV 4 hts gL_law_X4_areDeep rfl rfl rfl (by decide +kernel) ⟨Nat.le_of_ble_eq_true rfl, Nat.le_of_ble_eq_true rfl⟩) ⟨zblind, (zrecv_9 hK hPc (q0 := 0) rfl), hpre⟩ rfl rfl hl.1 rfl (lv_room (Nat.le_of_ble_eq_true rfl)) dL_law_1704 ⟨Nat.le_of_ble_eq_true rfl, Nat.le_of_ble_eq_true rfl⟩) hS (fun q _ h => hFc q h) hFc (fun r20 u t H19 locs ht hvm hw hB hz1 hk1 hS => ?_)
  obtain ⟨hP1, hK1, hD1, hz2⟩ := hB
  rw [ht] at hP1 hz2
  have hPD9 := va_join (wr := [(ou, .inr (7, [.long 0, .null])), (xo, .inr (6, [.ref al, .int 0, .int 0, .int 0, x4, x5, .ref b1, x7])), (al, .inr (4, [.int mc, .ref (zk 0), .int 0]))]) (w1 := [(mo, .inr (9, [.int 1, .ref am, .int 0, .int 0, .int 0])), (am, .inr (4, [.int mm, .ref (zk 0), .int 0]))]) hP hD [1, 2] [0, 3, 4] rfl rfl (by decide) (by decide) hk1 hFc hP1 hD1
  clear hPc hDc hFc hDv hpre hP hD hP1 hK1 hD1
  obtain ⟨hP, hD⟩ := hPD9
  replace hz : s.heap.size + 0 ≤ H19.size := by omega
  clear hz2
  replace hP : va_P (dC, dI) vwCl [(ou, .inr (7, [.long 0, .null])), (xo, .inr (6, [.ref al, .int 0, .int 0, .int 0, x4, x5, .ref b1, x7])), (al, .inr (4, [.int mc, .ref (zk 0), .int 0])), (mo, .inr (9, [.int 1, .ref am, .int 0, .int 0, .int 0])), (am, .inr (4, [.int mm, .ref (zk 0), .int 0]))] H19 := hP
  replace hD : va_D A [(ou, .inr (7, [.long 0, .null])), (xo, .inr (6, [.ref al, .int 0, .int 0, .int 0, x4, x5, .ref b1, x7])), (al, .inr (4, [.int mc, .ref (zk 0), .int 0])), (mo, .inr (9, [.int 1, .ref am, .int 0, .int 0, .int 0])), (am, .inr (4, [.int mm, .ref (zk 0), .int 0]))] := hD
  refine W.widen (k := 18) (n := 85) (by omega) (by omega) ?_
  refine lv_istore (lv' := [(6, .int r20), (5, .int 1), (4, .int 0), (3, .ref ou), (2, .ref mo), (1, .ref xo), (0, .ref b)]) hx hb dL_law_1707 hl (by decide) rfl (fun ls hl => ?_)
  refine lv_aload_n hx hb dL_law_1709 rfl (lv_at hl 4 rfl) ?_
  have hPc := hP.sub (ws' := [(mo, .inr (9, [.int 1, .ref am, .int 0, .int 0, .int 0]))]) [3] rfl
  have hDc := hD.sub (ws' := [(mo, .inr (9, [.int 1, .ref am, .int 0, .int 0, .int 0]))]) [3] (by decide) rfl
  have hFc := va_free (wc := [(mo, .inr (9, [.int 1, .ref am, .int 0, .int 0, .int 0]))]) hD hS hA [3] rfl
  have hDv := hDc.self (sz := H19.size)
  have hpre := zpre (xs' := []) (av := [.ref mo]) hPc hK (hDc.weaken (fun _ _ _ h => h)) hZ hS hFc (fun r hr => by cases hr)
  refine va_calli (va_runV (As := []) (rest := []) ⟨hx, hb, hml, hown, hts⟩ (k_thz l dC dI cI cB cR cO zk mo am (.int 0) (.int 0) (.int 0) H19.size ) (cwV 0 hts gL_law_X4_thrown rfl rfl rfl (by decide +kernel) ⟨Nat.le_of_ble_eq_true rfl, Nat.le_of_ble_eq_true rfl⟩) ⟨zblind, (zrecv_9 hK hPc (q0 := 0) rfl), hpre⟩ rfl rfl hl.1 rfl (lv_room (Nat.le_of_ble_eq_true rfl)) dL_law_1710 ⟨Nat.le_of_ble_eq_true rfl, Nat.le_of_ble_eq_true rfl⟩) hS (fun q _ h => hFc q h) hFc (fun r22 u t H21 locs ht hvm hw hB hz1 hk1 hS => ?_)
  obtain rfl : 1 = r22 := (show r22 = 1 from hw).symm
  obtain ⟨hP1, hK1, hD1, hz2⟩ := hB
  rw [ht] at hP1 hz2
  have hPD9 := va_join (wr := [(ou, .inr (7, [.long 0, .null])), (xo, .inr (6, [.ref al, .int 0, .int 0, .int 0, x4, x5, .ref b1, x7])), (al, .inr (4, [.int mc, .ref (zk 0), .int 0])), (am, .inr (4, [.int mm, .ref (zk 0), .int 0]))]) (w1 := [(mo, .inr (9, [.int 1, .ref am, .int 0, .int 0, .int 0]))]) hP hD [3] [0, 1, 2, 4] rfl rfl (by decide) (by decide) hk1 hFc hP1 hD1
  clear hPc hDc hFc hDv hpre hP hD hP1 hK1 hD1
  obtain ⟨hP, hD⟩ := hPD9
  replace hz : s.heap.size + 0 ≤ H21.size := by omega
  clear hz2
  replace hP : va_P (dC, dI) vwCl [(ou, .inr (7, [.long 0, .null])), (xo, .inr (6, [.ref al, .int 0, .int 0, .int 0, x4, x5, .ref b1, x7])), (al, .inr (4, [.int mc, .ref (zk 0), .int 0])), (am, .inr (4, [.int mm, .ref (zk 0), .int 0])), (mo, .inr (9, [.int 1, .ref am, .int 0, .int 0, .int 0]))] H21 := hP
  replace hD : va_D A [(ou, .inr (7, [.long 0, .null])), (xo, .inr (6, [.ref al, .int 0, .int 0, .int 0, x4, x5, .ref b1, x7])), (al, .inr (4, [.int mc, .ref (zk 0), .int 0])), (am, .inr (4, [.int mm, .ref (zk 0), .int 0])), (mo, .inr (9, [.int 1, .ref am, .int 0, .int 0, .int 0]))] := hD
  refine W.widen (k := 18) (n := 85) (by omega) (by omega) ?_
  refine lv_iload hx hb dL_law_1713 (lv_at hl 1 rfl) ?_
  refine lv_icmp_eq (tgt := 1720) hx hb dL_law_1715 (by decide) (fun c9 => ?_) (fun c9 => ?_)
  rotate_left
  · exact absurd (by decide) c9
  refine lv_iload hx hb dL_law_1720 (lv_at hl 1 rfl) ?_
  refine lv_if_ne (tgt := 1745) hx hb dL_law_1722 (by decide) (fun c9 => ?_) (fun c9 => ?_)
  rotate_left
  · exact absurd c9 (by decide)
  refine lv_goto (tgt := 2155) hx hb dL_law_1745 (by decide) ?_
  rw [hAd] at hS
  exact zl_tail l dC dI cI cB cR cO zk b xs C1 hZ0 hK hS (Nat.le_of_ble_eq_true rfl) (Nat.le_of_ble_eq_true rfl) ls (lv_sub hl [6, 2] rfl)

set_option maxHeartbeats 4000000 in
set_option maxRecDepth 100000 in
theorem zl_a_hash (l : Launch) (dC : Nat → ClassId) (dI : Nat → Nat → Nat) (cI cB cR cO : ClassId) (zk : Nat → Nat) {p : Program} {e : Env} {s : State} {mY : MethodId} {below : List Frame} {meth : Method} {c : Code} (b : Nat) (xs : Nat → Int32) (hfl : l.stackTraces = false) (C0 : zl_At p s mY meth c b 5 xs) (hZ0 : zR zk [] (fun q => s.heap.size ≤ q) s s.heap) (hK : va_K (dC, dI) vwCl (zT cI cB cR cO) s) (ou xo al b1 : Nat) (x4 x5 x7 : Value) (mc : Int32) (mo am : Nat) (mm : Int32)  (p0 : Int32) (h1 : xs 1 = p0)  (H : Heap) (locs : List Loc) (hP : va_P (dC, dI) vwCl [(ou, .inr (7, [.long 0, .null])), (xo, .inr (6, [.ref al, .int 0, .int 0, .int 0, x4, x5, .ref b1, x7])), (al, .inr (4, [.int mc, .ref (zk 0), .int 0])), (mo, .inr (9, [.int 0, .ref am, .int 0, .int 0, .int 0])), (am, .inr (4, [.int mm, .ref (zk 0), .int 0]))] H) (hD : va_D (fun q => s.heap.size ≤ q) [(ou, .inr (7, [.long 0, .null])), (xo, .inr (6, [.ref al, .int 0, .int 0, .int 0, x4, x5, .ref b1, x7])), (al, .inr (4, [.int mc, .ref (zk 0), .int 0])), (mo, .inr (9, [.int 0, .ref am, .int 0, .int 0, .int 0])), (am, .inr (4, [.int mm, .ref (zk 0), .int 0]))]) (hS : va_S (fun q => s.heap.size ≤ q) s.heap H locs) (ls : Array Slot) (hl : lv_has ls 7 [(4, .int 0), (3, .ref ou), (2, .ref mo), (1, .ref xo), (0, .ref b)]) : W p l e room_1 s mY #[Value.ref b] below meth c H locs 17 79 (lw_Z below #[Value.ref b] s) (F0 mY 1748 ls []) := by
  have C1 := C0
  obtain ⟨hx, hb, hr, hml, hown, hts0, hX, hbl, hlocks, hNI⟩ := C0
  have hts := fun (w : Cond) (h : w ∈ wsL_law) => hts0 w (wsL_law_in w h)
  obtain ⟨A, hAd⟩ : ∃ A : Nat → Prop, A = fun q => s.heap.size ≤ q := ⟨_, rfl⟩
  have hA : ∀ q : Nat, s.heap.size ≤ q → A q := fun q h => by rw [hAd]; exact h
  have hAf : ∀ q : Nat, A q → s.heap.size ≤ q := fun q h => by rw [hAd] at h; exact h
  have hbA : ¬ A b := fun h => absurd (hAf b h) (Nat.not_le.mpr hbl)
  have hZ : zR zk [] A s s.heap := by rw [hAd]; exact hZ0
  rw [← hAd] at hD hS
  replace hP : va_P (dC, dI) vwCl [(ou, .inr (7, [.long 0, .null])), (xo, .inr (6, [.ref al, .int 0, .int 0, .int 0, x4, x5, .ref b1, x7])), (al, .inr (4, [.int mc, .ref (zk 0), .int 0])), (mo, .inr (9, [.int 0, .ref am, .int 0, .int 0, .int 0])), (am, .inr (4, [.int mm, .ref (zk 0), .int 0]))] H := hP
  replace hD : va_D A [(ou, .inr (7, [.long 0, .null])), (xo, .inr (6, [.ref al, .int 0, .int 0, .int 0, x4, x5, .ref b1, x7])), (al, .inr (4, [.int mc, .ref (zk 0), .int 0])), (mo, .inr (9, [.int 0, .ref am, .int 0, .int 0, .int 0])), (am, .inr (4, [.int mm, .ref (zk 0), .int 0]))] := hD
  have hz : s.heap.size + 0 ≤ H.size := hS.1
  refine lv_aload_n hx hb dL_law_1748 rfl (lv_at hl 3 rfl) ?_
  refine lv_aload_n hx hb dL_law_1749 rfl (lv_at hl 4 rfl) ?_
  refine lv_iload hx hb dL_law_1750 (lv_at hl 0 rfl) ?_
  refine lv_iconst (v := 1) hx hb dL_law_1752 (by decide) ?_
  refine lv_iadd hx hb dL_law_1753 ?_
  refine lv_topi (fun v1 ev1 => ?_)
  obtain rfl : v1 = 1 := ev1.trans (by decide)
  refine va_sld hx hb hX hbl hbA hS (by unfold vp_in; decide) dL_law_1754 ?_
  refine lv_topi (fun v2 ev2 => ?_)
  have e9 : v2 = p0 := ev2.trans (show xs ((1 : Int32).toNatClampNeg) = p0 from h1)
  clear ev2
  subst v2
  refine lv_aload_n hx hb dL_law_1755 rfl (lv_at hl 1 rfl) ?_
  have hPc := hP.sub (ws' := [(xo, .inr (6, [.ref al, .int 0, .int 0, .int 0, x4, x5, .ref b1, x7])), (al, .inr (4, [.int mc, .ref (zk 0), .int 0]))]) [1, 2] rfl
  have hDc := hD.sub (ws' := [(xo, .inr (6, [.ref al, .int 0, .int 0, .int 0, x4, x5, .ref b1, x7])), (al, .inr (4, [.int mc, .ref (zk 0), .int 0]))]) [1, 2] (by decide) rfl
  have hFc := va_free (wc := [(xo, .inr (6, [.ref al, .int 0, .int 0, .int 0, x4, x5, .ref b1, x7])), (al, .inr (4, [.int mc, .ref (zk 0), .int 0]))]) hD hS hA [1, 2] rfl
  have hDv := hDc.self (sz := H.size)
  have hpre := zpre (xs' := []) (av := [.ref xo, .int p0, .ref ou]) hPc hK (hDc.weaken (fun _ _ _ h => h)) hZ hS hFc (fun r hr => by cases hr)
  refine va_calli (vx_runSW (As := [.ref xo, .int p0, .ref ou]) (rest := []) ⟨hx, hb, hml, hown, hts⟩ (k_hashH l dC dI cI cB cR cO zk hfl xo al b1 (.int 0) (.int 0) (.int 0) x4 x5 x7 mc p0 ou H.size ) (vx_cwSW 3 hts gL_law_L_hash rfl rfl rfl (by decide +kernel) ⟨Nat.le_of_ble_eq_true rfl, Nat.le_of_ble_eq_true rfl⟩) ⟨zblind, hpre⟩ rfl rfl hl.1 rfl (lv_room (Nat.le_of_ble_eq_true rfl)) dL_law_1756 ⟨Nat.le_of_ble_eq_true rfl, Nat.le_of_ble_eq_true rfl⟩) hS (fun q _ h => hFc q h) hFc (fun r4 u t H3 locs ht hvm hw hB hz1 hk1 hS => ?_)
  obtain rfl : 1 = r4 := (show r4 = 1 from hw).symm
  obtain ⟨hP1, hK1, hD1, hz2⟩ := hB
  rw [ht] at hP1 hz2
  have hPD9 := va_join (wr := [(ou, .inr (7, [.long 0, .null])), (mo, .inr (9, [.int 0, .ref am, .int 0, .int 0, .int 0])), (am, .inr (4, [.int mm, .ref (zk 0), .int 0]))]) (w1 := [(xo, .inr (6, [.ref al, .int 0, .int 0, .int 0, x4, x5, .ref b1, x7])), (al, .inr (4, [.int mc, .ref (zk 0), .int 0]))]) hP hD [1, 2] [0, 3, 4] rfl rfl (by decide) (by decide) hk1 hFc hP1 hD1
  clear hPc hDc hFc hDv hpre hP hD hP1 hK1 hD1
  obtain ⟨hP, hD⟩ := hPD9
  replace hz : s.heap.size + 0 ≤ H3.size := by omega
  clear hz2
  replace hP : va_P (dC, dI) vwCl [(ou, .inr (7, [.long 0, .null])), (mo, .inr (9, [.int 0, .ref am, .int 0, .int 0, .int 0])), (am, .inr (4, [.int mm, .ref (zk 0), .int 0])), (xo, .inr (6, [.ref al, .int 0, .int 0, .int 0, x4, x5, .ref b1, x7])), (al, .inr (4, [.int mc, .ref (zk 0), .int 0]))] H3 := hP
  replace hD : va_D A [(ou, .inr (7, [.long 0, .null])), (mo, .inr (9, [.int 0, .ref am, .int 0, .int 0, .int 0])), (am, .inr (4, [.int mm, .ref (zk 0), .int 0])), (xo, .inr (6, [.ref al, .int 0, .int 0, .int 0, x4, x5, .ref b1, x7])), (al, .inr (4, [.int mc, .ref (zk 0), .int 0]))] := hD
  refine W.widen (k := 18) (n := 85) (by omega) (by omega) ?_
  refine lv_istore (lv' := [(5, .int 1), (4, .int 0), (3, .ref ou), (2, .ref mo), (1, .ref xo), (0, .ref b)]) hx hb dL_law_1759 hl (by decide) rfl (fun ls hl => ?_)
  refine lv_aload_n hx hb dL_law_1761 rfl (lv_at hl 3 rfl) ?_
  refine lv_aload_n hx hb dL_law_1762 rfl (lv_at hl 5 rfl) ?_
  refine lv_iload hx hb dL_law_1763 (lv_at hl 1 rfl) ?_
  refine lv_iconst (v := 1) hx hb dL_law_1765 (by decide) ?_
  refine lv_iadd hx hb dL_law_1766 ?_
  refine lv_topi (fun v5 ev5 => ?_)
  obtain rfl : v5 = 1 := ev5.trans (by decide)
  refine va_sld hx hb hX hbl hbA hS (by unfold vp_in; decide) dL_law_1767 ?_
  refine lv_topi (fun v6 ev6 => ?_)
  have e9 : v6 = p0 := ev6.trans (show xs ((1 : Int32).toNatClampNeg) = p0 from h1)
  clear ev6
  subst v6
  have hPc := hP.sub (ws' := [(mo, .inr (9, [.int 0, .ref am, .int 0, .int 0, .int 0])), (am, .inr (4, [.int mm, .ref (zk 0), .int 0]))]) [1, 2] rfl
  have hDc := hD.sub (ws' := [(mo, .inr (9, [.int 0, .ref am, .int 0, .int 0, .int 0])), (am, .inr (4, [.int mm, .ref (zk 0), .int 0]))]) [1, 2] (by decide) rfl
  have hFc := va_free (wc := [(mo, .inr (9, [.int 0, .ref am, .int 0, .int 0, .int 0])), (am, .inr (4, [.int mm, .ref (zk 0), .int 0]))]) hD hS hA [1, 2] rfl
  have hDv := hDc.self (sz := H3.size)
  have hpre := zpre (xs' := []) (av := [.ref mo, .int p0]) hPc hK (hDc.weaken (fun _ _ _ h => h)) hZ hS hFc (fun r hr => by cases hr)
  refine va_calli (va_runV (As := [.int p0]) (rest := []) ⟨hx, hb, hml, hown, hts⟩ (k_hashM l dC dI cI cB cR cO zk mo am (.int 0) (.int 0) (.int 0) (.int 0) mm p0 H3.size ) (cwV 1 hts gL_law_X4_hash rfl rfl rfl (by decide +kernel) ⟨Nat.le_of_ble_eq_true rfl, Nat.le_of_ble_eq_true rfl⟩) ⟨zblind, (zrecv_9 hK hPc (q0 := 0) rfl), hpre⟩ rfl rfl hl.1 rfl (lv_room (Nat.le_of_ble_eq_true rfl)) dL_law_1768 ⟨Nat.le_of_ble_eq_true rfl, Nat.le_of_ble_eq_true rfl⟩) hS (fun q _ h => hFc q h) hFc (fun r8 u t H7 locs ht hvm hw hB hz1 hk1 hS => ?_)
  obtain ⟨hP1, hK1, hD1, hz2⟩ := hB
  rw [ht] at hP1 hz2
  have hPD9 := va_join (wr := [(ou, .inr (7, [.long 0, .null])), (xo, .inr (6, [.ref al, .int 0, .int 0, .int 0, x4, x5, .ref b1, x7])), (al, .inr (4, [.int mc, .ref (zk 0), .int 0]))]) (w1 := [(mo, .inr (9, [.int 1, .ref am, .int 0, .int 0, .int 0])), (am, .inr (4, [.int mm, .ref (zk 0), .int 0]))]) hP hD [1, 2] [0, 3, 4] rfl rfl (by decide) (by decide) hk1 hFc hP1 hD1
  clear hPc hDc hFc hDv hpre hP hD hP1 hK1 hD1
  obtain ⟨hP, hD⟩ := hPD9
  replace hz : s.heap.size + 0 ≤ H7.size := by omega
  clear hz2
  replace hP : va_P (dC, dI) vwCl [(ou, .inr (7, [.long 0, .null])), (xo, .inr (6, [.ref al, .int 0, .int 0, .int 0, x4, x5, .ref b1, x7])), (al, .inr (4, [.int mc, .ref (zk 0), .int 0])), (mo, .inr (9, [.int 1, .ref am, .int 0, .int 0, .int 0])), (am, .inr (4, [.int mm, .ref (zk 0), .int 0]))] H7 := hP
  replace hD : va_D A [(ou, .inr (7, [.long 0, .null])), (xo, .inr (6, [.ref al, .int 0, .int 0, .int 0, x4, x5, .ref b1, x7])), (al, .inr (4, [.int mc, .ref (zk 0), .int 0])), (mo, .inr (9, [.int 1, .ref am, .int 0, .int 0, .int 0])), (am, .inr (4, [.int mm, .ref (zk 0), .int 0]))] := hD
  refine W.widen (k := 18) (n := 85) (by omega) (by omega) ?_
  refine lv_istore (lv' := [(6, .int r8), (5, .int 1), (4, .int 0), (3, .ref ou), (2, .ref mo), (1, .ref xo), (0, .ref b)]) hx hb dL_law_1771 hl (by decide) rfl (fun ls hl => ?_)
  refine lv_aload_n hx hb dL_law_1773 rfl (lv_at hl 4 rfl) ?_
  have hPc := hP.sub (ws' := [(mo, .inr (9, [.int 1, .ref am, .int 0, .int 0, .int 0]))]) [3] rfl
  have hDc := hD.sub (ws' := [(mo, .inr (9, [.int 1, .ref am, .int 0, .int 0, .int 0]))]) [3] (by decide) rfl
  have hFc := va_free (wc := [(mo, .inr (9, [.int 1, .ref am, .int 0, .int 0, .int 0]))]) hD hS hA [3] rfl
  have hDv := hDc.self (sz := H7.size)
  have hpre := zpre (xs' := []) (av := [.ref mo]) hPc hK (hDc.weaken (fun _ _ _ h => h)) hZ hS hFc (fun r hr => by cases hr)
  refine va_calli (va_runV (As := []) (rest := []) ⟨hx, hb, hml, hown, hts⟩ (k_thz l dC dI cI cB cR cO zk mo am (.int 0) (.int 0) (.int 0) H7.size ) (cwV 0 hts gL_law_X4_thrown rfl rfl rfl (by decide +kernel) ⟨Nat.le_of_ble_eq_true rfl, Nat.le_of_ble_eq_true rfl⟩) ⟨zblind, (zrecv_9 hK hPc (q0 := 0) rfl), hpre⟩ rfl rfl hl.1 rfl (lv_room (Nat.le_of_ble_eq_true rfl)) dL_law_1774 ⟨Nat.le_of_ble_eq_true rfl, Nat.le_of_ble_eq_true rfl⟩) hS (fun q _ h => hFc q h) hFc (fun r10 u t H9 locs ht hvm hw hB hz1 hk1 hS => ?_)
  obtain rfl : 1 = r10 := (show r10 = 1 from hw).symm
  obtain ⟨hP1, hK1, hD1, hz2⟩ := hB
  rw [ht] at hP1 hz2
  have hPD9 := va_join (wr := [(ou, .inr (7, [.long 0, .null])), (xo, .inr (6, [.ref al, .int 0, .int 0, .int 0, x4, x5, .ref b1, x7])), (al, .inr (4, [.int mc, .ref (zk 0), .int 0])), (am, .inr (4, [.int mm, .ref (zk 0), .int 0]))]) (w1 := [(mo, .inr (9, [.int 1, .ref am, .int 0, .int 0, .int 0]))]) hP hD [3] [0, 1, 2, 4] rfl rfl (by decide) (by decide) hk1 hFc hP1 hD1
  clear hPc hDc hFc hDv hpre hP hD hP1 hK1 hD1
  obtain ⟨hP, hD⟩ := hPD9
  replace hz : s.heap.size + 0 ≤ H9.size := by omega
  clear hz2
  replace hP : va_P (dC, dI) vwCl [(ou, .inr (7, [.long 0, .null])), (xo, .inr (6, [.ref al, .int 0, .int 0, .int 0, x4, x5, .ref b1, x7])), (al, .inr (4, [.int mc, .ref (zk 0), .int 0])), (am, .inr (4, [.int mm, .ref (zk 0), .int 0])), (mo, .inr (9, [.int 1, .ref am, .int 0, .int 0, .int 0]))] H9 := hP
  replace hD : va_D A [(ou, .inr (7, [.long 0, .null])), (xo, .inr (6, [.ref al, .int 0, .int 0, .int 0, x4, x5, .ref b1, x7])), (al, .inr (4, [.int mc, .ref (zk 0), .int 0])), (am, .inr (4, [.int mm, .ref (zk 0), .int 0])), (mo, .inr (9, [.int 1, .ref am, .int 0, .int 0, .int 0]))] := hD
  refine W.widen (k := 18) (n := 85) (by omega) (by omega) ?_
  refine lv_iload hx hb dL_law_1777 (lv_at hl 1 rfl) ?_
  refine lv_icmp_eq (tgt := 1784) hx hb dL_law_1779 (by decide) (fun c9 => ?_) (fun c9 => ?_)
  rotate_left
  · exact absurd (by decide) c9
  refine lv_iload hx hb dL_law_1784 (lv_at hl 1 rfl) ?_
  refine lv_if_ne (tgt := 1802) hx hb dL_law_1786 (by decide) (fun c9 => ?_) (fun c9 => ?_)
  rotate_left
  · exact absurd c9 (by decide)
  refine lv_goto (tgt := 2155) hx hb dL_law_1802 (by decide) ?_
  rw [hAd] at hS
  exact zl_tail l dC dI cI cB cR cO zk b xs C1 hZ0 hK hS (Nat.le_of_ble_eq_true rfl) (Nat.le_of_ble_eq_true rfl) ls (lv_sub hl [6, 2] rfl)

set_option maxHeartbeats 4000000 in
set_option maxRecDepth 100000 in
theorem zl_a_flatHash (l : Launch) (dC : Nat → ClassId) (dI : Nat → Nat → Nat) (cI cB cR cO : ClassId) (zk : Nat → Nat) {p : Program} {e : Env} {s : State} {mY : MethodId} {below : List Frame} {meth : Method} {c : Code} (b : Nat) (xs : Nat → Int32) (hfl : l.stackTraces = false) (C0 : zl_At p s mY meth c b 5 xs) (hZ0 : zR zk [] (fun q => s.heap.size ≤ q) s s.heap) (hK : va_K (dC, dI) vwCl (zT cI cB cR cO) s) (ou xo al b1 : Nat) (x4 x5 x7 : Value) (mc : Int32) (mo am : Nat) (mm : Int32)  (p0 : Int32) (h1 : xs 1 = p0)  (H : Heap) (locs : List Loc) (hP : va_P (dC, dI) vwCl [(ou, .inr (7, [.long 0, .null])), (xo, .inr (6, [.ref al, .int 0, .int 0, .int 0, x4, x5, .ref b1, x7])), (al, .inr (4, [.int mc, .ref (zk 0), .int 0])), (mo, .inr (9, [.int 0, .ref am, .int 0, .int 0, .int 0])), (am, .inr (4, [.int mm, .ref (zk 0), .int 0]))] H) (hD : va_D (fun q => s.heap.size ≤ q) [(ou, .inr (7, [.long 0, .null])), (xo, .inr (6, [.ref al, .int 0, .int 0, .int 0, x4, x5, .ref b1, x7])), (al, .inr (4, [.int mc, .ref (zk 0), .int 0])), (mo, .inr (9, [.int 0, .ref am, .int 0, .int 0, .int 0])), (am, .inr (4, [.int mm, .ref (zk 0), .int 0]))]) (hS : va_S (fun q => s.heap.size ≤ q) s.heap H locs) (ls : Array Slot) (hl : lv_has ls 7 [(4, .int 0), (3, .ref ou), (2, .ref mo), (1, .ref xo), (0, .ref b)]) : W p l e room_1 s mY #[Value.ref b] below meth c H locs 17 79 (lw_Z below #[Value.ref b] s) (F0 mY 1805 ls []) := by
  have C1 := C0
  obtain ⟨hx, hb, hr, hml, hown, hts0, hX, hbl, hlocks, hNI⟩ := C0
  have hts := fun (w : Cond) (h : w ∈ wsL_law) => hts0 w (wsL_law_in w h)
  obtain ⟨A, hAd⟩ : ∃ A : Nat → Prop, A = fun q => s.heap.size ≤ q := ⟨_, rfl⟩
  have hA : ∀ q : Nat, s.heap.size ≤ q → A q := fun q h => by rw [hAd]; exact h
  have hAf : ∀ q : Nat, A q → s.heap.size ≤ q := fun q h => by rw [hAd] at h; exact h
  have hbA : ¬ A b := fun h => absurd (hAf b h) (Nat.not_le.mpr hbl)
  have hZ : zR zk [] A s s.heap := by rw [hAd]; exact hZ0
  rw [← hAd] at hD hS
  replace hP : va_P (dC, dI) vwCl [(ou, .inr (7, [.long 0, .null])), (xo, .inr (6, [.ref al, .int 0, .int 0, .int 0, x4, x5, .ref b1, x7])), (al, .inr (4, [.int mc, .ref (zk 0), .int 0])), (mo, .inr (9, [.int 0, .ref am, .int 0, .int 0, .int 0])), (am, .inr (4, [.int mm, .ref (zk 0), .int 0]))] H := hP
  replace hD : va_D A [(ou, .inr (7, [.long 0, .null])), (xo, .inr (6, [.ref al, .int 0, .int 0, .int 0, x4, x5, .ref b1, x7])), (al, .inr (4, [.int mc, .ref (zk 0), .int 0])), (mo, .inr (9, [.int 0, .ref am, .int 0, .int 0, .int 0])), (am, .inr (4, [.int mm, .ref (zk 0), .int 0]))] := hD
  have hz : s.heap.size + 0 ≤ H.size := hS.1
  refine lv_aload_n hx hb dL_law_1805 rfl (lv_at hl 3 rfl) ?_
  refine lv_aload_n hx hb dL_law_1806 rfl (lv_at hl 4 rfl) ?_
  refine lv_iload hx hb dL_law_1807 (lv_at hl 0 rfl) ?_
  refine lv_iconst (v := 1) hx hb dL_law_1809 (by decide) ?_
  refine lv_iadd hx hb dL_law_1810 ?_
  refine lv_topi (fun v1 ev1 => ?_)
  obtain rfl : v1 = 1 := ev1.trans (by decide)
  refine va_sld hx hb hX hbl hbA hS (by unfold vp_in; decide) dL_law_1811 ?_
  refine lv_topi (fun v2 ev2 => ?_)
  have e9 : v2 = p0 := ev2.trans (show xs ((1 : Int32).toNatClampNeg) = p0 from h1)
  clear ev2
  subst v2
  refine lv_aload_n hx hb dL_law_1812 rfl (lv_at hl 1 rfl) ?_
  have hPc := hP.sub (ws' := [(xo, .inr (6, [.ref al, .int 0, .int 0, .int 0, x4, x5, .ref b1, x7])), (al, .inr (4, [.int mc, .ref (zk 0), .int 0]))]) [1, 2] rfl
  have hDc := hD.sub (ws' := [(xo, .inr (6, [.ref al, .int 0, .int 0, .int 0, x4, x5, .ref b1, x7])), (al, .inr (4, [.int mc, .ref (zk 0), .int 0]))]) [1, 2] (by decide) rfl
  have hFc := va_free (wc := [(xo, .inr (6, [.ref al, .int 0, .int 0, .int 0, x4, x5, .ref b1, x7])), (al, .inr (4, [.int mc, .ref (zk 0), .int 0]))]) hD hS hA [1, 2] rfl
  have hDv := hDc.self (sz := H.size)
  have hpre := zpre (xs' := []) (av := [.ref xo, .int p0, .ref ou]) hPc hK (hDc.weaken (fun _ _ _ h => h)) hZ hS hFc (fun r hr => by cases hr)
  refine va_calli (vx_runSW (As := [.ref xo, .int p0, .ref ou]) (rest := []) ⟨hx, hb, hml, hown, hts⟩ (k_flatHashH l dC dI cI cB cR cO zk hfl xo al b1 (.int 0) (.int 0) (.int 0) x4 x5 x7 mc p0 ou H.size ) (vx_cwSW 3 hts gL_law_L_flatHash rfl rfl rfl (by decide +kernel) ⟨Nat.le_of_ble_eq_true rfl, Nat.le_of_ble_eq_true rfl⟩) ⟨zblind, hpre⟩ rfl rfl hl.1 rfl (lv_room (Nat.le_of_ble_eq_true rfl)) dL_law_1813 ⟨Nat.le_of_ble_eq_true rfl, Nat.le_of_ble_eq_true rfl⟩) hS (fun q _ h => hFc q h) hFc (fun r4 u t H3 locs ht hvm hw hB hz1 hk1 hS => ?_)
  obtain rfl : 1 = r4 := (show r4 = 1 from hw).symm
  obtain ⟨hP1, hK1, hD1, hz2⟩ := hB
  rw [ht] at hP1 hz2
  have hPD9 := va_join (wr := [(ou, .inr (7, [.long 0, .null])), (mo, .inr (9, [.int 0, .ref am, .int 0, .int 0, .int 0])), (am, .inr (4, [.int mm, .ref (zk 0), .int 0]))]) (w1 := [(xo, .inr (6, [.ref al, .int 0, .int 0, .int 0, x4, x5, .ref b1, x7])), (al, .inr (4, [.int mc, .ref (zk 0), .int 0]))]) hP hD [1, 2] [0, 3, 4] rfl rfl (by decide) (by decide) hk1 hFc hP1 hD1
  clear hPc hDc hFc hDv hpre hP hD hP1 hK1 hD1
  obtain ⟨hP, hD⟩ := hPD9
  replace hz : s.heap.size + 0 ≤ H3.size := by omega
  clear hz2
  replace hP : va_P (dC, dI) vwCl [(ou, .inr (7, [.long 0, .null])), (mo, .inr (9, [.int 0, .ref am, .int 0, .int 0, .int 0])), (am, .inr (4, [.int mm, .ref (zk 0), .int 0])), (xo, .inr (6, [.ref al, .int 0, .int 0, .int 0, x4, x5, .ref b1, x7])), (al, .inr (4, [.int mc, .ref (zk 0), .int 0]))] H3 := hP
  replace hD : va_D A [(ou, .inr (7, [.long 0, .null])), (mo, .inr (9, [.int 0, .ref am, .int 0, .int 0, .int 0])), (am, .inr (4, [.int mm, .ref (zk 0), .int 0])), (xo, .inr (6, [.ref al, .int 0, .int 0, .int 0, x4, x5, .ref b1, x7])), (al, .inr (4, [.int mc, .ref (zk 0), .int 0]))] := hD
  refine W.widen (k := 18) (n := 85) (by omega) (by omega) ?_
  refine lv_istore (lv' := [(5, .int 1), (4, .int 0), (3, .ref ou), (2, .ref mo), (1, .ref xo), (0, .ref b)]) hx hb dL_law_1816 hl (by decide) rfl (fun ls hl => ?_)
  refine lv_aload_n hx hb dL_law_1818 rfl (lv_at hl 3 rfl) ?_
  refine lv_aload_n hx hb dL_law_1819 rfl (lv_at hl 5 rfl) ?_
  refine lv_iload hx hb dL_law_1820 (lv_at hl 1 rfl) ?_
  refine lv_iconst (v := 1) hx hb dL_law_1822 (by decide) ?_
  refine lv_iadd hx hb dL_law_1823 ?_
  refine lv_topi (fun v5 ev5 => ?_)
  obtain rfl : v5 = 1 := ev5.trans (by decide)
  refine va_sld hx hb hX hbl hbA hS (by unfold vp_in; decide) dL_law_1824 ?_
  refine lv_topi (fun v6 ev6 => ?_)
  have e9 : v6 = p0 := ev6.trans (show xs ((1 : Int32).toNatClampNeg) = p0 from h1)
  clear ev6
  subst v6
  have hPc := hP.sub (ws' := [(mo, .inr (9, [.int 0, .ref am, .int 0, .int 0, .int 0])), (am, .inr (4, [.int mm, .ref (zk 0), .int 0]))]) [1, 2] rfl
  have hDc := hD.sub (ws' := [(mo, .inr (9, [.int 0, .ref am, .int 0, .int 0, .int 0])), (am, .inr (4, [.int mm, .ref (zk 0), .int 0]))]) [1, 2] (by decide) rfl
  have hFc := va_free (wc := [(mo, .inr (9, [.int 0, .ref am, .int 0, .int 0, .int 0])), (am, .inr (4, [.int mm, .ref (zk 0), .int 0]))]) hD hS hA [1, 2] rfl
  have hDv := hDc.self (sz := H3.size)
  have hpre := zpre (xs' := []) (av := [.ref mo, .int p0]) hPc hK (hDc.weaken (fun _ _ _ h => h)) hZ hS hFc (fun r hr => by cases hr)
  refine va_calli (va_runV (As := [.int p0]) (rest := []) ⟨hx, hb, hml, hown, hts⟩ (k_flatHashM l dC dI cI cB cR cO zk mo am (.int 0) (.int 0) (.int 0) (.int 0) mm p0 H3.size ) (cwV 1 hts gL_law_X4_flatHash rfl rfl rfl (by decide +kernel) ⟨Nat.le_of_ble_eq_true rfl, Nat.le_of_ble_eq_true rfl⟩) ⟨zblind, (zrecv_9 hK hPc (q0 := 0) rfl), hpre⟩ rfl rfl hl.1 rfl (lv_room (Nat.le_of_ble_eq_true rfl)) dL_law_1825 ⟨Nat.le_of_ble_eq_true rfl, Nat.le_of_ble_eq_true rfl⟩) hS (fun q _ h => hFc q h) hFc (fun r8 u t H7 locs ht hvm hw hB hz1 hk1 hS => ?_)
  obtain ⟨hP1, hK1, hD1, hz2⟩ := hB
  rw [ht] at hP1 hz2
  have hPD9 := va_join (wr := [(ou, .inr (7, [.long 0, .null])), (xo, .inr (6, [.ref al, .int 0, .int 0, .int 0, x4, x5, .ref b1, x7])), (al, .inr (4, [.int mc, .ref (zk 0), .int 0]))]) (w1 := [(mo, .inr (9, [.int 1, .ref am, .int 0, .int 0, .int 0])), (am, .inr (4, [.int mm, .ref (zk 0), .int 0]))]) hP hD [1, 2] [0, 3, 4] rfl rfl (by decide) (by decide) hk1 hFc hP1 hD1
  clear hPc hDc hFc hDv hpre hP hD hP1 hK1 hD1
  obtain ⟨hP, hD⟩ := hPD9
  replace hz : s.heap.size + 0 ≤ H7.size := by omega
  clear hz2
  replace hP : va_P (dC, dI) vwCl [(ou, .inr (7, [.long 0, .null])), (xo, .inr (6, [.ref al, .int 0, .int 0, .int 0, x4, x5, .ref b1, x7])), (al, .inr (4, [.int mc, .ref (zk 0), .int 0])), (mo, .inr (9, [.int 1, .ref am, .int 0, .int 0, .int 0])), (am, .inr (4, [.int mm, .ref (zk 0), .int 0]))] H7 := hP
  replace hD : va_D A [(ou, .inr (7, [.long 0, .null])), (xo, .inr (6, [.ref al, .int 0, .int 0, .int 0, x4, x5, .ref b1, x7])), (al, .inr (4, [.int mc, .ref (zk 0), .int 0])), (mo, .inr (9, [.int 1, .ref am, .int 0, .int 0, .int 0])), (am, .inr (4, [.int mm, .ref (zk 0), .int 0]))] := hD
  refine W.widen (k := 18) (n := 85) (by omega) (by omega) ?_
  refine lv_istore (lv' := [(6, .int r8), (5, .int 1), (4, .int 0), (3, .ref ou), (2, .ref mo), (1, .ref xo), (0, .ref b)]) hx hb dL_law_1828 hl (by decide) rfl (fun ls hl => ?_)
  refine lv_aload_n hx hb dL_law_1830 rfl (lv_at hl 4 rfl) ?_
  have hPc := hP.sub (ws' := [(mo, .inr (9, [.int 1, .ref am, .int 0, .int 0, .int 0]))]) [3] rfl
  have hDc := hD.sub (ws' := [(mo, .inr (9, [.int 1, .ref am, .int 0, .int 0, .int 0]))]) [3] (by decide) rfl
  have hFc := va_free (wc := [(mo, .inr (9, [.int 1, .ref am, .int 0, .int 0, .int 0]))]) hD hS hA [3] rfl
  have hDv := hDc.self (sz := H7.size)
  have hpre := zpre (xs' := []) (av := [.ref mo]) hPc hK (hDc.weaken (fun _ _ _ h => h)) hZ hS hFc (fun r hr => by cases hr)
  refine va_calli (va_runV (As := []) (rest := []) ⟨hx, hb, hml, hown, hts⟩ (k_thz l dC dI cI cB cR cO zk mo am (.int 0) (.int 0) (.int 0) H7.size ) (cwV 0 hts gL_law_X4_thrown rfl rfl rfl (by decide +kernel) ⟨Nat.le_of_ble_eq_true rfl, Nat.le_of_ble_eq_true rfl⟩) ⟨zblind, (zrecv_9 hK hPc (q0 := 0) rfl), hpre⟩ rfl rfl hl.1 rfl (lv_room (Nat.le_of_ble_eq_true rfl)) dL_law_1831 ⟨Nat.le_of_ble_eq_true rfl, Nat.le_of_ble_eq_true rfl⟩) hS (fun q _ h => hFc q h) hFc (fun r10 u t H9 locs ht hvm hw hB hz1 hk1 hS => ?_)
  obtain rfl : 1 = r10 := (show r10 = 1 from hw).symm
  obtain ⟨hP1, hK1, hD1, hz2⟩ := hB
  rw [ht] at hP1 hz2
  have hPD9 := va_join (wr := [(ou, .inr (7, [.long 0, .null])), (xo, .inr (6, [.ref al, .int 0, .int 0, .int 0, x4, x5, .ref b1, x7])), (al, .inr (4, [.int mc, .ref (zk 0), .int 0])), (am, .inr (4, [.int mm, .ref (zk 0), .int 0]))]) (w1 := [(mo, .inr (9, [.int 1, .ref am, .int 0, .int 0, .int 0]))]) hP hD [3] [0, 1, 2, 4] rfl rfl (by decide) (by decide) hk1 hFc hP1 hD1
  clear hPc hDc hFc hDv hpre hP hD hP1 hK1 hD1
  obtain ⟨hP, hD⟩ := hPD9
  replace hz : s.heap.size + 0 ≤ H9.size := by omega
  clear hz2
  replace hP : va_P (dC, dI) vwCl [(ou, .inr (7, [.long 0, .null])), (xo, .inr (6, [.ref al, .int 0, .int 0, .int 0, x4, x5, .ref b1, x7])), (al, .inr (4, [.int mc, .ref (zk 0), .int 0])), (am, .inr (4, [.int mm, .ref (zk 0), .int 0])), (mo, .inr (9, [.int 1, .ref am, .int 0, .int 0, .int 0]))] H9 := hP
  replace hD : va_D A [(ou, .inr (7, [.long 0, .null])), (xo, .inr (6, [.ref al, .int 0, .int 0, .int 0, x4, x5, .ref b1, x7])), (al, .inr (4, [.int mc, .ref (zk 0), .int 0])), (am, .inr (4, [.int mm, .ref (zk 0), .int 0])), (mo, .inr (9, [.int 1, .ref am, .int 0, .int 0, .int 0]))] := hD
  refine W.widen (k := 18) (n := 85) (by omega) (by omega) ?_
  refine lv_iload hx hb dL_law_1834 (lv_at hl 1 rfl) ?_
  refine lv_icmp_eq (tgt := 1841) hx hb dL_law_1836 (by decide) (fun c9 => ?_) (fun c9 => ?_)
  rotate_left
  · exact absurd (by decide) c9
  refine lv_iload hx hb dL_law_1841 (lv_at hl 1 rfl) ?_
  refine lv_if_ne (tgt := 1859) hx hb dL_law_1843 (by decide) (fun c9 => ?_) (fun c9 => ?_)
  rotate_left
  · exact absurd c9 (by decide)
  refine lv_goto (tgt := 2155) hx hb dL_law_1859 (by decide) ?_
  rw [hAd] at hS
  exact zl_tail l dC dI cI cB cR cO zk b xs C1 hZ0 hK hS (Nat.le_of_ble_eq_true rfl) (Nat.le_of_ble_eq_true rfl) ls (lv_sub hl [6, 2] rfl)

set_option maxHeartbeats 4000000 in
set_option maxRecDepth 100000 in
theorem zl_a_text (l : Launch) (dC : Nat → ClassId) (dI : Nat → Nat → Nat) (cI cB cR cO : ClassId) (zk : Nat → Nat) {p : Program} {e : Env} {s : State} {mY : MethodId} {below : List Frame} {meth : Method} {c : Code} (b : Nat) (xs : Nat → Int32) (hfl : l.stackTraces = false) (C0 : zl_At p s mY meth c b 5 xs) (hZ0 : zR zk [] (fun q => s.heap.size ≤ q) s s.heap) (hK : va_K (dC, dI) vwCl (zT cI cB cR cO) s) (ou xo al b1 : Nat) (x4 x5 x7 : Value) (mc : Int32) (mo am : Nat) (mm : Int32)  (p0 : Int32) (h1 : xs 1 = p0)  (H : Heap) (locs : List Loc) (hP : va_P (dC, dI) vwCl [(ou, .inr (7, [.long 0, .null])), (xo, .inr (6, [.ref al, .int 0, .int 0, .int 0, x4, x5, .ref b1, x7])), (al, .inr (4, [.int mc, .ref (zk 0), .int 0])), (mo, .inr (9, [.int 0, .ref am, .int 0, .int 0, .int 0])), (am, .inr (4, [.int mm, .ref (zk 0), .int 0]))] H) (hD : va_D (fun q => s.heap.size ≤ q) [(ou, .inr (7, [.long 0, .null])), (xo, .inr (6, [.ref al, .int 0, .int 0, .int 0, x4, x5, .ref b1, x7])), (al, .inr (4, [.int mc, .ref (zk 0), .int 0])), (mo, .inr (9, [.int 0, .ref am, .int 0, .int 0, .int 0])), (am, .inr (4, [.int mm, .ref (zk 0), .int 0]))]) (hS : va_S (fun q => s.heap.size ≤ q) s.heap H locs) (ls : Array Slot) (hl : lv_has ls 7 [(4, .int 0), (3, .ref ou), (2, .ref mo), (1, .ref xo), (0, .ref b)]) : W p l e room_1 s mY #[Value.ref b] below meth c H locs 17 79 (lw_Z below #[Value.ref b] s) (F0 mY 1862 ls []) := by
  have C1 := C0
  obtain ⟨hx, hb, hr, hml, hown, hts0, hX, hbl, hlocks, hNI⟩ := C0
  have hts := fun (w : Cond) (h : w ∈ wsL_law) => hts0 w (wsL_law_in w h)
  obtain ⟨A, hAd⟩ : ∃ A : Nat → Prop, A = fun q => s.heap.size ≤ q := ⟨_, rfl⟩
  have hA : ∀ q : Nat, s.heap.size ≤ q → A q := fun q h => by rw [hAd]; exact h
  have hAf : ∀ q : Nat, A q → s.heap.size ≤ q := fun q h => by rw [hAd] at h; exact h
  have hbA : ¬ A b := fun h => absurd (hAf b h) (Nat.not_le.mpr hbl)
  have hZ : zR zk [] A s s.heap := by rw [hAd]; exact hZ0
  rw [← hAd] at hD hS
  replace hP : va_P (dC, dI) vwCl [(ou, .inr (7, [.long 0, .null])), (xo, .inr (6, [.ref al, .int 0, .int 0, .int 0, x4, x5, .ref b1, x7])), (al, .inr (4, [.int mc, .ref (zk 0), .int 0])), (mo, .inr (9, [.int 0, .ref am, .int 0, .int 0, .int 0])), (am, .inr (4, [.int mm, .ref (zk 0), .int 0]))] H := hP
  replace hD : va_D A [(ou, .inr (7, [.long 0, .null])), (xo, .inr (6, [.ref al, .int 0, .int 0, .int 0, x4, x5, .ref b1, x7])), (al, .inr (4, [.int mc, .ref (zk 0), .int 0])), (mo, .inr (9, [.int 0, .ref am, .int 0, .int 0, .int 0])), (am, .inr (4, [.int mm, .ref (zk 0), .int 0]))] := hD
  have hz : s.heap.size + 0 ≤ H.size := hS.1
  refine lv_aload_n hx hb dL_law_1862 rfl (lv_at hl 3 rfl) ?_
  refine lv_aload_n hx hb dL_law_1863 rfl (lv_at hl 4 rfl) ?_
  refine lv_iload hx hb dL_law_1864 (lv_at hl 0 rfl) ?_
  refine lv_iconst (v := 1) hx hb dL_law_1866 (by decide) ?_
  refine lv_iadd hx hb dL_law_1867 ?_
  refine lv_topi (fun v1 ev1 => ?_)
  obtain rfl : v1 = 1 := ev1.trans (by decide)
  refine va_sld hx hb hX hbl hbA hS (by unfold vp_in; decide) dL_law_1868 ?_
  refine lv_topi (fun v2 ev2 => ?_)
  have e9 : v2 = p0 := ev2.trans (show xs ((1 : Int32).toNatClampNeg) = p0 from h1)
  clear ev2
  subst v2
  refine lv_aload_n hx hb dL_law_1869 rfl (lv_at hl 1 rfl) ?_
  have hPc := hP.sub (ws' := [(xo, .inr (6, [.ref al, .int 0, .int 0, .int 0, x4, x5, .ref b1, x7])), (al, .inr (4, [.int mc, .ref (zk 0), .int 0]))]) [1, 2] rfl
  have hDc := hD.sub (ws' := [(xo, .inr (6, [.ref al, .int 0, .int 0, .int 0, x4, x5, .ref b1, x7])), (al, .inr (4, [.int mc, .ref (zk 0), .int 0]))]) [1, 2] (by decide) rfl
  have hFc := va_free (wc := [(xo, .inr (6, [.ref al, .int 0, .int 0, .int 0, x4, x5, .ref b1, x7])), (al, .inr (4, [.int mc, .ref (zk 0), .int 0]))]) hD hS hA [1, 2] rfl
  have hDv := hDc.self (sz := H.size)
  have hpre := zpre (xs' := []) (av := [.ref xo, .int p0, .ref ou]) hPc hK (hDc.weaken (fun _ _ _ h => h)) hZ hS hFc (fun r hr => by cases hr)
  refine va_calli (vx_runSW (As := [.ref xo, .int p0, .ref ou]) (rest := []) ⟨hx, hb, hml, hown, hts⟩ (k_textH l dC dI cI cB cR cO zk hfl xo al b1 (.int 0) (.int 0) (.int 0) x4 x5 x7 mc p0 ou H.size ) (vx_cwSW 3 hts gL_law_L_text rfl rfl rfl (by decide +kernel) ⟨Nat.le_of_ble_eq_true rfl, Nat.le_of_ble_eq_true rfl⟩) ⟨zblind, hpre⟩ rfl rfl hl.1 rfl (lv_room (Nat.le_of_ble_eq_true rfl)) dL_law_1870 ⟨Nat.le_of_ble_eq_true rfl, Nat.le_of_ble_eq_true rfl⟩) hS (fun q _ h => hFc q h) hFc (fun r4 u t H3 locs ht hvm hw hB hz1 hk1 hS => ?_)
  obtain rfl : 1 = r4 := (show r4 = 1 from hw).symm
  obtain ⟨hP1, hK1, hD1, hz2⟩ := hB
  rw [ht] at hP1 hz2
  have hPD9 := va_join (wr := [(ou, .inr (7, [.long 0, .null])), (mo, .inr (9, [.int 0, .ref am, .int 0, .int 0, .int 0])), (am, .inr (4, [.int mm, .ref (zk 0), .int 0]))]) (w1 := [(xo, .inr (6, [.ref al, .int 0, .int 0, .int 0, x4, x5, .ref b1, x7])), (al, .inr (4, [.int mc, .ref (zk 0), .int 0]))]) hP hD [1, 2] [0, 3, 4] rfl rfl (by decide) (by decide) hk1 hFc hP1 hD1
  clear hPc hDc hFc hDv hpre hP hD hP1 hK1 hD1
  obtain ⟨hP, hD⟩ := hPD9
  replace hz : s.heap.size + 0 ≤ H3.size := by omega
  clear hz2
  replace hP : va_P (dC, dI) vwCl [(ou, .inr (7, [.long 0, .null])), (mo, .inr (9, [.int 0, .ref am, .int 0, .int 0, .int 0])), (am, .inr (4, [.int mm, .ref (zk 0), .int 0])), (xo, .inr (6, [.ref al, .int 0, .int 0, .int 0, x4, x5, .ref b1, x7])), (al, .inr (4, [.int mc, .ref (zk 0), .int 0]))] H3 := hP
  replace hD : va_D A [(ou, .inr (7, [.long 0, .null])), (mo, .inr (9, [.int 0, .ref am, .int 0, .int 0, .int 0])), (am, .inr (4, [.int mm, .ref (zk 0), .int 0])), (xo, .inr (6, [.ref al, .int 0, .int 0, .int 0, x4, x5, .ref b1, x7])), (al, .inr (4, [.int mc, .ref (zk 0), .int 0]))] := hD
  refine W.widen (k := 18) (n := 85) (by omega) (by omega) ?_
  refine lv_istore (lv' := [(5, .int 1), (4, .int 0), (3, .ref ou), (2, .ref mo), (1, .ref xo), (0, .ref b)]) hx hb dL_law_1873 hl (by decide) rfl (fun ls hl => ?_)
  refine lv_aload_n hx hb dL_law_1875 rfl (lv_at hl 3 rfl) ?_
  refine lv_aload_n hx hb dL_law_1876 rfl (lv_at hl 5 rfl) ?_
  refine lv_iload hx hb dL_law_1877 (lv_at hl 1 rfl) ?_
  refine lv_iconst (v := 1) hx hb dL_law_1879 (by decide) ?_
  refine lv_iadd hx hb dL_law_1880 ?_
  refine lv_topi (fun v5 ev5 => ?_)
  obtain rfl : v5 = 1 := ev5.trans (by decide)
  refine va_sld hx hb hX hbl hbA hS (by unfold vp_in; decide) dL_law_1881 ?_
  refine lv_topi (fun v6 ev6 => ?_)
  have e9 : v6 = p0 := ev6.trans (show xs ((1 : Int32).toNatClampNeg) = p0 from h1)
  clear ev6
  subst v6
  have hPc := hP.sub (ws' := [(mo, .inr (9, [.int 0, .ref am, .int 0, .int 0, .int 0])), (am, .inr (4, [.int mm, .ref (zk 0), .int 0]))]) [1, 2] rfl
  have hDc := hD.sub (ws' := [(mo, .inr (9, [.int 0, .ref am, .int 0, .int 0, .int 0])), (am, .inr (4, [.int mm, .ref (zk 0), .int 0]))]) [1, 2] (by decide) rfl
  have hFc := va_free (wc := [(mo, .inr (9, [.int 0, .ref am, .int 0, .int 0, .int 0])), (am, .inr (4, [.int mm, .ref (zk 0), .int 0]))]) hD hS hA [1, 2] rfl
  have hDv := hDc.self (sz := H3.size)
  have hpre := zpre (xs' := []) (av := [.ref mo, .int p0]) hPc hK (hDc.weaken (fun _ _ _ h => h)) hZ hS hFc (fun r hr => by cases hr)
  refine va_callr (va_runV (As := [.int p0]) (rest := []) ⟨hx, hb, hml, hown, hts⟩ (k_textM l dC dI cI cB cR cO zk mo am (.int 0) (.int 0) (.int 0) (.int 0) mm p0 H3.size ) (cwV 1 hts gL_law_X4_text rfl rfl rfl (by decide +kernel) ⟨Nat.le_of_ble_eq_true rfl, Nat.le_of_ble_eq_true rfl⟩) ⟨zblind, (zrecv_9 hK hPc (q0 := 0) rfl), hpre⟩ rfl rfl hl.1 rfl (lv_room (Nat.le_of_ble_eq_true rfl)) dL_law_1882 ⟨Nat.le_of_ble_eq_true rfl, Nat.le_of_ble_eq_true rfl⟩) hS (fun q _ h => hFc q h) hFc (fun u r8 t H7 locs ht hvm hw hB hz1 hk1 hS => ?_)
  obtain ⟨hP1, hK1, hD1, hz2⟩ := hB
  rw [ht] at hP1 hz2
  have hPD9 := va_join (wr := [(ou, .inr (7, [.long 0, .null])), (xo, .inr (6, [.ref al, .int 0, .int 0, .int 0, x4, x5, .ref b1, x7])), (al, .inr (4, [.int mc, .ref (zk 0), .int 0]))]) (w1 := [(mo, .inr (9, [.int 1, .ref am, .int 0, .int 0, .int 0])), (am, .inr (4, [.int mm, .ref (zk 0), .int 0]))]) hP hD [1, 2] [0, 3, 4] rfl rfl (by decide) (by decide) hk1 hFc hP1 hD1
  clear hPc hDc hFc hDv hpre hP hD hP1 hK1 hD1
  obtain ⟨hP, hD⟩ := hPD9
  replace hz : s.heap.size + 0 ≤ H7.size := by omega
  clear hz2
  replace hP : va_P (dC, dI) vwCl [(ou, .inr (7, [.long 0, .null])), (xo, .inr (6, [.ref al, .int 0, .int 0, .int 0, x4, x5, .ref b1, x7])), (al, .inr (4, [.int mc, .ref (zk 0), .int 0])), (mo, .inr (9, [.int 1, .ref am, .int 0, .int 0, .int 0])), (am, .inr (4, [.int mm, .ref (zk 0), .int 0]))] H7 := hP
  replace hD : va_D A [(ou, .inr (7, [.long 0, .null])), (xo, .inr (6, [.ref al, .int 0, .int 0, .int 0, x4, x5, .ref b1, x7])), (al, .inr (4, [.int mc, .ref (zk 0), .int 0])), (mo, .inr (9, [.int 1, .ref am, .int 0, .int 0, .int 0])), (am, .inr (4, [.int mm, .ref (zk 0), .int 0]))] := hD
  refine W.widen (k := 18) (n := 85) (by omega) (by omega) ?_
  refine lv_astore (lv' := [(6, .ref r8), (5, .int 1), (4, .int 0), (3, .ref ou), (2, .ref mo), (1, .ref xo), (0, .ref b)]) hx hb dL_law_1885 hl (by decide) rfl (fun ls hl => ?_)
  refine lv_aload_n hx hb dL_law_1887 rfl (lv_at hl 4 rfl) ?_
  have hPc := hP.sub (ws' := [(mo, .inr (9, [.int 1, .ref am, .int 0, .int 0, .int 0]))]) [3] rfl
  have hDc := hD.sub (ws' := [(mo, .inr (9, [.int 1, .ref am, .int 0, .int 0, .int 0]))]) [3] (by decide) rfl
  have hFc := va_free (wc := [(mo, .inr (9, [.int 1, .ref am, .int 0, .int 0, .int 0]))]) hD hS hA [3] rfl
  have hDv := hDc.self (sz := H7.size)
  have hpre := zpre (xs' := []) (av := [.ref mo]) hPc hK (hDc.weaken (fun _ _ _ h => h)) hZ hS hFc (fun r hr => by cases hr)
  refine va_calli (va_runV (As := []) (rest := []) ⟨hx, hb, hml, hown, hts⟩ (k_thz l dC dI cI cB cR cO zk mo am (.int 0) (.int 0) (.int 0) H7.size ) (cwV 0 hts gL_law_X4_thrown rfl rfl rfl (by decide +kernel) ⟨Nat.le_of_ble_eq_true rfl, Nat.le_of_ble_eq_true rfl⟩) ⟨zblind, (zrecv_9 hK hPc (q0 := 0) rfl), hpre⟩ rfl rfl hl.1 rfl (lv_room (Nat.le_of_ble_eq_true rfl)) dL_law_1888 ⟨Nat.le_of_ble_eq_true rfl, Nat.le_of_ble_eq_true rfl⟩) hS (fun q _ h => hFc q h) hFc (fun r10 u t H9 locs ht hvm hw hB hz1 hk1 hS => ?_)
  obtain rfl : 1 = r10 := (show r10 = 1 from hw).symm
  obtain ⟨hP1, hK1, hD1, hz2⟩ := hB
  rw [ht] at hP1 hz2
  have hPD9 := va_join (wr := [(ou, .inr (7, [.long 0, .null])), (xo, .inr (6, [.ref al, .int 0, .int 0, .int 0, x4, x5, .ref b1, x7])), (al, .inr (4, [.int mc, .ref (zk 0), .int 0])), (am, .inr (4, [.int mm, .ref (zk 0), .int 0]))]) (w1 := [(mo, .inr (9, [.int 1, .ref am, .int 0, .int 0, .int 0]))]) hP hD [3] [0, 1, 2, 4] rfl rfl (by decide) (by decide) hk1 hFc hP1 hD1
  clear hPc hDc hFc hDv hpre hP hD hP1 hK1 hD1
  obtain ⟨hP, hD⟩ := hPD9
  replace hz : s.heap.size + 0 ≤ H9.size := by omega
  clear hz2
  replace hP : va_P (dC, dI) vwCl [(ou, .inr (7, [.long 0, .null])), (xo, .inr (6, [.ref al, .int 0, .int 0, .int 0, x4, x5, .ref b1, x7])), (al, .inr (4, [.int mc, .ref (zk 0), .int 0])), (am, .inr (4, [.int mm, .ref (zk 0), .int 0])), (mo, .inr (9, [.int 1, .ref am, .int 0, .int 0, .int 0]))] H9 := hP
  replace hD : va_D A [(ou, .inr (7, [.long 0, .null])), (xo, .inr (6, [.ref al, .int 0, .int 0, .int 0, x4, x5, .ref b1, x7])), (al, .inr (4, [.int mc, .ref (zk 0), .int 0])), (am, .inr (4, [.int mm, .ref (zk 0), .int 0])), (mo, .inr (9, [.int 1, .ref am, .int 0, .int 0, .int 0]))] := hD
  refine W.widen (k := 18) (n := 85) (by omega) (by omega) ?_
  refine lv_iload hx hb dL_law_1891 (lv_at hl 1 rfl) ?_
  refine lv_icmp_eq (tgt := 1898) hx hb dL_law_1893 (by decide) (fun c9 => ?_) (fun c9 => ?_)
  rotate_left
  · exact absurd (by decide) c9
  refine lv_iload hx hb dL_law_1898 (lv_at hl 1 rfl) ?_
  refine lv_if_ne (tgt := 1917) hx hb dL_law_1900 (by decide) (fun c9 => ?_) (fun c9 => ?_)
  rotate_left
  · exact absurd c9 (by decide)
  refine lv_goto (tgt := 2155) hx hb dL_law_1917 (by decide) ?_
  rw [hAd] at hS
  exact zl_tail l dC dI cI cB cR cO zk b xs C1 hZ0 hK hS (Nat.le_of_ble_eq_true rfl) (Nat.le_of_ble_eq_true rfl) ls (lv_sub hl [6, 2] rfl)

set_option maxHeartbeats 4000000 in
set_option maxRecDepth 100000 in
theorem zl_a_differ (l : Launch) (dC : Nat → ClassId) (dI : Nat → Nat → Nat) (cI cB cR cO : ClassId) (zk : Nat → Nat) {p : Program} {e : Env} {s : State} {mY : MethodId} {below : List Frame} {meth : Method} {c : Code} (b : Nat) (xs : Nat → Int32) (hfl : l.stackTraces = false) (C0 : zl_At p s mY meth c b 5 xs) (hZ0 : zR zk [] (fun q => s.heap.size ≤ q) s s.heap) (hK : va_K (dC, dI) vwCl (zT cI cB cR cO) s) (ou xo al b1 : Nat) (x4 x5 x7 : Value) (mc : Int32) (mo am : Nat) (mm : Int32)  (p0 p1 : Int32) (h1 : xs 1 = p0) (h2 : xs 2 = p1)  (H : Heap) (locs : List Loc) (hP : va_P (dC, dI) vwCl [(ou, .inr (7, [.long 0, .null])), (xo, .inr (6, [.ref al, .int 0, .int 0, .int 0, x4, x5, .ref b1, x7])), (al, .inr (4, [.int mc, .ref (zk 0), .int 0])), (mo, .inr (9, [.int 0, .ref am, .int 0, .int 0, .int 0])), (am, .inr (4, [.int mm, .ref (zk 0), .int 0]))] H) (hD : va_D (fun q => s.heap.size ≤ q) [(ou, .inr (7, [.long 0, .null])), (xo, .inr (6, [.ref al, .int 0, .int 0, .int 0, x4, x5, .ref b1, x7])), (al, .inr (4, [.int mc, .ref (zk 0), .int 0])), (mo, .inr (9, [.int 0, .ref am, .int 0, .int 0, .int 0])), (am, .inr (4, [.int mm, .ref (zk 0), .int 0]))]) (hS : va_S (fun q => s.heap.size ≤ q) s.heap H locs) (ls : Array Slot) (hl : lv_has ls 7 [(4, .int 0), (3, .ref ou), (2, .ref mo), (1, .ref xo), (0, .ref b)]) : W p l e room_1 s mY #[Value.ref b] below meth c H locs 17 79 (lw_Z below #[Value.ref b] s) (F0 mY 1920 ls []) := by
  have C1 := C0
  obtain ⟨hx, hb, hr, hml, hown, hts0, hX, hbl, hlocks, hNI⟩ := C0
  have hts := fun (w : Cond) (h : w ∈ wsL_law) => hts0 w (wsL_law_in w h)
  obtain ⟨A, hAd⟩ : ∃ A : Nat → Prop, A = fun q => s.heap.size ≤ q := ⟨_, rfl⟩
  have hA : ∀ q : Nat, s.heap.size ≤ q → A q := fun q h => by rw [hAd]; exact h
  have hAf : ∀ q : Nat, A q → s.heap.size ≤ q := fun q h => by rw [hAd] at h; exact h
  have hbA : ¬ A b := fun h => absurd (hAf b h) (Nat.not_le.mpr hbl)
  have hZ : zR zk [] A s s.heap := by rw [hAd]; exact hZ0
  rw [← hAd] at hD hS
  replace hP : va_P (dC, dI) vwCl [(ou, .inr (7, [.long 0, .null])), (xo, .inr (6, [.ref al, .int 0, .int 0, .int 0, x4, x5, .ref b1, x7])), (al, .inr (4, [.int mc, .ref (zk 0), .int 0])), (mo, .inr (9, [.int 0, .ref am, .int 0, .int 0, .int 0])), (am, .inr (4, [.int mm, .ref (zk 0), .int 0]))] H := hP
  replace hD : va_D A [(ou, .inr (7, [.long 0, .null])), (xo, .inr (6, [.ref al, .int 0, .int 0, .int 0, x4, x5, .ref b1, x7])), (al, .inr (4, [.int mc, .ref (zk 0), .int 0])), (mo, .inr (9, [.int 0, .ref am, .int 0, .int 0, .int 0])), (am, .inr (4, [.int mm, .ref (zk 0), .int 0]))] := hD
  have hz : s.heap.size + 0 ≤ H.size := hS.1
  refine lv_aload_n hx hb dL_law_1920 rfl (lv_at hl 3 rfl) ?_
  refine lv_aload_n hx hb dL_law_1921 rfl (lv_at hl 4 rfl) ?_
  refine lv_iload hx hb dL_law_1922 (lv_at hl 0 rfl) ?_
  refine lv_iconst (v := 1) hx hb dL_law_1924 (by decide) ?_
  refine lv_iadd hx hb dL_law_1925 ?_
  refine lv_topi (fun v1 ev1 => ?_)
  obtain rfl : v1 = 1 := ev1.trans (by decide)
  refine va_sld hx hb hX hbl hbA hS (by unfold vp_in; decide) dL_law_1926 ?_
  refine lv_topi (fun v2 ev2 => ?_)
  have e9 : v2 = p0 := ev2.trans (show xs ((1 : Int32).toNatClampNeg) = p0 from h1)
  clear ev2
  subst v2
  refine lv_aload_n hx hb dL_law_1927 rfl (lv_at hl 4 rfl) ?_
  refine lv_iload hx hb dL_law_1928 (lv_at hl 0 rfl) ?_
  refine lv_iconst (v := 2) hx hb dL_law_1930 (by decide) ?_
  refine lv_iadd hx hb dL_law_1931 ?_
  refine lv_topi (fun v3 ev3 => ?_)
  obtain rfl : v3 = 2 := ev3.trans (by decide)
  refine va_sld hx hb hX hbl hbA hS (by unfold vp_in; decide) dL_law_1932 ?_
  refine lv_topi (fun v4 ev4 => ?_)
  have e9 : v4 = p1 := ev4.trans (show xs ((2 : Int32).toNatClampNeg) = p1 from h2)
  clear ev4
  subst v4
  refine lv_aload_n hx hb dL_law_1933 rfl (lv_at hl 1 rfl) ?_
  have hPc := hP.sub (ws' := [(xo, .inr (6, [.ref al, .int 0, .int 0, .int 0, x4, x5, .ref b1, x7])), (al, .inr (4, [.int mc, .ref (zk 0), .int 0]))]) [1, 2] rfl
  have hDc := hD.sub (ws' := [(xo, .inr (6, [.ref al, .int 0, .int 0, .int 0, x4, x5, .ref b1, x7])), (al, .inr (4, [.int mc, .ref (zk 0), .int 0]))]) [1, 2] (by decide) rfl
  have hFc := va_free (wc := [(xo, .inr (6, [.ref al, .int 0, .int 0, .int 0, x4, x5, .ref b1, x7])), (al, .inr (4, [.int mc, .ref (zk 0), .int 0]))]) hD hS hA [1, 2] rfl
  have hDv := hDc.self (sz := H.size)
  have hpre := zpre (xs' := []) (av := [.ref xo, .int p0, .int p1, .ref ou]) hPc hK (hDc.weaken (fun _ _ _ h => h)) hZ hS hFc (fun r hr => by cases hr)
  refine va_calli (vx_runSW (As := [.ref xo, .int p0, .int p1, .ref ou]) (rest := []) ⟨hx, hb, hml, hown, hts⟩ (k_differH l dC dI cI cB cR cO zk hfl xo al b1 (.int 0) (.int 0) (.int 0) x4 x5 x7 mc p0 p1 ou H.size ) (vx_cwSW 4 hts gL_law_L_differ rfl rfl rfl (by decide +kernel) ⟨Nat.le_of_ble_eq_true rfl, Nat.le_of_ble_eq_true rfl⟩) ⟨zblind, hpre⟩ rfl rfl hl.1 rfl (lv_room (Nat.le_of_ble_eq_true rfl)) dL_law_1934 ⟨Nat.le_of_ble_eq_true rfl, Nat.le_of_ble_eq_true rfl⟩) hS (fun q _ h => hFc q h) hFc (fun r6 u t H5 locs ht hvm hw hB hz1 hk1 hS => ?_)
  obtain rfl : 1 = r6 := (show r6 = 1 from hw).symm
  obtain ⟨hP1, hK1, hD1, hz2⟩ := hB
  rw [ht] at hP1 hz2
  have hPD9 := va_join (wr := [(ou, .inr (7, [.long 0, .null])), (mo, .inr (9, [.int 0, .ref am, .int 0, .int 0, .int 0])), (am, .inr (4, [.int mm, .ref (zk 0), .int 0]))]) (w1 := [(xo, .inr (6, [.ref al, .int 0, .int 0, .int 0, x4, x5, .ref b1, x7])), (al, .inr (4, [.int mc, .ref (zk 0), .int 0]))]) hP hD [1, 2] [0, 3, 4] rfl rfl (by decide) (by decide) hk1 hFc hP1 hD1
  clear hPc hDc hFc hDv hpre hP hD hP1 hK1 hD1
  obtain ⟨hP, hD⟩ := hPD9
  replace hz : s.heap.size + 0 ≤ H5.size := by omega
  clear hz2
  replace hP : va_P (dC, dI) vwCl [(ou, .inr (7, [.long 0, .null])), (mo, .inr (9, [.int 0, .ref am, .int 0, .int 0, .int 0])), (am, .inr (4, [.int mm, .ref (zk 0), .int 0])), (xo, .inr (6, [.ref al, .int 0, .int 0, .int 0, x4, x5, .ref b1, x7])), (al, .inr (4, [.int mc, .ref (zk 0), .int 0]))] H5 := hP
  replace hD : va_D A [(ou, .inr (7, [.long 0, .null])), (mo, .inr (9, [.int 0, .ref am, .int 0, .int 0, .int 0])), (am, .inr (4, [.int mm, .ref (zk 0), .int 0])), (xo, .inr (6, [.ref al, .int 0, .int 0, .int 0, x4, x5, .ref b1, x7])), (al, .inr (4, [.int mc, .ref (zk 0), .int 0]))] := hD
  refine W.widen (k := 18) (n := 85) (by omega) (by omega) ?_
  refine lv_istore (lv' := [(5, .int 1), (4, .int 0), (3, .ref ou), (2, .ref mo), (1, .ref xo), (0, .ref b)]) hx hb dL_law_1937 hl (by decide) rfl (fun ls hl => ?_)
  refine lv_aload_n hx hb dL_law_1939 rfl (lv_at hl 3 rfl) ?_
  refine lv_aload_n hx hb dL_law_1940 rfl (lv_at hl 5 rfl) ?_
  refine lv_iload hx hb dL_law_1941 (lv_at hl 1 rfl) ?_
  refine lv_iconst (v := 1) hx hb dL_law_1943 (by decide) ?_
  refine lv_iadd hx hb dL_law_1944 ?_
  refine lv_topi (fun v7 ev7 => ?_)
  obtain rfl : v7 = 1 := ev7.trans (by decide)
  refine va_sld hx hb hX hbl hbA hS (by unfold vp_in; decide) dL_law_1945 ?_
  refine lv_topi (fun v8 ev8 => ?_)
  have e9 : v8 = p0 := ev8.trans (show xs ((1 : Int32).toNatClampNeg) = p0 from h1)
  clear ev8
  subst v8
  refine lv_aload_n hx hb dL_law_1946 rfl (lv_at hl 5 rfl) ?_
  refine lv_iload hx hb dL_law_1947 (lv_at hl 1 rfl) ?_
  refine lv_iconst (v := 2) hx hb dL_law_1949 (by decide) ?_
  refine lv_iadd hx hb dL_law_1950 ?_
  refine lv_topi (fun v9 ev9 => ?_)
  obtain rfl : v9 = 2 := ev9.trans (by decide)
  refine va_sld hx hb hX hbl hbA hS (by unfold vp_in; decide) dL_law_1951 ?_
  refine lv_topi (fun v10 ev10 => ?_)
  have e9 : v10 = p1 := ev10.trans (show xs ((2 : Int32).toNatClampNeg) = p1 from h2)
  clear ev10
  subst v10
  have hPc := hP.sub (ws' := [(mo, .inr (9, [.int 0, .ref am, .int 0, .int 0, .int 0])), (am, .inr (4, [.int mm, .ref (zk 0), .int 0]))]) [1, 2] rfl
  have hDc := hD.sub (ws' := [(mo, .inr (9, [.int 0, .ref am, .int 0, .int 0, .int 0])), (am, .inr (4, [.int mm, .ref (zk 0), .int 0]))]) [1, 2] (by decide) rfl
  have hFc := va_free (wc := [(mo, .inr (9, [.int 0, .ref am, .int 0, .int 0, .int 0])), (am, .inr (4, [.int mm, .ref (zk 0), .int 0]))]) hD hS hA [1, 2] rfl
  have hDv := hDc.self (sz := H5.size)
  have hpre := zpre (xs' := []) (av := [.ref mo, .int p0, .int p1]) hPc hK (hDc.weaken (fun _ _ _ h => h)) hZ hS hFc (fun r hr => by cases hr)
  refine va_calli (va_runV (As := [.int p0, .int p1]) (rest := []) ⟨hx, hb, hml, hown, hts⟩ (k_differM l dC dI cI cB cR cO zk mo am (.int 0) (.int 0) (.int 0) (.int 0) mm p0 p1 H5.size ) (cwV 2 hts gL_law_X4_differ rfl rfl rfl (by decide +kernel) ⟨Nat.le_of_ble_eq_true rfl, Nat.le_of_ble_eq_true rfl⟩) ⟨zblind, (zrecv_9 hK hPc (q0 := 0) rfl), hpre⟩ rfl rfl hl.1 rfl (lv_room (Nat.le_of_ble_eq_true rfl)) dL_law_1952 ⟨Nat.le_of_ble_eq_true rfl, Nat.le_of_ble_eq_true rfl⟩) hS (fun q _ h => hFc q h) hFc (fun r12 u t H11 locs ht hvm hw hB hz1 hk1 hS => ?_)
  obtain ⟨hP1, hK1, hD1, hz2⟩ := hB
  rw [ht] at hP1 hz2
  have hPD9 := va_join (wr := [(ou, .inr (7, [.long 0, .null])), (xo, .inr (6, [.ref al, .int 0, .int 0, .int 0, x4, x5, .ref b1, x7])), (al, .inr (4, [.int mc, .ref (zk 0), .int 0]))]) (w1 := [(mo, .inr (9, [.int 1, .ref am, .int 0, .int 0, .int 0])), (am, .inr (4, [.int mm, .ref (zk 0), .int 0]))]) hP hD [1, 2] [0, 3, 4] rfl rfl (by decide) (by decide) hk1 hFc hP1 hD1
  clear hPc hDc hFc hDv hpre hP hD hP1 hK1 hD1
  obtain ⟨hP, hD⟩ := hPD9
  replace hz : s.heap.size + 0 ≤ H11.size := by omega
  clear hz2
  replace hP : va_P (dC, dI) vwCl [(ou, .inr (7, [.long 0, .null])), (xo, .inr (6, [.ref al, .int 0, .int 0, .int 0, x4, x5, .ref b1, x7])), (al, .inr (4, [.int mc, .ref (zk 0), .int 0])), (mo, .inr (9, [.int 1, .ref am, .int 0, .int 0, .int 0])), (am, .inr (4, [.int mm, .ref (zk 0), .int 0]))] H11 := hP
  replace hD : va_D A [(ou, .inr (7, [.long 0, .null])), (xo, .inr (6, [.ref al, .int 0, .int 0, .int 0, x4, x5, .ref b1, x7])), (al, .inr (4, [.int mc, .ref (zk 0), .int 0])), (mo, .inr (9, [.int 1, .ref am, .int 0, .int 0, .int 0])), (am, .inr (4, [.int mm, .ref (zk 0), .int 0]))] := hD
  refine W.widen (k := 18) (n := 85) (by omega) (by omega) ?_
  refine lv_istore (lv' := [(6, .int r12), (5, .int 1), (4, .int 0), (3, .ref ou), (2, .ref mo), (1, .ref xo), (0, .ref b)]) hx hb dL_law_1955 hl (by decide) rfl (fun ls hl => ?_)
  refine lv_aload_n hx hb dL_law_1957 rfl (lv_at hl 4 rfl) ?_
  have hPc := hP.sub (ws' := [(mo, .inr (9, [.int 1, .ref am, .int 0, .int 0, .int 0]))]) [3] rfl
  have hDc := hD.sub (ws' := [(mo, .inr (9, [.int 1, .ref am, .int 0, .int 0, .int 0]))]) [3] (by decide) rfl
  have hFc := va_free (wc := [(mo, .inr (9, [.int 1, .ref am, .int 0, .int 0, .int 0]))]) hD hS hA [3] rfl
  have hDv := hDc.self (sz := H11.size)
  have hpre := zpre (xs' := []) (av := [.ref mo]) hPc hK (hDc.weaken (fun _ _ _ h => h)) hZ hS hFc (fun r hr => by cases hr)
  refine va_calli (va_runV (As := []) (rest := []) ⟨hx, hb, hml, hown, hts⟩ (k_thz l dC dI cI cB cR cO zk mo am (.int 0) (.int 0) (.int 0) H11.size ) (cwV 0 hts gL_law_X4_thrown rfl rfl rfl (by decide +kernel) ⟨Nat.le_of_ble_eq_true rfl, Nat.le_of_ble_eq_true rfl⟩) ⟨zblind, (zrecv_9 hK hPc (q0 := 0) rfl), hpre⟩ rfl rfl hl.1 rfl (lv_room (Nat.le_of_ble_eq_true rfl)) dL_law_1958 ⟨Nat.le_of_ble_eq_true rfl, Nat.le_of_ble_eq_true rfl⟩) hS (fun q _ h => hFc q h) hFc (fun r14 u t H13 locs ht hvm hw hB hz1 hk1 hS => ?_)
  obtain rfl : 1 = r14 := (show r14 = 1 from hw).symm
  obtain ⟨hP1, hK1, hD1, hz2⟩ := hB
  rw [ht] at hP1 hz2
  have hPD9 := va_join (wr := [(ou, .inr (7, [.long 0, .null])), (xo, .inr (6, [.ref al, .int 0, .int 0, .int 0, x4, x5, .ref b1, x7])), (al, .inr (4, [.int mc, .ref (zk 0), .int 0])), (am, .inr (4, [.int mm, .ref (zk 0), .int 0]))]) (w1 := [(mo, .inr (9, [.int 1, .ref am, .int 0, .int 0, .int 0]))]) hP hD [3] [0, 1, 2, 4] rfl rfl (by decide) (by decide) hk1 hFc hP1 hD1
  clear hPc hDc hFc hDv hpre hP hD hP1 hK1 hD1
  obtain ⟨hP, hD⟩ := hPD9
  replace hz : s.heap.size + 0 ≤ H13.size := by omega
  clear hz2
  replace hP : va_P (dC, dI) vwCl [(ou, .inr (7, [.long 0, .null])), (xo, .inr (6, [.ref al, .int 0, .int 0, .int 0, x4, x5, .ref b1, x7])), (al, .inr (4, [.int mc, .ref (zk 0), .int 0])), (am, .inr (4, [.int mm, .ref (zk 0), .int 0])), (mo, .inr (9, [.int 1, .ref am, .int 0, .int 0, .int 0]))] H13 := hP
  replace hD : va_D A [(ou, .inr (7, [.long 0, .null])), (xo, .inr (6, [.ref al, .int 0, .int 0, .int 0, x4, x5, .ref b1, x7])), (al, .inr (4, [.int mc, .ref (zk 0), .int 0])), (am, .inr (4, [.int mm, .ref (zk 0), .int 0])), (mo, .inr (9, [.int 1, .ref am, .int 0, .int 0, .int 0]))] := hD
  refine W.widen (k := 18) (n := 85) (by omega) (by omega) ?_
  refine lv_iload hx hb dL_law_1961 (lv_at hl 1 rfl) ?_
  refine lv_icmp_eq (tgt := 1968) hx hb dL_law_1963 (by decide) (fun c9 => ?_) (fun c9 => ?_)
  rotate_left
  · exact absurd (by decide) c9
  refine lv_iload hx hb dL_law_1968 (lv_at hl 1 rfl) ?_
  refine lv_if_ne (tgt := 1986) hx hb dL_law_1970 (by decide) (fun c9 => ?_) (fun c9 => ?_)
  rotate_left
  · exact absurd c9 (by decide)
  refine lv_goto (tgt := 2155) hx hb dL_law_1986 (by decide) ?_
  rw [hAd] at hS
  exact zl_tail l dC dI cI cB cR cO zk b xs C1 hZ0 hK hS (Nat.le_of_ble_eq_true rfl) (Nat.le_of_ble_eq_true rfl) ls (lv_sub hl [6, 2] rfl)

set_option maxHeartbeats 4000000 in
set_option maxRecDepth 100000 in
theorem zl_a_compare (l : Launch) (dC : Nat → ClassId) (dI : Nat → Nat → Nat) (cI cB cR cO : ClassId) (zk : Nat → Nat) {p : Program} {e : Env} {s : State} {mY : MethodId} {below : List Frame} {meth : Method} {c : Code} (b : Nat) (xs : Nat → Int32) (hfl : l.stackTraces = false) (C0 : zl_At p s mY meth c b 5 xs) (hZ0 : zR zk [] (fun q => s.heap.size ≤ q) s s.heap) (hK : va_K (dC, dI) vwCl (zT cI cB cR cO) s) (ou xo al b1 : Nat) (x4 x5 x7 : Value) (mc : Int32) (mo am : Nat) (mm : Int32)  (p0 p1 : Int32) (h1 : xs 1 = p0) (h2 : xs 2 = p1)  (H : Heap) (locs : List Loc) (hP : va_P (dC, dI) vwCl [(ou, .inr (7, [.long 0, .null])), (xo, .inr (6, [.ref al, .int 0, .int 0, .int 0, x4, x5, .ref b1, x7])), (al, .inr (4, [.int mc, .ref (zk 0), .int 0])), (mo, .inr (9, [.int 0, .ref am, .int 0, .int 0, .int 0])), (am, .inr (4, [.int mm, .ref (zk 0), .int 0]))] H) (hD : va_D (fun q => s.heap.size ≤ q) [(ou, .inr (7, [.long 0, .null])), (xo, .inr (6, [.ref al, .int 0, .int 0, .int 0, x4, x5, .ref b1, x7])), (al, .inr (4, [.int mc, .ref (zk 0), .int 0])), (mo, .inr (9, [.int 0, .ref am, .int 0, .int 0, .int 0])), (am, .inr (4, [.int mm, .ref (zk 0), .int 0]))]) (hS : va_S (fun q => s.heap.size ≤ q) s.heap H locs) (ls : Array Slot) (hl : lv_has ls 7 [(4, .int 0), (3, .ref ou), (2, .ref mo), (1, .ref xo), (0, .ref b)]) : W p l e room_1 s mY #[Value.ref b] below meth c H locs 17 79 (lw_Z below #[Value.ref b] s) (F0 mY 1989 ls []) := by
  have C1 := C0
  obtain ⟨hx, hb, hr, hml, hown, hts0, hX, hbl, hlocks, hNI⟩ := C0
  have hts := fun (w : Cond) (h : w ∈ wsL_law) => hts0 w (wsL_law_in w h)
  obtain ⟨A, hAd⟩ : ∃ A : Nat → Prop, A = fun q => s.heap.size ≤ q := ⟨_, rfl⟩
  have hA : ∀ q : Nat, s.heap.size ≤ q → A q := fun q h => by rw [hAd]; exact h
  have hAf : ∀ q : Nat, A q → s.heap.size ≤ q := fun q h => by rw [hAd] at h; exact h
  have hbA : ¬ A b := fun h => absurd (hAf b h) (Nat.not_le.mpr hbl)
  have hZ : zR zk [] A s s.heap := by rw [hAd]; exact hZ0
  rw [← hAd] at hD hS
  replace hP : va_P (dC, dI) vwCl [(ou, .inr (7, [.long 0, .null])), (xo, .inr (6, [.ref al, .int 0, .int 0, .int 0, x4, x5, .ref b1, x7])), (al, .inr (4, [.int mc, .ref (zk 0), .int 0])), (mo, .inr (9, [.int 0, .ref am, .int 0, .int 0, .int 0])), (am, .inr (4, [.int mm, .ref (zk 0), .int 0]))] H := hP
  replace hD : va_D A [(ou, .inr (7, [.long 0, .null])), (xo, .inr (6, [.ref al, .int 0, .int 0, .int 0, x4, x5, .ref b1, x7])), (al, .inr (4, [.int mc, .ref (zk 0), .int 0])), (mo, .inr (9, [.int 0, .ref am, .int 0, .int 0, .int 0])), (am, .inr (4, [.int mm, .ref (zk 0), .int 0]))] := hD
  have hz : s.heap.size + 0 ≤ H.size := hS.1
  refine lv_aload_n hx hb dL_law_1989 rfl (lv_at hl 3 rfl) ?_
  refine lv_aload_n hx hb dL_law_1990 rfl (lv_at hl 4 rfl) ?_
  refine lv_iload hx hb dL_law_1991 (lv_at hl 0 rfl) ?_
  refine lv_iconst (v := 1) hx hb dL_law_1993 (by decide) ?_
  refine lv_iadd hx hb dL_law_1994 ?_
  refine lv_topi (fun v1 ev1 => ?_)
  obtain rfl : v1 = 1 := ev1.trans (by decide)
  refine va_sld hx hb hX hbl hbA hS (by unfold vp_in; decide) dL_law_1995 ?_
  refine lv_topi (fun v2 ev2 => ?_)
  have e9 : v2 = p0 := ev2.trans (show xs ((1 : Int32).toNatClampNeg) = p0 from h1)
  clear ev2
  subst v2
  refine lv_aload_n hx hb dL_law_1996 rfl (lv_at hl 4 rfl) ?_
  refine lv_iload hx hb dL_law_1997 (lv_at hl 0 rfl) ?_
  refine lv_iconst (v := 2) hx hb dL_law_1999 (by decide) ?_
  refine lv_iadd hx hb dL_law_2000 ?_
  refine lv_topi (fun v3 ev3 => ?_)
  obtain rfl : v3 = 2 := ev3.trans (by decide)
  refine va_sld hx hb hX hbl hbA hS (by unfold vp_in; decide) dL_law_2001 ?_
  refine lv_topi (fun v4 ev4 => ?_)
  have e9 : v4 = p1 := ev4.trans (show xs ((2 : Int32).toNatClampNeg) = p1 from h2)
  clear ev4
  subst v4
  refine lv_aload_n hx hb dL_law_2002 rfl (lv_at hl 1 rfl) ?_
  have hPc := hP.sub (ws' := [(xo, .inr (6, [.ref al, .int 0, .int 0, .int 0, x4, x5, .ref b1, x7])), (al, .inr (4, [.int mc, .ref (zk 0), .int 0]))]) [1, 2] rfl
  have hDc := hD.sub (ws' := [(xo, .inr (6, [.ref al, .int 0, .int 0, .int 0, x4, x5, .ref b1, x7])), (al, .inr (4, [.int mc, .ref (zk 0), .int 0]))]) [1, 2] (by decide) rfl
  have hFc := va_free (wc := [(xo, .inr (6, [.ref al, .int 0, .int 0, .int 0, x4, x5, .ref b1, x7])), (al, .inr (4, [.int mc, .ref (zk 0), .int 0]))]) hD hS hA [1, 2] rfl
  have hDv := hDc.self (sz := H.size)
  have hpre := zpre (xs' := []) (av := [.ref xo, .int p0, .int p1, .ref ou]) hPc hK (hDc.weaken (fun _ _ _ h => h)) hZ hS hFc (fun r hr => by cases hr)
  refine va_calli (vx_runSW (As := [.ref xo, .int p0, .int p1, .ref ou]) (rest := []) ⟨hx, hb, hml, hown, hts⟩ (k_compareH l dC dI cI cB cR cO zk hfl xo al b1 (.int 0) (.int 0) (.int 0) x4 x5 x7 mc p0 p1 ou H.size ) (vx_cwSW 4 hts gL_law_L_compare rfl rfl rfl (by decide +kernel) ⟨Nat.le_of_ble_eq_true rfl, Nat.le_of_ble_eq_true rfl⟩) ⟨zblind, hpre⟩ rfl rfl hl.1 rfl (lv_room (Nat.le_of_ble_eq_true rfl)) dL_law_2003 ⟨Nat.le_of_ble_eq_true rfl, Nat.le_of_ble_eq_true rfl⟩) hS (fun q _ h => hFc q h) hFc (fun r6 u t H5 locs ht hvm hw hB hz1 hk1 hS => ?_)
  obtain rfl : 1 = r6 := (show r6 = 1 from hw).symm
  obtain ⟨hP1, hK1, hD1, hz2⟩ := hB
  rw [ht] at hP1 hz2
  have hPD9 := va_join (wr := [(ou, .inr (7, [.long 0, .null])), (mo, .inr (9, [.int 0, .ref am, .int 0, .int 0, .int 0])), (am, .inr (4, [.int mm, .ref (zk 0), .int 0]))]) (w1 := [(xo, .inr (6, [.ref al, .int 0, .int 0, .int 0, x4, x5, .ref b1, x7])), (al, .inr (4, [.int mc, .ref (zk 0), .int 0]))]) hP hD [1, 2] [0, 3, 4] rfl rfl (by decide) (by decide) hk1 hFc hP1 hD1
  clear hPc hDc hFc hDv hpre hP hD hP1 hK1 hD1
  obtain ⟨hP, hD⟩ := hPD9
  replace hz : s.heap.size + 0 ≤ H5.size := by omega
  clear hz2
  replace hP : va_P (dC, dI) vwCl [(ou, .inr (7, [.long 0, .null])), (mo, .inr (9, [.int 0, .ref am, .int 0, .int 0, .int 0])), (am, .inr (4, [.int mm, .ref (zk 0), .int 0])), (xo, .inr (6, [.ref al, .int 0, .int 0, .int 0, x4, x5, .ref b1, x7])), (al, .inr (4, [.int mc, .ref (zk 0), .int 0]))] H5 := hP
  replace hD : va_D A [(ou, .inr (7, [.long 0, .null])), (mo, .inr (9, [.int 0, .ref am, .int 0, .int 0, .int 0])), (am, .inr (4, [.int mm, .ref (zk 0), .int 0])), (xo, .inr (6, [.ref al, .int 0, .int 0, .int 0, x4, x5, .ref b1, x7])), (al, .inr (4, [.int mc, .ref (zk 0), .int 0]))] := hD
  refine W.widen (k := 18) (n := 85) (by omega) (by omega) ?_
  refine lv_istore (lv' := [(5, .int 1), (4, .int 0), (3, .ref ou), (2, .ref mo), (1, .ref xo), (0, .ref b)]) hx hb dL_law_2006 hl (by decide) rfl (fun ls hl => ?_)
  refine lv_aload_n hx hb dL_law_2008 rfl (lv_at hl 3 rfl) ?_
  refine lv_aload_n hx hb dL_law_2009 rfl (lv_at hl 5 rfl) ?_
  refine lv_iload hx hb dL_law_2010 (lv_at hl 1 rfl) ?_
  refine lv_iconst (v := 1) hx hb dL_law_2012 (by decide) ?_
  refine lv_iadd hx hb dL_law_2013 ?_
  refine lv_topi (fun v7 ev7 => ?_)
  obtain rfl : v7 = 1 := ev7.trans (by decide)
  refine va_sld hx hb hX hbl hbA hS (by unfold vp_in; decide) dL_law_2014 ?_
  refine lv_topi (fun v8 ev8 => ?_)
  have e9 : v8 = p0 := ev8.trans (show xs ((1 : Int32).toNatClampNeg) = p0 from h1)
  clear ev8
  subst v8
  refine lv_aload_n hx hb dL_law_2015 rfl (lv_at hl 5 rfl) ?_
  refine lv_iload hx hb dL_law_2016 (lv_at hl 1 rfl) ?_
  refine lv_iconst (v := 2) hx hb dL_law_2018 (by decide) ?_
  refine lv_iadd hx hb dL_law_2019 ?_
  refine lv_topi (fun v9 ev9 => ?_)
  obtain rfl : v9 = 2 := ev9.trans (by decide)
  refine va_sld hx hb hX hbl hbA hS (by unfold vp_in; decide) dL_law_2020 ?_
  refine lv_topi (fun v10 ev10 => ?_)
  have e9 : v10 = p1 := ev10.trans (show xs ((2 : Int32).toNatClampNeg) = p1 from h2)
  clear ev10
  subst v10
  have hPc := hP.sub (ws' := [(mo, .inr (9, [.int 0, .ref am, .int 0, .int 0, .int 0])), (am, .inr (4, [.int mm, .ref (zk 0), .int 0]))]) [1, 2] rfl
  have hDc := hD.sub (ws' := [(mo, .inr (9, [.int 0, .ref am, .int 0, .int 0, .int 0])), (am, .inr (4, [.int mm, .ref (zk 0), .int 0]))]) [1, 2] (by decide) rfl
  have hFc := va_free (wc := [(mo, .inr (9, [.int 0, .ref am, .int 0, .int 0, .int 0])), (am, .inr (4, [.int mm, .ref (zk 0), .int 0]))]) hD hS hA [1, 2] rfl
  have hDv := hDc.self (sz := H5.size)
  have hpre := zpre (xs' := []) (av := [.ref mo, .int p0, .int p1]) hPc hK (hDc.weaken (fun _ _ _ h => h)) hZ hS hFc (fun r hr => by cases hr)
  refine va_calli (va_runV (As := [.int p0, .int p1]) (rest := []) ⟨hx, hb, hml, hown, hts⟩ (k_compareM l dC dI cI cB cR cO zk mo am (.int 0) (.int 0) (.int 0) (.int 0) mm p0 p1 H5.size ) (cwV 2 hts gL_law_X4_compare rfl rfl rfl (by decide +kernel) ⟨Nat.le_of_ble_eq_true rfl, Nat.le_of_ble_eq_true rfl⟩) ⟨zblind, (zrecv_9 hK hPc (q0 := 0) rfl), hpre⟩ rfl rfl hl.1 rfl (lv_room (Nat.le_of_ble_eq_true rfl)) dL_law_2021 ⟨Nat.le_of_ble_eq_true rfl, Nat.le_of_ble_eq_true rfl⟩) hS (fun q _ h => hFc q h) hFc (fun r12 u t H11 locs ht hvm hw hB hz1 hk1 hS => ?_)
  obtain ⟨hP1, hK1, hD1, hz2⟩ := hB
  rw [ht] at hP1 hz2
  have hPD9 := va_join (wr := [(ou, .inr (7, [.long 0, .null])), (xo, .inr (6, [.ref al, .int 0, .int 0, .int 0, x4, x5, .ref b1, x7])), (al, .inr (4, [.int mc, .ref (zk 0), .int 0]))]) (w1 := [(mo, .inr (9, [.int 1, .ref am, .int 0, .int 0, .int 0])), (am, .inr (4, [.int mm, .ref (zk 0), .int 0]))]) hP hD [1, 2] [0, 3, 4] rfl rfl (by decide) (by decide) hk1 hFc hP1 hD1
  clear hPc hDc hFc hDv hpre hP hD hP1 hK1 hD1
  obtain ⟨hP, hD⟩ := hPD9
  replace hz : s.heap.size + 0 ≤ H11.size := by omega
  clear hz2
  replace hP : va_P (dC, dI) vwCl [(ou, .inr (7, [.long 0, .null])), (xo, .inr (6, [.ref al, .int 0, .int 0, .int 0, x4, x5, .ref b1, x7])), (al, .inr (4, [.int mc, .ref (zk 0), .int 0])), (mo, .inr (9, [.int 1, .ref am, .int 0, .int 0, .int 0])), (am, .inr (4, [.int mm, .ref (zk 0), .int 0]))] H11 := hP
  replace hD : va_D A [(ou, .inr (7, [.long 0, .null])), (xo, .inr (6, [.ref al, .int 0, .int 0, .int 0, x4, x5, .ref b1, x7])), (al, .inr (4, [.int mc, .ref (zk 0), .int 0])), (mo, .inr (9, [.int 1, .ref am, .int 0, .int 0, .int 0])), (am, .inr (4, [.int mm, .ref (zk 0), .int 0]))] := hD
  refine W.widen (k := 18) (n := 85) (by omega) (by omega) ?_
  refine lv_istore (lv' := [(6, .int r12), (5, .int 1), (4, .int 0), (3, .ref ou), (2, .ref mo), (1, .ref xo), (0, .ref b)]) hx hb dL_law_2024 hl (by decide) rfl (fun ls hl => ?_)
  refine lv_aload_n hx hb dL_law_2026 rfl (lv_at hl 4 rfl) ?_
  have hPc := hP.sub (ws' := [(mo, .inr (9, [.int 1, .ref am, .int 0, .int 0, .int 0]))]) [3] rfl
  have hDc := hD.sub (ws' := [(mo, .inr (9, [.int 1, .ref am, .int 0, .int 0, .int 0]))]) [3] (by decide) rfl
  have hFc := va_free (wc := [(mo, .inr (9, [.int 1, .ref am, .int 0, .int 0, .int 0]))]) hD hS hA [3] rfl
  have hDv := hDc.self (sz := H11.size)
  have hpre := zpre (xs' := []) (av := [.ref mo]) hPc hK (hDc.weaken (fun _ _ _ h => h)) hZ hS hFc (fun r hr => by cases hr)
  refine va_calli (va_runV (As := []) (rest := []) ⟨hx, hb, hml, hown, hts⟩ (k_thz l dC dI cI cB cR cO zk mo am (.int 0) (.int 0) (.int 0) H11.size ) (cwV 0 hts gL_law_X4_thrown rfl rfl rfl (by decide +kernel) ⟨Nat.le_of_ble_eq_true rfl, Nat.le_of_ble_eq_true rfl⟩) ⟨zblind, (zrecv_9 hK hPc (q0 := 0) rfl), hpre⟩ rfl rfl hl.1 rfl (lv_room (Nat.le_of_ble_eq_true rfl)) dL_law_2027 ⟨Nat.le_of_ble_eq_true rfl, Nat.le_of_ble_eq_true rfl⟩) hS (fun q _ h => hFc q h) hFc (fun r14 u t H13 locs ht hvm hw hB hz1 hk1 hS => ?_)
  obtain rfl : 1 = r14 := (show r14 = 1 from hw).symm
  obtain ⟨hP1, hK1, hD1, hz2⟩ := hB
  rw [ht] at hP1 hz2
  have hPD9 := va_join (wr := [(ou, .inr (7, [.long 0, .null])), (xo, .inr (6, [.ref al, .int 0, .int 0, .int 0, x4, x5, .ref b1, x7])), (al, .inr (4, [.int mc, .ref (zk 0), .int 0])), (am, .inr (4, [.int mm, .ref (zk 0), .int 0]))]) (w1 := [(mo, .inr (9, [.int 1, .ref am, .int 0, .int 0, .int 0]))]) hP hD [3] [0, 1, 2, 4] rfl rfl (by decide) (by decide) hk1 hFc hP1 hD1
  clear hPc hDc hFc hDv hpre hP hD hP1 hK1 hD1
  obtain ⟨hP, hD⟩ := hPD9
  replace hz : s.heap.size + 0 ≤ H13.size := by omega
  clear hz2
  replace hP : va_P (dC, dI) vwCl [(ou, .inr (7, [.long 0, .null])), (xo, .inr (6, [.ref al, .int 0, .int 0, .int 0, x4, x5, .ref b1, x7])), (al, .inr (4, [.int mc, .ref (zk 0), .int 0])), (am, .inr (4, [.int mm, .ref (zk 0), .int 0])), (mo, .inr (9, [.int 1, .ref am, .int 0, .int 0, .int 0]))] H13 := hP
  replace hD : va_D A [(ou, .inr (7, [.long 0, .null])), (xo, .inr (6, [.ref al, .int 0, .int 0, .int 0, x4, x5, .ref b1, x7])), (al, .inr (4, [.int mc, .ref (zk 0), .int 0])), (am, .inr (4, [.int mm, .ref (zk 0), .int 0])), (mo, .inr (9, [.int 1, .ref am, .int 0, .int 0, .int 0]))] := hD
  refine W.widen (k := 18) (n := 85) (by omega) (by omega) ?_
  refine lv_iload hx hb dL_law_2030 (lv_at hl 1 rfl) ?_
  refine lv_icmp_eq (tgt := 2037) hx hb dL_law_2032 (by decide) (fun c9 => ?_) (fun c9 => ?_)
  rotate_left
  · exact absurd (by decide) c9
  refine lv_iload hx hb dL_law_2037 (lv_at hl 1 rfl) ?_
  refine lv_if_ne (tgt := 2055) hx hb dL_law_2039 (by decide) (fun c9 => ?_) (fun c9 => ?_)
  rotate_left
  · exact absurd c9 (by decide)
  refine lv_goto (tgt := 2155) hx hb dL_law_2055 (by decide) ?_
  rw [hAd] at hS
  exact zl_tail l dC dI cI cB cR cO zk b xs C1 hZ0 hK hS (Nat.le_of_ble_eq_true rfl) (Nat.le_of_ble_eq_true rfl) ls (lv_sub hl [6, 2] rfl)

set_option maxHeartbeats 4000000 in
set_option maxRecDepth 100000 in
theorem zl_a_knock (l : Launch) (dC : Nat → ClassId) (dI : Nat → Nat → Nat) (cI cB cR cO : ClassId) (zk : Nat → Nat) {p : Program} {e : Env} {s : State} {mY : MethodId} {below : List Frame} {meth : Method} {c : Code} (b : Nat) (xs : Nat → Int32) (hfl : l.stackTraces = false) (C0 : zl_At p s mY meth c b 5 xs) (hZ0 : zR zk [] (fun q => s.heap.size ≤ q) s s.heap) (hK : va_K (dC, dI) vwCl (zT cI cB cR cO) s) (ou xo al b1 : Nat) (x4 x5 x7 : Value) (mc : Int32) (mo am : Nat) (mm : Int32)    (H : Heap) (locs : List Loc) (hP : va_P (dC, dI) vwCl [(ou, .inr (7, [.long 0, .null])), (xo, .inr (6, [.ref al, .int 0, .int 0, .int 0, x4, x5, .ref b1, x7])), (al, .inr (4, [.int mc, .ref (zk 0), .int 0])), (mo, .inr (9, [.int 0, .ref am, .int 0, .int 0, .int 0])), (am, .inr (4, [.int mm, .ref (zk 0), .int 0]))] H) (hD : va_D (fun q => s.heap.size ≤ q) [(ou, .inr (7, [.long 0, .null])), (xo, .inr (6, [.ref al, .int 0, .int 0, .int 0, x4, x5, .ref b1, x7])), (al, .inr (4, [.int mc, .ref (zk 0), .int 0])), (mo, .inr (9, [.int 0, .ref am, .int 0, .int 0, .int 0])), (am, .inr (4, [.int mm, .ref (zk 0), .int 0]))]) (hS : va_S (fun q => s.heap.size ≤ q) s.heap H locs) (ls : Array Slot) (hl : lv_has ls 7 [(4, .int 0), (3, .ref ou), (2, .ref mo), (1, .ref xo), (0, .ref b)]) : W p l e room_1 s mY #[Value.ref b] below meth c H locs 17 79 (lw_Z below #[Value.ref b] s) (F0 mY 2058 ls []) := by
  have C1 := C0
  obtain ⟨hx, hb, hr, hml, hown, hts0, hX, hbl, hlocks, hNI⟩ := C0
  have hts := fun (w : Cond) (h : w ∈ wsL_law) => hts0 w (wsL_law_in w h)
  obtain ⟨A, hAd⟩ : ∃ A : Nat → Prop, A = fun q => s.heap.size ≤ q := ⟨_, rfl⟩
  have hA : ∀ q : Nat, s.heap.size ≤ q → A q := fun q h => by rw [hAd]; exact h
  have hAf : ∀ q : Nat, A q → s.heap.size ≤ q := fun q h => by rw [hAd] at h; exact h
  have hbA : ¬ A b := fun h => absurd (hAf b h) (Nat.not_le.mpr hbl)
  have hZ : zR zk [] A s s.heap := by rw [hAd]; exact hZ0
  rw [← hAd] at hD hS
  replace hP : va_P (dC, dI) vwCl [(ou, .inr (7, [.long 0, .null])), (xo, .inr (6, [.ref al, .int 0, .int 0, .int 0, x4, x5, .ref b1, x7])), (al, .inr (4, [.int mc, .ref (zk 0), .int 0])), (mo, .inr (9, [.int 0, .ref am, .int 0, .int 0, .int 0])), (am, .inr (4, [.int mm, .ref (zk 0), .int 0]))] H := hP
  replace hD : va_D A [(ou, .inr (7, [.long 0, .null])), (xo, .inr (6, [.ref al, .int 0, .int 0, .int 0, x4, x5, .ref b1, x7])), (al, .inr (4, [.int mc, .ref (zk 0), .int 0])), (mo, .inr (9, [.int 0, .ref am, .int 0, .int 0, .int 0])), (am, .inr (4, [.int mm, .ref (zk 0), .int 0]))] := hD
  have hz : s.heap.size + 0 ≤ H.size := hS.1
  refine lv_aload_n hx hb dL_law_2058 rfl (lv_at hl 3 rfl) ?_
  have hPc := hP.sub (ws' := [(xo, .inr (6, [.ref al, .int 0, .int 0, .int 0, x4, x5, .ref b1, x7])), (al, .inr (4, [.int mc, .ref (zk 0), .int 0]))]) [1, 2] rfl
  have hDc := hD.sub (ws' := [(xo, .inr (6, [.ref al, .int 0, .int 0, .int 0, x4, x5, .ref b1, x7])), (al, .inr (4, [.int mc, .ref (zk 0), .int 0]))]) [1, 2] (by decide) rfl
  have hFc := va_free (wc := [(xo, .inr (6, [.ref al, .int 0, .int 0, .int 0, x4, x5, .ref b1, x7])), (al, .inr (4, [.int mc, .ref (zk 0), .int 0]))]) hD hS hA [1, 2] rfl
  have hDv := hDc.self (sz := H.size)
  have hpre := zpre (xs' := []) (av := [.ref xo]) hPc hK (hDc.weaken (fun _ _ _ h => h)) hZ hS hFc (fun r hr => by cases hr)
  refine va_calli (va_runV (As := []) (rest := []) ⟨hx, hb, hml, hown, hts⟩ (k_knockX l dC dI cI cB cR cO zk xo al b1 x4 x5 x7 mc H.size ) (cwV 0 hts gL_law_X1_knock rfl rfl rfl (by decide +kernel) ⟨Nat.le_of_ble_eq_true rfl, Nat.le_of_ble_eq_true rfl⟩) ⟨zblind, (zrecv_6 hK hPc (q0 := 0) rfl), hpre⟩ rfl rfl hl.1 rfl (lv_room (Nat.le_of_ble_eq_true rfl)) dL_law_2059 ⟨Nat.le_of_ble_eq_true rfl, Nat.le_of_ble_eq_true rfl⟩) hS (fun q _ h => hFc q h) hFc (fun r2 u t H1 locs ht hvm hw hB hz1 hk1 hS => ?_)
  obtain rfl : 1 = r2 := (show r2 = 1 from hw).symm
  obtain ⟨hP1, hK1, hD1, hz2⟩ := hB
  rw [ht] at hP1 hz2
  have hPD9 := va_join (wr := [(ou, .inr (7, [.long 0, .null])), (mo, .inr (9, [.int 0, .ref am, .int 0, .int 0, .int 0])), (am, .inr (4, [.int mm, .ref (zk 0), .int 0]))]) (w1 := [(xo, .inr (6, [.ref al, .int 0, .int 0, .int 1, x4, x5, .ref b1, x7])), (al, .inr (4, [.int mc, .ref (zk 0), .int 0]))]) hP hD [1, 2] [0, 3, 4] rfl rfl (by decide) (by decide) hk1 hFc hP1 hD1
  clear hPc hDc hFc hDv hpre hP hD hP1 hK1 hD1
  obtain ⟨hP, hD⟩ := hPD9
  replace hz : s.heap.size + 0 ≤ H1.size := by omega
  clear hz2
  replace hP : va_P (dC, dI) vwCl [(ou, .inr (7, [.long 0, .null])), (mo, .inr (9, [.int 0, .ref am, .int 0, .int 0, .int 0])), (am, .inr (4, [.int mm, .ref (zk 0), .int 0])), (xo, .inr (6, [.ref al, .int 0, .int 0, .int 1, x4, x5, .ref b1, x7])), (al, .inr (4, [.int mc, .ref (zk 0), .int 0]))] H1 := hP
  replace hD : va_D A [(ou, .inr (7, [.long 0, .null])), (mo, .inr (9, [.int 0, .ref am, .int 0, .int 0, .int 0])), (am, .inr (4, [.int mm, .ref (zk 0), .int 0])), (xo, .inr (6, [.ref al, .int 0, .int 0, .int 1, x4, x5, .ref b1, x7])), (al, .inr (4, [.int mc, .ref (zk 0), .int 0]))] := hD
  refine W.widen (k := 17) (n := 79) (by omega) (by omega) ?_
  refine lv_aload_n hx hb dL_law_2062 rfl (lv_at hl 2 rfl) ?_
  have hPc := hP.sub (ws' := [(mo, .inr (9, [.int 0, .ref am, .int 0, .int 0, .int 0])), (am, .inr (4, [.int mm, .ref (zk 0), .int 0]))]) [1, 2] rfl
  have hDc := hD.sub (ws' := [(mo, .inr (9, [.int 0, .ref am, .int 0, .int 0, .int 0])), (am, .inr (4, [.int mm, .ref (zk 0), .int 0]))]) [1, 2] (by decide) rfl
  have hFc := va_free (wc := [(mo, .inr (9, [.int 0, .ref am, .int 0, .int 0, .int 0])), (am, .inr (4, [.int mm, .ref (zk 0), .int 0]))]) hD hS hA [1, 2] rfl
  have hDv := hDc.self (sz := H1.size)
  have hpre := zpre (xs' := []) (av := [.ref mo]) hPc hK (hDc.weaken (fun _ _ _ h => h)) hZ hS hFc (fun r hr => by cases hr)
  refine va_calli (va_runV (As := []) (rest := [.int 1]) ⟨hx, hb, hml, hown, hts⟩ (k_knockM l dC dI cI cB cR cO zk mo am (.int 0) mm H1.size ) (cwV 0 hts gL_law_X4_knock rfl rfl rfl (by decide +kernel) ⟨Nat.le_of_ble_eq_true rfl, Nat.le_of_ble_eq_true rfl⟩) ⟨zblind, (zrecv_9 hK hPc (q0 := 0) rfl), hpre⟩ rfl rfl hl.1 rfl (lv_room (Nat.le_of_ble_eq_true rfl)) dL_law_2063 ⟨Nat.le_of_ble_eq_true rfl, Nat.le_of_ble_eq_true rfl⟩) hS (fun q _ h => hFc q h) hFc (fun r4 u t H3 locs ht hvm hw hB hz1 hk1 hS => ?_)
  obtain rfl : 1 = r4 := (show r4 = 1 from hw).symm
  obtain ⟨hP1, hK1, hD1, hz2⟩ := hB
  rw [ht] at hP1 hz2
  have hPD9 := va_join (wr := [(ou, .inr (7, [.long 0, .null])), (xo, .inr (6, [.ref al, .int 0, .int 0, .int 1, x4, x5, .ref b1, x7])), (al, .inr (4, [.int mc, .ref (zk 0), .int 0]))]) (w1 := [(mo, .inr (9, [.int 0, .ref am, .int 0, .int 0, .int 1])), (am, .inr (4, [.int mm, .ref (zk 0), .int 0]))]) hP hD [1, 2] [0, 3, 4] rfl rfl (by decide) (by decide) hk1 hFc hP1 hD1
  clear hPc hDc hFc hDv hpre hP hD hP1 hK1 hD1
  obtain ⟨hP, hD⟩ := hPD9
  replace hz : s.heap.size + 0 ≤ H3.size := by omega
  clear hz2
  replace hP : va_P (dC, dI) vwCl [(ou, .inr (7, [.long 0, .null])), (xo, .inr (6, [.ref al, .int 0, .int 0, .int 1, x4, x5, .ref b1, x7])), (al, .inr (4, [.int mc, .ref (zk 0), .int 0])), (mo, .inr (9, [.int 0, .ref am, .int 0, .int 0, .int 1])), (am, .inr (4, [.int mm, .ref (zk 0), .int 0]))] H3 := hP
  replace hD : va_D A [(ou, .inr (7, [.long 0, .null])), (xo, .inr (6, [.ref al, .int 0, .int 0, .int 1, x4, x5, .ref b1, x7])), (al, .inr (4, [.int mc, .ref (zk 0), .int 0])), (mo, .inr (9, [.int 0, .ref am, .int 0, .int 0, .int 1])), (am, .inr (4, [.int mm, .ref (zk 0), .int 0]))] := hD
  refine W.widen (k := 17) (n := 79) (by omega) (by omega) ?_
  refine lv_icmp_eq (tgt := 2155) hx hb dL_law_2066 (by decide) (fun c9 => ?_) (fun c9 => ?_)
  rotate_left
  · exact absurd (by decide) c9
  rw [hAd] at hS
  exact zl_tail l dC dI cI cB cR cO zk b xs C1 hZ0 hK hS (Nat.le_of_ble_eq_true rfl) (Nat.le_of_ble_eq_true rfl) ls (lv_sub hl [4, 0] rfl)

set_option maxHeartbeats 4000000 in
set_option maxRecDepth 100000 in
theorem zl_a_house0 (l : Launch) (dC : Nat → ClassId) (dI : Nat → Nat → Nat) (cI cB cR cO : ClassId) (zk : Nat → Nat) {p : Program} {e : Env} {s : State} {mY : MethodId} {below : List Frame} {meth : Method} {c : Code} (b : Nat) (xs : Nat → Int32) (hfl : l.stackTraces = false) (C0 : zl_At p s mY meth c b 5 xs) (hZ0 : zR zk [] (fun q => s.heap.size ≤ q) s s.heap) (hK : va_K (dC, dI) vwCl (zT cI cB cR cO) s) (ou xo al b1 : Nat) (x4 x5 x7 : Value) (mc : Int32) (mo am : Nat) (mm : Int32)  (h1 : xs 1 = 0)  (H : Heap) (locs : List Loc) (hP : va_P (dC, dI) vwCl [(ou, .inr (7, [.long 0, .null])), (xo, .inr (6, [.ref al, .int 0, .int 0, .int 0, x4, x5, .ref b1, x7])), (al, .inr (4, [.int mc, .ref (zk 0), .int 0])), (mo, .inr (9, [.int 0, .ref am, .int 0, .int 0, .int 0])), (am, .inr (4, [.int mm, .ref (zk 0), .int 0]))] H) (hD : va_D (fun q => s.heap.size ≤ q) [(ou, .inr (7, [.long 0, .null])), (xo, .inr (6, [.ref al, .int 0, .int 0, .int 0, x4, x5, .ref b1, x7])), (al, .inr (4, [.int mc, .ref (zk 0), .int 0])), (mo, .inr (9, [.int 0, .ref am, .int 0, .int 0, .int 0])), (am, .inr (4, [.int mm, .ref (zk 0), .int 0]))]) (hS : va_S (fun q => s.heap.size ≤ q) s.heap H locs) (ls : Array Slot) (hl : lv_has ls 7 [(4, .int 0), (3, .ref ou), (2, .ref mo), (1, .ref xo), (0, .ref b)]) : W p l e room_1 s mY #[Value.ref b] below meth c H locs 17 79 (lw_Z below #[Value.ref b] s) (F0 mY 2071 ls []) := by
  have C1 := C0
  obtain ⟨hx, hb, hr, hml, hown, hts0, hX, hbl, hlocks, hNI⟩ := C0
  have hts := fun (w : Cond) (h : w ∈ wsL_law) => hts0 w (wsL_law_in w h)
  obtain ⟨A, hAd⟩ : ∃ A : Nat → Prop, A = fun q => s.heap.size ≤ q := ⟨_, rfl⟩
  have hA : ∀ q : Nat, s.heap.size ≤ q → A q := fun q h => by rw [hAd]; exact h
  have hAf : ∀ q : Nat, A q → s.heap.size ≤ q := fun q h => by rw [hAd] at h; exact h
  have hbA : ¬ A b := fun h => absurd (hAf b h) (Nat.not_le.mpr hbl)
  have hZ : zR zk [] A s s.heap := by rw [hAd]; exact hZ0
  rw [← hAd] at hD hS
  replace hP : va_P (dC, dI) vwCl [(ou, .inr (7, [.long 0, .null])), (xo, .inr (6, [.ref al, .int 0, .int 0, .int 0, x4, x5, .ref b1, x7])), (al, .inr (4, [.int mc, .ref (zk 0), .int 0])), (mo, .inr (9, [.int 0, .ref am, .int 0, .int 0, .int 0])), (am, .inr (4, [.int mm, .ref (zk 0), .int 0]))] H := hP
  replace hD : va_D A [(ou, .inr (7, [.long 0, .null])), (xo, .inr (6, [.ref al, .int 0, .int 0, .int 0, x4, x5, .ref b1, x7])), (al, .inr (4, [.int mc, .ref (zk 0), .int 0])), (mo, .inr (9, [.int 0, .ref am, .int 0, .int 0, .int 0])), (am, .inr (4, [.int mm, .ref (zk 0), .int 0]))] := hD
  have hz : s.heap.size + 0 ≤ H.size := hS.1
  refine lv_aload_n hx hb dL_law_2071 rfl (lv_at hl 3 rfl) ?_
  refine lv_aload_n hx hb dL_law_2072 rfl (lv_at hl 4 rfl) ?_
  refine lv_iload hx hb dL_law_2073 (lv_at hl 0 rfl) ?_
  refine lv_iconst (v := 1) hx hb dL_law_2075 (by decide) ?_
  refine lv_iadd hx hb dL_law_2076 ?_
  refine lv_topi (fun v1 ev1 => ?_)
  obtain rfl : v1 = 1 := ev1.trans (by decide)
  refine va_sld hx hb hX hbl hbA hS (by unfold vp_in; decide) dL_law_2077 ?_
  refine lv_topi (fun v2 ev2 => ?_)
  have e9 : v2 = 0 := ev2.trans (show xs ((1 : Int32).toNatClampNeg) = 0 from h1)
  clear ev2
  subst v2
  refine lv_aload_n hx hb dL_law_2078 rfl (lv_at hl 1 rfl) ?_
  have hPc := hP.sub (ws' := [(ou, .inr (7, [.long 0, .null])), (xo, .inr (6, [.ref al, .int 0, .int 0, .int 0, x4, x5, .ref b1, x7])), (al, .inr (4, [.int mc, .ref (zk 0), .int 0]))]) [0, 1, 2] rfl
  have hDc := hD.sub (ws' := [(ou, .inr (7, [.long 0, .null])), (xo, .inr (6, [.ref al, .int 0, .int 0, .int 0, x4, x5, .ref b1, x7])), (al, .inr (4, [.int mc, .ref (zk 0), .int 0]))]) [0, 1, 2] (by decide) rfl
  have hFc := va_free (wc := [(ou, .inr (7, [.long 0, .null])), (xo, .inr (6, [.ref al, .int 0, .int 0, .int 0, x4, x5, .ref b1, x7])), (al, .inr (4, [.int mc, .ref (zk 0), .int 0]))]) hD hS hA [0, 1, 2] rfl
  have hDv := hDc.self (sz := H.size)
  have hpre := zpre (xs' := []) (av := [.ref xo, .int 0, .ref ou]) hPc hK (hDc.weaken (fun _ _ _ h => h)) hZ hS hFc (fun r hr => by cases hr)
  refine va_calli (vx_runSW (As := [.ref xo, .int 0, .ref ou]) (rest := []) ⟨hx, hb, hml, hown, hts⟩ (k_house0H l dC dI cI cB cR cO zk ou (.long 0) .null xo al b1 x4 x5 x7 mc H.size ) (vx_cwSW 3 hts gL_law_L_house rfl rfl rfl (by decide +kernel) ⟨Nat.le_of_ble_eq_true rfl, Nat.le_of_ble_eq_true rfl⟩) ⟨zblind, hpre⟩ rfl rfl hl.1 rfl (lv_room (Nat.le_of_ble_eq_true rfl)) dL_law_2079 ⟨Nat.le_of_ble_eq_true rfl, Nat.le_of_ble_eq_true rfl⟩) hS (fun q _ h => hFc q h) hFc (fun r4 u t H3 locs ht hvm hw hB hz1 hk1 hS => ?_)
  obtain rfl : 0 = r4 := (show r4 = 0 from hw).symm
  obtain ⟨hP1, hK1, hD1, hz2⟩ := hB
  rw [ht] at hP1 hz2
  have hPD9 := va_join (wr := [(mo, .inr (9, [.int 0, .ref am, .int 0, .int 0, .int 0])), (am, .inr (4, [.int mm, .ref (zk 0), .int 0]))]) (w1 := [(ou, .inr (7, [.long 0, .null])), (xo, .inr (6, [.ref al, .int 0, .int 0, .int 0, x4, x5, .ref b1, x7])), (al, .inr (4, [.int mc, .ref (zk 0), .int 0]))]) hP hD [0, 1, 2] [3, 4] rfl rfl (by decide) (by decide) hk1 hFc hP1 hD1
  clear hPc hDc hFc hDv hpre hP hD hP1 hK1 hD1
  obtain ⟨hP, hD⟩ := hPD9
  replace hz : s.heap.size + 0 ≤ H3.size := by omega
  clear hz2
  replace hP : va_P (dC, dI) vwCl [(mo, .inr (9, [.int 0, .ref am, .int 0, .int 0, .int 0])), (am, .inr (4, [.int mm, .ref (zk 0), .int 0])), (ou, .inr (7, [.long 0, .null])), (xo, .inr (6, [.ref al, .int 0, .int 0, .int 0, x4, x5, .ref b1, x7])), (al, .inr (4, [.int mc, .ref (zk 0), .int 0]))] H3 := hP
  replace hD : va_D A [(mo, .inr (9, [.int 0, .ref am, .int 0, .int 0, .int 0])), (am, .inr (4, [.int mm, .ref (zk 0), .int 0])), (ou, .inr (7, [.long 0, .null])), (xo, .inr (6, [.ref al, .int 0, .int 0, .int 0, x4, x5, .ref b1, x7])), (al, .inr (4, [.int mc, .ref (zk 0), .int 0]))] := hD
  refine W.widen (k := 17) (n := 79) (by omega) (by omega) ?_
  refine lv_istore (lv' := [(5, .int 0), (4, .int 0), (3, .ref ou), (2, .ref mo), (1, .ref xo), (0, .ref b)]) hx hb dL_law_2082 hl (by decide) rfl (fun ls hl => ?_)
  refine lv_aload_n hx hb dL_law_2084 rfl (lv_at hl 3 rfl) ?_
  refine lv_aload_n hx hb dL_law_2085 rfl (lv_at hl 5 rfl) ?_
  refine lv_iload hx hb dL_law_2086 (lv_at hl 1 rfl) ?_
  refine lv_iconst (v := 1) hx hb dL_law_2088 (by decide) ?_
  refine lv_iadd hx hb dL_law_2089 ?_
  refine lv_topi (fun v5 ev5 => ?_)
  obtain rfl : v5 = 1 := ev5.trans (by decide)
  refine va_sld hx hb hX hbl hbA hS (by unfold vp_in; decide) dL_law_2090 ?_
  refine lv_topi (fun v6 ev6 => ?_)
  have e9 : v6 = 0 := ev6.trans (show xs ((1 : Int32).toNatClampNeg) = 0 from h1)
  clear ev6
  subst v6
  have hPc := hP.sub (ws' := [(mo, .inr (9, [.int 0, .ref am, .int 0, .int 0, .int 0])), (am, .inr (4, [.int mm, .ref (zk 0), .int 0]))]) [0, 1] rfl
  have hDc := hD.sub (ws' := [(mo, .inr (9, [.int 0, .ref am, .int 0, .int 0, .int 0])), (am, .inr (4, [.int mm, .ref (zk 0), .int 0]))]) [0, 1] (by decide) rfl
  have hFc := va_free (wc := [(mo, .inr (9, [.int 0, .ref am, .int 0, .int 0, .int 0])), (am, .inr (4, [.int mm, .ref (zk 0), .int 0]))]) hD hS hA [0, 1] rfl
  have hDv := hDc.self (sz := H3.size)
  have hpre := zpre (xs' := []) (av := [.ref mo, .int 0]) hPc hK (hDc.weaken (fun _ _ _ h => h)) hZ hS hFc (fun r hr => by cases hr)
  refine va_calli (va_runV (As := [.int 0]) (rest := []) ⟨hx, hb, hml, hown, hts⟩ (k_house0M l dC dI cI cB cR cO zk mo am (.int 0) mm  H3.size ) (cwV 1 hts gL_law_X4_house rfl rfl rfl (by decide +kernel) ⟨Nat.le_of_ble_eq_true rfl, Nat.le_of_ble_eq_true rfl⟩) ⟨zblind, (zrecv_9 hK hPc (q0 := 0) rfl), hpre⟩ rfl rfl hl.1 rfl (lv_room (Nat.le_of_ble_eq_true rfl)) dL_law_2091 ⟨Nat.le_of_ble_eq_true rfl, Nat.le_of_ble_eq_true rfl⟩) hS (fun q _ h => hFc q h) hFc (fun r8 u t H7 locs ht hvm hw hB hz1 hk1 hS => ?_)
  obtain rfl : 0 = r8 := (show r8 = 0 from hw).symm
  obtain ⟨hP1, hK1, hD1, hz2⟩ := hB
  rw [ht] at hP1 hz2
  have hPD9 := va_join (wr := [(ou, .inr (7, [.long 0, .null])), (xo, .inr (6, [.ref al, .int 0, .int 0, .int 0, x4, x5, .ref b1, x7])), (al, .inr (4, [.int mc, .ref (zk 0), .int 0]))]) (w1 := [(mo, .inr (9, [.int 0, .ref am, .int 0, .int 0, .int 0])), (am, .inr (4, [.int mm, .ref (zk 0), .int 0]))]) hP hD [0, 1] [2, 3, 4] rfl rfl (by decide) (by decide) hk1 hFc hP1 hD1
  clear hPc hDc hFc hDv hpre hP hD hP1 hK1 hD1
  obtain ⟨hP, hD⟩ := hPD9
  replace hz : s.heap.size + 1 ≤ H7.size := by omega
  clear hz2
  replace hP : va_P (dC, dI) vwCl [(ou, .inr (7, [.long 0, .null])), (xo, .inr (6, [.ref al, .int 0, .int 0, .int 0, x4, x5, .ref b1, x7])), (al, .inr (4, [.int mc, .ref (zk 0), .int 0])), (mo, .inr (9, [.int 0, .ref am, .int 0, .int 0, .int 0])), (am, .inr (4, [.int mm, .ref (zk 0), .int 0]))] H7 := hP
  replace hD : va_D A [(ou, .inr (7, [.long 0, .null])), (xo, .inr (6, [.ref al, .int 0, .int 0, .int 0, x4, x5, .ref b1, x7])), (al, .inr (4, [.int mc, .ref (zk 0), .int 0])), (mo, .inr (9, [.int 0, .ref am, .int 0, .int 0, .int 0])), (am, .inr (4, [.int mm, .ref (zk 0), .int 0]))] := hD
  refine W.widen (k := 18) (n := 85) (by omega) (by omega) ?_
  refine lv_istore (lv' := [(6, .int 0), (5, .int 0), (4, .int 0), (3, .ref ou), (2, .ref mo), (1, .ref xo), (0, .ref b)]) hx hb dL_law_2094 hl (by decide) rfl (fun ls hl => ?_)
  refine lv_aload_n hx hb dL_law_2096 rfl (lv_at hl 4 rfl) ?_
  have hPc := hP.sub (ws' := [(mo, .inr (9, [.int 0, .ref am, .int 0, .int 0, .int 0]))]) [3] rfl
  have hDc := hD.sub (ws' := [(mo, .inr (9, [.int 0, .ref am, .int 0, .int 0, .int 0]))]) [3] (by decide) rfl
  have hFc := va_free (wc := [(mo, .inr (9, [.int 0, .ref am, .int 0, .int 0, .int 0]))]) hD hS hA [3] rfl
  have hDv := hDc.self (sz := H7.size)
  have hpre := zpre (xs' := []) (av := [.ref mo]) hPc hK (hDc.weaken (fun _ _ _ h => h)) hZ hS hFc (fun r hr => by cases hr)
  refine va_calli (va_runV (As := []) (rest := []) ⟨hx, hb, hml, hown, hts⟩ (k_th0 l dC dI cI cB cR cO zk mo am H7.size ) (cwV 0 hts gL_law_X4_thrown rfl rfl rfl (by decide +kernel) ⟨Nat.le_of_ble_eq_true rfl, Nat.le_of_ble_eq_true rfl⟩) ⟨zblind, (zrecv_9 hK hPc (q0 := 0) rfl), hpre⟩ rfl rfl hl.1 rfl (lv_room (Nat.le_of_ble_eq_true rfl)) dL_law_2097 ⟨Nat.le_of_ble_eq_true rfl, Nat.le_of_ble_eq_true rfl⟩) hS (fun q _ h => hFc q h) hFc (fun r10 u t H9 locs ht hvm hw hB hz1 hk1 hS => ?_)
  obtain rfl : 0 = r10 := (show r10 = 0 from hw).symm
  obtain ⟨hP1, hK1, hD1, hz2⟩ := hB
  rw [ht] at hP1 hz2
  have hPD9 := va_join (wr := [(ou, .inr (7, [.long 0, .null])), (xo, .inr (6, [.ref al, .int 0, .int 0, .int 0, x4, x5, .ref b1, x7])), (al, .inr (4, [.int mc, .ref (zk 0), .int 0])), (am, .inr (4, [.int mm, .ref (zk 0), .int 0]))]) (w1 := [(mo, .inr (9, [.int 0, .ref am, .int 0, .int 0, .int 0]))]) hP hD [3] [0, 1, 2, 4] rfl rfl (by decide) (by decide) hk1 hFc hP1 hD1
  clear hPc hDc hFc hDv hpre hP hD hP1 hK1 hD1
  obtain ⟨hP, hD⟩ := hPD9
  replace hz : s.heap.size + 1 ≤ H9.size := by omega
  clear hz2
  replace hP : va_P (dC, dI) vwCl [(ou, .inr (7, [.long 0, .null])), (xo, .inr (6, [.ref al, .int 0, .int 0, .int 0, x4, x5, .ref b1, x7])), (al, .inr (4, [.int mc, .ref (zk 0), .int 0])), (am, .inr (4, [.int mm, .ref (zk 0), .int 0])), (mo, .inr (9, [.int 0, .ref am, .int 0, .int 0, .int 0]))] H9 := hP
  replace hD : va_D A [(ou, .inr (7, [.long 0, .null])), (xo, .inr (6, [.ref al, .int 0, .int 0, .int 0, x4, x5, .ref b1, x7])), (al, .inr (4, [.int mc, .ref (zk 0), .int 0])), (am, .inr (4, [.int mm, .ref (zk 0), .int 0])), (mo, .inr (9, [.int 0, .ref am, .int 0, .int 0, .int 0]))] := hD
  refine W.widen (k := 18) (n := 85) (by omega) (by omega) ?_
  refine lv_iload hx hb dL_law_2100 (lv_at hl 1 rfl) ?_
  refine lv_icmp_eq (tgt := 2107) hx hb dL_law_2102 (by decide) (fun c9 => ?_) (fun c9 => ?_)
  rotate_left
  · exact absurd (by decide) c9
  refine lv_iload hx hb dL_law_2107 (lv_at hl 1 rfl) ?_
  refine lv_if_ne (tgt := 2125) hx hb dL_law_2109 (by decide) (fun c9 => ?_) (fun c9 => ?_)
  · exact absurd (by decide) c9
  refine lv_aload_n hx hb dL_law_2112 rfl (lv_at hl 3 rfl) ?_
  refine va_getN (D := (dC, dI)) (ci := 7) (v := .long 0) (C := RX2) (T := TX2) (N := 2) hx hb hts inlX2 hown hK hP 0 rfl rfl 0 (by decide) (zn6 hZ) (fun _ h9 => h9) rfl dL_law_2113 ?_
  refine lv_iload hx hb dL_law_2116 (lv_at hl 0 rfl) ?_
  refine lv_i2l (v := 0) hx hb dL_law_2118 (by decide) ?_
  refine W.lcmp hx hb dL_law_2119 ?_
  refine lv_topi (fun v11 ev11 => ?_)
  obtain rfl : v11 = 0 := ev11.trans (by decide)
  refine lv_if_eq (tgt := 2125) hx hb dL_law_2120 (by decide) (fun c9 => ?_) (fun c9 => ?_)
  rotate_left
  · exact absurd (by decide) c9
  refine lv_goto (tgt := 2155) hx hb dL_law_2125 (by decide) ?_
  rw [hAd] at hS
  exact zl_tail l dC dI cI cB cR cO zk b xs C1 hZ0 hK hS (Nat.le_of_ble_eq_true rfl) (Nat.le_of_ble_eq_true rfl) ls (lv_sub hl [6, 2] rfl)

set_option maxHeartbeats 4000000 in
set_option maxRecDepth 100000 in
theorem zl_a_house1 (l : Launch) (dC : Nat → ClassId) (dI : Nat → Nat → Nat) (cI cB cR cO : ClassId) (zk : Nat → Nat) {p : Program} {e : Env} {s : State} {mY : MethodId} {below : List Frame} {meth : Method} {c : Code} (b : Nat) (xs : Nat → Int32) (hfl : l.stackTraces = false) (C0 : zl_At p s mY meth c b 5 xs) (hZ0 : zR zk [] (fun q => s.heap.size ≤ q) s s.heap) (hK : va_K (dC, dI) vwCl (zT cI cB cR cO) s) (ou xo al b1 : Nat) (x4 x5 x7 : Value) (mc : Int32) (mo am : Nat) (mm : Int32)  (h1 : xs 1 = 1)  (H : Heap) (locs : List Loc) (hP : va_P (dC, dI) vwCl [(ou, .inr (7, [.long 0, .null])), (xo, .inr (6, [.ref al, .int 0, .int 0, .int 0, x4, x5, .ref b1, x7])), (al, .inr (4, [.int mc, .ref (zk 0), .int 0])), (mo, .inr (9, [.int 0, .ref am, .int 0, .int 0, .int 0])), (am, .inr (4, [.int mm, .ref (zk 0), .int 0]))] H) (hD : va_D (fun q => s.heap.size ≤ q) [(ou, .inr (7, [.long 0, .null])), (xo, .inr (6, [.ref al, .int 0, .int 0, .int 0, x4, x5, .ref b1, x7])), (al, .inr (4, [.int mc, .ref (zk 0), .int 0])), (mo, .inr (9, [.int 0, .ref am, .int 0, .int 0, .int 0])), (am, .inr (4, [.int mm, .ref (zk 0), .int 0]))]) (hS : va_S (fun q => s.heap.size ≤ q) s.heap H locs) (ls : Array Slot) (hl : lv_has ls 7 [(4, .int 0), (3, .ref ou), (2, .ref mo), (1, .ref xo), (0, .ref b)]) : W p l e room_1 s mY #[Value.ref b] below meth c H locs 17 79 (lw_Z below #[Value.ref b] s) (F0 mY 2071 ls []) := by
  have C1 := C0
  obtain ⟨hx, hb, hr, hml, hown, hts0, hX, hbl, hlocks, hNI⟩ := C0
  have hts := fun (w : Cond) (h : w ∈ wsL_law) => hts0 w (wsL_law_in w h)
  obtain ⟨A, hAd⟩ : ∃ A : Nat → Prop, A = fun q => s.heap.size ≤ q := ⟨_, rfl⟩
  have hA : ∀ q : Nat, s.heap.size ≤ q → A q := fun q h => by rw [hAd]; exact h
  have hAf : ∀ q : Nat, A q → s.heap.size ≤ q := fun q h => by rw [hAd] at h; exact h
  have hbA : ¬ A b := fun h => absurd (hAf b h) (Nat.not_le.mpr hbl)
  have hZ : zR zk [] A s s.heap := by rw [hAd]; exact hZ0
  rw [← hAd] at hD hS
  replace hP : va_P (dC, dI) vwCl [(ou, .inr (7, [.long 0, .null])), (xo, .inr (6, [.ref al, .int 0, .int 0, .int 0, x4, x5, .ref b1, x7])), (al, .inr (4, [.int mc, .ref (zk 0), .int 0])), (mo, .inr (9, [.int 0, .ref am, .int 0, .int 0, .int 0])), (am, .inr (4, [.int mm, .ref (zk 0), .int 0]))] H := hP
  replace hD : va_D A [(ou, .inr (7, [.long 0, .null])), (xo, .inr (6, [.ref al, .int 0, .int 0, .int 0, x4, x5, .ref b1, x7])), (al, .inr (4, [.int mc, .ref (zk 0), .int 0])), (mo, .inr (9, [.int 0, .ref am, .int 0, .int 0, .int 0])), (am, .inr (4, [.int mm, .ref (zk 0), .int 0]))] := hD
  have hz : s.heap.size + 0 ≤ H.size := hS.1
  refine lv_aload_n hx hb dL_law_2071 rfl (lv_at hl 3 rfl) ?_
  refine lv_aload_n hx hb dL_law_2072 rfl (lv_at hl 4 rfl) ?_
  refine lv_iload hx hb dL_law_2073 (lv_at hl 0 rfl) ?_
  refine lv_iconst (v := 1) hx hb dL_law_2075 (by decide) ?_
  refine lv_iadd hx hb dL_law_2076 ?_
  refine lv_topi (fun v1 ev1 => ?_)
  obtain rfl : v1 = 1 := ev1.trans (by decide)
  refine va_sld hx hb hX hbl hbA hS (by unfold vp_in; decide) dL_law_2077 ?_
  refine lv_topi (fun v2 ev2 => ?_)
  have e9 : v2 = 1 := ev2.trans (show xs ((1 : Int32).toNatClampNeg) = 1 from h1)
  clear ev2
  subst v2
  refine lv_aload_n hx hb dL_law_2078 rfl (lv_at hl 1 rfl) ?_
  have hPc := hP.sub (ws' := [(ou, .inr (7, [.long 0, .null])), (xo, .inr (6, [.ref al, .int 0, .int 0, .int 0, x4, x5, .ref b1, x7])), (al, .inr (4, [.int mc, .ref (zk 0), .int 0]))]) [0, 1, 2] rfl
  have hDc := hD.sub (ws' := [(ou, .inr (7, [.long 0, .null])), (xo, .inr (6, [.ref al, .int 0, .int 0, .int 0, x4, x5, .ref b1, x7])), (al, .inr (4, [.int mc, .ref (zk 0), .int 0]))]) [0, 1, 2] (by decide) rfl
  have hFc := va_free (wc := [(ou, .inr (7, [.long 0, .null])), (xo, .inr (6, [.ref al, .int 0, .int 0, .int 0, x4, x5, .ref b1, x7])), (al, .inr (4, [.int mc, .ref (zk 0), .int 0]))]) hD hS hA [0, 1, 2] rfl
  have hDv := hDc.self (sz := H.size)
  have hpre := zpre (xs' := []) (av := [.ref xo, .int 1, .ref ou]) hPc hK (hDc.weaken (fun _ _ _ h => h)) hZ hS hFc (fun r hr => by cases hr)
  refine va_calli (vx_runSW (As := [.ref xo, .int 1, .ref ou]) (rest := []) ⟨hx, hb, hml, hown, hts⟩ (k_house1H l dC dI cI cB cR cO zk ou (.long 0) .null xo al b1 x4 x5 x7 mc H.size ) (vx_cwSW 3 hts gL_law_L_house rfl rfl rfl (by decide +kernel) ⟨Nat.le_of_ble_eq_true rfl, Nat.le_of_ble_eq_true rfl⟩) ⟨zblind, hpre⟩ rfl rfl hl.1 rfl (lv_room (Nat.le_of_ble_eq_true rfl)) dL_law_2079 ⟨Nat.le_of_ble_eq_true rfl, Nat.le_of_ble_eq_true rfl⟩) hS (fun q _ h => hFc q h) hFc (fun r4 u t H3 locs ht hvm hw hB hz1 hk1 hS => ?_)
  obtain rfl : 0 = r4 := (show r4 = 0 from hw).symm
  obtain ⟨hP1, hK1, hD1, hz2⟩ := hB
  rw [ht] at hP1 hz2
  have hPD9 := va_join (wr := [(mo, .inr (9, [.int 0, .ref am, .int 0, .int 0, .int 0])), (am, .inr (4, [.int mm, .ref (zk 0), .int 0]))]) (w1 := [(ou, .inr (7, [.long 0, .null])), (xo, .inr (6, [.ref al, .int 0, .int 0, .int 0, x4, x5, .ref b1, x7])), (al, .inr (4, [.int mc, .ref (zk 0), .int 0]))]) hP hD [0, 1, 2] [3, 4] rfl rfl (by decide) (by decide) hk1 hFc hP1 hD1
  clear hPc hDc hFc hDv hpre hP hD hP1 hK1 hD1
  obtain ⟨hP, hD⟩ := hPD9
  replace hz : s.heap.size + 0 ≤ H3.size := by omega
  clear hz2
  replace hP : va_P (dC, dI) vwCl [(mo, .inr (9, [.int 0, .ref am, .int 0, .int 0, .int 0])), (am, .inr (4, [.int mm, .ref (zk 0), .int 0])), (ou, .inr (7, [.long 0, .null])), (xo, .inr (6, [.ref al, .int 0, .int 0, .int 0, x4, x5, .ref b1, x7])), (al, .inr (4, [.int mc, .ref (zk 0), .int 0]))] H3 := hP
  replace hD : va_D A [(mo, .inr (9, [.int 0, .ref am, .int 0, .int 0, .int 0])), (am, .inr (4, [.int mm, .ref (zk 0), .int 0])), (ou, .inr (7, [.long 0, .null])), (xo, .inr (6, [.ref al, .int 0, .int 0, .int 0, x4, x5, .ref b1, x7])), (al, .inr (4, [.int mc, .ref (zk 0), .int 0]))] := hD
  refine W.widen (k := 17) (n := 79) (by omega) (by omega) ?_
  refine lv_istore (lv' := [(5, .int 0), (4, .int 0), (3, .ref ou), (2, .ref mo), (1, .ref xo), (0, .ref b)]) hx hb dL_law_2082 hl (by decide) rfl (fun ls hl => ?_)
  refine lv_aload_n hx hb dL_law_2084 rfl (lv_at hl 3 rfl) ?_
  refine lv_aload_n hx hb dL_law_2085 rfl (lv_at hl 5 rfl) ?_
  refine lv_iload hx hb dL_law_2086 (lv_at hl 1 rfl) ?_
  refine lv_iconst (v := 1) hx hb dL_law_2088 (by decide) ?_
  refine lv_iadd hx hb dL_law_2089 ?_
  refine lv_topi (fun v5 ev5 => ?_)
  obtain rfl : v5 = 1 := ev5.trans (by decide)
  refine va_sld hx hb hX hbl hbA hS (by unfold vp_in; decide) dL_law_2090 ?_
  refine lv_topi (fun v6 ev6 => ?_)
  have e9 : v6 = 1 := ev6.trans (show xs ((1 : Int32).toNatClampNeg) = 1 from h1)
  clear ev6
  subst v6
  have hPc := hP.sub (ws' := [(mo, .inr (9, [.int 0, .ref am, .int 0, .int 0, .int 0])), (am, .inr (4, [.int mm, .ref (zk 0), .int 0]))]) [0, 1] rfl
  have hDc := hD.sub (ws' := [(mo, .inr (9, [.int 0, .ref am, .int 0, .int 0, .int 0])), (am, .inr (4, [.int mm, .ref (zk 0), .int 0]))]) [0, 1] (by decide) rfl
  have hFc := va_free (wc := [(mo, .inr (9, [.int 0, .ref am, .int 0, .int 0, .int 0])), (am, .inr (4, [.int mm, .ref (zk 0), .int 0]))]) hD hS hA [0, 1] rfl
  have hDv := hDc.self (sz := H3.size)
  have hpre := zpre (xs' := []) (av := [.ref mo, .int 1]) hPc hK (hDc.weaken (fun _ _ _ h => h)) hZ hS hFc (fun r hr => by cases hr)
  refine va_calli (va_runV (As := [.int 1]) (rest := []) ⟨hx, hb, hml, hown, hts⟩ (k_house1M l dC dI cI cB cR cO zk mo am (.int 0) mm  H3.size ) (cwV 1 hts gL_law_X4_house rfl rfl rfl (by decide +kernel) ⟨Nat.le_of_ble_eq_true rfl, Nat.le_of_ble_eq_true rfl⟩) ⟨zblind, (zrecv_9 hK hPc (q0 := 0) rfl), hpre⟩ rfl rfl hl.1 rfl (lv_room (Nat.le_of_ble_eq_true rfl)) dL_law_2091 ⟨Nat.le_of_ble_eq_true rfl, Nat.le_of_ble_eq_true rfl⟩) hS (fun q _ h => hFc q h) hFc (fun r8 u t H7 locs ht hvm hw hB hz1 hk1 hS => ?_)
  obtain rfl : 0 = r8 := (show r8 = 0 from hw).symm
  obtain ⟨hP1, hK1, hD1, hz2⟩ := hB
  rw [ht] at hP1 hz2
  have hPD9 := va_join (wr := [(ou, .inr (7, [.long 0, .null])), (xo, .inr (6, [.ref al, .int 0, .int 0, .int 0, x4, x5, .ref b1, x7])), (al, .inr (4, [.int mc, .ref (zk 0), .int 0]))]) (w1 := [(mo, .inr (9, [.int 0, .ref am, .int 0, .int 0, .int 0])), (am, .inr (4, [.int mm, .ref (zk 0), .int 0]))]) hP hD [0, 1] [2, 3, 4] rfl rfl (by decide) (by decide) hk1 hFc hP1 hD1
  clear hPc hDc hFc hDv hpre hP hD hP1 hK1 hD1
  obtain ⟨hP, hD⟩ := hPD9
  replace hz : s.heap.size + 1 ≤ H7.size := by omega
  clear hz2
  replace hP : va_P (dC, dI) vwCl [(ou, .inr (7, [.long 0, .null])), (xo, .inr (6, [.ref al, .int 0, .int 0, .int 0, x4, x5, .ref b1, x7])), (al, .inr (4, [.int mc, .ref (zk 0), .int 0])), (mo, .inr (9, [.int 0, .ref am, .int 0, .int 0, .int 0])), (am, .inr (4, [.int mm, .ref (zk 0), .int 0]))] H7 := hP
  replace hD : va_D A [(ou, .inr (7, [.long 0, .null])), (xo, .inr (6, [.ref al, .int 0, .int 0, .int 0, x4, x5, .ref b1, x7])), (al, .inr (4, [.int mc, .ref (zk 0), .int 0])), (mo, .inr (9, [.int 0, .ref am, .int 0, .int 0, .int 0])), (am, .inr (4, [.int mm, .ref (zk 0), .int 0]))] := hD
  refine W.widen (k := 18) (n := 85) (by omega) (by omega) ?_
  refine lv_istore (lv' := [(6, .int 0), (5, .int 0), (4, .int 0), (3, .ref ou), (2, .ref mo), (1, .ref xo), (0, .ref b)]) hx hb dL_law_2094 hl (by decide) rfl (fun ls hl => ?_)
  refine lv_aload_n hx hb dL_law_2096 rfl (lv_at hl 4 rfl) ?_
  have hPc := hP.sub (ws' := [(mo, .inr (9, [.int 0, .ref am, .int 0, .int 0, .int 0]))]) [3] rfl
  have hDc := hD.sub (ws' := [(mo, .inr (9, [.int 0, .ref am, .int 0, .int 0, .int 0]))]) [3] (by decide) rfl
  have hFc := va_free (wc := [(mo, .inr (9, [.int 0, .ref am, .int 0, .int 0, .int 0]))]) hD hS hA [3] rfl
  have hDv := hDc.self (sz := H7.size)
  have hpre := zpre (xs' := []) (av := [.ref mo]) hPc hK (hDc.weaken (fun _ _ _ h => h)) hZ hS hFc (fun r hr => by cases hr)
  refine va_calli (va_runV (As := []) (rest := []) ⟨hx, hb, hml, hown, hts⟩ (k_th0 l dC dI cI cB cR cO zk mo am H7.size ) (cwV 0 hts gL_law_X4_thrown rfl rfl rfl (by decide +kernel) ⟨Nat.le_of_ble_eq_true rfl, Nat.le_of_ble_eq_true rfl⟩) ⟨zblind, (zrecv_9 hK hPc (q0 := 0) rfl), hpre⟩ rfl rfl hl.1 rfl (lv_room (Nat.le_of_ble_eq_true rfl)) dL_law_2097 ⟨Nat.le_of_ble_eq_true rfl, Nat.le_of_ble_eq_true rfl⟩) hS (fun q _ h => hFc q h) hFc (fun r10 u t H9 locs ht hvm hw hB hz1 hk1 hS => ?_)
  obtain rfl : 0 = r10 := (show r10 = 0 from hw).symm
  obtain ⟨hP1, hK1, hD1, hz2⟩ := hB
  rw [ht] at hP1 hz2
  have hPD9 := va_join (wr := [(ou, .inr (7, [.long 0, .null])), (xo, .inr (6, [.ref al, .int 0, .int 0, .int 0, x4, x5, .ref b1, x7])), (al, .inr (4, [.int mc, .ref (zk 0), .int 0])), (am, .inr (4, [.int mm, .ref (zk 0), .int 0]))]) (w1 := [(mo, .inr (9, [.int 0, .ref am, .int 0, .int 0, .int 0]))]) hP hD [3] [0, 1, 2, 4] rfl rfl (by decide) (by decide) hk1 hFc hP1 hD1
  clear hPc hDc hFc hDv hpre hP hD hP1 hK1 hD1
  obtain ⟨hP, hD⟩ := hPD9
  replace hz : s.heap.size + 1 ≤ H9.size := by omega
  clear hz2
  replace hP : va_P (dC, dI) vwCl [(ou, .inr (7, [.long 0, .null])), (xo, .inr (6, [.ref al, .int 0, .int 0, .int 0, x4, x5, .ref b1, x7])), (al, .inr (4, [.int mc, .ref (zk 0), .int 0])), (am, .inr (4, [.int mm, .ref (zk 0), .int 0])), (mo, .inr (9, [.int 0, .ref am, .int 0, .int 0, .int 0]))] H9 := hP
  replace hD : va_D A [(ou, .inr (7, [.long 0, .null])), (xo, .inr (6, [.ref al, .int 0, .int 0, .int 0, x4, x5, .ref b1, x7])), (al, .inr (4, [.int mc, .ref (zk 0), .int 0])), (am, .inr (4, [.int mm, .ref (zk 0), .int 0])), (mo, .inr (9, [.int 0, .ref am, .int 0, .int 0, .int 0]))] := hD
  refine W.widen (k := 18) (n := 85) (by omega) (by omega) ?_
  refine lv_iload hx hb dL_law_2100 (lv_at hl 1 rfl) ?_
  refine lv_icmp_eq (tgt := 2107) hx hb dL_law_2102 (by decide) (fun c9 => ?_) (fun c9 => ?_)
  rotate_left
  · exact absurd (by decide) c9
  refine lv_iload hx hb dL_law_2107 (lv_at hl 1 rfl) ?_
  refine lv_if_ne (tgt := 2125) hx hb dL_law_2109 (by decide) (fun c9 => ?_) (fun c9 => ?_)
  · exact absurd (by decide) c9
  refine lv_aload_n hx hb dL_law_2112 rfl (lv_at hl 3 rfl) ?_
  refine va_getN (D := (dC, dI)) (ci := 7) (v := .long 0) (C := RX2) (T := TX2) (N := 2) hx hb hts inlX2 hown hK hP 0 rfl rfl 0 (by decide) (zn6 hZ) (fun _ h9 => h9) rfl dL_law_2113 ?_
  refine lv_iload hx hb dL_law_2116 (lv_at hl 0 rfl) ?_
  refine lv_i2l (v := 0) hx hb dL_law_2118 (by decide) ?_
  refine W.lcmp hx hb dL_law_2119 ?_
  refine lv_topi (fun v11 ev11 => ?_)
  obtain rfl : v11 = 0 := ev11.trans (by decide)
  refine lv_if_eq (tgt := 2125) hx hb dL_law_2120 (by decide) (fun c9 => ?_) (fun c9 => ?_)
  rotate_left
  · exact absurd (by decide) c9
  refine lv_goto (tgt := 2155) hx hb dL_law_2125 (by decide) ?_
  rw [hAd] at hS
  exact zl_tail l dC dI cI cB cR cO zk b xs C1 hZ0 hK hS (Nat.le_of_ble_eq_true rfl) (Nat.le_of_ble_eq_true rfl) ls (lv_sub hl [6, 2] rfl)

set_option maxHeartbeats 4000000 in
set_option maxRecDepth 100000 in
theorem zl_a_house2 (l : Launch) (dC : Nat → ClassId) (dI : Nat → Nat → Nat) (cI cB cR cO : ClassId) (zk : Nat → Nat) {p : Program} {e : Env} {s : State} {mY : MethodId} {below : List Frame} {meth : Method} {c : Code} (b : Nat) (xs : Nat → Int32) (hfl : l.stackTraces = false) (C0 : zl_At p s mY meth c b 5 xs) (hZ0 : zR zk [] (fun q => s.heap.size ≤ q) s s.heap) (hK : va_K (dC, dI) vwCl (zT cI cB cR cO) s) (ou xo al b1 : Nat) (x4 x5 x7 : Value) (mc : Int32) (mo am : Nat) (mm : Int32)  (h1 : xs 1 = 2)  (H : Heap) (locs : List Loc) (hP : va_P (dC, dI) vwCl [(ou, .inr (7, [.long 0, .null])), (xo, .inr (6, [.ref al, .int 0, .int 0, .int 0, x4, x5, .ref b1, x7])), (al, .inr (4, [.int mc, .ref (zk 0), .int 0])), (mo, .inr (9, [.int 0, .ref am, .int 0, .int 0, .int 0])), (am, .inr (4, [.int mm, .ref (zk 0), .int 0]))] H) (hD : va_D (fun q => s.heap.size ≤ q) [(ou, .inr (7, [.long 0, .null])), (xo, .inr (6, [.ref al, .int 0, .int 0, .int 0, x4, x5, .ref b1, x7])), (al, .inr (4, [.int mc, .ref (zk 0), .int 0])), (mo, .inr (9, [.int 0, .ref am, .int 0, .int 0, .int 0])), (am, .inr (4, [.int mm, .ref (zk 0), .int 0]))]) (hS : va_S (fun q => s.heap.size ≤ q) s.heap H locs) (ls : Array Slot) (hl : lv_has ls 7 [(4, .int 0), (3, .ref ou), (2, .ref mo), (1, .ref xo), (0, .ref b)]) : W p l e room_1 s mY #[Value.ref b] below meth c H locs 17 79 (lw_Z below #[Value.ref b] s) (F0 mY 2071 ls []) := by
  have C1 := C0
  obtain ⟨hx, hb, hr, hml, hown, hts0, hX, hbl, hlocks, hNI⟩ := C0
  have hts := fun (w : Cond) (h : w ∈ wsL_law) => hts0 w (wsL_law_in w h)
  obtain ⟨A, hAd⟩ : ∃ A : Nat → Prop, A = fun q => s.heap.size ≤ q := ⟨_, rfl⟩
  have hA : ∀ q : Nat, s.heap.size ≤ q → A q := fun q h => by rw [hAd]; exact h
  have hAf : ∀ q : Nat, A q → s.heap.size ≤ q := fun q h => by rw [hAd] at h; exact h
  have hbA : ¬ A b := fun h => absurd (hAf b h) (Nat.not_le.mpr hbl)
  have hZ : zR zk [] A s s.heap := by rw [hAd]; exact hZ0
  rw [← hAd] at hD hS
  replace hP : va_P (dC, dI) vwCl [(ou, .inr (7, [.long 0, .null])), (xo, .inr (6, [.ref al, .int 0, .int 0, .int 0, x4, x5, .ref b1, x7])), (al, .inr (4, [.int mc, .ref (zk 0), .int 0])), (mo, .inr (9, [.int 0, .ref am, .int 0, .int 0, .int 0])), (am, .inr (4, [.int mm, .ref (zk 0), .int 0]))] H := hP
  replace hD : va_D A [(ou, .inr (7, [.long 0, .null])), (xo, .inr (6, [.ref al, .int 0, .int 0, .int 0, x4, x5, .ref b1, x7])), (al, .inr (4, [.int mc, .ref (zk 0), .int 0])), (mo, .inr (9, [.int 0, .ref am, .int 0, .int 0, .int 0])), (am, .inr (4, [.int mm, .ref (zk 0), .int 0]))] := hD
  have hz : s.heap.size + 0 ≤ H.size := hS.1
  refine lv_aload_n hx hb dL_law_2071 rfl (lv_at hl 3 rfl) ?_
  refine lv_aload_n hx hb dL_law_2072 rfl (lv_at hl 4 rfl) ?_
  refine lv_iload hx hb dL_law_2073 (lv_at hl 0 rfl) ?_
  refine lv_iconst (v := 1) hx hb dL_law_2075 (by decide) ?_
  refine lv_iadd hx hb dL_law_2076 ?_
  refine lv_topi (fun v1 ev1 => ?_)
  obtain rfl : v1 = 1 := ev1.trans (by decide)
  refine va_sld hx hb hX hbl hbA hS (by unfold vp_in; decide) dL_law_2077 ?_
  refine lv_topi (fun v2 ev2 => ?_)
  have e9 : v2 = 2 := ev2.trans (show xs ((1 : Int32).toNatClampNeg) = 2 from h1)
  clear ev2
  subst v2
  refine lv_aload_n hx hb dL_law_2078 rfl (lv_at hl 1 rfl) ?_
  have hPc := hP.sub (ws' := [(ou, .inr (7, [.long 0, .null])), (xo, .inr (6, [.ref al, .int 0, .int 0, .int 0, x4, x5, .ref b1, x7])), (al, .inr (4, [.int mc, .ref (zk 0), .int 0]))]) [0, 1, 2] rfl
  have hDc := hD.sub (ws' := [(ou, .inr (7, [.long 0, .null])), (xo, .inr (6, [.ref al, .int 0, .int 0, .int 0, x4, x5, .ref b1, x7])), (al, .inr (4, [.int mc, .ref (zk 0), .int 0]))]) [0, 1, 2] (by decide) rfl
  have hFc := va_free (wc := [(ou, .inr (7, [.long 0, .null])), (xo, .inr (6, [.ref al, .int 0, .int 0, .int 0, x4, x5, .ref b1, x7])), (al, .inr (4, [.int mc, .ref (zk 0), .int 0]))]) hD hS hA [0, 1, 2] rfl
  have hDv := hDc.self (sz := H.size)
  have hpre := zpre (xs' := []) (av := [.ref xo, .int 2, .ref ou]) hPc hK (hDc.weaken (fun _ _ _ h => h)) hZ hS hFc (fun r hr => by cases hr)
  refine va_calli (vx_runSW (As := [.ref xo, .int 2, .ref ou]) (rest := []) ⟨hx, hb, hml, hown, hts⟩ (k_house2H l dC dI cI cB cR cO zk ou (.long 0) .null xo al b1 x4 x5 x7 mc H.size ) (vx_cwSW 3 hts gL_law_L_house rfl rfl rfl (by decide +kernel) ⟨Nat.le_of_ble_eq_true rfl, Nat.le_of_ble_eq_true rfl⟩) ⟨zblind, hpre⟩ rfl rfl hl.1 rfl (lv_room (Nat.le_of_ble_eq_true rfl)) dL_law_2079 ⟨Nat.le_of_ble_eq_true rfl, Nat.le_of_ble_eq_true rfl⟩) hS (fun q _ h => hFc q h) hFc (fun r4 u t H3 locs ht hvm hw hB hz1 hk1 hS => ?_)
  obtain rfl : 0 = r4 := (show r4 = 0 from hw).symm
  obtain ⟨hP1, hK1, hD1, hz2⟩ := hB
  rw [ht] at hP1 hz2
  have hPD9 := va_join (wr := [(mo, .inr (9, [.int 0, .ref am, .int 0, .int 0, .int 0])), (am, .inr (4, [.int mm, .ref (zk 0), .int 0]))]) (w1 := [(ou, .inr (7, [.long 0, .null])), (xo, .inr (6, [.ref al, .int 0, .int 0, .int 0, x4, x5, .ref b1, x7])), (al, .inr (4, [.int mc, .ref (zk 0), .int 0]))]) hP hD [0, 1, 2] [3, 4] rfl rfl (by decide) (by decide) hk1 hFc hP1 hD1
  clear hPc hDc hFc hDv hpre hP hD hP1 hK1 hD1
  obtain ⟨hP, hD⟩ := hPD9
  replace hz : s.heap.size + 0 ≤ H3.size := by omega
  clear hz2
  replace hP : va_P (dC, dI) vwCl [(mo, .inr (9, [.int 0, .ref am, .int 0, .int 0, .int 0])), (am, .inr (4, [.int mm, .ref (zk 0), .int 0])), (ou, .inr (7, [.long 0, .null])), (xo, .inr (6, [.ref al, .int 0, .int 0, .int 0, x4, x5, .ref b1, x7])), (al, .inr (4, [.int mc, .ref (zk 0), .int 0]))] H3 := hP
  replace hD : va_D A [(mo, .inr (9, [.int 0, .ref am, .int 0, .int 0, .int 0])), (am, .inr (4, [.int mm, .ref (zk 0), .int 0])), (ou, .inr (7, [.long 0, .null])), (xo, .inr (6, [.ref al, .int 0, .int 0, .int 0, x4, x5, .ref b1, x7])), (al, .inr (4, [.int mc, .ref (zk 0), .int 0]))] := hD
  refine W.widen (k := 17) (n := 79) (by omega) (by omega) ?_
  refine lv_istore (lv' := [(5, .int 0), (4, .int 0), (3, .ref ou), (2, .ref mo), (1, .ref xo), (0, .ref b)]) hx hb dL_law_2082 hl (by decide) rfl (fun ls hl => ?_)
  refine lv_aload_n hx hb dL_law_2084 rfl (lv_at hl 3 rfl) ?_
  refine lv_aload_n hx hb dL_law_2085 rfl (lv_at hl 5 rfl) ?_
  refine lv_iload hx hb dL_law_2086 (lv_at hl 1 rfl) ?_
  refine lv_iconst (v := 1) hx hb dL_law_2088 (by decide) ?_
  refine lv_iadd hx hb dL_law_2089 ?_
  refine lv_topi (fun v5 ev5 => ?_)
  obtain rfl : v5 = 1 := ev5.trans (by decide)
  refine va_sld hx hb hX hbl hbA hS (by unfold vp_in; decide) dL_law_2090 ?_
  refine lv_topi (fun v6 ev6 => ?_)
  have e9 : v6 = 2 := ev6.trans (show xs ((1 : Int32).toNatClampNeg) = 2 from h1)
  clear ev6
  subst v6
  have hPc := hP.sub (ws' := [(mo, .inr (9, [.int 0, .ref am, .int 0, .int 0, .int 0])), (am, .inr (4, [.int mm, .ref (zk 0), .int 0]))]) [0, 1] rfl
  have hDc := hD.sub (ws' := [(mo, .inr (9, [.int 0, .ref am, .int 0, .int 0, .int 0])), (am, .inr (4, [.int mm, .ref (zk 0), .int 0]))]) [0, 1] (by decide) rfl
  have hFc := va_free (wc := [(mo, .inr (9, [.int 0, .ref am, .int 0, .int 0, .int 0])), (am, .inr (4, [.int mm, .ref (zk 0), .int 0]))]) hD hS hA [0, 1] rfl
  have hDv := hDc.self (sz := H3.size)
  have hpre := zpre (xs' := []) (av := [.ref mo, .int 2]) hPc hK (hDc.weaken (fun _ _ _ h => h)) hZ hS hFc (fun r hr => by cases hr)
  refine va_calli (va_runV (As := [.int 2]) (rest := []) ⟨hx, hb, hml, hown, hts⟩ (k_house2M l dC dI cI cB cR cO zk mo am (.int 0) mm  H3.size ) (cwV 1 hts gL_law_X4_house rfl rfl rfl (by decide +kernel) ⟨Nat.le_of_ble_eq_true rfl, Nat.le_of_ble_eq_true rfl⟩) ⟨zblind, (zrecv_9 hK hPc (q0 := 0) rfl), hpre⟩ rfl rfl hl.1 rfl (lv_room (Nat.le_of_ble_eq_true rfl)) dL_law_2091 ⟨Nat.le_of_ble_eq_true rfl, Nat.le_of_ble_eq_true rfl⟩) hS (fun q _ h => hFc q h) hFc (fun r8 u t H7 locs ht hvm hw hB hz1 hk1 hS => ?_)
  obtain rfl : 0 = r8 := (show r8 = 0 from hw).symm
  obtain ⟨hP1, hK1, hD1, hz2⟩ := hB
  rw [ht] at hP1 hz2
  have hPD9 := va_join (wr := [(ou, .inr (7, [.long 0, .null])), (xo, .inr (6, [.ref al, .int 0, .int 0, .int 0, x4, x5, .ref b1, x7])), (al, .inr (4, [.int mc, .ref (zk 0), .int 0]))]) (w1 := [(mo, .inr (9, [.int 0, .ref am, .int 0, .int 0, .int 0])), (am, .inr (4, [.int mm, .ref (zk 0), .int 0]))]) hP hD [0, 1] [2, 3, 4] rfl rfl (by decide) (by decide) hk1 hFc hP1 hD1
  clear hPc hDc hFc hDv hpre hP hD hP1 hK1 hD1
  obtain ⟨hP, hD⟩ := hPD9
  replace hz : s.heap.size + 1 ≤ H7.size := by omega
  clear hz2
  replace hP : va_P (dC, dI) vwCl [(ou, .inr (7, [.long 0, .null])), (xo, .inr (6, [.ref al, .int 0, .int 0, .int 0, x4, x5, .ref b1, x7])), (al, .inr (4, [.int mc, .ref (zk 0), .int 0])), (mo, .inr (9, [.int 0, .ref am, .int 0, .int 0, .int 0])), (am, .inr (4, [.int mm, .ref (zk 0), .int 0]))] H7 := hP
  replace hD : va_D A [(ou, .inr (7, [.long 0, .null])), (xo, .inr (6, [.ref al, .int 0, .int 0, .int 0, x4, x5, .ref b1, x7])), (al, .inr (4, [.int mc, .ref (zk 0), .int 0])), (mo, .inr (9, [.int 0, .ref am, .int 0, .int 0, .int 0])), (am, .inr (4, [.int mm, .ref (zk 0), .int 0]))] := hD
  refine W.widen (k := 18) (n := 85) (by omega) (by omega) ?_
  refine lv_istore (lv' := [(6, .int 0), (5, .int 0), (4, .int 0), (3, .ref ou), (2, .ref mo), (1, .ref xo), (0, .ref b)]) hx hb dL_law_2094 hl (by decide) rfl (fun ls hl => ?_)
  refine lv_aload_n hx hb dL_law_2096 rfl (lv_at hl 4 rfl) ?_
  have hPc := hP.sub (ws' := [(mo, .inr (9, [.int 0, .ref am, .int 0, .int 0, .int 0]))]) [3] rfl
  have hDc := hD.sub (ws' := [(mo, .inr (9, [.int 0, .ref am, .int 0, .int 0, .int 0]))]) [3] (by decide) rfl
  have hFc := va_free (wc := [(mo, .inr (9, [.int 0, .ref am, .int 0, .int 0, .int 0]))]) hD hS hA [3] rfl
  have hDv := hDc.self (sz := H7.size)
  have hpre := zpre (xs' := []) (av := [.ref mo]) hPc hK (hDc.weaken (fun _ _ _ h => h)) hZ hS hFc (fun r hr => by cases hr)
  refine va_calli (va_runV (As := []) (rest := []) ⟨hx, hb, hml, hown, hts⟩ (k_th0 l dC dI cI cB cR cO zk mo am H7.size ) (cwV 0 hts gL_law_X4_thrown rfl rfl rfl (by decide +kernel) ⟨Nat.le_of_ble_eq_true rfl, Nat.le_of_ble_eq_true rfl⟩) ⟨zblind, (zrecv_9 hK hPc (q0 := 0) rfl), hpre⟩ rfl rfl hl.1 rfl (lv_room (Nat.le_of_ble_eq_true rfl)) dL_law_2097 ⟨Nat.le_of_ble_eq_true rfl, Nat.le_of_ble_eq_true rfl⟩) hS (fun q _ h => hFc q h) hFc (fun r10 u t H9 locs ht hvm hw hB hz1 hk1 hS => ?_)
  obtain rfl : 0 = r10 := (show r10 = 0 from hw).symm
  obtain ⟨hP1, hK1, hD1, hz2⟩ := hB
  rw [ht] at hP1 hz2
  have hPD9 := va_join (wr := [(ou, .inr (7, [.long 0, .null])), (xo, .inr (6, [.ref al, .int 0, .int 0, .int 0, x4, x5, .ref b1, x7])), (al, .inr (4, [.int mc, .ref (zk 0), .int 0])), (am, .inr (4, [.int mm, .ref (zk 0), .int 0]))]) (w1 := [(mo, .inr (9, [.int 0, .ref am, .int 0, .int 0, .int 0]))]) hP hD [3] [0, 1, 2, 4] rfl rfl (by decide) (by decide) hk1 hFc hP1 hD1
  clear hPc hDc hFc hDv hpre hP hD hP1 hK1 hD1
  obtain ⟨hP, hD⟩ := hPD9
  replace hz : s.heap.size + 1 ≤ H9.size := by omega
  clear hz2
  replace hP : va_P (dC, dI) vwCl [(ou, .inr (7, [.long 0, .null])), (xo, .inr (6, [.ref al, .int 0, .int 0, .int 0, x4, x5, .ref b1, x7])), (al, .inr (4, [.int mc, .ref (zk 0), .int 0])), (am, .inr (4, [.int mm, .ref (zk 0), .int 0])), (mo, .inr (9, [.int 0, .ref am, .int 0, .int 0, .int 0]))] H9 := hP
  replace hD : va_D A [(ou, .inr (7, [.long 0, .null])), (xo, .inr (6, [.ref al, .int 0, .int 0, .int 0, x4, x5, .ref b1, x7])), (al, .inr (4, [.int mc, .ref (zk 0), .int 0])), (am, .inr (4, [.int mm, .ref (zk 0), .int 0])), (mo, .inr (9, [.int 0, .ref am, .int 0, .int 0, .int 0]))] := hD
  refine W.widen (k := 18) (n := 85) (by omega) (by omega) ?_
  refine lv_iload hx hb dL_law_2100 (lv_at hl 1 rfl) ?_
  refine lv_icmp_eq (tgt := 2107) hx hb dL_law_2102 (by decide) (fun c9 => ?_) (fun c9 => ?_)
  rotate_left
  · exact absurd (by decide) c9
  refine lv_iload hx hb dL_law_2107 (lv_at hl 1 rfl) ?_
  refine lv_if_ne (tgt := 2125) hx hb dL_law_2109 (by decide) (fun c9 => ?_) (fun c9 => ?_)
  · exact absurd (by decide) c9
  refine lv_aload_n hx hb dL_law_2112 rfl (lv_at hl 3 rfl) ?_
  refine va_getN (D := (dC, dI)) (ci := 7) (v := .long 0) (C := RX2) (T := TX2) (N := 2) hx hb hts inlX2 hown hK hP 0 rfl rfl 0 (by decide) (zn6 hZ) (fun _ h9 => h9) rfl dL_law_2113 ?_
  refine lv_iload hx hb dL_law_2116 (lv_at hl 0 rfl) ?_
  refine lv_i2l (v := 0) hx hb dL_law_2118 (by decide) ?_
  refine W.lcmp hx hb dL_law_2119 ?_
  refine lv_topi (fun v11 ev11 => ?_)
  obtain rfl : v11 = 0 := ev11.trans (by decide)
  refine lv_if_eq (tgt := 2125) hx hb dL_law_2120 (by decide) (fun c9 => ?_) (fun c9 => ?_)
  rotate_left
  · exact absurd (by decide) c9
  refine lv_goto (tgt := 2155) hx hb dL_law_2125 (by decide) ?_
  rw [hAd] at hS
  exact zl_tail l dC dI cI cB cR cO zk b xs C1 hZ0 hK hS (Nat.le_of_ble_eq_true rfl) (Nat.le_of_ble_eq_true rfl) ls (lv_sub hl [6, 2] rfl)

set_option maxHeartbeats 4000000 in
set_option maxRecDepth 100000 in
theorem zl_a_house3 (l : Launch) (dC : Nat → ClassId) (dI : Nat → Nat → Nat) (cI cB cR cO : ClassId) (zk : Nat → Nat) {p : Program} {e : Env} {s : State} {mY : MethodId} {below : List Frame} {meth : Method} {c : Code} (b : Nat) (xs : Nat → Int32) (hfl : l.stackTraces = false) (C0 : zl_At p s mY meth c b 5 xs) (hZ0 : zR zk [] (fun q => s.heap.size ≤ q) s s.heap) (hK : va_K (dC, dI) vwCl (zT cI cB cR cO) s) (ou xo al b1 : Nat) (x4 x5 x7 : Value) (mc : Int32) (mo am : Nat) (mm : Int32)  (h1 : xs 1 = 3)  (H : Heap) (locs : List Loc) (hP : va_P (dC, dI) vwCl [(ou, .inr (7, [.long 0, .null])), (xo, .inr (6, [.ref al, .int 0, .int 0, .int 0, x4, x5, .ref b1, x7])), (al, .inr (4, [.int mc, .ref (zk 0), .int 0])), (mo, .inr (9, [.int 0, .ref am, .int 0, .int 0, .int 0])), (am, .inr (4, [.int mm, .ref (zk 0), .int 0]))] H) (hD : va_D (fun q => s.heap.size ≤ q) [(ou, .inr (7, [.long 0, .null])), (xo, .inr (6, [.ref al, .int 0, .int 0, .int 0, x4, x5, .ref b1, x7])), (al, .inr (4, [.int mc, .ref (zk 0), .int 0])), (mo, .inr (9, [.int 0, .ref am, .int 0, .int 0, .int 0])), (am, .inr (4, [.int mm, .ref (zk 0), .int 0]))]) (hS : va_S (fun q => s.heap.size ≤ q) s.heap H locs) (ls : Array Slot) (hl : lv_has ls 7 [(4, .int 0), (3, .ref ou), (2, .ref mo), (1, .ref xo), (0, .ref b)]) : W p l e room_1 s mY #[Value.ref b] below meth c H locs 17 79 (lw_Z below #[Value.ref b] s) (F0 mY 2071 ls []) := by
  have C1 := C0
  obtain ⟨hx, hb, hr, hml, hown, hts0, hX, hbl, hlocks, hNI⟩ := C0
  have hts := fun (w : Cond) (h : w ∈ wsL_law) => hts0 w (wsL_law_in w h)
  obtain ⟨A, hAd⟩ : ∃ A : Nat → Prop, A = fun q => s.heap.size ≤ q := ⟨_, rfl⟩
  have hA : ∀ q : Nat, s.heap.size ≤ q → A q := fun q h => by rw [hAd]; exact h
  have hAf : ∀ q : Nat, A q → s.heap.size ≤ q := fun q h => by rw [hAd] at h; exact h
  have hbA : ¬ A b := fun h => absurd (hAf b h) (Nat.not_le.mpr hbl)
  have hZ : zR zk [] A s s.heap := by rw [hAd]; exact hZ0
  rw [← hAd] at hD hS
  replace hP : va_P (dC, dI) vwCl [(ou, .inr (7, [.long 0, .null])), (xo, .inr (6, [.ref al, .int 0, .int 0, .int 0, x4, x5, .ref b1, x7])), (al, .inr (4, [.int mc, .ref (zk 0), .int 0])), (mo, .inr (9, [.int 0, .ref am, .int 0, .int 0, .int 0])), (am, .inr (4, [.int mm, .ref (zk 0), .int 0]))] H := hP
  replace hD : va_D A [(ou, .inr (7, [.long 0, .null])), (xo, .inr (6, [.ref al, .int 0, .int 0, .int 0, x4, x5, .ref b1, x7])), (al, .inr (4, [.int mc, .ref (zk 0), .int 0])), (mo, .inr (9, [.int 0, .ref am, .int 0, .int 0, .int 0])), (am, .inr (4, [.int mm, .ref (zk 0), .int 0]))] := hD
  have hz : s.heap.size + 0 ≤ H.size := hS.1
  refine lv_aload_n hx hb dL_law_2071 rfl (lv_at hl 3 rfl) ?_
  refine lv_aload_n hx hb dL_law_2072 rfl (lv_at hl 4 rfl) ?_
  refine lv_iload hx hb dL_law_2073 (lv_at hl 0 rfl) ?_
  refine lv_iconst (v := 1) hx hb dL_law_2075 (by decide) ?_
  refine lv_iadd hx hb dL_law_2076 ?_
  refine lv_topi (fun v1 ev1 => ?_)
  obtain rfl : v1 = 1 := ev1.trans (by decide)
  refine va_sld hx hb hX hbl hbA hS (by unfold vp_in; decide) dL_law_2077 ?_
  refine lv_topi (fun v2 ev2 => ?_)
  have e9 : v2 = 3 := ev2.trans (show xs ((1 : Int32).toNatClampNeg) = 3 from h1)
  clear ev2
  subst v2
  refine lv_aload_n hx hb dL_law_2078 rfl (lv_at hl 1 rfl) ?_
  have hPc := hP.sub (ws' := [(ou, .inr (7, [.long 0, .null])), (xo, .inr (6, [.ref al, .int 0, .int 0, .int 0, x4, x5, .ref b1, x7])), (al, .inr (4, [.int mc, .ref (zk 0), .int 0]))]) [0, 1, 2] rfl
  have hDc := hD.sub (ws' := [(ou, .inr (7, [.long 0, .null])), (xo, .inr (6, [.ref al, .int 0, .int 0, .int 0, x4, x5, .ref b1, x7])), (al, .inr (4, [.int mc, .ref (zk 0), .int 0]))]) [0, 1, 2] (by decide) rfl
  have hFc := va_free (wc := [(ou, .inr (7, [.long 0, .null])), (xo, .inr (6, [.ref al, .int 0, .int 0, .int 0, x4, x5, .ref b1, x7])), (al, .inr (4, [.int mc, .ref (zk 0), .int 0]))]) hD hS hA [0, 1, 2] rfl
  have hDv := hDc.self (sz := H.size)
  have hpre := zpre (xs' := []) (av := [.ref xo, .int 3, .ref ou]) hPc hK (hDc.weaken (fun _ _ _ h => h)) hZ hS hFc (fun r hr => by cases hr)
  refine va_calli (vx_runSW (As := [.ref xo, .int 3, .ref ou]) (rest := []) ⟨hx, hb, hml, hown, hts⟩ (k_house3H l dC dI cI cB cR cO zk ou (.long 0) .null xo al b1 x4 x5 x7 mc H.size ) (vx_cwSW 3 hts gL_law_L_house rfl rfl rfl (by decide +kernel) ⟨Nat.le_of_ble_eq_true rfl, Nat.le_of_ble_eq_true rfl⟩) ⟨zblind, hpre⟩ rfl rfl hl.1 rfl (lv_room (Nat.le_of_ble_eq_true rfl)) dL_law_2079 ⟨Nat.le_of_ble_eq_true rfl, Nat.le_of_ble_eq_true rfl⟩) hS (fun q _ h => hFc q h) hFc (fun r4 u t H3 locs ht hvm hw hB hz1 hk1 hS => ?_)
  obtain rfl : 0 = r4 := (show r4 = 0 from hw).symm
  obtain ⟨hP1, hK1, hD1, hz2⟩ := hB
  rw [ht] at hP1 hz2
  have hPD9 := va_join (wr := [(mo, .inr (9, [.int 0, .ref am, .int 0, .int 0, .int 0])), (am, .inr (4, [.int mm, .ref (zk 0), .int 0]))]) (w1 := [(ou, .inr (7, [.long 0, .null])), (xo, .inr (6, [.ref al, .int 0, .int 0, .int 0, x4, x5, .ref b1, x7])), (al, .inr (4, [.int mc, .ref (zk 0), .int 0]))]) hP hD [0, 1, 2] [3, 4] rfl rfl (by decide) (by decide) hk1 hFc hP1 hD1
  clear hPc hDc hFc hDv hpre hP hD hP1 hK1 hD1
  obtain ⟨hP, hD⟩ := hPD9
  replace hz : s.heap.size + 0 ≤ H3.size := by omega
  clear hz2
  replace hP : va_P (dC, dI) vwCl [(mo, .inr (9, [.int 0, .ref am, .int 0, .int 0, .int 0])), (am, .inr (4, [.int mm, .ref (zk 0), .int 0])), (ou, .inr (7, [.long 0, .null])), (xo, .inr (6, [.ref al, .int 0, .int 0, .int 0, x4, x5, .ref b1, x7])), (al, .inr (4, [.int mc, .ref (zk 0), .int 0]))] H3 := hP
  replace hD : va_D A [(mo, .inr (9, [.int 0, .ref am, .int 0, .int 0, .int 0])), (am, .inr (4, [.int mm, .ref (zk 0), .int 0])), (ou, .inr (7, [.long 0, .null])), (xo, .inr (6, [.ref al, .int 0, .int 0, .int 0, x4, x5, .ref b1, x7])), (al, .inr (4, [.int mc, .ref (zk 0), .int 0]))] := hD
  refine W.widen (k := 17) (n := 79) (by omega) (by omega) ?_
  refine lv_istore (lv' := [(5, .int 0), (4, .int 0), (3, .ref ou), (2, .ref mo), (1, .ref xo), (0, .ref b)]) hx hb dL_law_2082 hl (by decide) rfl (fun ls hl => ?_)
  refine lv_aload_n hx hb dL_law_2084 rfl (lv_at hl 3 rfl) ?_
  refine lv_aload_n hx hb dL_law_2085 rfl (lv_at hl 5 rfl) ?_
  refine lv_iload hx hb dL_law_2086 (lv_at hl 1 rfl) ?_
  refine lv_iconst (v := 1) hx hb dL_law_2088 (by decide) ?_
  refine lv_iadd hx hb dL_law_2089 ?_
  refine lv_topi (fun v5 ev5 => ?_)
  obtain rfl : v5 = 1 := ev5.trans (by decide)
  refine va_sld hx hb hX hbl hbA hS (by unfold vp_in; decide) dL_law_2090 ?_
  refine lv_topi (fun v6 ev6 => ?_)
  have e9 : v6 = 3 := ev6.trans (show xs ((1 : Int32).toNatClampNeg) = 3 from h1)
  clear ev6
  subst v6
  have hPc := hP.sub (ws' := [(mo, .inr (9, [.int 0, .ref am, .int 0, .int 0, .int 0])), (am, .inr (4, [.int mm, .ref (zk 0), .int 0]))]) [0, 1] rfl
  have hDc := hD.sub (ws' := [(mo, .inr (9, [.int 0, .ref am, .int 0, .int 0, .int 0])), (am, .inr (4, [.int mm, .ref (zk 0), .int 0]))]) [0, 1] (by decide) rfl
  have hFc := va_free (wc := [(mo, .inr (9, [.int 0, .ref am, .int 0, .int 0, .int 0])), (am, .inr (4, [.int mm, .ref (zk 0), .int 0]))]) hD hS hA [0, 1] rfl
  have hDv := hDc.self (sz := H3.size)
  have hpre := zpre (xs' := []) (av := [.ref mo, .int 3]) hPc hK (hDc.weaken (fun _ _ _ h => h)) hZ hS hFc (fun r hr => by cases hr)
  refine va_calli (va_runV (As := [.int 3]) (rest := []) ⟨hx, hb, hml, hown, hts⟩ (k_house3M l dC dI cI cB cR cO zk mo am (.int 0) mm  H3.size ) (cwV 1 hts gL_law_X4_house rfl rfl rfl (by decide +kernel) ⟨Nat.le_of_ble_eq_true rfl, Nat.le_of_ble_eq_true rfl⟩) ⟨zblind, (zrecv_9 hK hPc (q0 := 0) rfl), hpre⟩ rfl rfl hl.1 rfl (lv_room (Nat.le_of_ble_eq_true rfl)) dL_law_2091 ⟨Nat.le_of_ble_eq_true rfl, Nat.le_of_ble_eq_true rfl⟩) hS (fun q _ h => hFc q h) hFc (fun r8 u t H7 locs ht hvm hw hB hz1 hk1 hS => ?_)
  obtain rfl : 0 = r8 := (show r8 = 0 from hw).symm
  obtain ⟨hP1, hK1, hD1, hz2⟩ := hB
  rw [ht] at hP1 hz2
  have hPD9 := va_join (wr := [(ou, .inr (7, [.long 0, .null])), (xo, .inr (6, [.ref al, .int 0, .int 0, .int 0, x4, x5, .ref b1, x7])), (al, .inr (4, [.int mc, .ref (zk 0), .int 0]))]) (w1 := [(mo, .inr (9, [.int 0, .ref am, .int 0, .int 0, .int 0])), (am, .inr (4, [.int mm, .ref (zk 0), .int 0]))]) hP hD [0, 1] [2, 3, 4] rfl rfl (by decide) (by decide) hk1 hFc hP1 hD1
  clear hPc hDc hFc hDv hpre hP hD hP1 hK1 hD1
  obtain ⟨hP, hD⟩ := hPD9
  replace hz : s.heap.size + 1 ≤ H7.size := by omega
  clear hz2
  replace hP : va_P (dC, dI) vwCl [(ou, .inr (7, [.long 0, .null])), (xo, .inr (6, [.ref al, .int 0, .int 0, .int 0, x4, x5, .ref b1, x7])), (al, .inr (4, [.int mc, .ref (zk 0), .int 0])), (mo, .inr (9, [.int 0, .ref am, .int 0, .int 0, .int 0])), (am, .inr (4, [.int mm, .ref (zk 0), .int 0]))] H7 := hP
  replace hD : va_D A [(ou, .inr (7, [.long 0, .null])), (xo, .inr (6, [.ref al, .int 0, .int 0, .int 0, x4, x5, .ref b1, x7])), (al, .inr (4, [.int mc, .ref (zk 0), .int 0])), (mo, .inr (9, [.int 0, .ref am, .int 0, .int 0, .int 0])), (am, .inr (4, [.int mm, .ref (zk 0), .int 0]))] := hD
  refine W.widen (k := 18) (n := 85) (by omega) (by omega) ?_
  refine lv_istore (lv' := [(6, .int 0), (5, .int 0), (4, .int 0), (3, .ref ou), (2, .ref mo), (1, .ref xo), (0, .ref b)]) hx hb dL_law_2094 hl (by decide) rfl (fun ls hl => ?_)
  refine lv_aload_n hx hb dL_law_2096 rfl (lv_at hl 4 rfl) ?_
  have hPc := hP.sub (ws' := [(mo, .inr (9, [.int 0, .ref am, .int 0, .int 0, .int 0]))]) [3] rfl
  have hDc := hD.sub (ws' := [(mo, .inr (9, [.int 0, .ref am, .int 0, .int 0, .int 0]))]) [3] (by decide) rfl
  have hFc := va_free (wc := [(mo, .inr (9, [.int 0, .ref am, .int 0, .int 0, .int 0]))]) hD hS hA [3] rfl
  have hDv := hDc.self (sz := H7.size)
  have hpre := zpre (xs' := []) (av := [.ref mo]) hPc hK (hDc.weaken (fun _ _ _ h => h)) hZ hS hFc (fun r hr => by cases hr)
  refine va_calli (va_runV (As := []) (rest := []) ⟨hx, hb, hml, hown, hts⟩ (k_th0 l dC dI cI cB cR cO zk mo am H7.size ) (cwV 0 hts gL_law_X4_thrown rfl rfl rfl (by decide +kernel) ⟨Nat.le_of_ble_eq_true rfl, Nat.le_of_ble_eq_true rfl⟩) ⟨zblind, (zrecv_9 hK hPc (q0 := 0) rfl), hpre⟩ rfl rfl hl.1 rfl (lv_room (Nat.le_of_ble_eq_true rfl)) dL_law_2097 ⟨Nat.le_of_ble_eq_true rfl, Nat.le_of_ble_eq_true rfl⟩) hS (fun q _ h => hFc q h) hFc (fun r10 u t H9 locs ht hvm hw hB hz1 hk1 hS => ?_)
  obtain rfl : 0 = r10 := (show r10 = 0 from hw).symm
  obtain ⟨hP1, hK1, hD1, hz2⟩ := hB
  rw [ht] at hP1 hz2
  have hPD9 := va_join (wr := [(ou, .inr (7, [.long 0, .null])), (xo, .inr (6, [.ref al, .int 0, .int 0, .int 0, x4, x5, .ref b1, x7])), (al, .inr (4, [.int mc, .ref (zk 0), .int 0])), (am, .inr (4, [.int mm, .ref (zk 0), .int 0]))]) (w1 := [(mo, .inr (9, [.int 0, .ref am, .int 0, .int 0, .int 0]))]) hP hD [3] [0, 1, 2, 4] rfl rfl (by decide) (by decide) hk1 hFc hP1 hD1
  clear hPc hDc hFc hDv hpre hP hD hP1 hK1 hD1
  obtain ⟨hP, hD⟩ := hPD9
  replace hz : s.heap.size + 1 ≤ H9.size := by omega
  clear hz2
  replace hP : va_P (dC, dI) vwCl [(ou, .inr (7, [.long 0, .null])), (xo, .inr (6, [.ref al, .int 0, .int 0, .int 0, x4, x5, .ref b1, x7])), (al, .inr (4, [.int mc, .ref (zk 0), .int 0])), (am, .inr (4, [.int mm, .ref (zk 0), .int 0])), (mo, .inr (9, [.int 0, .ref am, .int 0, .int 0, .int 0]))] H9 := hP
  replace hD : va_D A [(ou, .inr (7, [.long 0, .null])), (xo, .inr (6, [.ref al, .int 0, .int 0, .int 0, x4, x5, .ref b1, x7])), (al, .inr (4, [.int mc, .ref (zk 0), .int 0])), (am, .inr (4, [.int mm, .ref (zk 0), .int 0])), (mo, .inr (9, [.int 0, .ref am, .int 0, .int 0, .int 0]))] := hD
  refine W.widen (k := 18) (n := 85) (by omega) (by omega) ?_
  refine lv_iload hx hb dL_law_2100 (lv_at hl 1 rfl) ?_
  refine lv_icmp_eq (tgt := 2107) hx hb dL_law_2102 (by decide) (fun c9 => ?_) (fun c9 => ?_)
  rotate_left
  · exact absurd (by decide) c9
  refine lv_iload hx hb dL_law_2107 (lv_at hl 1 rfl) ?_
  refine lv_if_ne (tgt := 2125) hx hb dL_law_2109 (by decide) (fun c9 => ?_) (fun c9 => ?_)
  · exact absurd (by decide) c9
  refine lv_aload_n hx hb dL_law_2112 rfl (lv_at hl 3 rfl) ?_
  refine va_getN (D := (dC, dI)) (ci := 7) (v := .long 0) (C := RX2) (T := TX2) (N := 2) hx hb hts inlX2 hown hK hP 0 rfl rfl 0 (by decide) (zn6 hZ) (fun _ h9 => h9) rfl dL_law_2113 ?_
  refine lv_iload hx hb dL_law_2116 (lv_at hl 0 rfl) ?_
  refine lv_i2l (v := 0) hx hb dL_law_2118 (by decide) ?_
  refine W.lcmp hx hb dL_law_2119 ?_
  refine lv_topi (fun v11 ev11 => ?_)
  obtain rfl : v11 = 0 := ev11.trans (by decide)
  refine lv_if_eq (tgt := 2125) hx hb dL_law_2120 (by decide) (fun c9 => ?_) (fun c9 => ?_)
  rotate_left
  · exact absurd (by decide) c9
  refine lv_goto (tgt := 2155) hx hb dL_law_2125 (by decide) ?_
  rw [hAd] at hS
  exact zl_tail l dC dI cI cB cR cO zk b xs C1 hZ0 hK hS (Nat.le_of_ble_eq_true rfl) (Nat.le_of_ble_eq_true rfl) ls (lv_sub hl [6, 2] rfl)

set_option maxHeartbeats 4000000 in
set_option maxRecDepth 100000 in
theorem zl_a_house4 (l : Launch) (dC : Nat → ClassId) (dI : Nat → Nat → Nat) (cI cB cR cO : ClassId) (zk : Nat → Nat) {p : Program} {e : Env} {s : State} {mY : MethodId} {below : List Frame} {meth : Method} {c : Code} (b : Nat) (xs : Nat → Int32) (hfl : l.stackTraces = false) (C0 : zl_At p s mY meth c b 5 xs) (hZ0 : zR zk [] (fun q => s.heap.size ≤ q) s s.heap) (hK : va_K (dC, dI) vwCl (zT cI cB cR cO) s) (ou xo al b1 : Nat) (x4 x5 x7 : Value) (mc : Int32) (mo am : Nat) (mm : Int32)  (h1 : xs 1 = 4)  (H : Heap) (locs : List Loc) (hP : va_P (dC, dI) vwCl [(ou, .inr (7, [.long 0, .null])), (xo, .inr (6, [.ref al, .int 0, .int 0, .int 0, x4, x5, .ref b1, x7])), (al, .inr (4, [.int mc, .ref (zk 0), .int 0])), (mo, .inr (9, [.int 0, .ref am, .int 0, .int 0, .int 0])), (am, .inr (4, [.int mm, .ref (zk 0), .int 0]))] H) (hD : va_D (fun q => s.heap.size ≤ q) [(ou, .inr (7, [.long 0, .null])), (xo, .inr (6, [.ref al, .int 0, .int 0, .int 0, x4, x5, .ref b1, x7])), (al, .inr (4, [.int mc, .ref (zk 0), .int 0])), (mo, .inr (9, [.int 0, .ref am, .int 0, .int 0, .int 0])), (am, .inr (4, [.int mm, .ref (zk 0), .int 0]))]) (hS : va_S (fun q => s.heap.size ≤ q) s.heap H locs) (ls : Array Slot) (hl : lv_has ls 7 [(4, .int 0), (3, .ref ou), (2, .ref mo), (1, .ref xo), (0, .ref b)]) : W p l e room_1 s mY #[Value.ref b] below meth c H locs 17 79 (lw_Z below #[Value.ref b] s) (F0 mY 2071 ls []) := by
  have C1 := C0
  obtain ⟨hx, hb, hr, hml, hown, hts0, hX, hbl, hlocks, hNI⟩ := C0
  have hts := fun (w : Cond) (h : w ∈ wsL_law) => hts0 w (wsL_law_in w h)
  obtain ⟨A, hAd⟩ : ∃ A : Nat → Prop, A = fun q => s.heap.size ≤ q := ⟨_, rfl⟩
  have hA : ∀ q : Nat, s.heap.size ≤ q → A q := fun q h => by rw [hAd]; exact h
  have hAf : ∀ q : Nat, A q → s.heap.size ≤ q := fun q h => by rw [hAd] at h; exact h
  have hbA : ¬ A b := fun h => absurd (hAf b h) (Nat.not_le.mpr hbl)
  have hZ : zR zk [] A s s.heap := by rw [hAd]; exact hZ0
  rw [← hAd] at hD hS
  replace hP : va_P (dC, dI) vwCl [(ou, .inr (7, [.long 0, .null])), (xo, .inr (6, [.ref al, .int 0, .int 0, .int 0, x4, x5, .ref b1, x7])), (al, .inr (4, [.int mc, .ref (zk 0), .int 0])), (mo, .inr (9, [.int 0, .ref am, .int 0, .int 0, .int 0])), (am, .inr (4, [.int mm, .ref (zk 0), .int 0]))] H := hP
  replace hD : va_D A [(ou, .inr (7, [.long 0, .null])), (xo, .inr (6, [.ref al, .int 0, .int 0, .int 0, x4, x5, .ref b1, x7])), (al, .inr (4, [.int mc, .ref (zk 0), .int 0])), (mo, .inr (9, [.int 0, .ref am, .int 0, .int 0, .int 0])), (am, .inr (4, [.int mm, .ref (zk 0), .int 0]))] := hD
  have hz : s.heap.size + 0 ≤ H.size := hS.1
  refine lv_aload_n hx hb dL_law_2071 rfl (lv_at hl 3 rfl) ?_
  refine lv_aload_n hx hb dL_law_2072 rfl (lv_at hl 4 rfl) ?_
  refine lv_iload hx hb dL_law_2073 (lv_at hl 0 rfl) ?_
  refine lv_iconst (v := 1) hx hb dL_law_2075 (by decide) ?_
  refine lv_iadd hx hb dL_law_2076 ?_
  refine lv_topi (fun v1 ev1 => ?_)
  obtain rfl : v1 = 1 := ev1.trans (by decide)
  refine va_sld hx hb hX hbl hbA hS (by unfold vp_in; decide) dL_law_2077 ?_
  refine lv_topi (fun v2 ev2 => ?_)
  have e9 : v2 = 4 := ev2.trans (show xs ((1 : Int32).toNatClampNeg) = 4 from h1)
  clear ev2
  subst v2
  refine lv_aload_n hx hb dL_law_2078 rfl (lv_at hl 1 rfl) ?_
  have hPc := hP.sub (ws' := [(ou, .inr (7, [.long 0, .null])), (xo, .inr (6, [.ref al, .int 0, .int 0, .int 0, x4, x5, .ref b1, x7])), (al, .inr (4, [.int mc, .ref (zk 0), .int 0]))]) [0, 1, 2] rfl
  have hDc := hD.sub (ws' := [(ou, .inr (7, [.long 0, .null])), (xo, .inr (6, [.ref al, .int 0, .int 0, .int 0, x4, x5, .ref b1, x7])), (al, .inr (4, [.int mc, .ref (zk 0), .int 0]))]) [0, 1, 2] (by decide) rfl
  have hFc := va_free (wc := [(ou, .inr (7, [.long 0, .null])), (xo, .inr (6, [.ref al, .int 0, .int 0, .int 0, x4, x5, .ref b1, x7])), (al, .inr (4, [.int mc, .ref (zk 0), .int 0]))]) hD hS hA [0, 1, 2] rfl
  have hDv := hDc.self (sz := H.size)
  have hpre := zpre (xs' := []) (av := [.ref xo, .int 4, .ref ou]) hPc hK (hDc.weaken (fun _ _ _ h => h)) hZ hS hFc (fun r hr => by cases hr)
  refine va_calli (vx_runSW (As := [.ref xo, .int 4, .ref ou]) (rest := []) ⟨hx, hb, hml, hown, hts⟩ (k_house4H l dC dI cI cB cR cO zk ou (.long 0) .null xo al b1 x4 x5 x7 mc H.size ) (vx_cwSW 3 hts gL_law_L_house rfl rfl rfl (by decide +kernel) ⟨Nat.le_of_ble_eq_true rfl, Nat.le_of_ble_eq_true rfl⟩) ⟨zblind, hpre⟩ rfl rfl hl.1 rfl (lv_room (Nat.le_of_ble_eq_true rfl)) dL_law_2079 ⟨Nat.le_of_ble_eq_true rfl, Nat.le_of_ble_eq_true rfl⟩) hS (fun q _ h => hFc q h) hFc (fun r4 u t H3 locs ht hvm hw hB hz1 hk1 hS => ?_)
  obtain rfl : 0 = r4 := (show r4 = 0 from hw).symm
  obtain ⟨hP1, hK1, hD1, hz2⟩ := hB
  rw [ht] at hP1 hz2
  have hPD9 := va_join (wr := [(mo, .inr (9, [.int 0, .ref am, .int 0, .int 0, .int 0])), (am, .inr (4, [.int mm, .ref (zk 0), .int 0]))]) (w1 := [(ou, .inr (7, [.long 0, .null])), (xo, .inr (6, [.ref al, .int 0, .int 0, .int 0, x4, x5, .ref b1, x7])), (al, .inr (4, [.int mc, .ref (zk 0), .int 0]))]) hP hD [0, 1, 2] [3, 4] rfl rfl (by decide) (by decide) hk1 hFc hP1 hD1
  clear hPc hDc hFc hDv hpre hP hD hP1 hK1 hD1
  obtain ⟨hP, hD⟩ := hPD9
  replace hz : s.heap.size + 0 ≤ H3.size := by omega
  clear hz2
  replace hP : va_P (dC, dI) vwCl [(mo, .inr (9, [.int 0, .ref am, .int 0, .int 0, .int 0])), (am, .inr (4, [.int mm, .ref (zk 0), .int 0])), (ou, .inr (7, [.long 0, .null])), (xo, .inr (6, [.ref al, .int 0, .int 0, .int 0, x4, x5, .ref b1, x7])), (al, .inr (4, [.int mc, .ref (zk 0), .int 0]))] H3 := hP
  replace hD : va_D A [(mo, .inr (9, [.int 0, .ref am, .int 0, .int 0, .int 0])), (am, .inr (4, [.int mm, .ref (zk 0), .int 0])), (ou, .inr (7, [.long 0, .null])), (xo, .inr (6, [.ref al, .int 0, .int 0, .int 0, x4, x5, .ref b1, x7])), (al, .inr (4, [.int mc, .ref (zk 0), .int 0]))] := hD
  refine W.widen (k := 17) (n := 79) (by omega) (by omega) ?_
  refine lv_istore (lv' := [(5, .int 0), (4, .int 0), (3, .ref ou), (2, .ref mo), (1, .ref xo), (0, .ref b)]) hx hb dL_law_2082 hl (by decide) rfl (fun ls hl => ?_)
  refine lv_aload_n hx hb dL_law_2084 rfl (lv_at hl 3 rfl) ?_
  refine lv_aload_n hx hb dL_law_2085 rfl (lv_at hl 5 rfl) ?_
  refine lv_iload hx hb dL_law_2086 (lv_at hl 1 rfl) ?_
  refine lv_iconst (v := 1) hx hb dL_law_2088 (by decide) ?_
  refine lv_iadd hx hb dL_law_2089 ?_
  refine lv_topi (fun v5 ev5 => ?_)
  obtain rfl : v5 = 1 := ev5.trans (by decide)
  refine va_sld hx hb hX hbl hbA hS (by unfold vp_in; decide) dL_law_2090 ?_
  refine lv_topi (fun v6 ev6 => ?_)
  have e9 : v6 = 4 := ev6.trans (show xs ((1 : Int32).toNatClampNeg) = 4 from h1)
  clear ev6
  subst v6
  have hPc := hP.sub (ws' := [(mo, .inr (9, [.int 0, .ref am, .int 0, .int 0, .int 0])), (am, .inr (4, [.int mm, .ref (zk 0), .int 0]))]) [0, 1] rfl
  have hDc := hD.sub (ws' := [(mo, .inr (9, [.int 0, .ref am, .int 0, .int 0, .int 0])), (am, .inr (4, [.int mm, .ref (zk 0), .int 0]))]) [0, 1] (by decide) rfl
  have hFc := va_free (wc := [(mo, .inr (9, [.int 0, .ref am, .int 0, .int 0, .int 0])), (am, .inr (4, [.int mm, .ref (zk 0), .int 0]))]) hD hS hA [0, 1] rfl
  have hDv := hDc.self (sz := H3.size)
  have hpre := zpre (xs' := []) (av := [.ref mo, .int 4]) hPc hK (hDc.weaken (fun _ _ _ h => h)) hZ hS hFc (fun r hr => by cases hr)
  refine va_calli (va_runV (As := [.int 4]) (rest := []) ⟨hx, hb, hml, hown, hts⟩ (k_house4M l dC dI cI cB cR cO zk mo am (.int 0) mm  H3.size ) (cwV 1 hts gL_law_X4_house rfl rfl rfl (by decide +kernel) ⟨Nat.le_of_ble_eq_true rfl, Nat.le_of_ble_eq_true rfl⟩) ⟨zblind, (zrecv_9 hK hPc (q0 := 0) rfl), hpre⟩ rfl rfl hl.1 rfl (lv_room (Nat.le_of_ble_eq_true rfl)) dL_law_2091 ⟨Nat.le_of_ble_eq_true rfl, Nat.le_of_ble_eq_true rfl⟩) hS (fun q _ h => hFc q h) hFc (fun r8 u t H7 locs ht hvm hw hB hz1 hk1 hS => ?_)
  obtain rfl : 0 = r8 := (show r8 = 0 from hw).symm
  obtain ⟨hP1, hK1, hD1, hz2⟩ := hB
  rw [ht] at hP1 hz2
  have hPD9 := va_join (wr := [(ou, .inr (7, [.long 0, .null])), (xo, .inr (6, [.ref al, .int 0, .int 0, .int 0, x4, x5, .ref b1, x7])), (al, .inr (4, [.int mc, .ref (zk 0), .int 0]))]) (w1 := [(mo, .inr (9, [.int 0, .ref am, .int 0, .int 0, .int 0])), (am, .inr (4, [.int mm, .ref (zk 0), .int 0]))]) hP hD [0, 1] [2, 3, 4] rfl rfl (by decide) (by decide) hk1 hFc hP1 hD1
  clear hPc hDc hFc hDv hpre hP hD hP1 hK1 hD1
  obtain ⟨hP, hD⟩ := hPD9
  replace hz : s.heap.size + 1 ≤ H7.size := by omega
  clear hz2
  replace hP : va_P (dC, dI) vwCl [(ou, .inr (7, [.long 0, .null])), (xo, .inr (6, [.ref al, .int 0, .int 0, .int 0, x4, x5, .ref b1, x7])), (al, .inr (4, [.int mc, .ref (zk 0), .int 0])), (mo, .inr (9, [.int 0, .ref am, .int 0, .int 0, .int 0])), (am, .inr (4, [.int mm, .ref (zk 0), .int 0]))] H7 := hP
  replace hD : va_D A [(ou, .inr (7, [.long 0, .null])), (xo, .inr (6, [.ref al, .int 0, .int 0, .int 0, x4, x5, .ref b1, x7])), (al, .inr (4, [.int mc, .ref (zk 0), .int 0])), (mo, .inr (9, [.int 0, .ref am, .int 0, .int 0, .int 0])), (am, .inr (4, [.int mm, .ref (zk 0), .int 0]))] := hD
  refine W.widen (k := 18) (n := 85) (by omega) (by omega) ?_
  refine lv_istore (lv' := [(6, .int 0), (5, .int 0), (4, .int 0), (3, .ref ou), (2, .ref mo), (1, .ref xo), (0, .ref b)]) hx hb dL_law_2094 hl (by decide) rfl (fun ls hl => ?_)
  refine lv_aload_n hx hb dL_law_2096 rfl (lv_at hl 4 rfl) ?_
  have hPc := hP.sub (ws' := [(mo, .inr (9, [.int 0, .ref am, .int 0, .int 0, .int 0]))]) [3] rfl
  have hDc := hD.sub (ws' := [(mo, .inr (9, [.int 0, .ref am, .int 0, .int 0, .int 0]))]) [3] (by decide) rfl
  have hFc := va_free (wc := [(mo, .inr (9, [.int 0, .ref am, .int 0, .int 0, .int 0]))]) hD hS hA [3] rfl
  have hDv := hDc.self (sz := H7.size)
  have hpre := zpre (xs' := []) (av := [.ref mo]) hPc hK (hDc.weaken (fun _ _ _ h => h)) hZ hS hFc (fun r hr => by cases hr)
  refine va_calli (va_runV (As := []) (rest := []) ⟨hx, hb, hml, hown, hts⟩ (k_th0 l dC dI cI cB cR cO zk mo am H7.size ) (cwV 0 hts gL_law_X4_thrown rfl rfl rfl (by decide +kernel) ⟨Nat.le_of_ble_eq_true rfl, Nat.le_of_ble_eq_true rfl⟩) ⟨zblind, (zrecv_9 hK hPc (q0 := 0) rfl), hpre⟩ rfl rfl hl.1 rfl (lv_room (Nat.le_of_ble_eq_true rfl)) dL_law_2097 ⟨Nat.le_of_ble_eq_true rfl, Nat.le_of_ble_eq_true rfl⟩) hS (fun q _ h => hFc q h) hFc (fun r10 u t H9 locs ht hvm hw hB hz1 hk1 hS => ?_)
  obtain rfl : 0 = r10 := (show r10 = 0 from hw).symm
  obtain ⟨hP1, hK1, hD1, hz2⟩ := hB
  rw [ht] at hP1 hz2
  have hPD9 := va_join (wr := [(ou, .inr (7, [.long 0, .null])), (xo, .inr (6, [.ref al, .int 0, .int 0, .int 0, x4, x5, .ref b1, x7])), (al, .inr (4, [.int mc, .ref (zk 0), .int 0])), (am, .inr (4, [.int mm, .ref (zk 0), .int 0]))]) (w1 := [(mo, .inr (9, [.int 0, .ref am, .int 0, .int 0, .int 0]))]) hP hD [3] [0, 1, 2, 4] rfl rfl (by decide) (by decide) hk1 hFc hP1 hD1
  clear hPc hDc hFc hDv hpre hP hD hP1 hK1 hD1
  obtain ⟨hP, hD⟩ := hPD9
  replace hz : s.heap.size + 1 ≤ H9.size := by omega
  clear hz2
  replace hP : va_P (dC, dI) vwCl [(ou, .inr (7, [.long 0, .null])), (xo, .inr (6, [.ref al, .int 0, .int 0, .int 0, x4, x5, .ref b1, x7])), (al, .inr (4, [.int mc, .ref (zk 0), .int 0])), (am, .inr (4, [.int mm, .ref (zk 0), .int 0])), (mo, .inr (9, [.int 0, .ref am, .int 0, .int 0, .int 0]))] H9 := hP
  replace hD : va_D A [(ou, .inr (7, [.long 0, .null])), (xo, .inr (6, [.ref al, .int 0, .int 0, .int 0, x4, x5, .ref b1, x7])), (al, .inr (4, [.int mc, .ref (zk 0), .int 0])), (am, .inr (4, [.int mm, .ref (zk 0), .int 0])), (mo, .inr (9, [.int 0, .ref am, .int 0, .int 0, .int 0]))] := hD
  refine W.widen (k := 18) (n := 85) (by omega) (by omega) ?_
  refine lv_iload hx hb dL_law_2100 (lv_at hl 1 rfl) ?_
  refine lv_icmp_eq (tgt := 2107) hx hb dL_law_2102 (by decide) (fun c9 => ?_) (fun c9 => ?_)
  rotate_left
  · exact absurd (by decide) c9
  refine lv_iload hx hb dL_law_2107 (lv_at hl 1 rfl) ?_
  refine lv_if_ne (tgt := 2125) hx hb dL_law_2109 (by decide) (fun c9 => ?_) (fun c9 => ?_)
  · exact absurd (by decide) c9
  refine lv_aload_n hx hb dL_law_2112 rfl (lv_at hl 3 rfl) ?_
  refine va_getN (D := (dC, dI)) (ci := 7) (v := .long 0) (C := RX2) (T := TX2) (N := 2) hx hb hts inlX2 hown hK hP 0 rfl rfl 0 (by decide) (zn6 hZ) (fun _ h9 => h9) rfl dL_law_2113 ?_
  refine lv_iload hx hb dL_law_2116 (lv_at hl 0 rfl) ?_
  refine lv_i2l (v := 0) hx hb dL_law_2118 (by decide) ?_
  refine W.lcmp hx hb dL_law_2119 ?_
  refine lv_topi (fun v11 ev11 => ?_)
  obtain rfl : v11 = 0 := ev11.trans (by decide)
  refine lv_if_eq (tgt := 2125) hx hb dL_law_2120 (by decide) (fun c9 => ?_) (fun c9 => ?_)
  rotate_left
  · exact absurd (by decide) c9
  refine lv_goto (tgt := 2155) hx hb dL_law_2125 (by decide) ?_
  rw [hAd] at hS
  exact zl_tail l dC dI cI cB cR cO zk b xs C1 hZ0 hK hS (Nat.le_of_ble_eq_true rfl) (Nat.le_of_ble_eq_true rfl) ls (lv_sub hl [6, 2] rfl)

set_option maxHeartbeats 4000000 in
set_option maxRecDepth 100000 in
theorem zl_a_house5 (l : Launch) (dC : Nat → ClassId) (dI : Nat → Nat → Nat) (cI cB cR cO : ClassId) (zk : Nat → Nat) {p : Program} {e : Env} {s : State} {mY : MethodId} {below : List Frame} {meth : Method} {c : Code} (b : Nat) (xs : Nat → Int32) (hfl : l.stackTraces = false) (C0 : zl_At p s mY meth c b 5 xs) (hZ0 : zR zk [] (fun q => s.heap.size ≤ q) s s.heap) (hK : va_K (dC, dI) vwCl (zT cI cB cR cO) s) (ou xo al b1 : Nat) (x4 x5 x7 : Value) (mc : Int32) (mo am : Nat) (mm : Int32)  (h1 : xs 1 = 5)  (H : Heap) (locs : List Loc) (hP : va_P (dC, dI) vwCl [(ou, .inr (7, [.long 0, .null])), (xo, .inr (6, [.ref al, .int 0, .int 0, .int 0, x4, x5, .ref b1, x7])), (al, .inr (4, [.int mc, .ref (zk 0), .int 0])), (mo, .inr (9, [.int 0, .ref am, .int 0, .int 0, .int 0])), (am, .inr (4, [.int mm, .ref (zk 0), .int 0]))] H) (hD : va_D (fun q => s.heap.size ≤ q) [(ou, .inr (7, [.long 0, .null])), (xo, .inr (6, [.ref al, .int 0, .int 0, .int 0, x4, x5, .ref b1, x7])), (al, .inr (4, [.int mc, .ref (zk 0), .int 0])), (mo, .inr (9, [.int 0, .ref am, .int 0, .int 0, .int 0])), (am, .inr (4, [.int mm, .ref (zk 0), .int 0]))]) (hS : va_S (fun q => s.heap.size ≤ q) s.heap H locs) (ls : Array Slot) (hl : lv_has ls 7 [(4, .int 0), (3, .ref ou), (2, .ref mo), (1, .ref xo), (0, .ref b)]) : W p l e room_1 s mY #[Value.ref b] below meth c H locs 17 79 (lw_Z below #[Value.ref b] s) (F0 mY 2071 ls []) := by
  have C1 := C0
  obtain ⟨hx, hb, hr, hml, hown, hts0, hX, hbl, hlocks, hNI⟩ := C0
  have hts := fun (w : Cond) (h : w ∈ wsL_law) => hts0 w (wsL_law_in w h)
  obtain ⟨A, hAd⟩ : ∃ A : Nat → Prop, A = fun q => s.heap.size ≤ q := ⟨_, rfl⟩
  have hA : ∀ q : Nat, s.heap.size ≤ q → A q := fun q h => by rw [hAd]; exact h
  have hAf : ∀ q : Nat, A q → s.heap.size ≤ q := fun q h => by rw [hAd] at h; exact h
  have hbA : ¬ A b := fun h => absurd (hAf b h) (Nat.not_le.mpr hbl)
  have hZ : zR zk [] A s s.heap := by rw [hAd]; exact hZ0
  rw [← hAd] at hD hS
  replace hP : va_P (dC, dI) vwCl [(ou, .inr (7, [.long 0, .null])), (xo, .inr (6, [.ref al, .int 0, .int 0, .int 0, x4, x5, .ref b1, x7])), (al, .inr (4, [.int mc, .ref (zk 0), .int 0])), (mo, .inr (9, [.int 0, .ref am, .int 0, .int 0, .int 0])), (am, .inr (4, [.int mm, .ref (zk 0), .int 0]))] H := hP
  replace hD : va_D A [(ou, .inr (7, [.long 0, .null])), (xo, .inr (6, [.ref al, .int 0, .int 0, .int 0, x4, x5, .ref b1, x7])), (al, .inr (4, [.int mc, .ref (zk 0), .int 0])), (mo, .inr (9, [.int 0, .ref am, .int 0, .int 0, .int 0])), (am, .inr (4, [.int mm, .ref (zk 0), .int 0]))] := hD
  have hz : s.heap.size + 0 ≤ H.size := hS.1
  refine lv_aload_n hx hb dL_law_2071 rfl (lv_at hl 3 rfl) ?_
  refine lv_aload_n hx hb dL_law_2072 rfl (lv_at hl 4 rfl) ?_
  refine lv_iload hx hb dL_law_2073 (lv_at hl 0 rfl) ?_
  refine lv_iconst (v := 1) hx hb dL_law_2075 (by decide) ?_
  refine lv_iadd hx hb dL_law_2076 ?_
  refine lv_topi (fun v1 ev1 => ?_)
  obtain rfl : v1 = 1 := ev1.trans (by decide)
  refine va_sld hx hb hX hbl hbA hS (by unfold vp_in; decide) dL_law_2077 ?_
  refine lv_topi (fun v2 ev2 => ?_)
  have e9 : v2 = 5 := ev2.trans (show xs ((1 : Int32).toNatClampNeg) = 5 from h1)
  clear ev2
  subst v2
  refine lv_aload_n hx hb dL_law_2078 rfl (lv_at hl 1 rfl) ?_
  have hPc := hP.sub (ws' := [(ou, .inr (7, [.long 0, .null])), (xo, .inr (6, [.ref al, .int 0, .int 0, .int 0, x4, x5, .ref b1, x7])), (al, .inr (4, [.int mc, .ref (zk 0), .int 0]))]) [0, 1, 2] rfl
  have hDc := hD.sub (ws' := [(ou, .inr (7, [.long 0, .null])), (xo, .inr (6, [.ref al, .int 0, .int 0, .int 0, x4, x5, .ref b1, x7])), (al, .inr (4, [.int mc, .ref (zk 0), .int 0]))]) [0, 1, 2] (by decide) rfl
  have hFc := va_free (wc := [(ou, .inr (7, [.long 0, .null])), (xo, .inr (6, [.ref al, .int 0, .int 0, .int 0, x4, x5, .ref b1, x7])), (al, .inr (4, [.int mc, .ref (zk 0), .int 0]))]) hD hS hA [0, 1, 2] rfl
  have hDv := hDc.self (sz := H.size)
  have hpre := zpre (xs' := []) (av := [.ref xo, .int 5, .ref ou]) hPc hK (hDc.weaken (fun _ _ _ h => h)) hZ hS hFc (fun r hr => by cases hr)
  refine va_calli (vx_runSW (As := [.ref xo, .int 5, .ref ou]) (rest := []) ⟨hx, hb, hml, hown, hts⟩ (k_house5H l dC dI cI cB cR cO zk ou (.long 0) .null xo al b1 x4 x5 x7 mc H.size ) (vx_cwSW 3 hts gL_law_L_house rfl rfl rfl (by decide +kernel) ⟨Nat.le_of_ble_eq_true rfl, Nat.le_of_ble_eq_true rfl⟩) ⟨zblind, hpre⟩ rfl rfl hl.1 rfl (lv_room (Nat.le_of_ble_eq_true rfl)) dL_law_2079 ⟨Nat.le_of_ble_eq_true rfl, Nat.le_of_ble_eq_true rfl⟩) hS (fun q _ h => hFc q h) hFc (fun r4 u t H3 locs ht hvm hw hB hz1 hk1 hS => ?_)
  obtain rfl : 0 = r4 := (show r4 = 0 from hw).symm
  obtain ⟨hP1, hK1, hD1, hz2⟩ := hB
  rw [ht] at hP1 hz2
  have hPD9 := va_join (wr := [(mo, .inr (9, [.int 0, .ref am, .int 0, .int 0, .int 0])), (am, .inr (4, [.int mm, .ref (zk 0), .int 0]))]) (w1 := [(ou, .inr (7, [.long 0, .null])), (xo, .inr (6, [.ref al, .int 0, .int 0, .int 0, x4, x5, .ref b1, x7])), (al, .inr (4, [.int mc, .ref (zk 0), .int 0]))]) hP hD [0, 1, 2] [3, 4] rfl rfl (by decide) (by decide) hk1 hFc hP1 hD1
  clear hPc hDc hFc hDv hpre hP hD hP1 hK1 hD1
  obtain ⟨hP, hD⟩ := hPD9
  replace hz : s.heap.size + 0 ≤ H3.size := by omega
  clear hz2
  replace hP : va_P (dC, dI) vwCl [(mo, .inr (9, [.int 0, .ref am, .int 0, .int 0, .int 0])), (am, .inr (4, [.int mm, .ref (zk 0), .int 0])), (ou, .inr (7, [.long 0, .null])), (xo, .inr (6, [.ref al, .int 0, .int 0, .int 0, x4, x5, .ref b1, x7])), (al, .inr (4, [.int mc, .ref (zk 0), .int 0]))] H3 := hP
  replace hD : va_D A [(mo, .inr (9, [.int 0, .ref am, .int 0, .int 0, .int 0])), (am, .inr (4, [.int mm, .ref (zk 0), .int 0])), (ou, .inr (7, [.long 0, .null])), (xo, .inr (6, [.ref al, .int 0, .int 0, .int 0, x4, x5, .ref b1, x7])), (al, .inr (4, [.int mc, .ref (zk 0), .int 0]))] := hD
  refine W.widen (k := 17) (n := 79) (by omega) (by omega) ?_
  refine lv_istore (lv' := [(5, .int 0), (4, .int 0), (3, .ref ou), (2, .ref mo), (1, .ref xo), (0, .ref b)]) hx hb dL_law_2082 hl (by decide) rfl (fun ls hl => ?_)
  refine lv_aload_n hx hb dL_law_2084 rfl (lv_at hl 3 rfl) ?_
  refine lv_aload_n hx hb dL_law_2085 rfl (lv_at hl 5 rfl) ?_
  refine lv_iload hx hb dL_law_2086 (lv_at hl 1 rfl) ?_
  refine lv_iconst (v := 1) hx hb dL_law_2088 (by decide) ?_
  refine lv_iadd hx hb dL_law_2089 ?_
  refine lv_topi (fun v5 ev5 => ?_)
  obtain rfl : v5 = 1 := ev5.trans (by decide)
  refine va_sld hx hb hX hbl hbA hS (by unfold vp_in; decide) dL_law_2090 ?_
  refine lv_topi (fun v6 ev6 => ?_)
  have e9 : v6 = 5 := ev6.trans (show xs ((1 : Int32).toNatClampNeg) = 5 from h1)
  clear ev6
  subst v6
  have hPc := hP.sub (ws' := [(mo, .inr (9, [.int 0, .ref am, .int 0, .int 0, .int 0])), (am, .inr (4, [.int mm, .ref (zk 0), .int 0]))]) [0, 1] rfl
  have hDc := hD.sub (ws' := [(mo, .inr (9, [.int 0, .ref am, .int 0, .int 0, .int 0])), (am, .inr (4, [.int mm, .ref (zk 0), .int 0]))]) [0, 1] (by decide) rfl
  have hFc := va_free (wc := [(mo, .inr (9, [.int 0, .ref am, .int 0, .int 0, .int 0])), (am, .inr (4, [.int mm, .ref (zk 0), .int 0]))]) hD hS hA [0, 1] rfl
  have hDv := hDc.self (sz := H3.size)
  have hpre := zpre (xs' := []) (av := [.ref mo, .int 5]) hPc hK (hDc.weaken (fun _ _ _ h => h)) hZ hS hFc (fun r hr => by cases hr)
  refine va_calli (va_runV (As := [.int 5]) (rest := []) ⟨hx, hb, hml, hown, hts⟩ (k_house5M l dC dI cI cB cR cO zk mo am (.int 0) mm  H3.size ) (cwV 1 hts gL_law_X4_house rfl rfl rfl (by decide +kernel) ⟨Nat.le_of_ble_eq_true rfl, Nat.le_of_ble_eq_true rfl⟩) ⟨zblind, (zrecv_9 hK hPc (q0 := 0) rfl), hpre⟩ rfl rfl hl.1 rfl (lv_room (Nat.le_of_ble_eq_true rfl)) dL_law_2091 ⟨Nat.le_of_ble_eq_true rfl, Nat.le_of_ble_eq_true rfl⟩) hS (fun q _ h => hFc q h) hFc (fun r8 u t H7 locs ht hvm hw hB hz1 hk1 hS => ?_)
  obtain rfl : 0 = r8 := (show r8 = 0 from hw).symm
  obtain ⟨hP1, hK1, hD1, hz2⟩ := hB
  rw [ht] at hP1 hz2
  have hPD9 := va_join (wr := [(ou, .inr (7, [.long 0, .null])), (xo, .inr (6, [.ref al, .int 0, .int 0, .int 0, x4, x5, .ref b1, x7])), (al, .inr (4, [.int mc, .ref (zk 0), .int 0]))]) (w1 := [(mo, .inr (9, [.int 0, .ref am, .int 0, .int 0, .int 0])), (am, .inr (4, [.int mm, .ref (zk 0), .int 0]))]) hP hD [0, 1] [2, 3, 4] rfl rfl (by decide) (by decide) hk1 hFc hP1 hD1
  clear hPc hDc hFc hDv hpre hP hD hP1 hK1 hD1
  obtain ⟨hP, hD⟩ := hPD9
  replace hz : s.heap.size + 1 ≤ H7.size := by omega
  clear hz2
  replace hP : va_P (dC, dI) vwCl [(ou, .inr (7, [.long 0, .null])), (xo, .inr (6, [.ref al, .int 0, .int 0, .int 0, x4, x5, .ref b1, x7])), (al, .inr (4, [.int mc, .ref (zk 0), .int 0])), (mo, .inr (9, [.int 0, .ref am, .int 0, .int 0, .int 0])), (am, .inr (4, [.int mm, .ref (zk 0), .int 0]))] H7 := hP
  replace hD : va_D A [(ou, .inr (7, [.long 0, .null])), (xo, .inr (6, [.ref al, .int 0, .int 0, .int 0, x4, x5, .ref b1, x7])), (al, .inr (4, [.int mc, .ref (zk 0), .int 0])), (mo, .inr (9, [.int 0, .ref am, .int 0, .int 0, .int 0])), (am, .inr (4, [.int mm, .ref (zk 0), .int 0]))] := hD
  refine W.widen (k := 18) (n := 85) (by omega) (by omega) ?_
  refine lv_istore (lv' := [(6, .int 0), (5, .int 0), (4, .int 0), (3, .ref ou), (2, .ref mo), (1, .ref xo), (0, .ref b)]) hx hb dL_law_2094 hl (by decide) rfl (fun ls hl => ?_)
  refine lv_aload_n hx hb dL_law_2096 rfl (lv_at hl 4 rfl) ?_
  have hPc := hP.sub (ws' := [(mo, .inr (9, [.int 0, .ref am, .int 0, .int 0, .int 0]))]) [3] rfl
  have hDc := hD.sub (ws' := [(mo, .inr (9, [.int 0, .ref am, .int 0, .int 0, .int 0]))]) [3] (by decide) rfl
  have hFc := va_free (wc := [(mo, .inr (9, [.int 0, .ref am, .int 0, .int 0, .int 0]))]) hD hS hA [3] rfl
  have hDv := hDc.self (sz := H7.size)
  have hpre := zpre (xs' := []) (av := [.ref mo]) hPc hK (hDc.weaken (fun _ _ _ h => h)) hZ hS hFc (fun r hr => by cases hr)
  refine va_calli (va_runV (As := []) (rest := []) ⟨hx, hb, hml, hown, hts⟩ (k_th0 l dC dI cI cB cR cO zk mo am H7.size ) (cwV 0 hts gL_law_X4_thrown rfl rfl rfl (by decide +kernel) ⟨Nat.le_of_ble_eq_true rfl, Nat.le_of_ble_eq_true rfl⟩) ⟨zblind, (zrecv_9 hK hPc (q0 := 0) rfl), hpre⟩ rfl rfl hl.1 rfl (lv_room (Nat.le_of_ble_eq_true rfl)) dL_law_2097 ⟨Nat.le_of_ble_eq_true rfl, Nat.le_of_ble_eq_true rfl⟩) hS (fun q _ h => hFc q h) hFc (fun r10 u t H9 locs ht hvm hw hB hz1 hk1 hS => ?_)
  obtain rfl : 0 = r10 := (show r10 = 0 from hw).symm
  obtain ⟨hP1, hK1, hD1, hz2⟩ := hB
  rw [ht] at hP1 hz2
  have hPD9 := va_join (wr := [(ou, .inr (7, [.long 0, .null])), (xo, .inr (6, [.ref al, .int 0, .int 0, .int 0, x4, x5, .ref b1, x7])), (al, .inr (4, [.int mc, .ref (zk 0), .int 0])), (am, .inr (4, [.int mm, .ref (zk 0), .int 0]))]) (w1 := [(mo, .inr (9, [.int 0, .ref am, .int 0, .int 0, .int 0]))]) hP hD [3] [0, 1, 2, 4] rfl rfl (by decide) (by decide) hk1 hFc hP1 hD1
  clear hPc hDc hFc hDv hpre hP hD hP1 hK1 hD1
  obtain ⟨hP, hD⟩ := hPD9
  replace hz : s.heap.size + 1 ≤ H9.size := by omega
  clear hz2
  replace hP : va_P (dC, dI) vwCl [(ou, .inr (7, [.long 0, .null])), (xo, .inr (6, [.ref al, .int 0, .int 0, .int 0, x4, x5, .ref b1, x7])), (al, .inr (4, [.int mc, .ref (zk 0), .int 0])), (am, .inr (4, [.int mm, .ref (zk 0), .int 0])), (mo, .inr (9, [.int 0, .ref am, .int 0, .int 0, .int 0]))] H9 := hP
  replace hD : va_D A [(ou, .inr (7, [.long 0, .null])), (xo, .inr (6, [.ref al, .int 0, .int 0, .int 0, x4, x5, .ref b1, x7])), (al, .inr (4, [.int mc, .ref (zk 0), .int 0])), (am, .inr (4, [.int mm, .ref (zk 0), .int 0])), (mo, .inr (9, [.int 0, .ref am, .int 0, .int 0, .int 0]))] := hD
  refine W.widen (k := 18) (n := 85) (by omega) (by omega) ?_
  refine lv_iload hx hb dL_law_2100 (lv_at hl 1 rfl) ?_
  refine lv_icmp_eq (tgt := 2107) hx hb dL_law_2102 (by decide) (fun c9 => ?_) (fun c9 => ?_)
  rotate_left
  · exact absurd (by decide) c9
  refine lv_iload hx hb dL_law_2107 (lv_at hl 1 rfl) ?_
  refine lv_if_ne (tgt := 2125) hx hb dL_law_2109 (by decide) (fun c9 => ?_) (fun c9 => ?_)
  · exact absurd (by decide) c9
  refine lv_aload_n hx hb dL_law_2112 rfl (lv_at hl 3 rfl) ?_
  refine va_getN (D := (dC, dI)) (ci := 7) (v := .long 0) (C := RX2) (T := TX2) (N := 2) hx hb hts inlX2 hown hK hP 0 rfl rfl 0 (by decide) (zn6 hZ) (fun _ h9 => h9) rfl dL_law_2113 ?_
  refine lv_iload hx hb dL_law_2116 (lv_at hl 0 rfl) ?_
  refine lv_i2l (v := 0) hx hb dL_law_2118 (by decide) ?_
  refine W.lcmp hx hb dL_law_2119 ?_
  refine lv_topi (fun v11 ev11 => ?_)
  obtain rfl : v11 = 0 := ev11.trans (by decide)
  refine lv_if_eq (tgt := 2125) hx hb dL_law_2120 (by decide) (fun c9 => ?_) (fun c9 => ?_)
  rotate_left
  · exact absurd (by decide) c9
  refine lv_goto (tgt := 2155) hx hb dL_law_2125 (by decide) ?_
  rw [hAd] at hS
  exact zl_tail l dC dI cI cB cR cO zk b xs C1 hZ0 hK hS (Nat.le_of_ble_eq_true rfl) (Nat.le_of_ble_eq_true rfl) ls (lv_sub hl [6, 2] rfl)

set_option maxHeartbeats 4000000 in
set_option maxRecDepth 100000 in
theorem zl_a_houseO (l : Launch) (dC : Nat → ClassId) (dI : Nat → Nat → Nat) (cI cB cR cO : ClassId) (zk : Nat → Nat) {p : Program} {e : Env} {s : State} {mY : MethodId} {below : List Frame} {meth : Method} {c : Code} (b : Nat) (xs : Nat → Int32) (hfl : l.stackTraces = false) (C0 : zl_At p s mY meth c b 5 xs) (hZ0 : zR zk [] (fun q => s.heap.size ≤ q) s s.heap) (hK : va_K (dC, dI) vwCl (zT cI cB cR cO) s) (ou xo al b1 : Nat) (x4 x5 x7 : Value) (mc : Int32) (mo am : Nat) (mm : Int32)  (p0 : Int32) (h1 : xs 1 = p0) (hp : p0.toInt < 0 ∨ 5 < p0.toInt) (H : Heap) (locs : List Loc) (hP : va_P (dC, dI) vwCl [(ou, .inr (7, [.long 0, .null])), (xo, .inr (6, [.ref al, .int 0, .int 0, .int 0, x4, x5, .ref b1, x7])), (al, .inr (4, [.int mc, .ref (zk 0), .int 0])), (mo, .inr (9, [.int 0, .ref am, .int 0, .int 0, .int 0])), (am, .inr (4, [.int mm, .ref (zk 0), .int 0]))] H) (hD : va_D (fun q => s.heap.size ≤ q) [(ou, .inr (7, [.long 0, .null])), (xo, .inr (6, [.ref al, .int 0, .int 0, .int 0, x4, x5, .ref b1, x7])), (al, .inr (4, [.int mc, .ref (zk 0), .int 0])), (mo, .inr (9, [.int 0, .ref am, .int 0, .int 0, .int 0])), (am, .inr (4, [.int mm, .ref (zk 0), .int 0]))]) (hS : va_S (fun q => s.heap.size ≤ q) s.heap H locs) (ls : Array Slot) (hl : lv_has ls 7 [(4, .int 0), (3, .ref ou), (2, .ref mo), (1, .ref xo), (0, .ref b)]) : W p l e room_1 s mY #[Value.ref b] below meth c H locs 17 79 (lw_Z below #[Value.ref b] s) (F0 mY 2071 ls []) := by
  have C1 := C0
  obtain ⟨hx, hb, hr, hml, hown, hts0, hX, hbl, hlocks, hNI⟩ := C0
  have hts := fun (w : Cond) (h : w ∈ wsL_law) => hts0 w (wsL_law_in w h)
  obtain ⟨A, hAd⟩ : ∃ A : Nat → Prop, A = fun q => s.heap.size ≤ q := ⟨_, rfl⟩
  have hA : ∀ q : Nat, s.heap.size ≤ q → A q := fun q h => by rw [hAd]; exact h
  have hAf : ∀ q : Nat, A q → s.heap.size ≤ q := fun q h => by rw [hAd] at h; exact h
  have hbA : ¬ A b := fun h => absurd (hAf b h) (Nat.not_le.mpr hbl)
  have hZ : zR zk [] A s s.heap := by rw [hAd]; exact hZ0
  rw [← hAd] at hD hS
  replace hP : va_P (dC, dI) vwCl [(ou, .inr (7, [.long 0, .null])), (xo, .inr (6, [.ref al, .int 0, .int 0, .int 0, x4, x5, .ref b1, x7])), (al, .inr (4, [.int mc, .ref (zk 0), .int 0])), (mo, .inr (9, [.int 0, .ref am, .int 0, .int 0, .int 0])), (am, .inr (4, [.int mm, .ref (zk 0), .int 0]))] H := hP
  replace hD : va_D A [(ou, .inr (7, [.long 0, .null])), (xo, .inr (6, [.ref al, .int 0, .int 0, .int 0, x4, x5, .ref b1, x7])), (al, .inr (4, [.int mc, .ref (zk 0), .int 0])), (mo, .inr (9, [.int 0, .ref am, .int 0, .int 0, .int 0])), (am, .inr (4, [.int mm, .ref (zk 0), .int 0]))] := hD
  have hz : s.heap.size + 0 ≤ H.size := hS.1
  refine lv_aload_n hx hb dL_law_2071 rfl (lv_at hl 3 rfl) ?_
  refine lv_aload_n hx hb dL_law_2072 rfl (lv_at hl 4 rfl) ?_
  refine lv_iload hx hb dL_law_2073 (lv_at hl 0 rfl) ?_
  refine lv_iconst (v := 1) hx hb dL_law_2075 (by decide) ?_
  refine lv_iadd hx hb dL_law_2076 ?_
  refine lv_topi (fun v1 ev1 => ?_)
  obtain rfl : v1 = 1 := ev1.trans (by decide)
  refine va_sld hx hb hX hbl hbA hS (by unfold vp_in; decide) dL_law_2077 ?_
  refine lv_topi (fun v2 ev2 => ?_)
  have e9 : v2 = p0 := ev2.trans (show xs ((1 : Int32).toNatClampNeg) = p0 from h1)
  clear ev2
  subst v2
  refine lv_aload_n hx hb dL_law_2078 rfl (lv_at hl 1 rfl) ?_
  have hPc := hP.sub (ws' := [(xo, .inr (6, [.ref al, .int 0, .int 0, .int 0, x4, x5, .ref b1, x7])), (al, .inr (4, [.int mc, .ref (zk 0), .int 0]))]) [1, 2] rfl
  have hDc := hD.sub (ws' := [(xo, .inr (6, [.ref al, .int 0, .int 0, .int 0, x4, x5, .ref b1, x7])), (al, .inr (4, [.int mc, .ref (zk 0), .int 0]))]) [1, 2] (by decide) rfl
  have hFc := va_free (wc := [(xo, .inr (6, [.ref al, .int 0, .int 0, .int 0, x4, x5, .ref b1, x7])), (al, .inr (4, [.int mc, .ref (zk 0), .int 0]))]) hD hS hA [1, 2] rfl
  have hDv := hDc.self (sz := H.size)
  have hpre := zpre (xs' := []) (av := [.ref xo, .int p0, .ref ou]) hPc hK (hDc.weaken (fun _ _ _ h => h)) hZ hS hFc (fun r hr => by cases hr)
  refine va_calli (vx_runSW (As := [.ref xo, .int p0, .ref ou]) (rest := []) ⟨hx, hb, hml, hown, hts⟩ (k_houseH l dC dI cI cB cR cO zk hfl xo al b1 x4 x5 x7 mc p0 ou H.size hp) (vx_cwSW 3 hts gL_law_L_house rfl rfl rfl (by decide +kernel) ⟨Nat.le_of_ble_eq_true rfl, Nat.le_of_ble_eq_true rfl⟩) ⟨zblind, hpre⟩ rfl rfl hl.1 rfl (lv_room (Nat.le_of_ble_eq_true rfl)) dL_law_2079 ⟨Nat.le_of_ble_eq_true rfl, Nat.le_of_ble_eq_true rfl⟩) hS (fun q _ h => hFc q h) hFc (fun r4 u t H3 locs ht hvm hw hB hz1 hk1 hS => ?_)
  obtain rfl : 1 = r4 := (show r4 = 1 from hw).symm
  obtain ⟨hP1, hK1, hD1, hz2⟩ := hB
  rw [ht] at hP1 hz2
  have hPD9 := va_join (wr := [(ou, .inr (7, [.long 0, .null])), (mo, .inr (9, [.int 0, .ref am, .int 0, .int 0, .int 0])), (am, .inr (4, [.int mm, .ref (zk 0), .int 0]))]) (w1 := [(xo, .inr (6, [.ref al, .int 0, .int 0, .int 0, x4, x5, .ref b1, x7])), (al, .inr (4, [.int mc, .ref (zk 0), .int 0]))]) hP hD [1, 2] [0, 3, 4] rfl rfl (by decide) (by decide) hk1 hFc hP1 hD1
  clear hPc hDc hFc hDv hpre hP hD hP1 hK1 hD1
  obtain ⟨hP, hD⟩ := hPD9
  replace hz : s.heap.size + 0 ≤ H3.size := by omega
  clear hz2
  replace hP : va_P (dC, dI) vwCl [(ou, .inr (7, [.long 0, .null])), (mo, .inr (9, [.int 0, .ref am, .int 0, .int 0, .int 0])), (am, .inr (4, [.int mm, .ref (zk 0), .int 0])), (xo, .inr (6, [.ref al, .int 0, .int 0, .int 0, x4, x5, .ref b1, x7])), (al, .inr (4, [.int mc, .ref (zk 0), .int 0]))] H3 := hP
  replace hD : va_D A [(ou, .inr (7, [.long 0, .null])), (mo, .inr (9, [.int 0, .ref am, .int 0, .int 0, .int 0])), (am, .inr (4, [.int mm, .ref (zk 0), .int 0])), (xo, .inr (6, [.ref al, .int 0, .int 0, .int 0, x4, x5, .ref b1, x7])), (al, .inr (4, [.int mc, .ref (zk 0), .int 0]))] := hD
  refine W.widen (k := 18) (n := 85) (by omega) (by omega) ?_
  refine lv_istore (lv' := [(5, .int 1), (4, .int 0), (3, .ref ou), (2, .ref mo), (1, .ref xo), (0, .ref b)]) hx hb dL_law_2082 hl (by decide) rfl (fun ls hl => ?_)
  refine lv_aload_n hx hb dL_law_2084 rfl (lv_at hl 3 rfl) ?_
  refine lv_aload_n hx hb dL_law_2085 rfl (lv_at hl 5 rfl) ?_
  refine lv_iload hx hb dL_law_2086 (lv_at hl 1 rfl) ?_
  refine lv_iconst (v := 1) hx hb dL_law_2088 (by decide) ?_
  refine lv_iadd hx hb dL_law_2089 ?_
  refine lv_topi (fun v5 ev5 => ?_)
  obtain rfl : v5 = 1 := ev5.trans (by decide)
  refine va_sld hx hb hX hbl hbA hS (by unfold vp_in; decide) dL_law_2090 ?_
  refine lv_topi (fun v6 ev6 => ?_)
  have e9 : v6 = p0 := ev6.trans (show xs ((1 : Int32).toNatClampNeg) = p0 from h1)
  clear ev6
  subst v6
  have hPc := hP.sub (ws' := [(mo, .inr (9, [.int 0, .ref am, .int 0, .int 0, .int 0])), (am, .inr (4, [.int mm, .ref (zk 0), .int 0]))]) [1, 2] rfl
  have hDc := hD.sub (ws' := [(mo, .inr (9, [.int 0, .ref am, .int 0, .int 0, .int 0])), (am, .inr (4, [.int mm, .ref (zk 0), .int 0]))]) [1, 2] (by decide) rfl
  have hFc := va_free (wc := [(mo, .inr (9, [.int 0, .ref am, .int 0, .int 0, .int 0])), (am, .inr (4, [.int mm, .ref (zk 0), .int 0]))]) hD hS hA [1, 2] rfl
  have hDv := hDc.self (sz := H3.size)
  have hpre := zpre (xs' := []) (av := [.ref mo, .int p0]) hPc hK (hDc.weaken (fun _ _ _ h => h)) hZ hS hFc (fun r hr => by cases hr)
  refine va_calli (va_runV (As := [.int p0]) (rest := []) ⟨hx, hb, hml, hown, hts⟩ (k_houseM l dC dI cI cB cR cO zk mo am (.int 0) mm p0 H3.size hp) (cwV 1 hts gL_law_X4_house rfl rfl rfl (by decide +kernel) ⟨Nat.le_of_ble_eq_true rfl, Nat.le_of_ble_eq_true rfl⟩) ⟨zblind, (zrecv_9 hK hPc (q0 := 0) rfl), hpre⟩ rfl rfl hl.1 rfl (lv_room (Nat.le_of_ble_eq_true rfl)) dL_law_2091 ⟨Nat.le_of_ble_eq_true rfl, Nat.le_of_ble_eq_true rfl⟩) hS (fun q _ h => hFc q h) hFc (fun r8 u t H7 locs ht hvm hw hB hz1 hk1 hS => ?_)
  obtain ⟨hP1, hK1, hD1, hz2⟩ := hB
  rw [ht] at hP1 hz2
  have hPD9 := va_join (wr := [(ou, .inr (7, [.long 0, .null])), (xo, .inr (6, [.ref al, .int 0, .int 0, .int 0, x4, x5, .ref b1, x7])), (al, .inr (4, [.int mc, .ref (zk 0), .int 0]))]) (w1 := [(mo, .inr (9, [.int 1, .ref am, .int 0, .int 0, .int 0])), (am, .inr (4, [.int mm, .ref (zk 0), .int 0]))]) hP hD [1, 2] [0, 3, 4] rfl rfl (by decide) (by decide) hk1 hFc hP1 hD1
  clear hPc hDc hFc hDv hpre hP hD hP1 hK1 hD1
  obtain ⟨hP, hD⟩ := hPD9
  replace hz : s.heap.size + 0 ≤ H7.size := by omega
  clear hz2
  replace hP : va_P (dC, dI) vwCl [(ou, .inr (7, [.long 0, .null])), (xo, .inr (6, [.ref al, .int 0, .int 0, .int 0, x4, x5, .ref b1, x7])), (al, .inr (4, [.int mc, .ref (zk 0), .int 0])), (mo, .inr (9, [.int 1, .ref am, .int 0, .int 0, .int 0])), (am, .inr (4, [.int mm, .ref (zk 0), .int 0]))] H7 := hP
  replace hD : va_D A [(ou, .inr (7, [.long 0, .null])), (xo, .inr (6, [.ref al, .int 0, .int 0, .int 0, x4, x5, .ref b1, x7])), (al, .inr (4, [.int mc, .ref (zk 0), .int 0])), (mo, .inr (9, [.int 1, .ref am, .int 0, .int 0, .int 0])), (am, .inr (4, [.int mm, .ref (zk 0), .int 0]))] := hD
  refine W.widen (k := 18) (n := 85) (by omega) (by omega) ?_
  refine lv_istore (lv' := [(6, .int r8), (5, .int 1), (4, .int 0), (3, .ref ou), (2, .ref mo), (1, .ref xo), (0, .ref b)]) hx hb dL_law_2094 hl (by decide) rfl (fun ls hl => ?_)
  refine lv_aload_n hx hb dL_law_2096 rfl (lv_at hl 4 rfl) ?_
  have hPc := hP.sub (ws' := [(mo, .inr (9, [.int 1, .ref am, .int 0, .int 0, .int 0]))]) [3] rfl
  have hDc := hD.sub (ws' := [(mo, .inr (9, [.int 1, .ref am, .int 0, .int 0, .int 0]))]) [3] (by decide) rfl
  have hFc := va_free (wc := [(mo, .inr (9, [.int 1, .ref am, .int 0, .int 0, .int 0]))]) hD hS hA [3] rfl
  have hDv := hDc.self (sz := H7.size)
  have hpre := zpre (xs' := []) (av := [.ref mo]) hPc hK (hDc.weaken (fun _ _ _ h => h)) hZ hS hFc (fun r hr => by cases hr)
  refine va_calli (va_runV (As := []) (rest := []) ⟨hx, hb, hml, hown, hts⟩ (k_thz l dC dI cI cB cR cO zk mo am (.int 0) (.int 0) (.int 0) H7.size ) (cwV 0 hts gL_law_X4_thrown rfl rfl rfl (by decide +kernel) ⟨Nat.le_of_ble_eq_true rfl, Nat.le_of_ble_eq_true rfl⟩) ⟨zblind, (zrecv_9 hK hPc (q0 := 0) rfl), hpre⟩ rfl rfl hl.1 rfl (lv_room (Nat.le_of_ble_eq_true rfl)) dL_law_2097 ⟨Nat.le_of_ble_eq_true rfl, Nat.le_of_ble_eq_true rfl⟩) hS (fun q _ h => hFc q h) hFc (fun r10 u t H9 locs ht hvm hw hB hz1 hk1 hS => ?_)
  obtain rfl : 1 = r10 := (show r10 = 1 from hw).symm
  obtain ⟨hP1, hK1, hD1, hz2⟩ := hB
  rw [ht] at hP1 hz2
  have hPD9 := va_join (wr := [(ou, .inr (7, [.long 0, .null])), (xo, .inr (6, [.ref al, .int 0, .int 0, .int 0, x4, x5, .ref b1, x7])), (al, .inr (4, [.int mc, .ref (zk 0), .int 0])), (am, .inr (4, [.int mm, .ref (zk 0), .int 0]))]) (w1 := [(mo, .inr (9, [.int 1, .ref am, .int 0, .int 0, .int 0]))]) hP hD [3] [0, 1, 2, 4] rfl rfl (by decide) (by decide) hk1 hFc hP1 hD1
  clear hPc hDc hFc hDv hpre hP hD hP1 hK1 hD1
  obtain ⟨hP, hD⟩ := hPD9
  replace hz : s.heap.size + 0 ≤ H9.size := by omega
  clear hz2
  replace hP : va_P (dC, dI) vwCl [(ou, .inr (7, [.long 0, .null])), (xo, .inr (6, [.ref al, .int 0, .int 0, .int 0, x4, x5, .ref b1, x7])), (al, .inr (4, [.int mc, .ref (zk 0), .int 0])), (am, .inr (4, [.int mm, .ref (zk 0), .int 0])), (mo, .inr (9, [.int 1, .ref am, .int 0, .int 0, .int 0]))] H9 := hP
  replace hD : va_D A [(ou, .inr (7, [.long 0, .null])), (xo, .inr (6, [.ref al, .int 0, .int 0, .int 0, x4, x5, .ref b1, x7])), (al, .inr (4, [.int mc, .ref (zk 0), .int 0])), (am, .inr (4, [.int mm, .ref (zk 0), .int 0])), (mo, .inr (9, [.int 1, .ref am, .int 0, .int 0, .int 0]))] := hD
  refine W.widen (k := 18) (n := 85) (by omega) (by omega) ?_
  refine lv_iload hx hb dL_law_2100 (lv_at hl 1 rfl) ?_
  refine lv_icmp_eq (tgt := 2107) hx hb dL_law_2102 (by decide) (fun c9 => ?_) (fun c9 => ?_)
  rotate_left
  · exact absurd (by decide) c9
  refine lv_iload hx hb dL_law_2107 (lv_at hl 1 rfl) ?_
  refine lv_if_ne (tgt := 2125) hx hb dL_law_2109 (by decide) (fun c9 => ?_) (fun c9 => ?_)
  rotate_left
  · exact absurd c9 (by decide)
  refine lv_goto (tgt := 2155) hx hb dL_law_2125 (by decide) ?_
  rw [hAd] at hS
  exact zl_tail l dC dI cI cB cR cO zk b xs C1 hZ0 hK hS (Nat.le_of_ble_eq_true rfl) (Nat.le_of_ble_eq_true rfl) ls (lv_sub hl [6, 2] rfl)

set_option maxHeartbeats 4000000 in
set_option maxRecDepth 100000 in
theorem zl_a_isSound (l : Launch) (dC : Nat → ClassId) (dI : Nat → Nat → Nat) (cI cB cR cO : ClassId) (zk : Nat → Nat) {p : Program} {e : Env} {s : State} {mY : MethodId} {below : List Frame} {meth : Method} {c : Code} (b : Nat) (xs : Nat → Int32) (hfl : l.stackTraces = false) (C0 : zl_At p s mY meth c b 5 xs) (hZ0 : zR zk [] (fun q => s.heap.size ≤ q) s s.heap) (hK : va_K (dC, dI) vwCl (zT cI cB cR cO) s) (ou xo al b1 : Nat) (x4 x5 x7 : Value) (mc : Int32) (mo am : Nat) (mm : Int32)    (H : Heap) (locs : List Loc) (hP : va_P (dC, dI) vwCl [(ou, .inr (7, [.long 0, .null])), (xo, .inr (6, [.ref al, .int 0, .int 0, .int 0, x4, x5, .ref b1, x7])), (al, .inr (4, [.int mc, .ref (zk 0), .int 0])), (mo, .inr (9, [.int 0, .ref am, .int 0, .int 0, .int 0])), (am, .inr (4, [.int mm, .ref (zk 0), .int 0]))] H) (hD : va_D (fun q => s.heap.size ≤ q) [(ou, .inr (7, [.long 0, .null])), (xo, .inr (6, [.ref al, .int 0, .int 0, .int 0, x4, x5, .ref b1, x7])), (al, .inr (4, [.int mc, .ref (zk 0), .int 0])), (mo, .inr (9, [.int 0, .ref am, .int 0, .int 0, .int 0])), (am, .inr (4, [.int mm, .ref (zk 0), .int 0]))]) (hS : va_S (fun q => s.heap.size ≤ q) s.heap H locs) (ls : Array Slot) (hl : lv_has ls 7 [(4, .int 0), (3, .ref ou), (2, .ref mo), (1, .ref xo), (0, .ref b)]) : W p l e room_1 s mY #[Value.ref b] below meth c H locs 17 79 (lw_Z below #[Value.ref b] s) (F0 mY 2128 ls []) := by
  have C1 := C0
  obtain ⟨hx, hb, hr, hml, hown, hts0, hX, hbl, hlocks, hNI⟩ := C0
  have hts := fun (w : Cond) (h : w ∈ wsL_law) => hts0 w (wsL_law_in w h)
  obtain ⟨A, hAd⟩ : ∃ A : Nat → Prop, A = fun q => s.heap.size ≤ q := ⟨_, rfl⟩
  have hA : ∀ q : Nat, s.heap.size ≤ q → A q := fun q h => by rw [hAd]; exact h
  have hAf : ∀ q : Nat, A q → s.heap.size ≤ q := fun q h => by rw [hAd] at h; exact h
  have hbA : ¬ A b := fun h => absurd (hAf b h) (Nat.not_le.mpr hbl)
  have hZ : zR zk [] A s s.heap := by rw [hAd]; exact hZ0
  rw [← hAd] at hD hS
  replace hP : va_P (dC, dI) vwCl [(ou, .inr (7, [.long 0, .null])), (xo, .inr (6, [.ref al, .int 0, .int 0, .int 0, x4, x5, .ref b1, x7])), (al, .inr (4, [.int mc, .ref (zk 0), .int 0])), (mo, .inr (9, [.int 0, .ref am, .int 0, .int 0, .int 0])), (am, .inr (4, [.int mm, .ref (zk 0), .int 0]))] H := hP
  replace hD : va_D A [(ou, .inr (7, [.long 0, .null])), (xo, .inr (6, [.ref al, .int 0, .int 0, .int 0, x4, x5, .ref b1, x7])), (al, .inr (4, [.int mc, .ref (zk 0), .int 0])), (mo, .inr (9, [.int 0, .ref am, .int 0, .int 0, .int 0])), (am, .inr (4, [.int mm, .ref (zk 0), .int 0]))] := hD
  have hz : s.heap.size + 0 ≤ H.size := hS.1
  refine lv_aload_n hx hb dL_law_2128 rfl (lv_at hl 3 rfl) ?_
  have hPc := hP.sub (ws' := [(xo, .inr (6, [.ref al, .int 0, .int 0, .int 0, x4, x5, .ref b1, x7])), (al, .inr (4, [.int mc, .ref (zk 0), .int 0]))]) [1, 2] rfl
  have hDc := hD.sub (ws' := [(xo, .inr (6, [.ref al, .int 0, .int 0, .int 0, x4, x5, .ref b1, x7])), (al, .inr (4, [.int mc, .ref (zk 0), .int 0]))]) [1, 2] (by decide) rfl
  have hFc := va_free (wc := [(xo, .inr (6, [.ref al, .int 0, .int 0, .int 0, x4, x5, .ref b1, x7])), (al, .inr (4, [.int mc, .ref (zk 0), .int 0]))]) hD hS hA [1, 2] rfl
  have hDv := hDc.self (sz := H.size)
  have hpre := zpre (xs' := []) (av := [.ref xo]) hPc hK (hDc.weaken (fun _ _ _ h => h)) hZ hS hFc (fun r hr => by cases hr)
  refine va_calli (va_runV (As := []) (rest := []) ⟨hx, hb, hml, hown, hts⟩ (k_soundX l dC dI cI cB cR cO zk xo al b1 x4 x5 x7 mc H.size ) (cwV 0 hts gL_law_X1_isSound rfl rfl rfl (by decide +kernel) ⟨Nat.le_of_ble_eq_true rfl, Nat.le_of_ble_eq_true rfl⟩) ⟨zblind, (zrecv_6 hK hPc (q0 := 0) rfl), hpre⟩ rfl rfl hl.1 rfl (lv_room (Nat.le_of_ble_eq_true rfl)) dL_law_2129 ⟨Nat.le_of_ble_eq_true rfl, Nat.le_of_ble_eq_true rfl⟩) hS (fun q _ h => hFc q h) hFc (fun r2 u t H1 locs ht hvm hw hB hz1 hk1 hS => ?_)
  obtain rfl : 1 = r2 := (show r2 = 1 from hw).symm
  obtain ⟨hP1, hK1, hD1, hz2⟩ := hB
  rw [ht] at hP1 hz2
  have hPD9 := va_join (wr := [(ou, .inr (7, [.long 0, .null])), (mo, .inr (9, [.int 0, .ref am, .int 0, .int 0, .int 0])), (am, .inr (4, [.int mm, .ref (zk 0), .int 0]))]) (w1 := [(xo, .inr (6, [.ref al, .int 0, .int 0, .int 0, x4, x5, .ref b1, x7])), (al, .inr (4, [.int mc, .ref (zk 0), .int 0]))]) hP hD [1, 2] [0, 3, 4] rfl rfl (by decide) (by decide) hk1 hFc hP1 hD1
  clear hPc hDc hFc hDv hpre hP hD hP1 hK1 hD1
  obtain ⟨hP, hD⟩ := hPD9
  replace hz : s.heap.size + 0 ≤ H1.size := by omega
  clear hz2
  replace hP : va_P (dC, dI) vwCl [(ou, .inr (7, [.long 0, .null])), (mo, .inr (9, [.int 0, .ref am, .int 0, .int 0, .int 0])), (am, .inr (4, [.int mm, .ref (zk 0), .int 0])), (xo, .inr (6, [.ref al, .int 0, .int 0, .int 0, x4, x5, .ref b1, x7])), (al, .inr (4, [.int mc, .ref (zk 0), .int 0]))] H1 := hP
  replace hD : va_D A [(ou, .inr (7, [.long 0, .null])), (mo, .inr (9, [.int 0, .ref am, .int 0, .int 0, .int 0])), (am, .inr (4, [.int mm, .ref (zk 0), .int 0])), (xo, .inr (6, [.ref al, .int 0, .int 0, .int 0, x4, x5, .ref b1, x7])), (al, .inr (4, [.int mc, .ref (zk 0), .int 0]))] := hD
  refine W.widen (k := 17) (n := 79) (by omega) (by omega) ?_
  refine lv_aload_n hx hb dL_law_2132 rfl (lv_at hl 2 rfl) ?_
  have hPc := hP.sub (ws' := [(mo, .inr (9, [.int 0, .ref am, .int 0, .int 0, .int 0])), (am, .inr (4, [.int mm, .ref (zk 0), .int 0]))]) [1, 2] rfl
  have hDc := hD.sub (ws' := [(mo, .inr (9, [.int 0, .ref am, .int 0, .int 0, .int 0])), (am, .inr (4, [.int mm, .ref (zk 0), .int 0]))]) [1, 2] (by decide) rfl
  have hFc := va_free (wc := [(mo, .inr (9, [.int 0, .ref am, .int 0, .int 0, .int 0])), (am, .inr (4, [.int mm, .ref (zk 0), .int 0]))]) hD hS hA [1, 2] rfl
  have hDv := hDc.self (sz := H1.size)
  have hpre := zpre (xs' := []) (av := [.ref mo]) hPc hK (hDc.weaken (fun _ _ _ h => h)) hZ hS hFc (fun r hr => by cases hr)
  refine va_calli (va_runV (As := []) (rest := [.int 1]) ⟨hx, hb, hml, hown, hts⟩ (k_soundM l dC dI cI cB cR cO zk mo am (.int 0) mm H1.size ) (cwV 0 hts gL_law_X4_isSound rfl rfl rfl (by decide +kernel) ⟨Nat.le_of_ble_eq_true rfl, Nat.le_of_ble_eq_true rfl⟩) ⟨zblind, (zrecv_9 hK hPc (q0 := 0) rfl), hpre⟩ rfl rfl hl.1 rfl (lv_room (Nat.le_of_ble_eq_true rfl)) dL_law_2133 ⟨Nat.le_of_ble_eq_true rfl, Nat.le_of_ble_eq_true rfl⟩) hS (fun q _ h => hFc q h) hFc (fun r4 u t H3 locs ht hvm hw hB hz1 hk1 hS => ?_)
  obtain rfl : 1 = r4 := (show r4 = 1 from hw).symm
  obtain ⟨hP1, hK1, hD1, hz2⟩ := hB
  rw [ht] at hP1 hz2
  have hPD9 := va_join (wr := [(ou, .inr (7, [.long 0, .null])), (xo, .inr (6, [.ref al, .int 0, .int 0, .int 0, x4, x5, .ref b1, x7])), (al, .inr (4, [.int mc, .ref (zk 0), .int 0]))]) (w1 := [(mo, .inr (9, [.int 0, .ref am, .int 0, .int 0, .int 0])), (am, .inr (4, [.int mm, .ref (zk 0), .int 0]))]) hP hD [1, 2] [0, 3, 4] rfl rfl (by decide) (by decide) hk1 hFc hP1 hD1
  clear hPc hDc hFc hDv hpre hP hD hP1 hK1 hD1
  obtain ⟨hP, hD⟩ := hPD9
  replace hz : s.heap.size + 0 ≤ H3.size := by omega
  clear hz2
  replace hP : va_P (dC, dI) vwCl [(ou, .inr (7, [.long 0, .null])), (xo, .inr (6, [.ref al, .int 0, .int 0, .int 0, x4, x5, .ref b1, x7])), (al, .inr (4, [.int mc, .ref (zk 0), .int 0])), (mo, .inr (9, [.int 0, .ref am, .int 0, .int 0, .int 0])), (am, .inr (4, [.int mm, .ref (zk 0), .int 0]))] H3 := hP
  replace hD : va_D A [(ou, .inr (7, [.long 0, .null])), (xo, .inr (6, [.ref al, .int 0, .int 0, .int 0, x4, x5, .ref b1, x7])), (al, .inr (4, [.int mc, .ref (zk 0), .int 0])), (mo, .inr (9, [.int 0, .ref am, .int 0, .int 0, .int 0])), (am, .inr (4, [.int mm, .ref (zk 0), .int 0]))] := hD
  refine W.widen (k := 17) (n := 79) (by omega) (by omega) ?_
  refine lv_icmp_eq (tgt := 2155) hx hb dL_law_2136 (by decide) (fun c9 => ?_) (fun c9 => ?_)
  rotate_left
  · exact absurd (by decide) c9
  rw [hAd] at hS
  exact zl_tail l dC dI cI cB cR cO zk b xs C1 hZ0 hK hS (Nat.le_of_ble_eq_true rfl) (Nat.le_of_ble_eq_true rfl) ls (lv_sub hl [4, 0] rfl)

set_option maxHeartbeats 4000000 in
set_option maxRecDepth 100000 in
theorem zl_a_digest (l : Launch) (dC : Nat → ClassId) (dI : Nat → Nat → Nat) (cI cB cR cO : ClassId) (zk : Nat → Nat) {p : Program} {e : Env} {s : State} {mY : MethodId} {below : List Frame} {meth : Method} {c : Code} (b : Nat) (xs : Nat → Int32) (hfl : l.stackTraces = false) (C0 : zl_At p s mY meth c b 5 xs) (hZ0 : zR zk [] (fun q => s.heap.size ≤ q) s s.heap) (hK : va_K (dC, dI) vwCl (zT cI cB cR cO) s) (ou xo al b1 : Nat) (x4 x5 x7 : Value) (mc : Int32) (mo am : Nat) (mm : Int32)    (H : Heap) (locs : List Loc) (hP : va_P (dC, dI) vwCl [(ou, .inr (7, [.long 0, .null])), (xo, .inr (6, [.ref al, .int 0, .int 0, .int 0, x4, x5, .ref b1, x7])), (al, .inr (4, [.int mc, .ref (zk 0), .int 0])), (mo, .inr (9, [.int 0, .ref am, .int 0, .int 0, .int 0])), (am, .inr (4, [.int mm, .ref (zk 0), .int 0]))] H) (hD : va_D (fun q => s.heap.size ≤ q) [(ou, .inr (7, [.long 0, .null])), (xo, .inr (6, [.ref al, .int 0, .int 0, .int 0, x4, x5, .ref b1, x7])), (al, .inr (4, [.int mc, .ref (zk 0), .int 0])), (mo, .inr (9, [.int 0, .ref am, .int 0, .int 0, .int 0])), (am, .inr (4, [.int mm, .ref (zk 0), .int 0]))]) (hS : va_S (fun q => s.heap.size ≤ q) s.heap H locs) (ls : Array Slot) (hl : lv_has ls 7 [(4, .int 0), (3, .ref ou), (2, .ref mo), (1, .ref xo), (0, .ref b)]) : W p l e room_1 s mY #[Value.ref b] below meth c H locs 17 79 (lw_Z below #[Value.ref b] s) (F0 mY 2141 ls []) := by
  have C1 := C0
  obtain ⟨hx, hb, hr, hml, hown, hts0, hX, hbl, hlocks, hNI⟩ := C0
  have hts := fun (w : Cond) (h : w ∈ wsL_law) => hts0 w (wsL_law_in w h)
  obtain ⟨A, hAd⟩ : ∃ A : Nat → Prop, A = fun q => s.heap.size ≤ q := ⟨_, rfl⟩
  have hA : ∀ q : Nat, s.heap.size ≤ q → A q := fun q h => by rw [hAd]; exact h
  have hAf : ∀ q : Nat, A q → s.heap.size ≤ q := fun q h => by rw [hAd] at h; exact h
  have hbA : ¬ A b := fun h => absurd (hAf b h) (Nat.not_le.mpr hbl)
  have hZ : zR zk [] A s s.heap := by rw [hAd]; exact hZ0
  rw [← hAd] at hD hS
  replace hP : va_P (dC, dI) vwCl [(ou, .inr (7, [.long 0, .null])), (xo, .inr (6, [.ref al, .int 0, .int 0, .int 0, x4, x5, .ref b1, x7])), (al, .inr (4, [.int mc, .ref (zk 0), .int 0])), (mo, .inr (9, [.int 0, .ref am, .int 0, .int 0, .int 0])), (am, .inr (4, [.int mm, .ref (zk 0), .int 0]))] H := hP
  replace hD : va_D A [(ou, .inr (7, [.long 0, .null])), (xo, .inr (6, [.ref al, .int 0, .int 0, .int 0, x4, x5, .ref b1, x7])), (al, .inr (4, [.int mc, .ref (zk 0), .int 0])), (mo, .inr (9, [.int 0, .ref am, .int 0, .int 0, .int 0])), (am, .inr (4, [.int mm, .ref (zk 0), .int 0]))] := hD
  have hz : s.heap.size + 0 ≤ H.size := hS.1
  refine lv_aload_n hx hb dL_law_2141 rfl (lv_at hl 3 rfl) ?_
  have hPc := hP.sub (ws' := [(xo, .inr (6, [.ref al, .int 0, .int 0, .int 0, x4, x5, .ref b1, x7])), (al, .inr (4, [.int mc, .ref (zk 0), .int 0]))]) [1, 2] rfl
  have hDc := hD.sub (ws' := [(xo, .inr (6, [.ref al, .int 0, .int 0, .int 0, x4, x5, .ref b1, x7])), (al, .inr (4, [.int mc, .ref (zk 0), .int 0]))]) [1, 2] (by decide) rfl
  have hFc := va_free (wc := [(xo, .inr (6, [.ref al, .int 0, .int 0, .int 0, x4, x5, .ref b1, x7])), (al, .inr (4, [.int mc, .ref (zk 0), .int 0]))]) hD hS hA [1, 2] rfl
  have hDv := hDc.self (sz := H.size)
  have hpre := zpre (xs' := []) (av := [.ref xo]) hPc hK (hDc.weaken (fun _ _ _ h => h)) hZ hS hFc (fun r hr => by cases hr)
  refine va_calll (va_runV (As := []) (rest := []) ⟨hx, hb, hml, hown, hts⟩ (k_digX l dC dI cI cB cR cO zk xo al b1 x4 x5 x7 mc H.size ) (cwV 0 hts gL_law_X1_digest rfl rfl rfl (by decide +kernel) ⟨Nat.le_of_ble_eq_true rfl, Nat.le_of_ble_eq_true rfl⟩) ⟨zblind, (zrecv_6 hK hPc (q0 := 0) rfl), hpre⟩ rfl rfl hl.1 rfl (lv_room (Nat.le_of_ble_eq_true rfl)) dL_law_2142 ⟨Nat.le_of_ble_eq_true rfl, Nat.le_of_ble_eq_true rfl⟩) hS (fun q _ h => hFc q h) hFc (fun r2 u t H1 locs ht hvm hw hB hz1 hk1 hS => ?_)
  obtain rfl : 214020625169470 = r2 := (show r2 = 214020625169470 from hw).symm
  obtain ⟨hP1, hK1, hD1, hz2⟩ := hB
  rw [ht] at hP1 hz2
  have hPD9 := va_join (wr := [(ou, .inr (7, [.long 0, .null])), (mo, .inr (9, [.int 0, .ref am, .int 0, .int 0, .int 0])), (am, .inr (4, [.int mm, .ref (zk 0), .int 0]))]) (w1 := [(xo, .inr (6, [.ref al, .int 0, .int 0, .int 0, x4, x5, .ref b1, x7])), (al, .inr (4, [.int mc, .ref (zk 0), .int 0]))]) hP hD [1, 2] [0, 3, 4] rfl rfl (by decide) (by decide) hk1 hFc hP1 hD1
  clear hPc hDc hFc hDv hpre hP hD hP1 hK1 hD1
  obtain ⟨hP, hD⟩ := hPD9
  replace hz : s.heap.size + 0 ≤ H1.size := by omega
  clear hz2
  replace hP : va_P (dC, dI) vwCl [(ou, .inr (7, [.long 0, .null])), (mo, .inr (9, [.int 0, .ref am, .int 0, .int 0, .int 0])), (am, .inr (4, [.int mm, .ref (zk 0), .int 0])), (xo, .inr (6, [.ref al, .int 0, .int 0, .int 0, x4, x5, .ref b1, x7])), (al, .inr (4, [.int mc, .ref (zk 0), .int 0]))] H1 := hP
  replace hD : va_D A [(ou, .inr (7, [.long 0, .null])), (mo, .inr (9, [.int 0, .ref am, .int 0, .int 0, .int 0])), (am, .inr (4, [.int mm, .ref (zk 0), .int 0])), (xo, .inr (6, [.ref al, .int 0, .int 0, .int 0, x4, x5, .ref b1, x7])), (al, .inr (4, [.int mc, .ref (zk 0), .int 0]))] := hD
  refine W.widen (k := 17) (n := 79) (by omega) (by omega) ?_
  refine lv_aload_n hx hb dL_law_2145 rfl (lv_at hl 2 rfl) ?_
  have hPc := hP.sub (ws' := [(mo, .inr (9, [.int 0, .ref am, .int 0, .int 0, .int 0])), (am, .inr (4, [.int mm, .ref (zk 0), .int 0]))]) [1, 2] rfl
  have hDc := hD.sub (ws' := [(mo, .inr (9, [.int 0, .ref am, .int 0, .int 0, .int 0])), (am, .inr (4, [.int mm, .ref (zk 0), .int 0]))]) [1, 2] (by decide) rfl
  have hFc := va_free (wc := [(mo, .inr (9, [.int 0, .ref am, .int 0, .int 0, .int 0])), (am, .inr (4, [.int mm, .ref (zk 0), .int 0]))]) hD hS hA [1, 2] rfl
  have hDv := hDc.self (sz := H1.size)
  have hpre := zpre (xs' := []) (av := [.ref mo]) hPc hK (hDc.weaken (fun _ _ _ h => h)) hZ hS hFc (fun r hr => by cases hr)
  refine va_calll (va_runV (As := []) (rest := [.long 214020625169470]) ⟨hx, hb, hml, hown, hts⟩ (k_digM l dC dI cI cB cR cO zk mo am (.int 0) mm H1.size ) (cwV 0 hts gL_law_X4_digest rfl rfl rfl (by decide +kernel) ⟨Nat.le_of_ble_eq_true rfl, Nat.le_of_ble_eq_true rfl⟩) ⟨zblind, (zrecv_9 hK hPc (q0 := 0) rfl), hpre⟩ rfl rfl hl.1 rfl (lv_room (Nat.le_of_ble_eq_true rfl)) dL_law_2146 ⟨Nat.le_of_ble_eq_true rfl, Nat.le_of_ble_eq_true rfl⟩) hS (fun q _ h => hFc q h) hFc (fun r4 u t H3 locs ht hvm hw hB hz1 hk1 hS => ?_)
  obtain rfl : 214020625169470 = r4 := (show r4 = 214020625169470 from hw).symm
  obtain ⟨hP1, hK1, hD1, hz2⟩ := hB
  rw [ht] at hP1 hz2
  have hPD9 := va_join (wr := [(ou, .inr (7, [.long 0, .null])), (xo, .inr (6, [.ref al, .int 0, .int 0, .int 0, x4, x5, .ref b1, x7])), (al, .inr (4, [.int mc, .ref (zk 0), .int 0]))]) (w1 := [(mo, .inr (9, [.int 0, .ref am, .int 0, .int 0, .int 0])), (am, .inr (4, [.int mm, .ref (zk 0), .int 0]))]) hP hD [1, 2] [0, 3, 4] rfl rfl (by decide) (by decide) hk1 hFc hP1 hD1
  clear hPc hDc hFc hDv hpre hP hD hP1 hK1 hD1
  obtain ⟨hP, hD⟩ := hPD9
  replace hz : s.heap.size + 0 ≤ H3.size := by omega
  clear hz2
  replace hP : va_P (dC, dI) vwCl [(ou, .inr (7, [.long 0, .null])), (xo, .inr (6, [.ref al, .int 0, .int 0, .int 0, x4, x5, .ref b1, x7])), (al, .inr (4, [.int mc, .ref (zk 0), .int 0])), (mo, .inr (9, [.int 0, .ref am, .int 0, .int 0, .int 0])), (am, .inr (4, [.int mm, .ref (zk 0), .int 0]))] H3 := hP
  replace hD : va_D A [(ou, .inr (7, [.long 0, .null])), (xo, .inr (6, [.ref al, .int 0, .int 0, .int 0, x4, x5, .ref b1, x7])), (al, .inr (4, [.int mc, .ref (zk 0), .int 0])), (mo, .inr (9, [.int 0, .ref am, .int 0, .int 0, .int 0])), (am, .inr (4, [.int mm, .ref (zk 0), .int 0]))] := hD
  refine W.widen (k := 23) (n := 115) (by omega) (by omega) ?_
  refine W.lcmp hx hb dL_law_2149 ?_
  refine lv_topi (fun v5 ev5 => ?_)
  obtain rfl : v5 = 0 := ev5.trans (by decide)
  refine lv_if_eq (tgt := 2155) hx hb dL_law_2150 (by decide) (fun c9 => ?_) (fun c9 => ?_)
  rotate_left
  · exact absurd (by decide) c9
  rw [hAd] at hS
  exact zl_tail l dC dI cI cB cR cO zk b xs C1 hZ0 hK hS (Nat.le_of_ble_eq_true rfl) (Nat.le_of_ble_eq_true rfl) ls (lv_sub hl [4, 0] rfl)
