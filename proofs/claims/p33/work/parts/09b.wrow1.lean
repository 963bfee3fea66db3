set_option maxHeartbeats 4000000 in
set_option maxRecDepth 100000 in
theorem k_wPl1_0 (l : Launch) (dC : Nat → ClassId) (dI : Nat → Nat → Nat) (cI cB cR cO : ClassId) (zk : Nat → Nat) (h0 v0 m c0 : Nat) (g : Nat → Int32) (ml : Value) (y0 yw0 yv0 yh0 y1 yw1 yv1 yh1 : Nat) (nb0 nb1 : Int32) (gw0 gv0 gw1 gv1 : Nat → Int32) (gh0 gh1 : Nat → Option Nat) (sz : Nat) (hm : m ≤ 65536) (hcm : c0 ≤ m) (hc0 : c0 + 24 ≤ 2000) (hg : sb_Fit g) (hgw0 : ∀ i, i < 4 → gw0 i = 0) (hgh0 : ∀ i, i < 4 → gh0 i = none) (hgh1 : ∀ i, i < 4 → gh1 i = some y0) : Met l yX1_writePlace wsX1_writePlace ({ frames := 9, cells := 24, slots := 1572864, locals := 255 }) (va_Pc [.ref h0, .ref y1, .int 0, .int 3] (zPre (dC, dI) (zT cI cB cR cO) zk [] [(h0, .inr (1, [.ref v0, .int 0, ml, .int (nI c0)])), (v0, .inl (cB, m, .inl g)), (y0, .inr (5, [.int 4, .int 4, .ref yw0, .ref yv0, .ref yh0, .int nb0])), (yw0, .inl (cI, 4, .inl gw0)), (yv0, .inl (cI, 4, .inl gv0)), (yh0, .inl (cR, 4, .inr (.inr (.inr (.inr gh0))))), (y1, .inr (5, [.int 4, .int 4, .ref yw1, .ref yv1, .ref yh1, .int nb1])), (yw1, .inl (cI, 4, .inl gw1)), (yv1, .inl (cI, 4, .inl gv1)), (yh1, .inl (cR, 4, .inr (.inr (.inr (.inr gh1)))))] sz)) (va_Qv (fun _ : Unit => True) (fun _ t => ∃ v3, ∃ m3, ∃ (f3 : Nat → Int32), zEnd (dC, dI) (zT cI cB cR cO) (va_A [(h0, .inr (1, [.ref v0, .int 0, ml, .int (nI c0)])), (v0, .inl (cB, m, .inl g)), (y0, .inr (5, [.int 4, .int 4, .ref yw0, .ref yv0, .ref yh0, .int nb0])), (yw0, .inl (cI, 4, .inl gw0)), (yv0, .inl (cI, 4, .inl gv0)), (yh0, .inl (cR, 4, .inr (.inr (.inr (.inr gh0))))), (y1, .inr (5, [.int 4, .int 4, .ref yw1, .ref yv1, .ref yh1, .int nb1])), (yw1, .inl (cI, 4, .inl gw1)), (yv1, .inl (cI, 4, .inl gv1)), (yh1, .inl (cR, 4, .inr (.inr (.inr (.inr gh1)))))] sz) [(h0, .inr (1, [.ref v3, .int 0, ml, .int (nI (c0 + 24))])), (v3, .inl (cB, m3, .inl f3)), (y0, .inr (5, [.int 4, .int 4, .ref yw0, .ref yv0, .ref yh0, .int nb0])), (yw0, .inl (cI, 4, .inl gw0)), (yv0, .inl (cI, 4, .inl gv0)), (yh0, .inl (cR, 4, .inr (.inr (.inr (.inr gh0))))), (y1, .inr (5, [.int 4, .int 4, .ref yw1, .ref yv1, .ref yh1, .int nb1])), (yw1, .inl (cI, 4, .inl gw1)), (yv1, .inl (cI, 4, .inl gv1)), (yh1, .inl (cR, 4, .inr (.inr (.inr (.inr gh1)))))] sz 0 t ∧ sb_Fit f3 ∧ c0 + 24 ≤ m3 ∧ m3 ≤ 65536) (va_A [(h0, .inr (1, [.ref v0, .int 0, ml, .int (nI c0)])), (v0, .inl (cB, m, .inl g)), (y0, .inr (5, [.int 4, .int 4, .ref yw0, .ref yv0, .ref yh0, .int nb0])), (yw0, .inl (cI, 4, .inl gw0)), (yv0, .inl (cI, 4, .inl gv0)), (yh0, .inl (cR, 4, .inr (.inr (.inr (.inr gh0))))), (y1, .inr (5, [.int 4, .int 4, .ref yw1, .ref yv1, .ref yh1, .int nb1])), (yw1, .inl (cI, 4, .inl gw1)), (yv1, .inl (cI, 4, .inl gv1)), (yh1, .inl (cR, 4, .inr (.inr (.inr (.inr gh1)))))] sz)) 24 1572864 (va_A [(h0, .inr (1, [.ref v0, .int 0, ml, .int (nI c0)])), (v0, .inl (cB, m, .inl g)), (y0, .inr (5, [.int 4, .int 4, .ref yw0, .ref yv0, .ref yh0, .int nb0])), (yw0, .inl (cI, 4, .inl gw0)), (yv0, .inl (cI, 4, .inl gv0)), (yh0, .inl (cR, 4, .inr (.inr (.inr (.inr gh0))))), (y1, .inr (5, [.int 4, .int 4, .ref yw1, .ref yv1, .ref yh1, .int nb1])), (yw1, .inl (cI, 4, .inl gw1)), (yv1, .inl (cI, 4, .inl gv1)), (yh1, .inl (cR, 4, .inr (.inr (.inr (.inr gh1)))))] sz) := by
  refine Met.ofW (cc := cX1_writePlace) (maxL := 5) (ret := none) (by decide) rfl ?_
  intro p e s mY args below meth c s₁ B hml hv
  obtain ⟨rfl, hsz, hP, hK, hD0, hZ⟩ := hv
  have hx := B.exec
  have hb := B.bytes
  have hr := B.returns
  have hts := atoms_spec (ws := wsX1_writePlace) B.pre
  have hown : s.vm.findClass RX1 = some mY.cls := findClass_of_methodNamed B.named
  have hlocks := B.notSynchronized
  subst hsz
  have hD := hD0.self (sz := s.heap.size)
  generalize hAe : va_A [(h0, .inr (1, [.ref v0, .int 0, ml, .int (nI c0)])), (v0, .inl (cB, m, .inl g)), (y0, .inr (5, [.int 4, .int 4, .ref yw0, .ref yv0, .ref yh0, .int nb0])), (yw0, .inl (cI, 4, .inl gw0)), (yv0, .inl (cI, 4, .inl gv0)), (yh0, .inl (cR, 4, .inr (.inr (.inr (.inr gh0))))), (y1, .inr (5, [.int 4, .int 4, .ref yw1, .ref yv1, .ref yh1, .int nb1])), (yw1, .inl (cI, 4, .inl gw1)), (yv1, .inl (cI, 4, .inl gv1)), (yh1, .inl (cR, 4, .inr (.inr (.inr (.inr gh1)))))] s.heap.size = A at hD hZ ⊢
  have hA : ∀ q : Nat, s.heap.size ≤ q → A q := fun q h => by rw [← hAe]; exact Or.inr h
  have hS : va_S A s.heap s.heap [] := va_S.rf
  have hz : s.heap.size + 0 ≤ s.heap.size := Nat.le_refl _
  have hl := lv_entry ([.ref h0, .ref y1, .int 0, .int 3]) (n := 5) (Nat.le_of_ble_eq_true rfl)
  rw [lg_entry_eq]
  generalize (lg_sl ([.ref h0, .ref y1, .int 0, .int 3]) ++ List.replicate (5 - (lg_sl ([.ref h0, .ref y1, .int 0, .int 3])).length) Slot.unset).toArray = ls at hl ⊢
  have hl : lv_has ls 5 [(0, .ref h0), (1, .ref y1), (2, .int 0), (3, .int 3)] := hl
  have hP : va_P (dC, dI) vwCl [(h0, .inr (1, [.ref v0, .int 0, ml, .int (nI c0)])), (v0, .inl (cB, m, .inl g)), (y0, .inr (5, [.int 4, .int 4, .ref yw0, .ref yv0, .ref yh0, .int nb0])), (yw0, .inl (cI, 4, .inl gw0)), (yv0, .inl (cI, 4, .inl gv0)), (yh0, .inl (cR, 4, .inr (.inr (.inr (.inr gh0))))), (y1, .inr (5, [.int 4, .int 4, .ref yw1, .ref yv1, .ref yh1, .int nb1])), (yw1, .inl (cI, 4, .inl gw1)), (yv1, .inl (cI, 4, .inl gv1)), (yh1, .inl (cR, 4, .inr (.inr (.inr (.inr gh1)))))] s.heap := hP
  have hD : va_D A [(h0, .inr (1, [.ref v0, .int 0, ml, .int (nI c0)])), (v0, .inl (cB, m, .inl g)), (y0, .inr (5, [.int 4, .int 4, .ref yw0, .ref yv0, .ref yh0, .int nb0])), (yw0, .inl (cI, 4, .inl gw0)), (yv0, .inl (cI, 4, .inl gv0)), (yh0, .inl (cR, 4, .inr (.inr (.inr (.inr gh0))))), (y1, .inr (5, [.int 4, .int 4, .ref yw1, .ref yv1, .ref yh1, .int nb1])), (yw1, .inl (cI, 4, .inl gw1)), (yv1, .inl (cI, 4, .inl gv1)), (yh1, .inl (cR, 4, .inr (.inr (.inr (.inr gh1)))))] := hD
  refine lv_aload_n hx hb dX1_writePlace_0 rfl (lv_at hl 1 rfl) ?_
  refine va_getN (D := (dC, dI)) (ci := 5) (v := .ref yh1) (C := RX0) (T := TX0) (N := 6) hx hb hts hi_X1_writePlace_X0 hown hK hP 6 rfl rfl 4 (by decide) (zn2 hZ) (fun _ h9 => h9) rfl dX1_writePlace_1 ?_
  refine lv_iload_n hx hb dX1_writePlace_4 rfl (lv_at hl 2 rfl) ?_
  refine va_aldq (D := (dC, dI)) (cl := vwCl) hx hb hK hP 9 2 rfl rfl (by unfold vp_in; decide) dX1_writePlace_5 ?_
  rw [show (0 : Int32).toNatClampNeg = 0 from by decide, hgh1 0 (by decide)]
  refine W.eq (g2 := F0 mY 6 ls [.ref y0]) rfl ?_
  refine lv_astore (lv' := [(4, .ref y0), (0, .ref h0), (1, .ref y1), (2, .int 0), (3, .int 3)]) hx hb dX1_writePlace_6 hl (by decide) rfl (fun ls hl => ?_)
  refine lv_aload hx hb dX1_writePlace_8 (lv_at hl 0 rfl) ?_
  refine lv_ifnull hx hb dX1_writePlace_10 ?_
  refine lv_aload_n hx hb dX1_writePlace_13 rfl (lv_at hl 1 rfl) ?_
  refine lv_aload hx hb dX1_writePlace_14 (lv_at hl 0 rfl) ?_
  refine lv_iload_n hx hb dX1_writePlace_16 rfl (lv_at hl 4 rfl) ?_
  refine lv_iconst (v := 1) hx hb dX1_writePlace_17 (by decide) ?_
  refine lv_isub hx hb dX1_writePlace_18 ?_
  refine lv_topi (fun v1 ev1 => ?_)
  obtain rfl : v1 = 2 := ev1.trans (by decide)
  have hPc := hP.sub (ws' := [(h0, .inr (1, [.ref v0, .int 0, ml, .int (nI c0)])), (v0, .inl (cB, m, .inl g)), (y0, .inr (5, [.int 4, .int 4, .ref yw0, .ref yv0, .ref yh0, .int nb0])), (yw0, .inl (cI, 4, .inl gw0)), (yv0, .inl (cI, 4, .inl gv0)), (yh0, .inl (cR, 4, .inr (.inr (.inr (.inr gh0)))))]) [0, 1, 2, 3, 4, 5] rfl
  have hDc := hD.sub (ws' := [(h0, .inr (1, [.ref v0, .int 0, ml, .int (nI c0)])), (v0, .inl (cB, m, .inl g)), (y0, .inr (5, [.int 4, .int 4, .ref yw0, .ref yv0, .ref yh0, .int nb0])), (yw0, .inl (cI, 4, .inl gw0)), (yv0, .inl (cI, 4, .inl gv0)), (yh0, .inl (cR, 4, .inr (.inr (.inr (.inr gh0)))))]) [0, 1, 2, 3, 4, 5] (by decide) rfl
  have hFc := va_free (wc := [(h0, .inr (1, [.ref v0, .int 0, ml, .int (nI c0)])), (v0, .inl (cB, m, .inl g)), (y0, .inr (5, [.int 4, .int 4, .ref yw0, .ref yv0, .ref yh0, .int nb0])), (yw0, .inl (cI, 4, .inl gw0)), (yv0, .inl (cI, 4, .inl gv0)), (yh0, .inl (cR, 4, .inr (.inr (.inr (.inr gh0)))))]) hD hS hA [0, 1, 2, 3, 4, 5] rfl
  have hDv := hDc.self (sz := s.heap.size)
  have hpre := zpre (xs' := []) (av := [.ref h0, .ref y0, .int 2]) hPc hK (hDc.weaken (fun _ _ _ h => h)) hZ hS hFc (fun r hr => by cases hr)
  refine va_callv (va_runS (As := [.ref h0, .ref y0, .int 2]) (rest := []) ⟨hx, hb, hml, hown, hts⟩ (k_wRow0 l dC dI cI cB cR cO zk h0 v0 m c0 g ml y0 yw0 yv0 yh0 nb0 gw0 gv0 gh0 s.heap.size hm hcm (by omega) hg hgw0 hgh0) (va_cwS 3 hts gX1_writePlace_X1_writeRow rfl rfl rfl (by decide +kernel) ⟨Nat.le_of_ble_eq_true rfl, Nat.le_of_ble_eq_true rfl⟩) ⟨zblind, hpre⟩ rfl rfl hl.1 rfl (lv_room (Nat.le_of_ble_eq_true rfl)) dX1_writePlace_19 ⟨Nat.le_of_ble_eq_true rfl, Nat.le_of_ble_eq_true rfl⟩) hS (fun q _ h => hFc q h) hFc (fun u t H2 locs ht hvm hw hB hz1 hk1 hS => ?_)
  obtain ⟨v4, m5, f6, ⟨hP1, hK1, hD1, hz2⟩, hff6, hlm5, hmm5⟩ := hB
  rw [ht] at hP1 hz2
  have hPD9 := va_join (wr := [(y1, .inr (5, [.int 4, .int 4, .ref yw1, .ref yv1, .ref yh1, .int nb1])), (yw1, .inl (cI, 4, .inl gw1)), (yv1, .inl (cI, 4, .inl gv1)), (yh1, .inl (cR, 4, .inr (.inr (.inr (.inr gh1)))))]) (w1 := [(h0, .inr (1, [.ref v4, .int 0, ml, .int (nI (c0 + 24))])), (v4, .inl (cB, m5, .inl f6)), (y0, .inr (5, [.int 4, .int 4, .ref yw0, .ref yv0, .ref yh0, .int nb0])), (yw0, .inl (cI, 4, .inl gw0)), (yv0, .inl (cI, 4, .inl gv0)), (yh0, .inl (cR, 4, .inr (.inr (.inr (.inr gh0)))))]) hP hD [0, 1, 2, 3, 4, 5] [6, 7, 8, 9] rfl rfl (by decide) (by decide) hk1 hFc hP1 hD1
  clear hPc hDc hFc hDv hpre hP hD hP1 hK1 hD1
  obtain ⟨hP, hD⟩ := hPD9
  replace hz : s.heap.size + 0 ≤ H2.size := by omega
  clear hz2
  replace hP : va_P (dC, dI) vwCl [(y1, .inr (5, [.int 4, .int 4, .ref yw1, .ref yv1, .ref yh1, .int nb1])), (yw1, .inl (cI, 4, .inl gw1)), (yv1, .inl (cI, 4, .inl gv1)), (yh1, .inl (cR, 4, .inr (.inr (.inr (.inr gh1))))), (h0, .inr (1, [.ref v4, .int 0, ml, .int (nI (c0 + 24))])), (v4, .inl (cB, m5, .inl f6)), (y0, .inr (5, [.int 4, .int 4, .ref yw0, .ref yv0, .ref yh0, .int nb0])), (yw0, .inl (cI, 4, .inl gw0)), (yv0, .inl (cI, 4, .inl gv0)), (yh0, .inl (cR, 4, .inr (.inr (.inr (.inr gh0)))))] H2 := hP
  replace hD : va_D A [(y1, .inr (5, [.int 4, .int 4, .ref yw1, .ref yv1, .ref yh1, .int nb1])), (yw1, .inl (cI, 4, .inl gw1)), (yv1, .inl (cI, 4, .inl gv1)), (yh1, .inl (cR, 4, .inr (.inr (.inr (.inr gh1))))), (h0, .inr (1, [.ref v4, .int 0, ml, .int (nI (c0 + 24))])), (v4, .inl (cB, m5, .inl f6)), (y0, .inr (5, [.int 4, .int 4, .ref yw0, .ref yv0, .ref yh0, .int nb0])), (yw0, .inl (cI, 4, .inl gw0)), (yv0, .inl (cI, 4, .inl gv0)), (yh0, .inl (cR, 4, .inr (.inr (.inr (.inr gh0)))))] := hD
  refine W.widen (k := 24) (n := 1572864) (by omega) (by omega) ?_
  have hP9 := hP.sub (ws' := [(h0, .inr (1, [.ref v4, .int 0, ml, .int (nI (c0 + 24))])), (v4, .inl (cB, m5, .inl f6)), (y0, .inr (5, [.int 4, .int 4, .ref yw0, .ref yv0, .ref yh0, .int nb0])), (yw0, .inl (cI, 4, .inl gw0)), (yv0, .inl (cI, 4, .inl gv0)), (yh0, .inl (cR, 4, .inr (.inr (.inr (.inr gh0))))), (y1, .inr (5, [.int 4, .int 4, .ref yw1, .ref yv1, .ref yh1, .int nb1])), (yw1, .inl (cI, 4, .inl gw1)), (yv1, .inl (cI, 4, .inl gv1)), (yh1, .inl (cR, 4, .inr (.inr (.inr (.inr gh1)))))]) [4, 5, 6, 7, 8, 9, 0, 1, 2, 3] rfl
  have hD9 := hD.sub (ws' := [(h0, .inr (1, [.ref v4, .int 0, ml, .int (nI (c0 + 24))])), (v4, .inl (cB, m5, .inl f6)), (y0, .inr (5, [.int 4, .int 4, .ref yw0, .ref yv0, .ref yh0, .int nb0])), (yw0, .inl (cI, 4, .inl gw0)), (yv0, .inl (cI, 4, .inl gv0)), (yh0, .inl (cR, 4, .inr (.inr (.inr (.inr gh0))))), (y1, .inr (5, [.int 4, .int 4, .ref yw1, .ref yv1, .ref yh1, .int nb1])), (yw1, .inl (cI, 4, .inl gw1)), (yv1, .inl (cI, 4, .inl gv1)), (yh1, .inl (cR, 4, .inr (.inr (.inr (.inr gh1)))))]) [4, 5, 6, 7, 8, 9, 0, 1, 2, 3] (by decide) rfl
  exact W.vret hx hb hr (fun t ht hW => ⟨⟨(), rfl, trivial, ⟨_, _, _, ⟨by rw [ht]; exact hP9, va_K.moved hW.alike hK, hD9, by rw [ht]; exact hz⟩, hff6, (by omega), hmm5⟩⟩, hS.F ht⟩) hS.2.2 dX1_writePlace_22

set_option maxHeartbeats 4000000 in
set_option maxRecDepth 100000 in
theorem k_wPl1_1 (l : Launch) (dC : Nat → ClassId) (dI : Nat → Nat → Nat) (cI cB cR cO : ClassId) (zk : Nat → Nat) (h0 v0 m c0 : Nat) (g : Nat → Int32) (ml : Value) (y0 yw0 yv0 yh0 y1 yw1 yv1 yh1 : Nat) (nb0 nb1 : Int32) (gw0 gv0 gw1 gv1 : Nat → Int32) (gh0 gh1 : Nat → Option Nat) (sz : Nat) (hm : m ≤ 65536) (hcm : c0 ≤ m) (hc0 : c0 + 24 ≤ 2000) (hg : sb_Fit g) (hgw0 : ∀ i, i < 4 → gw0 i = 0) (hgh0 : ∀ i, i < 4 → gh0 i = none) (hgh1 : ∀ i, i < 4 → gh1 i = some y0) : Met l yX1_writePlace wsX1_writePlace ({ frames := 9, cells := 24, slots := 1572864, locals := 255 }) (va_Pc [.ref h0, .ref y1, .int 1, .int 3] (zPre (dC, dI) (zT cI cB cR cO) zk [] [(h0, .inr (1, [.ref v0, .int 0, ml, .int (nI c0)])), (v0, .inl (cB, m, .inl g)), (y0, .inr (5, [.int 4, .int 4, .ref yw0, .ref yv0, .ref yh0, .int nb0])), (yw0, .inl (cI, 4, .inl gw0)), (yv0, .inl (cI, 4, .inl gv0)), (yh0, .inl (cR, 4, .inr (.inr (.inr (.inr gh0))))), (y1, .inr (5, [.int 4, .int 4, .ref yw1, .ref yv1, .ref yh1, .int nb1])), (yw1, .inl (cI, 4, .inl gw1)), (yv1, .inl (cI, 4, .inl gv1)), (yh1, .inl (cR, 4, .inr (.inr (.inr (.inr gh1)))))] sz)) (va_Qv (fun _ : Unit => True) (fun _ t => ∃ v3, ∃ m3, ∃ (f3 : Nat → Int32), zEnd (dC, dI) (zT cI cB cR cO) (va_A [(h0, .inr (1, [.ref v0, .int 0, ml, .int (nI c0)])), (v0, .inl (cB, m, .inl g)), (y0, .inr (5, [.int 4, .int 4, .ref yw0, .ref yv0, .ref yh0, .int nb0])), (yw0, .inl (cI, 4, .inl gw0)), (yv0, .inl (cI, 4, .inl gv0)), (yh0, .inl (cR, 4, .inr (.inr (.inr (.inr gh0))))), (y1, .inr (5, [.int 4, .int 4, .ref yw1, .ref yv1, .ref yh1, .int nb1])), (yw1, .inl (cI, 4, .inl gw1)), (yv1, .inl (cI, 4, .inl gv1)), (yh1, .inl (cR, 4, .inr (.inr (.inr (.inr gh1)))))] sz) [(h0, .inr (1, [.ref v3, .int 0, ml, .int (nI (c0 + 24))])), (v3, .inl (cB, m3, .inl f3)), (y0, .inr (5, [.int 4, .int 4, .ref yw0, .ref yv0, .ref yh0, .int nb0])), (yw0, .inl (cI, 4, .inl gw0)), (yv0, .inl (cI, 4, .inl gv0)), (yh0, .inl (cR, 4, .inr (.inr (.inr (.inr gh0))))), (y1, .inr (5, [.int 4, .int 4, .ref yw1, .ref yv1, .ref yh1, .int nb1])), (yw1, .inl (cI, 4, .inl gw1)), (yv1, .inl (cI, 4, .inl gv1)), (yh1, .inl (cR, 4, .inr (.inr (.inr (.inr gh1)))))] sz 0 t ∧ sb_Fit f3 ∧ c0 + 24 ≤ m3 ∧ m3 ≤ 65536) (va_A [(h0, .inr (1, [.ref v0, .int 0, ml, .int (nI c0)])), (v0, .inl (cB, m, .inl g)), (y0, .inr (5, [.int 4, .int 4, .ref yw0, .ref yv0, .ref yh0, .int nb0])), (yw0, .inl (cI, 4, .inl gw0)), (yv0, .inl (cI, 4, .inl gv0)), (yh0, .inl (cR, 4, .inr (.inr (.inr (.inr gh0))))), (y1, .inr (5, [.int 4, .int 4, .ref yw1, .ref yv1, .ref yh1, .int nb1])), (yw1, .inl (cI, 4, .inl gw1)), (yv1, .inl (cI, 4, .inl gv1)), (yh1, .inl (cR, 4, .inr (.inr (.inr (.inr gh1)))))] sz)) 24 1572864 (va_A [(h0, .inr (1, [.ref v0, .int 0, ml, .int (nI c0)])), (v0, .inl (cB, m, .inl g)), (y0, .inr (5, [.int 4, .int 4, .ref yw0, .ref yv0, .ref yh0, .int nb0])), (yw0, .inl (cI, 4, .inl gw0)), (yv0, .inl (cI, 4, .inl gv0)), (yh0, .inl (cR, 4, .inr (.inr (.inr (.inr gh0))))), (y1, .inr (5, [.int 4, .int 4, .ref yw1, .ref yv1, .ref yh1, .int nb1])), (yw1, .inl (cI, 4, .inl gw1)), (yv1, .inl (cI, 4, .inl gv1)), (yh1, .inl (cR, 4, .inr (.inr (.inr (.inr gh1)))))] sz) := by
  refine Met.ofW (cc := cX1_writePlace) (maxL := 5) (ret := none) (by decide) rfl ?_
  intro p e s mY args below meth c s₁ B hml hv
  obtain ⟨rfl, hsz, hP, hK, hD0, hZ⟩ := hv
  have hx := B.exec
  have hb := B.bytes
  have hr := B.returns
  have hts := atoms_spec (ws := wsX1_writePlace) B.pre
  have hown : s.vm.findClass RX1 = some mY.cls := findClass_of_methodNamed B.named
  have hlocks := B.notSynchronized
  subst hsz
  have hD := hD0.self (sz := s.heap.size)
  generalize hAe : va_A [(h0, .inr (1, [.ref v0, .int 0, ml, .int (nI c0)])), (v0, .inl (cB, m, .inl g)), (y0, .inr (5, [.int 4, .int 4, .ref yw0, .ref yv0, .ref yh0, .int nb0])), (yw0, .inl (cI, 4, .inl gw0)), (yv0, .inl (cI, 4, .inl gv0)), (yh0, .inl (cR, 4, .inr (.inr (.inr (.inr gh0))))), (y1, .inr (5, [.int 4, .int 4, .ref yw1, .ref yv1, .ref yh1, .int nb1])), (yw1, .inl (cI, 4, .inl gw1)), (yv1, .inl (cI, 4, .inl gv1)), (yh1, .inl (cR, 4, .inr (.inr (.inr (.inr gh1)))))] s.heap.size = A at hD hZ ⊢
  have hA : ∀ q : Nat, s.heap.size ≤ q → A q := fun q h => by rw [← hAe]; exact Or.inr h
  have hS : va_S A s.heap s.heap [] := va_S.rf
  have hz : s.heap.size + 0 ≤ s.heap.size := Nat.le_refl _
  have hl := lv_entry ([.ref h0, .ref y1, .int 1, .int 3]) (n := 5) (Nat.le_of_ble_eq_true rfl)
  rw [lg_entry_eq]
  generalize (lg_sl ([.ref h0, .ref y1, .int 1, .int 3]) ++ List.replicate (5 - (lg_sl ([.ref h0, .ref y1, .int 1, .int 3])).length) Slot.unset).toArray = ls at hl ⊢
  have hl : lv_has ls 5 [(0, .ref h0), (1, .ref y1), (2, .int 1), (3, .int 3)] := hl
  have hP : va_P (dC, dI) vwCl [(h0, .inr (1, [.ref v0, .int 0, ml, .int (nI c0)])), (v0, .inl (cB, m, .inl g)), (y0, .inr (5, [.int 4, .int 4, .ref yw0, .ref yv0, .ref yh0, .int nb0])), (yw0, .inl (cI, 4, .inl gw0)), (yv0, .inl (cI, 4, .inl gv0)), (yh0, .inl (cR, 4, .inr (.inr (.inr (.inr gh0))))), (y1, .inr (5, [.int 4, .int 4, .ref yw1, .ref yv1, .ref yh1, .int nb1])), (yw1, .inl (cI, 4, .inl gw1)), (yv1, .inl (cI, 4, .inl gv1)), (yh1, .inl (cR, 4, .inr (.inr (.inr (.inr gh1)))))] s.heap := hP
  have hD : va_D A [(h0, .inr (1, [.ref v0, .int 0, ml, .int (nI c0)])), (v0, .inl (cB, m, .inl g)), (y0, .inr (5, [.int 4, .int 4, .ref yw0, .ref yv0, .ref yh0, .int nb0])), (yw0, .inl (cI, 4, .inl gw0)), (yv0, .inl (cI, 4, .inl gv0)), (yh0, .inl (cR, 4, .inr (.inr (.inr (.inr gh0))))), (y1, .inr (5, [.int 4, .int 4, .ref yw1, .ref yv1, .ref yh1, .int nb1])), (yw1, .inl (cI, 4, .inl gw1)), (yv1, .inl (cI, 4, .inl gv1)), (yh1, .inl (cR, 4, .inr (.inr (.inr (.inr gh1)))))] := hD
  refine lv_aload_n hx hb dX1_writePlace_0 rfl (lv_at hl 1 rfl) ?_
  refine va_getN (D := (dC, dI)) (ci := 5) (v := .ref yh1) (C := RX0) (T := TX0) (N := 6) hx hb hts hi_X1_writePlace_X0 hown hK hP 6 rfl rfl 4 (by decide) (zn2 hZ) (fun _ h9 => h9) rfl dX1_writePlace_1 ?_
  refine lv_iload_n hx hb dX1_writePlace_4 rfl (lv_at hl 2 rfl) ?_
  refine va_aldq (D := (dC, dI)) (cl := vwCl) hx hb hK hP 9 2 rfl rfl (by unfold vp_in; decide) dX1_writePlace_5 ?_
  rw [show (1 : Int32).toNatClampNeg = 1 from by decide, hgh1 1 (by decide)]
  refine W.eq (g2 := F0 mY 6 ls [.ref y0]) rfl ?_
  refine lv_astore (lv' := [(4, .ref y0), (0, .ref h0), (1, .ref y1), (2, .int 1), (3, .int 3)]) hx hb dX1_writePlace_6 hl (by decide) rfl (fun ls hl => ?_)
  refine lv_aload hx hb dX1_writePlace_8 (lv_at hl 0 rfl) ?_
  refine lv_ifnull hx hb dX1_writePlace_10 ?_
  refine lv_aload_n hx hb dX1_writePlace_13 rfl (lv_at hl 1 rfl) ?_
  refine lv_aload hx hb dX1_writePlace_14 (lv_at hl 0 rfl) ?_
  refine lv_iload_n hx hb dX1_writePlace_16 rfl (lv_at hl 4 rfl) ?_
  refine lv_iconst (v := 1) hx hb dX1_writePlace_17 (by decide) ?_
  refine lv_isub hx hb dX1_writePlace_18 ?_
  refine lv_topi (fun v1 ev1 => ?_)
  obtain rfl : v1 = 2 := ev1.trans (by decide)
  have hPc := hP.sub (ws' := [(h0, .inr (1, [.ref v0, .int 0, ml, .int (nI c0)])), (v0, .inl (cB, m, .inl g)), (y0, .inr (5, [.int 4, .int 4, .ref yw0, .ref yv0, .ref yh0, .int nb0])), (yw0, .inl (cI, 4, .inl gw0)), (yv0, .inl (cI, 4, .inl gv0)), (yh0, .inl (cR, 4, .inr (.inr (.inr (.inr gh0)))))]) [0, 1, 2, 3, 4, 5] rfl
  have hDc := hD.sub (ws' := [(h0, .inr (1, [.ref v0, .int 0, ml, .int (nI c0)])), (v0, .inl (cB, m, .inl g)), (y0, .inr (5, [.int 4, .int 4, .ref yw0, .ref yv0, .ref yh0, .int nb0])), (yw0, .inl (cI, 4, .inl gw0)), (yv0, .inl (cI, 4, .inl gv0)), (yh0, .inl (cR, 4, .inr (.inr (.inr (.inr gh0)))))]) [0, 1, 2, 3, 4, 5] (by decide) rfl
  have hFc := va_free (wc := [(h0, .inr (1, [.ref v0, .int 0, ml, .int (nI c0)])), (v0, .inl (cB, m, .inl g)), (y0, .inr (5, [.int 4, .int 4, .ref yw0, .ref yv0, .ref yh0, .int nb0])), (yw0, .inl (cI, 4, .inl gw0)), (yv0, .inl (cI, 4, .inl gv0)), (yh0, .inl (cR, 4, .inr (.inr (.inr (.inr gh0)))))]) hD hS hA [0, 1, 2, 3, 4, 5] rfl
  have hDv := hDc.self (sz := s.heap.size)
  have hpre := zpre (xs' := []) (av := [.ref h0, .ref y0, .int 2]) hPc hK (hDc.weaken (fun _ _ _ h => h)) hZ hS hFc (fun r hr => by cases hr)
  refine va_callv (va_runS (As := [.ref h0, .ref y0, .int 2]) (rest := []) ⟨hx, hb, hml, hown, hts⟩ (k_wRow0 l dC dI cI cB cR cO zk h0 v0 m c0 g ml y0 yw0 yv0 yh0 nb0 gw0 gv0 gh0 s.heap.size hm hcm (by omega) hg hgw0 hgh0) (va_cwS 3 hts gX1_writePlace_X1_writeRow rfl rfl rfl (by decide +kernel) ⟨Nat.le_of_ble_eq_true rfl, Nat.le_of_ble_eq_true rfl⟩) ⟨zblind, hpre⟩ rfl rfl hl.1 rfl (lv_room (Nat.le_of_ble_eq_true rfl)) dX1_writePlace_19 ⟨Nat.le_of_ble_eq_true rfl, Nat.le_of_ble_eq_true rfl⟩) hS (fun q _ h => hFc q h) hFc (fun u t H2 locs ht hvm hw hB hz1 hk1 hS => ?_)
  obtain ⟨v4, m5, f6, ⟨hP1, hK1, hD1, hz2⟩, hff6, hlm5, hmm5⟩ := hB
  rw [ht] at hP1 hz2
  have hPD9 := va_join (wr := [(y1, .inr (5, [.int 4, .int 4, .ref yw1, .ref yv1, .ref yh1, .int nb1])), (yw1, .inl (cI, 4, .inl gw1)), (yv1, .inl (cI, 4, .inl gv1)), (yh1, .inl (cR, 4, .inr (.inr (.inr (.inr gh1)))))]) (w1 := [(h0, .inr (1, [.ref v4, .int 0, ml, .int (nI (c0 + 24))])), (v4, .inl (cB, m5, .inl f6)), (y0, .inr (5, [.int 4, .int 4, .ref yw0, .ref yv0, .ref yh0, .int nb0])), (yw0, .inl (cI, 4, .inl gw0)), (yv0, .inl (cI, 4, .inl gv0)), (yh0, .inl (cR, 4, .inr (.inr (.inr (.inr gh0)))))]) hP hD [0, 1, 2, 3, 4, 5] [6, 7, 8, 9] rfl rfl (by decide) (by decide) hk1 hFc hP1 hD1
  clear hPc hDc hFc hDv hpre hP hD hP1 hK1 hD1
  obtain ⟨hP, hD⟩ := hPD9
  replace hz : s.heap.size + 0 ≤ H2.size := by omega
  clear hz2
  replace hP : va_P (dC, dI) vwCl [(y1, .inr (5, [.int 4, .int 4, .ref yw1, .ref yv1, .ref yh1, .int nb1])), (yw1, .inl (cI, 4, .inl gw1)), (yv1, .inl (cI, 4, .inl gv1)), (yh1, .inl (cR, 4, .inr (.inr (.inr (.inr gh1))))), (h0, .inr (1, [.ref v4, .int 0, ml, .int (nI (c0 + 24))])), (v4, .inl (cB, m5, .inl f6)), (y0, .inr (5, [.int 4, .int 4, .ref yw0, .ref yv0, .ref yh0, .int nb0])), (yw0, .inl (cI, 4, .inl gw0)), (yv0, .inl (cI, 4, .inl gv0)), (yh0, .inl (cR, 4, .inr (.inr (.inr (.inr gh0)))))] H2 := hP
  replace hD : va_D A [(y1, .inr (5, [.int 4, .int 4, .ref yw1, .ref yv1, .ref yh1, .int nb1])), (yw1, .inl (cI, 4, .inl gw1)), (yv1, .inl (cI, 4, .inl gv1)), (yh1, .inl (cR, 4, .inr (.inr (.inr (.inr gh1))))), (h0, .inr (1, [.ref v4, .int 0, ml, .int (nI (c0 + 24))])), (v4, .inl (cB, m5, .inl f6)), (y0, .inr (5, [.int 4, .int 4, .ref yw0, .ref yv0, .ref yh0, .int nb0])), (yw0, .inl (cI, 4, .inl gw0)), (yv0, .inl (cI, 4, .inl gv0)), (yh0, .inl (cR, 4, .inr (.inr (.inr (.inr gh0)))))] := hD
  refine W.widen (k := 24) (n := 1572864) (by omega) (by omega) ?_
  have hP9 := hP.sub (ws' := [(h0, .inr (1, [.ref v4, .int 0, ml, .int (nI (c0 + 24))])), (v4, .inl (cB, m5, .inl f6)), (y0, .inr (5, [.int 4, .int 4, .ref yw0, .ref yv0, .ref yh0, .int nb0])), (yw0, .inl (cI, 4, .inl gw0)), (yv0, .inl (cI, 4, .inl gv0)), (yh0, .inl (cR, 4, .inr (.inr (.inr (.inr gh0))))), (y1, .inr (5, [.int 4, .int 4, .ref yw1, .ref yv1, .ref yh1, .int nb1])), (yw1, .inl (cI, 4, .inl gw1)), (yv1, .inl (cI, 4, .inl gv1)), (yh1, .inl (cR, 4, .inr (.inr (.inr (.inr gh1)))))]) [4, 5, 6, 7, 8, 9, 0, 1, 2, 3] rfl
  have hD9 := hD.sub (ws' := [(h0, .inr (1, [.ref v4, .int 0, ml, .int (nI (c0 + 24))])), (v4, .inl (cB, m5, .inl f6)), (y0, .inr (5, [.int 4, .int 4, .ref yw0, .ref yv0, .ref yh0, .int nb0])), (yw0, .inl (cI, 4, .inl gw0)), (yv0, .inl (cI, 4, .inl gv0)), (yh0, .inl (cR, 4, .inr (.inr (.inr (.inr gh0))))), (y1, .inr (5, [.int 4, .int 4, .ref yw1, .ref yv1, .ref yh1, .int nb1])), (yw1, .inl (cI, 4, .inl gw1)), (yv1, .inl (cI, 4, .inl gv1)), (yh1, .inl (cR, 4, .inr (.inr (.inr (.inr gh1)))))]) [4, 5, 6, 7, 8, 9, 0, 1, 2, 3] (by decide) rfl
  exact W.vret hx hb hr (fun t ht hW => ⟨⟨(), rfl, trivial, ⟨_, _, _, ⟨by rw [ht]; exact hP9, va_K.moved hW.alike hK, hD9, by rw [ht]; exact hz⟩, hff6, (by omega), hmm5⟩⟩, hS.F ht⟩) hS.2.2 dX1_writePlace_22

set_option maxHeartbeats 4000000 in
set_option maxRecDepth 100000 in
theorem k_wPl1_2 (l : Launch) (dC : Nat → ClassId) (dI : Nat → Nat → Nat) (cI cB cR cO : ClassId) (zk : Nat → Nat) (h0 v0 m c0 : Nat) (g : Nat → Int32) (ml : Value) (y0 yw0 yv0 yh0 y1 yw1 yv1 yh1 : Nat) (nb0 nb1 : Int32) (gw0 gv0 gw1 gv1 : Nat → Int32) (gh0 gh1 : Nat → Option Nat) (sz : Nat) (hm : m ≤ 65536) (hcm : c0 ≤ m) (hc0 : c0 + 24 ≤ 2000) (hg : sb_Fit g) (hgw0 : ∀ i, i < 4 → gw0 i = 0) (hgh0 : ∀ i, i < 4 → gh0 i = none) (hgh1 : ∀ i, i < 4 → gh1 i = some y0) : Met l yX1_writePlace wsX1_writePlace ({ frames := 9, cells := 24, slots := 1572864, locals := 255 }) (va_Pc [.ref h0, .ref y1, .int 2, .int 3] (zPre (dC, dI) (zT cI cB cR cO) zk [] [(h0, .inr (1, [.ref v0, .int 0, ml, .int (nI c0)])), (v0, .inl (cB, m, .inl g)), (y0, .inr (5, [.int 4, .int 4, .ref yw0, .ref yv0, .ref yh0, .int nb0])), (yw0, .inl (cI, 4, .inl gw0)), (yv0, .inl (cI, 4, .inl gv0)), (yh0, .inl (cR, 4, .inr (.inr (.inr (.inr gh0))))), (y1, .inr (5, [.int 4, .int 4, .ref yw1, .ref yv1, .ref yh1, .int nb1])), (yw1, .inl (cI, 4, .inl gw1)), (yv1, .inl (cI, 4, .inl gv1)), (yh1, .inl (cR, 4, .inr (.inr (.inr (.inr gh1)))))] sz)) (va_Qv (fun _ : Unit => True) (fun _ t => ∃ v3, ∃ m3, ∃ (f3 : Nat → Int32), zEnd (dC, dI) (zT cI cB cR cO) (va_A [(h0, .inr (1, [.ref v0, .int 0, ml, .int (nI c0)])), (v0, .inl (cB, m, .inl g)), (y0, .inr (5, [.int 4, .int 4, .ref yw0, .ref yv0, .ref yh0, .int nb0])), (yw0, .inl (cI, 4, .inl gw0)), (yv0, .inl (cI, 4, .inl gv0)), (yh0, .inl (cR, 4, .inr (.inr (.inr (.inr gh0))))), (y1, .inr (5, [.int 4, .int 4, .ref yw1, .ref yv1, .ref yh1, .int nb1])), (yw1, .inl (cI, 4, .inl gw1)), (yv1, .inl (cI, 4, .inl gv1)), (yh1, .inl (cR, 4, .inr (.inr (.inr (.inr gh1)))))] sz) [(h0, .inr (1, [.ref v3, .int 0, ml, .int (nI (c0 + 24))])), (v3, .inl (cB, m3, .inl f3)), (y0, .inr (5, [.int 4, .int 4, .ref yw0, .ref yv0, .ref yh0, .int nb0])), (yw0, .inl (cI, 4, .inl gw0)), (yv0, .inl (cI, 4, .inl gv0)), (yh0, .inl (cR, 4, .inr (.inr (.inr (.inr gh0))))), (y1, .inr (5, [.int 4, .int 4, .ref yw1, .ref yv1, .ref yh1, .int nb1])), (yw1, .inl (cI, 4, .inl gw1)), (yv1, .inl (cI, 4, .inl gv1)), (yh1, .inl (cR, 4, .inr (.inr (.inr (.inr gh1)))))] sz 0 t ∧ sb_Fit f3 ∧ c0 + 24 ≤ m3 ∧ m3 ≤ 65536) (va_A [(h0, .inr (1, [.ref v0, .int 0, ml, .int (nI c0)])), (v0, .inl (cB, m, .inl g)), (y0, .inr (5, [.int 4, .int 4, .ref yw0, .ref yv0, .ref yh0, .int nb0])), (yw0, .inl (cI, 4, .inl gw0)), (yv0, .inl (cI, 4, .inl gv0)), (yh0, .inl (cR, 4, .inr (.inr (.inr (.inr gh0))))), (y1, .inr (5, [.int 4, .int 4, .ref yw1, .ref yv1, .ref yh1, .int nb1])), (yw1, .inl (cI, 4, .inl gw1)), (yv1, .inl (cI, 4, .inl gv1)), (yh1, .inl (cR, 4, .inr (.inr (.inr (.inr gh1)))))] sz)) 24 1572864 (va_A [(h0, .inr (1, [.ref v0, .int 0, ml, .int (nI c0)])), (v0, .inl (cB, m, .inl g)), (y0, .inr (5, [.int 4, .int 4, .ref yw0, .ref yv0, .ref yh0, .int nb0])), (yw0, .inl (cI, 4, .inl gw0)), (yv0, .inl (cI, 4, .inl gv0)), (yh0, .inl (cR, 4, .inr (.inr (.inr (.inr gh0))))), (y1, .inr (5, [.int 4, .int 4, .ref yw1, .ref yv1, .ref yh1, .int nb1])), (yw1, .inl (cI, 4, .inl gw1)), (yv1, .inl (cI, 4, .inl gv1)), (yh1, .inl (cR, 4, .inr (.inr (.inr (.inr gh1)))))] sz) := by
  refine Met.ofW (cc := cX1_writePlace) (maxL := 5) (ret := none) (by decide) rfl ?_
  intro p e s mY args below meth c s₁ B hml hv
  obtain ⟨rfl, hsz, hP, hK, hD0, hZ⟩ := hv
  have hx := B.exec
  have hb := B.bytes
  have hr := B.returns
  have hts := atoms_spec (ws := wsX1_writePlace) B.pre
  have hown : s.vm.findClass RX1 = some mY.cls := findClass_of_methodNamed B.named
  have hlocks := B.notSynchronized
  subst hsz
  have hD := hD0.self (sz := s.heap.size)
  generalize hAe : va_A [(h0, .inr (1, [.ref v0, .int 0, ml, .int (nI c0)])), (v0, .inl (cB, m, .inl g)), (y0, .inr (5, [.int 4, .int 4, .ref yw0, .ref yv0, .ref yh0, .int nb0])), (yw0, .inl (cI, 4, .inl gw0)), (yv0, .inl (cI, 4, .inl gv0)), (yh0, .inl (cR, 4, .inr (.inr (.inr (.inr gh0))))), (y1, .inr (5, [.int 4, .int 4, .ref yw1, .ref yv1, .ref yh1, .int nb1])), (yw1, .inl (cI, 4, .inl gw1)), (yv1, .inl (cI, 4, .inl gv1)), (yh1, .inl (cR, 4, .inr (.inr (.inr (.inr gh1)))))] s.heap.size = A at hD hZ ⊢
  have hA : ∀ q : Nat, s.heap.size ≤ q → A q := fun q h => by rw [← hAe]; exact Or.inr h
  have hS : va_S A s.heap s.heap [] := va_S.rf
  have hz : s.heap.size + 0 ≤ s.heap.size := Nat.le_refl _
  have hl := lv_entry ([.ref h0, .ref y1, .int 2, .int 3]) (n := 5) (Nat.le_of_ble_eq_true rfl)
  rw [lg_entry_eq]
  generalize (lg_sl ([.ref h0, .ref y1, .int 2, .int 3]) ++ List.replicate (5 - (lg_sl ([.ref h0, .ref y1, .int 2, .int 3])).length) Slot.unset).toArray = ls at hl ⊢
  have hl : lv_has ls 5 [(0, .ref h0), (1, .ref y1), (2, .int 2), (3, .int 3)] := hl
  have hP : va_P (dC, dI) vwCl [(h0, .inr (1, [.ref v0, .int 0, ml, .int (nI c0)])), (v0, .inl (cB, m, .inl g)), (y0, .inr (5, [.int 4, .int 4, .ref yw0, .ref yv0, .ref yh0, .int nb0])), (yw0, .inl (cI, 4, .inl gw0)), (yv0, .inl (cI, 4, .inl gv0)), (yh0, .inl (cR, 4, .inr (.inr (.inr (.inr gh0))))), (y1, .inr (5, [.int 4, .int 4, .ref yw1, .ref yv1, .ref yh1, .int nb1])), (yw1, .inl (cI, 4, .inl gw1)), (yv1, .inl (cI, 4, .inl gv1)), (yh1, .inl (cR, 4, .inr (.inr (.inr (.inr gh1)))))] s.heap := hP
  have hD : va_D A [(h0, .inr (1, [.ref v0, .int 0, ml, .int (nI c0)])), (v0, .inl (cB, m, .inl g)), (y0, .inr (5, [.int 4, .int 4, .ref yw0, .ref yv0, .ref yh0, .int nb0])), (yw0, .inl (cI, 4, .inl gw0)), (yv0, .inl (cI, 4, .inl gv0)), (yh0, .inl (cR, 4, .inr (.inr (.inr (.inr gh0))))), (y1, .inr (5, [.int 4, .int 4, .ref yw1, .ref yv1, .ref yh1, .int nb1])), (yw1, .inl (cI, 4, .inl gw1)), (yv1, .inl (cI, 4, .inl gv1)), (yh1, .inl (cR, 4, .inr (.inr (.inr (.inr gh1)))))] := hD
  refine lv_aload_n hx hb dX1_writePlace_0 rfl (lv_at hl 1 rfl) ?_
  refine va_getN (D := (dC, dI)) (ci := 5) (v := .ref yh1) (C := RX0) (T := TX0) (N := 6) hx hb hts hi_X1_writePlace_X0 hown hK hP 6 rfl rfl 4 (by decide) (zn2 hZ) (fun _ h9 => h9) rfl dX1_writePlace_1 ?_
  refine lv_iload_n hx hb dX1_writePlace_4 rfl (lv_at hl 2 rfl) ?_
  refine va_aldq (D := (dC, dI)) (cl := vwCl) hx hb hK hP 9 2 rfl rfl (by unfold vp_in; decide) dX1_writePlace_5 ?_
  rw [show (2 : Int32).toNatClampNeg = 2 from by decide, hgh1 2 (by decide)]
  refine W.eq (g2 := F0 mY 6 ls [.ref y0]) rfl ?_
  refine lv_astore (lv' := [(4, .ref y0), (0, .ref h0), (1, .ref y1), (2, .int 2), (3, .int 3)]) hx hb dX1_writePlace_6 hl (by decide) rfl (fun ls hl => ?_)
  refine lv_aload hx hb dX1_writePlace_8 (lv_at hl 0 rfl) ?_
  refine lv_ifnull hx hb dX1_writePlace_10 ?_
  refine lv_aload_n hx hb dX1_writePlace_13 rfl (lv_at hl 1 rfl) ?_
  refine lv_aload hx hb dX1_writePlace_14 (lv_at hl 0 rfl) ?_
  refine lv_iload_n hx hb dX1_writePlace_16 rfl (lv_at hl 4 rfl) ?_
  refine lv_iconst (v := 1) hx hb dX1_writePlace_17 (by decide) ?_
  refine lv_isub hx hb dX1_writePlace_18 ?_
  refine lv_topi (fun v1 ev1 => ?_)
  obtain rfl : v1 = 2 := ev1.trans (by decide)
  have hPc := hP.sub (ws' := [(h0, .inr (1, [.ref v0, .int 0, ml, .int (nI c0)])), (v0, .inl (cB, m, .inl g)), (y0, .inr (5, [.int 4, .int 4, .ref yw0, .ref yv0, .ref yh0, .int nb0])), (yw0, .inl (cI, 4, .inl gw0)), (yv0, .inl (cI, 4, .inl gv0)), (yh0, .inl (cR, 4, .inr (.inr (.inr (.inr gh0)))))]) [0, 1, 2, 3, 4, 5] rfl
  have hDc := hD.sub (ws' := [(h0, .inr (1, [.ref v0, .int 0, ml, .int (nI c0)])), (v0, .inl (cB, m, .inl g)), (y0, .inr (5, [.int 4, .int 4, .ref yw0, .ref yv0, .ref yh0, .int nb0])), (yw0, .inl (cI, 4, .inl gw0)), (yv0, .inl (cI, 4, .inl gv0)), (yh0, .inl (cR, 4, .inr (.inr (.inr (.inr gh0)))))]) [0, 1, 2, 3, 4, 5] (by decide) rfl
  have hFc := va_free (wc := [(h0, .inr (1, [.ref v0, .int 0, ml, .int (nI c0)])), (v0, .inl (cB, m, .inl g)), (y0, .inr (5, [.int 4, .int 4, .ref yw0, .ref yv0, .ref yh0, .int nb0])), (yw0, .inl (cI, 4, .inl gw0)), (yv0, .inl (cI, 4, .inl gv0)), (yh0, .inl (cR, 4, .inr (.inr (.inr (.inr gh0)))))]) hD hS hA [0, 1, 2, 3, 4, 5] rfl
  have hDv := hDc.self (sz := s.heap.size)
  have hpre := zpre (xs' := []) (av := [.ref h0, .ref y0, .int 2]) hPc hK (hDc.weaken (fun _ _ _ h => h)) hZ hS hFc (fun r hr => by cases hr)
  refine va_callv (va_runS (As := [.ref h0, .ref y0, .int 2]) (rest := []) ⟨hx, hb, hml, hown, hts⟩ (k_wRow0 l dC dI cI cB cR cO zk h0 v0 m c0 g ml y0 yw0 yv0 yh0 nb0 gw0 gv0 gh0 s.heap.size hm hcm (by omega) hg hgw0 hgh0) (va_cwS 3 hts gX1_writePlace_X1_writeRow rfl rfl rfl (by decide +kernel) ⟨Nat.le_of_ble_eq_true rfl, Nat.le_of_ble_eq_true rfl⟩) ⟨zblind, hpre⟩ rfl rfl hl.1 rfl (lv_room (Nat.le_of_ble_eq_true rfl)) dX1_writePlace_19 ⟨Nat.le_of_ble_eq_true rfl, Nat.le_of_ble_eq_true rfl⟩) hS (fun q _ h => hFc q h) hFc (fun u t H2 locs ht hvm hw hB hz1 hk1 hS => ?_)
  obtain ⟨v4, m5, f6, ⟨hP1, hK1, hD1, hz2⟩, hff6, hlm5, hmm5⟩ := hB
  rw [ht] at hP1 hz2
  have hPD9 := va_join (wr := [(y1, .inr (5, [.int 4, .int 4, .ref yw1, .ref yv1, .ref yh1, .int nb1])), (yw1, .inl (cI, 4, .inl gw1)), (yv1, .inl (cI, 4, .inl gv1)), (yh1, .inl (cR, 4, .inr (.inr (.inr (.inr gh1)))))]) (w1 := [(h0, .inr (1, [.ref v4, .int 0, ml, .int (nI (c0 + 24))])), (v4, .inl (cB, m5, .inl f6)), (y0, .inr (5, [.int 4, .int 4, .ref yw0, .ref yv0, .ref yh0, .int nb0])), (yw0, .inl (cI, 4, .inl gw0)), (yv0, .inl (cI, 4, .inl gv0)), (yh0, .inl (cR, 4, .inr (.inr (.inr (.inr gh0)))))]) hP hD [0, 1, 2, 3, 4, 5] [6, 7, 8, 9] rfl rfl (by decide) (by decide) hk1 hFc hP1 hD1
  clear hPc hDc hFc hDv hpre hP hD hP1 hK1 hD1
  obtain ⟨hP, hD⟩ := hPD9
  replace hz : s.heap.size + 0 ≤ H2.size := by omega
  clear hz2
  replace hP : va_P (dC, dI) vwCl [(y1, .inr (5, [.int 4, .int 4, .ref yw1, .ref yv1, .ref yh1, .int nb1])), (yw1, .inl (cI, 4, .inl gw1)), (yv1, .inl (cI, 4, .inl gv1)), (yh1, .inl (cR, 4, .inr (.inr (.inr (.inr gh1))))), (h0, .inr (1, [.ref v4, .int 0, ml, .int (nI (c0 + 24))])), (v4, .inl (cB, m5, .inl f6)), (y0, .inr (5, [.int 4, .int 4, .ref yw0, .ref yv0, .ref yh0, .int nb0])), (yw0, .inl (cI, 4, .inl gw0)), (yv0, .inl (cI, 4, .inl gv0)), (yh0, .inl (cR, 4, .inr (.inr (.inr (.inr gh0)))))] H2 := hP
  replace hD : va_D A [(y1, .inr (5, [.int 4, .int 4, .ref yw1, .ref yv1, .ref yh1, .int nb1])), (yw1, .inl (cI, 4, .inl gw1)), (yv1, .inl (cI, 4, .inl gv1)), (yh1, .inl (cR, 4, .inr (.inr (.inr (.inr gh1))))), (h0, .inr (1, [.ref v4, .int 0, ml, .int (nI (c0 + 24))])), (v4, .inl (cB, m5, .inl f6)), (y0, .inr (5, [.int 4, .int 4, .ref yw0, .ref yv0, .ref yh0, .int nb0])), (yw0, .inl (cI, 4, .inl gw0)), (yv0, .inl (cI, 4, .inl gv0)), (yh0, .inl (cR, 4, .inr (.inr (.inr (.inr gh0)))))] := hD
  refine W.widen (k := 24) (n := 1572864) (by omega) (by omega) ?_
  have hP9 := hP.sub (ws' := [(h0, .inr (1, [.ref v4, .int 0, ml, .int (nI (c0 + 24))])), (v4, .inl (cB, m5, .inl f6)), (y0, .inr (5, [.int 4, .int 4, .ref yw0, .ref yv0, .ref yh0, .int nb0])), (yw0, .inl (cI, 4, .inl gw0)), (yv0, .inl (cI, 4, .inl gv0)), (yh0, .inl (cR, 4, .inr (.inr (.inr (.inr gh0))))), (y1, .inr (5, [.int 4, .int 4, .ref yw1, .ref yv1, .ref yh1, .int nb1])), (yw1, .inl (cI, 4, .inl gw1)), (yv1, .inl (cI, 4, .inl gv1)), (yh1, .inl (cR, 4, .inr (.inr (.inr (.inr gh1)))))]) [4, 5, 6, 7, 8, 9, 0, 1, 2, 3] rfl
  have hD9 := hD.sub (ws' := [(h0, .inr (1, [.ref v4, .int 0, ml, .int (nI (c0 + 24))])), (v4, .inl (cB, m5, .inl f6)), (y0, .inr (5, [.int 4, .int 4, .ref yw0, .ref yv0, .ref yh0, .int nb0])), (yw0, .inl (cI, 4, .inl gw0)), (yv0, .inl (cI, 4, .inl gv0)), (yh0, .inl (cR, 4, .inr (.inr (.inr (.inr gh0))))), (y1, .inr (5, [.int 4, .int 4, .ref yw1, .ref yv1, .ref yh1, .int nb1])), (yw1, .inl (cI, 4, .inl gw1)), (yv1, .inl (cI, 4, .inl gv1)), (yh1, .inl (cR, 4, .inr (.inr (.inr (.inr gh1)))))]) [4, 5, 6, 7, 8, 9, 0, 1, 2, 3] (by decide) rfl
  exact W.vret hx hb hr (fun t ht hW => ⟨⟨(), rfl, trivial, ⟨_, _, _, ⟨by rw [ht]; exact hP9, va_K.moved hW.alike hK, hD9, by rw [ht]; exact hz⟩, hff6, (by omega), hmm5⟩⟩, hS.F ht⟩) hS.2.2 dX1_writePlace_22

set_option maxHeartbeats 4000000 in
set_option maxRecDepth 100000 in
theorem k_wPl1_3 (l : Launch) (dC : Nat → ClassId) (dI : Nat → Nat → Nat) (cI cB cR cO : ClassId) (zk : Nat → Nat) (h0 v0 m c0 : Nat) (g : Nat → Int32) (ml : Value) (y0 yw0 yv0 yh0 y1 yw1 yv1 yh1 : Nat) (nb0 nb1 : Int32) (gw0 gv0 gw1 gv1 : Nat → Int32) (gh0 gh1 : Nat → Option Nat) (sz : Nat) (hm : m ≤ 65536) (hcm : c0 ≤ m) (hc0 : c0 + 24 ≤ 2000) (hg : sb_Fit g) (hgw0 : ∀ i, i < 4 → gw0 i = 0) (hgh0 : ∀ i, i < 4 → gh0 i = none) (hgh1 : ∀ i, i < 4 → gh1 i = some y0) : Met l yX1_writePlace wsX1_writePlace ({ frames := 9, cells := 24, slots := 1572864, locals := 255 }) (va_Pc [.ref h0, .ref y1, .int 3, .int 3] (zPre (dC, dI) (zT cI cB cR cO) zk [] [(h0, .inr (1, [.ref v0, .int 0, ml, .int (nI c0)])), (v0, .inl (cB, m, .inl g)), (y0, .inr (5, [.int 4, .int 4, .ref yw0, .ref yv0, .ref yh0, .int nb0])), (yw0, .inl (cI, 4, .inl gw0)), (yv0, .inl (cI, 4, .inl gv0)), (yh0, .inl (cR, 4, .inr (.inr (.inr (.inr gh0))))), (y1, .inr (5, [.int 4, .int 4, .ref yw1, .ref yv1, .ref yh1, .int nb1])), (yw1, .inl (cI, 4, .inl gw1)), (yv1, .inl (cI, 4, .inl gv1)), (yh1, .inl (cR, 4, .inr (.inr (.inr (.inr gh1)))))] sz)) (va_Qv (fun _ : Unit => True) (fun _ t => ∃ v3, ∃ m3, ∃ (f3 : Nat → Int32), zEnd (dC, dI) (zT cI cB cR cO) (va_A [(h0, .inr (1, [.ref v0, .int 0, ml, .int (nI c0)])), (v0, .inl (cB, m, .inl g)), (y0, .inr (5, [.int 4, .int 4, .ref yw0, .ref yv0, .ref yh0, .int nb0])), (yw0, .inl (cI, 4, .inl gw0)), (yv0, .inl (cI, 4, .inl gv0)), (yh0, .inl (cR, 4, .inr (.inr (.inr (.inr gh0))))), (y1, .inr (5, [.int 4, .int 4, .ref yw1, .ref yv1, .ref yh1, .int nb1])), (yw1, .inl (cI, 4, .inl gw1)), (yv1, .inl (cI, 4, .inl gv1)), (yh1, .inl (cR, 4, .inr (.inr (.inr (.inr gh1)))))] sz) [(h0, .inr (1, [.ref v3, .int 0, ml, .int (nI (c0 + 24))])), (v3, .inl (cB, m3, .inl f3)), (y0, .inr (5, [.int 4, .int 4, .ref yw0, .ref yv0, .ref yh0, .int nb0])), (yw0, .inl (cI, 4, .inl gw0)), (yv0, .inl (cI, 4, .inl gv0)), (yh0, .inl (cR, 4, .inr (.inr (.inr (.inr gh0))))), (y1, .inr (5, [.int 4, .int 4, .ref yw1, .ref yv1, .ref yh1, .int nb1])), (yw1, .inl (cI, 4, .inl gw1)), (yv1, .inl (cI, 4, .inl gv1)), (yh1, .inl (cR, 4, .inr (.inr (.inr (.inr gh1)))))] sz 0 t ∧ sb_Fit f3 ∧ c0 + 24 ≤ m3 ∧ m3 ≤ 65536) (va_A [(h0, .inr (1, [.ref v0, .int 0, ml, .int (nI c0)])), (v0, .inl (cB, m, .inl g)), (y0, .inr (5, [.int 4, .int 4, .ref yw0, .ref yv0, .ref yh0, .int nb0])), (yw0, .inl (cI, 4, .inl gw0)), (yv0, .inl (cI, 4, .inl gv0)), (yh0, .inl (cR, 4, .inr (.inr (.inr (.inr gh0))))), (y1, .inr (5, [.int 4, .int 4, .ref yw1, .ref yv1, .ref yh1, .int nb1])), (yw1, .inl (cI, 4, .inl gw1)), (yv1, .inl (cI, 4, .inl gv1)), (yh1, .inl (cR, 4, .inr (.inr (.inr (.inr gh1)))))] sz)) 24 1572864 (va_A [(h0, .inr (1, [.ref v0, .int 0, ml, .int (nI c0)])), (v0, .inl (cB, m, .inl g)), (y0, .inr (5, [.int 4, .int 4, .ref yw0, .ref yv0, .ref yh0, .int nb0])), (yw0, .inl (cI, 4, .inl gw0)), (yv0, .inl (cI, 4, .inl gv0)), (yh0, .inl (cR, 4, .inr (.inr (.inr (.inr gh0))))), (y1, .inr (5, [.int 4, .int 4, .ref yw1, .ref yv1, .ref yh1, .int nb1])), (yw1, .inl (cI, 4, .inl gw1)), (yv1, .inl (cI, 4, .inl gv1)), (yh1, .inl (cR, 4, .inr (.inr (.inr (.inr gh1)))))] sz) := by
  refine Met.ofW (cc := cX1_writePlace) (maxL := 5) (ret := none) (by decide) rfl ?_
  intro p e s mY args below meth c s₁ B hml hv
  obtain ⟨rfl, hsz, hP, hK, hD0, hZ⟩ := hv
  have hx := B.exec
  have hb := B.bytes
  have hr := B.returns
  have hts := atoms_spec (ws := wsX1_writePlace) B.pre
  have hown : s.vm.findClass RX1 = some mY.cls := findClass_of_methodNamed B.named
  have hlocks := B.notSynchronized
  subst hsz
  have hD := hD0.self (sz := s.heap.size)
  generalize hAe : va_A [(h0, .inr (1, [.ref v0, .int 0, ml, .int (nI c0)])), (v0, .inl (cB, m, .inl g)), (y0, .inr (5, [.int 4, .int 4, .ref yw0, .ref yv0, .ref yh0, .int nb0])), (yw0, .inl (cI, 4, .inl gw0)), (yv0, .inl (cI, 4, .inl gv0)), (yh0, .inl (cR, 4, .inr (.inr (.inr (.inr gh0))))), (y1, .inr (5, [.int 4, .int 4, .ref yw1, .ref yv1, .ref yh1, .int nb1])), (yw1, .inl (cI, 4, .inl gw1)), (yv1, .inl (cI, 4, .inl gv1)), (yh1, .inl (cR, 4, .inr (.inr (.inr (.inr gh1)))))] s.heap.size = A at hD hZ ⊢
  have hA : ∀ q : Nat, s.heap.size ≤ q → A q := fun q h => by rw [← hAe]; exact Or.inr h
  have hS : va_S A s.heap s.heap [] := va_S.rf
  have hz : s.heap.size + 0 ≤ s.heap.size := Nat.le_refl _
  have hl := lv_entry ([.ref h0, .ref y1, .int 3, .int 3]) (n := 5) (Nat.le_of_ble_eq_true rfl)
  rw [lg_entry_eq]
  generalize (lg_sl ([.ref h0, .ref y1, .int 3, .int 3]) ++ List.replicate (5 - (lg_sl ([.ref h0, .ref y1, .int 3, .int 3])).length) Slot.unset).toArray = ls at hl ⊢
  have hl : lv_has ls 5 [(0, .ref h0), (1, .ref y1), (2, .int 3), (3, .int 3)] := hl
  have hP : va_P (dC, dI) vwCl [(h0, .inr (1, [.ref v0, .int 0, ml, .int (nI c0)])), (v0, .inl (cB, m, .inl g)), (y0, .inr (5, [.int 4, .int 4, .ref yw0, .ref yv0, .ref yh0, .int nb0])), (yw0, .inl (cI, 4, .inl gw0)), (yv0, .inl (cI, 4, .inl gv0)), (yh0, .inl (cR, 4, .inr (.inr (.inr (.inr gh0))))), (y1, .inr (5, [.int 4, .int 4, .ref yw1, .ref yv1, .ref yh1, .int nb1])), (yw1, .inl (cI, 4, .inl gw1)), (yv1, .inl (cI, 4, .inl gv1)), (yh1, .inl (cR, 4, .inr (.inr (.inr (.inr gh1)))))] s.heap := hP
  have hD : va_D A [(h0, .inr (1, [.ref v0, .int 0, ml, .int (nI c0)])), (v0, .inl (cB, m, .inl g)), (y0, .inr (5, [.int 4, .int 4, .ref yw0, .ref yv0, .ref yh0, .int nb0])), (yw0, .inl (cI, 4, .inl gw0)), (yv0, .inl (cI, 4, .inl gv0)), (yh0, .inl (cR, 4, .inr (.inr (.inr (.inr gh0))))), (y1, .inr (5, [.int 4, .int 4, .ref yw1, .ref yv1, .ref yh1, .int nb1])), (yw1, .inl (cI, 4, .inl gw1)), (yv1, .inl (cI, 4, .inl gv1)), (yh1, .inl (cR, 4, .inr (.inr (.inr (.inr gh1)))))] := hD
  refine lv_aload_n hx hb dX1_writePlace_0 rfl (lv_at hl 1 rfl) ?_
  refine va_getN (D := (dC, dI)) (ci := 5) (v := .ref yh1) (C := RX0) (T := TX0) (N := 6) hx hb hts hi_X1_writePlace_X0 hown hK hP 6 rfl rfl 4 (by decide) (zn2 hZ) (fun _ h9 => h9) rfl dX1_writePlace_1 ?_
  refine lv_iload_n hx hb dX1_writePlace_4 rfl (lv_at hl 2 rfl) ?_
  refine va_aldq (D := (dC, dI)) (cl := vwCl) hx hb hK hP 9 2 rfl rfl (by unfold vp_in; decide) dX1_writePlace_5 ?_
  rw [show (3 : Int32).toNatClampNeg = 3 from by decide, hgh1 3 (by decide)]
  refine W.eq (g2 := F0 mY 6 ls [.ref y0]) rfl ?_
  refine lv_astore (lv' := [(4, .ref y0), (0, .ref h0), (1, .ref y1), (2, .int 3), (3, .int 3)]) hx hb dX1_writePlace_6 hl (by decide) rfl (fun ls hl => ?_)
  refine lv_aload hx hb dX1_writePlace_8 (lv_at hl 0 rfl) ?_
  refine lv_ifnull hx hb dX1_writePlace_10 ?_
  refine lv_aload_n hx hb dX1_writePlace_13 rfl (lv_at hl 1 rfl) ?_
  refine lv_aload hx hb dX1_writePlace_14 (lv_at hl 0 rfl) ?_
  refine lv_iload_n hx hb dX1_writePlace_16 rfl (lv_at hl 4 rfl) ?_
  refine lv_iconst (v := 1) hx hb dX1_writePlace_17 (by decide) ?_
  refine lv_isub hx hb dX1_writePlace_18 ?_
  refine lv_topi (fun v1 ev1 => ?_)
  obtain rfl : v1 = 2 := ev1.trans (by decide)
  have hPc := hP.sub (ws' := [(h0, .inr (1, [.ref v0, .int 0, ml, .int (nI c0)])), (v0, .inl (cB, m, .inl g)), (y0, .inr (5, [.int 4, .int 4, .ref yw0, .ref yv0, .ref yh0, .int nb0])), (yw0, .inl (cI, 4, .inl gw0)), (yv0, .inl (cI, 4, .inl gv0)), (yh0, .inl (cR, 4, .inr (.inr (.inr (.inr gh0)))))]) [0, 1, 2, 3, 4, 5] rfl
  have hDc := hD.sub (ws' := [(h0, .inr (1, [.ref v0, .int 0, ml, .int (nI c0)])), (v0, .inl (cB, m, .inl g)), (y0, .inr (5, [.int 4, .int 4, .ref yw0, .ref yv0, .ref yh0, .int nb0])), (yw0, .inl (cI, 4, .inl gw0)), (yv0, .inl (cI, 4, .inl gv0)), (yh0, .inl (cR, 4, .inr (.inr (.inr (.inr gh0)))))]) [0, 1, 2, 3, 4, 5] (by decide) rfl
  have hFc := va_free (wc := [(h0, .inr (1, [.ref v0, .int 0, ml, .int (nI c0)])), (v0, .inl (cB, m, .inl g)), (y0, .inr (5, [.int 4, .int 4, .ref yw0, .ref yv0, .ref yh0, .int nb0])), (yw0, .inl (cI, 4, .inl gw0)), (yv0, .inl (cI, 4, .inl gv0)), (yh0, .inl (cR, 4, .inr (.inr (.inr (.inr gh0)))))]) hD hS hA [0, 1, 2, 3, 4, 5] rfl
  have hDv := hDc.self (sz := s.heap.size)
  have hpre := zpre (xs' := []) (av := [.ref h0, .ref y0, .int 2]) hPc hK (hDc.weaken (fun _ _ _ h => h)) hZ hS hFc (fun r hr => by cases hr)
  refine va_callv (va_runS (As := [.ref h0, .ref y0, .int 2]) (rest := []) ⟨hx, hb, hml, hown, hts⟩ (k_wRow0 l dC dI cI cB cR cO zk h0 v0 m c0 g ml y0 yw0 yv0 yh0 nb0 gw0 gv0 gh0 s.heap.size hm hcm (by omega) hg hgw0 hgh0) (va_cwS 3 hts gX1_writePlace_X1_writeRow rfl rfl rfl (by decide +kernel) ⟨Nat.le_of_ble_eq_true rfl, Nat.le_of_ble_eq_true rfl⟩) ⟨zblind, hpre⟩ rfl rfl hl.1 rfl (lv_room (Nat.le_of_ble_eq_true rfl)) dX1_writePlace_19 ⟨Nat.le_of_ble_eq_true rfl, Nat.le_of_ble_eq_true rfl⟩) hS (fun q _ h => hFc q h) hFc (fun u t H2 locs ht hvm hw hB hz1 hk1 hS => ?_)
  obtain ⟨v4, m5, f6, ⟨hP1, hK1, hD1, hz2⟩, hff6, hlm5, hmm5⟩ := hB
  rw [ht] at hP1 hz2
  have hPD9 := va_join (wr := [(y1, .inr (5, [.int 4, .int 4, .ref yw1, .ref yv1, .ref yh1, .int nb1])), (yw1, .inl (cI, 4, .inl gw1)), (yv1, .inl (cI, 4, .inl gv1)), (yh1, .inl (cR, 4, .inr (.inr (.inr (.inr gh1)))))]) (w1 := [(h0, .inr (1, [.ref v4, .int 0, ml, .int (nI (c0 + 24))])), (v4, .inl (cB, m5, .inl f6)), (y0, .inr (5, [.int 4, .int 4, .ref yw0, .ref yv0, .ref yh0, .int nb0])), (yw0, .inl (cI, 4, .inl gw0)), (yv0, .inl (cI, 4, .inl gv0)), (yh0, .inl (cR, 4, .inr (.inr (.inr (.inr gh0)))))]) hP hD [0, 1, 2, 3, 4, 5] [6, 7, 8, 9] rfl rfl (by decide) (by decide) hk1 hFc hP1 hD1
  clear hPc hDc hFc hDv hpre hP hD hP1 hK1 hD1
  obtain ⟨hP, hD⟩ := hPD9
  replace hz : s.heap.size + 0 ≤ H2.size := by omega
  clear hz2
  replace hP : va_P (dC, dI) vwCl [(y1, .inr (5, [.int 4, .int 4, .ref yw1, .ref yv1, .ref yh1, .int nb1])), (yw1, .inl (cI, 4, .inl gw1)), (yv1, .inl (cI, 4, .inl gv1)), (yh1, .inl (cR, 4, .inr (.inr (.inr (.inr gh1))))), (h0, .inr (1, [.ref v4, .int 0, ml, .int (nI (c0 + 24))])), (v4, .inl (cB, m5, .inl f6)), (y0, .inr (5, [.int 4, .int 4, .ref yw0, .ref yv0, .ref yh0, .int nb0])), (yw0, .inl (cI, 4, .inl gw0)), (yv0, .inl (cI, 4, .inl gv0)), (yh0, .inl (cR, 4, .inr (.inr (.inr (.inr gh0)))))] H2 := hP
  replace hD : va_D A [(y1, .inr (5, [.int 4, .int 4, .ref yw1, .ref yv1, .ref yh1, .int nb1])), (yw1, .inl (cI, 4, .inl gw1)), (yv1, .inl (cI, 4, .inl gv1)), (yh1, .inl (cR, 4, .inr (.inr (.inr (.inr gh1))))), (h0, .inr (1, [.ref v4, .int 0, ml, .int (nI (c0 + 24))])), (v4, .inl (cB, m5, .inl f6)), (y0, .inr (5, [.int 4, .int 4, .ref yw0, .ref yv0, .ref yh0, .int nb0])), (yw0, .inl (cI, 4, .inl gw0)), (yv0, .inl (cI, 4, .inl gv0)), (yh0, .inl (cR, 4, .inr (.inr (.inr (.inr gh0)))))] := hD
  refine W.widen (k := 24) (n := 1572864) (by omega) (by omega) ?_
  have hP9 := hP.sub (ws' := [(h0, .inr (1, [.ref v4, .int 0, ml, .int (nI (c0 + 24))])), (v4, .inl (cB, m5, .inl f6)), (y0, .inr (5, [.int 4, .int 4, .ref yw0, .ref yv0, .ref yh0, .int nb0])), (yw0, .inl (cI, 4, .inl gw0)), (yv0, .inl (cI, 4, .inl gv0)), (yh0, .inl (cR, 4, .inr (.inr (.inr (.inr gh0))))), (y1, .inr (5, [.int 4, .int 4, .ref yw1, .ref yv1, .ref yh1, .int nb1])), (yw1, .inl (cI, 4, .inl gw1)), (yv1, .inl (cI, 4, .inl gv1)), (yh1, .inl (cR, 4, .inr (.inr (.inr (.inr gh1)))))]) [4, 5, 6, 7, 8, 9, 0, 1, 2, 3] rfl
  have hD9 := hD.sub (ws' := [(h0, .inr (1, [.ref v4, .int 0, ml, .int (nI (c0 + 24))])), (v4, .inl (cB, m5, .inl f6)), (y0, .inr (5, [.int 4, .int 4, .ref yw0, .ref yv0, .ref yh0, .int nb0])), (yw0, .inl (cI, 4, .inl gw0)), (yv0, .inl (cI, 4, .inl gv0)), (yh0, .inl (cR, 4, .inr (.inr (.inr (.inr gh0))))), (y1, .inr (5, [.int 4, .int 4, .ref yw1, .ref yv1, .ref yh1, .int nb1])), (yw1, .inl (cI, 4, .inl gw1)), (yv1, .inl (cI, 4, .inl gv1)), (yh1, .inl (cR, 4, .inr (.inr (.inr (.inr gh1)))))]) [4, 5, 6, 7, 8, 9, 0, 1, 2, 3] (by decide) rfl
  exact W.vret hx hb hr (fun t ht hW => ⟨⟨(), rfl, trivial, ⟨_, _, _, ⟨by rw [ht]; exact hP9, va_K.moved hW.alike hK, hD9, by rw [ht]; exact hz⟩, hff6, (by omega), hmm5⟩⟩, hS.F ht⟩) hS.2.2 dX1_writePlace_22

set_option maxHeartbeats 4000000 in
set_option maxRecDepth 100000 in
theorem k_wRow1 (l : Launch) (dC : Nat → ClassId) (dI : Nat → Nat → Nat) (cI cB cR cO : ClassId) (zk : Nat → Nat) (h0 v0 m c0 : Nat) (g : Nat → Int32) (ml : Value) (y0 yw0 yv0 yh0 y1 yw1 yv1 yh1 : Nat) (nb0 nb1 : Int32) (gw0 gv0 gw1 gv1 : Nat → Int32) (gh0 gh1 : Nat → Option Nat) (sz : Nat) (hm : m ≤ 65536) (hcm : c0 ≤ m) (hc0 : c0 + 104 ≤ 2000) (hg : sb_Fit g) (hgw0 : ∀ i, i < 4 → gw0 i = 0) (hgh0 : ∀ i, i < 4 → gh0 i = none) (hgh1 : ∀ i, i < 4 → gh1 i = some y0) : Met l yX1_writeRow wsX1_writeRow ({ frames := 10, cells := 104, slots := 6815744, locals := 279 }) (va_Pc [.ref h0, .ref y1, .int 3] (zPre (dC, dI) (zT cI cB cR cO) zk [] [(h0, .inr (1, [.ref v0, .int 0, ml, .int (nI c0)])), (v0, .inl (cB, m, .inl g)), (y0, .inr (5, [.int 4, .int 4, .ref yw0, .ref yv0, .ref yh0, .int nb0])), (yw0, .inl (cI, 4, .inl gw0)), (yv0, .inl (cI, 4, .inl gv0)), (yh0, .inl (cR, 4, .inr (.inr (.inr (.inr gh0))))), (y1, .inr (5, [.int 4, .int 4, .ref yw1, .ref yv1, .ref yh1, .int nb1])), (yw1, .inl (cI, 4, .inl gw1)), (yv1, .inl (cI, 4, .inl gv1)), (yh1, .inl (cR, 4, .inr (.inr (.inr (.inr gh1)))))] sz)) (va_Qv (fun _ : Unit => True) (fun _ t => ∃ v3, ∃ m3, ∃ (f3 : Nat → Int32), zEnd (dC, dI) (zT cI cB cR cO) (va_A [(h0, .inr (1, [.ref v0, .int 0, ml, .int (nI c0)])), (v0, .inl (cB, m, .inl g)), (y0, .inr (5, [.int 4, .int 4, .ref yw0, .ref yv0, .ref yh0, .int nb0])), (yw0, .inl (cI, 4, .inl gw0)), (yv0, .inl (cI, 4, .inl gv0)), (yh0, .inl (cR, 4, .inr (.inr (.inr (.inr gh0))))), (y1, .inr (5, [.int 4, .int 4, .ref yw1, .ref yv1, .ref yh1, .int nb1])), (yw1, .inl (cI, 4, .inl gw1)), (yv1, .inl (cI, 4, .inl gv1)), (yh1, .inl (cR, 4, .inr (.inr (.inr (.inr gh1)))))] sz) [(h0, .inr (1, [.ref v3, .int 0, ml, .int (nI (c0 + 104))])), (v3, .inl (cB, m3, .inl f3)), (y0, .inr (5, [.int 4, .int 4, .ref yw0, .ref yv0, .ref yh0, .int nb0])), (yw0, .inl (cI, 4, .inl gw0)), (yv0, .inl (cI, 4, .inl gv0)), (yh0, .inl (cR, 4, .inr (.inr (.inr (.inr gh0))))), (y1, .inr (5, [.int 4, .int 4, .ref yw1, .ref yv1, .ref yh1, .int nb1])), (yw1, .inl (cI, 4, .inl gw1)), (yv1, .inl (cI, 4, .inl gv1)), (yh1, .inl (cR, 4, .inr (.inr (.inr (.inr gh1)))))] sz 0 t ∧ sb_Fit f3 ∧ c0 + 104 ≤ m3 ∧ m3 ≤ 65536) (va_A [(h0, .inr (1, [.ref v0, .int 0, ml, .int (nI c0)])), (v0, .inl (cB, m, .inl g)), (y0, .inr (5, [.int 4, .int 4, .ref yw0, .ref yv0, .ref yh0, .int nb0])), (yw0, .inl (cI, 4, .inl gw0)), (yv0, .inl (cI, 4, .inl gv0)), (yh0, .inl (cR, 4, .inr (.inr (.inr (.inr gh0))))), (y1, .inr (5, [.int 4, .int 4, .ref yw1, .ref yv1, .ref yh1, .int nb1])), (yw1, .inl (cI, 4, .inl gw1)), (yv1, .inl (cI, 4, .inl gv1)), (yh1, .inl (cR, 4, .inr (.inr (.inr (.inr gh1)))))] sz)) 104 6815744 (va_A [(h0, .inr (1, [.ref v0, .int 0, ml, .int (nI c0)])), (v0, .inl (cB, m, .inl g)), (y0, .inr (5, [.int 4, .int 4, .ref yw0, .ref yv0, .ref yh0, .int nb0])), (yw0, .inl (cI, 4, .inl gw0)), (yv0, .inl (cI, 4, .inl gv0)), (yh0, .inl (cR, 4, .inr (.inr (.inr (.inr gh0))))), (y1, .inr (5, [.int 4, .int 4, .ref yw1, .ref yv1, .ref yh1, .int nb1])), (yw1, .inl (cI, 4, .inl gw1)), (yv1, .inl (cI, 4, .inl gv1)), (yh1, .inl (cR, 4, .inr (.inr (.inr (.inr gh1)))))] sz) := by
  refine Met.ofW (cc := cX1_writeRow) (maxL := 4) (ret := none) (by decide) rfl ?_
  intro p e s mY args below meth c s₁ B hml hv
  obtain ⟨rfl, hsz, hP, hK, hD0, hZ⟩ := hv
  have hx := B.exec
  have hb := B.bytes
  have hr := B.returns
  have hts := atoms_spec (ws := wsX1_writeRow) B.pre
  have hown : s.vm.findClass RX1 = some mY.cls := findClass_of_methodNamed B.named
  have hlocks := B.notSynchronized
  subst hsz
  have hD := hD0.self (sz := s.heap.size)
  generalize hAe : va_A [(h0, .inr (1, [.ref v0, .int 0, ml, .int (nI c0)])), (v0, .inl (cB, m, .inl g)), (y0, .inr (5, [.int 4, .int 4, .ref yw0, .ref yv0, .ref yh0, .int nb0])), (yw0, .inl (cI, 4, .inl gw0)), (yv0, .inl (cI, 4, .inl gv0)), (yh0, .inl (cR, 4, .inr (.inr (.inr (.inr gh0))))), (y1, .inr (5, [.int 4, .int 4, .ref yw1, .ref yv1, .ref yh1, .int nb1])), (yw1, .inl (cI, 4, .inl gw1)), (yv1, .inl (cI, 4, .inl gv1)), (yh1, .inl (cR, 4, .inr (.inr (.inr (.inr gh1)))))] s.heap.size = A at hD hZ ⊢
  have hA : ∀ q : Nat, s.heap.size ≤ q → A q := fun q h => by rw [← hAe]; exact Or.inr h
  have hS : va_S A s.heap s.heap [] := va_S.rf
  have hz : s.heap.size + 0 ≤ s.heap.size := Nat.le_refl _
  have hl := lv_entry ([.ref h0, .ref y1, .int 3]) (n := 4) (Nat.le_of_ble_eq_true rfl)
  rw [lg_entry_eq]
  generalize (lg_sl ([.ref h0, .ref y1, .int 3]) ++ List.replicate (4 - (lg_sl ([.ref h0, .ref y1, .int 3])).length) Slot.unset).toArray = ls at hl ⊢
  have hl : lv_has ls 4 [(0, .ref h0), (1, .ref y1), (2, .int 3)] := hl
  have hP : va_P (dC, dI) vwCl [(h0, .inr (1, [.ref v0, .int 0, ml, .int (nI c0)])), (v0, .inl (cB, m, .inl g)), (y0, .inr (5, [.int 4, .int 4, .ref yw0, .ref yv0, .ref yh0, .int nb0])), (yw0, .inl (cI, 4, .inl gw0)), (yv0, .inl (cI, 4, .inl gv0)), (yh0, .inl (cR, 4, .inr (.inr (.inr (.inr gh0))))), (y1, .inr (5, [.int 4, .int 4, .ref yw1, .ref yv1, .ref yh1, .int nb1])), (yw1, .inl (cI, 4, .inl gw1)), (yv1, .inl (cI, 4, .inl gv1)), (yh1, .inl (cR, 4, .inr (.inr (.inr (.inr gh1)))))] s.heap := hP
  have hD : va_D A [(h0, .inr (1, [.ref v0, .int 0, ml, .int (nI c0)])), (v0, .inl (cB, m, .inl g)), (y0, .inr (5, [.int 4, .int 4, .ref yw0, .ref yv0, .ref yh0, .int nb0])), (yw0, .inl (cI, 4, .inl gw0)), (yv0, .inl (cI, 4, .inl gv0)), (yh0, .inl (cR, 4, .inr (.inr (.inr (.inr gh0))))), (y1, .inr (5, [.int 4, .int 4, .ref yw1, .ref yv1, .ref yh1, .int nb1])), (yw1, .inl (cI, 4, .inl gw1)), (yv1, .inl (cI, 4, .inl gv1)), (yh1, .inl (cR, 4, .inr (.inr (.inr (.inr gh1)))))] := hD
  refine lv_aload_n hx hb dX1_writeRow_0 rfl (lv_at hl 0 rfl) ?_
  refine lv_bipush (v := 91) hx hb dX1_writeRow_1 (by decide) ?_
  have hPc := hP.sub (ws' := [(h0, .inr (1, [.ref v0, .int 0, ml, .int (nI c0)])), (v0, .inl (cB, m, .inl g))]) [0, 1] rfl
  have hDc := hD.sub (ws' := [(h0, .inr (1, [.ref v0, .int 0, ml, .int (nI c0)])), (v0, .inl (cB, m, .inl g))]) [0, 1] (by decide) rfl
  have hFc := va_free (wc := [(h0, .inr (1, [.ref v0, .int 0, ml, .int (nI c0)])), (v0, .inl (cB, m, .inl g))]) hD hS hA [0, 1] rfl
  have hDv := hDc.self (sz := s.heap.size)
  have hpre := zpre (xs' := []) (av := [.ref h0, .int 91]) hPc hK (hDc.weaken (fun _ _ _ h => h)) hZ hS hFc (fun r hr => by cases hr)
  refine va_callr (va_runV (As := [.int 91]) (rest := []) ⟨hx, hb, hml, hown, hts⟩ (k_apC l dC dI cI cB cR cO zk h0 v0 m c0 g ml 91 s.heap.size hm hcm (by omega) hg (by decide) (by decide +kernel)) (cwV 1 hts gX1_writeRow_J4_append_cf468 rfl rfl rfl (by decide +kernel) ⟨Nat.le_of_ble_eq_true rfl, Nat.le_of_ble_eq_true rfl⟩) ⟨zblind, (zrecv_1 hK hPc (q0 := 0) rfl), hpre⟩ rfl rfl hl.1 rfl (lv_room (Nat.le_of_ble_eq_true rfl)) dX1_writeRow_3 ⟨Nat.le_of_ble_eq_true rfl, Nat.le_of_ble_eq_true rfl⟩) hS (fun q _ h => hFc q h) hFc (fun u r2 t H1 locs ht hvm hw hB hz1 hk1 hS => ?_)
  obtain ⟨v3, m4, f5, ⟨hP1, hK1, hD1, hz2⟩, hff5, hlm4, hmm4, her2⟩ := hB
  rw [ht] at hP1 hz2
  have hPD9 := va_join (wr := [(y0, .inr (5, [.int 4, .int 4, .ref yw0, .ref yv0, .ref yh0, .int nb0])), (yw0, .inl (cI, 4, .inl gw0)), (yv0, .inl (cI, 4, .inl gv0)), (yh0, .inl (cR, 4, .inr (.inr (.inr (.inr gh0))))), (y1, .inr (5, [.int 4, .int 4, .ref yw1, .ref yv1, .ref yh1, .int nb1])), (yw1, .inl (cI, 4, .inl gw1)), (yv1, .inl (cI, 4, .inl gv1)), (yh1, .inl (cR, 4, .inr (.inr (.inr (.inr gh1)))))]) (w1 := [(h0, .inr (1, [.ref v3, .int 0, ml, .int (nI (c0 + 1))])), (v3, .inl (cB, m4, .inl f5))]) hP hD [0, 1] [2, 3, 4, 5, 6, 7, 8, 9] rfl rfl (by decide) (by decide) hk1 hFc hP1 hD1
  clear hPc hDc hFc hDv hpre hP hD hP1 hK1 hD1
  obtain ⟨hP, hD⟩ := hPD9
  replace hz : s.heap.size + 0 ≤ H1.size := by omega
  clear hz2
  replace hP : va_P (dC, dI) vwCl [(y0, .inr (5, [.int 4, .int 4, .ref yw0, .ref yv0, .ref yh0, .int nb0])), (yw0, .inl (cI, 4, .inl gw0)), (yv0, .inl (cI, 4, .inl gv0)), (yh0, .inl (cR, 4, .inr (.inr (.inr (.inr gh0))))), (y1, .inr (5, [.int 4, .int 4, .ref yw1, .ref yv1, .ref yh1, .int nb1])), (yw1, .inl (cI, 4, .inl gw1)), (yv1, .inl (cI, 4, .inl gv1)), (yh1, .inl (cR, 4, .inr (.inr (.inr (.inr gh1))))), (h0, .inr (1, [.ref v3, .int 0, ml, .int (nI (c0 + 1))])), (v3, .inl (cB, m4, .inl f5))] H1 := hP
  replace hD : va_D A [(y0, .inr (5, [.int 4, .int 4, .ref yw0, .ref yv0, .ref yh0, .int nb0])), (yw0, .inl (cI, 4, .inl gw0)), (yv0, .inl (cI, 4, .inl gv0)), (yh0, .inl (cR, 4, .inr (.inr (.inr (.inr gh0))))), (y1, .inr (5, [.int 4, .int 4, .ref yw1, .ref yv1, .ref yh1, .int nb1])), (yw1, .inl (cI, 4, .inl gw1)), (yv1, .inl (cI, 4, .inl gv1)), (yh1, .inl (cR, 4, .inr (.inr (.inr (.inr gh1))))), (h0, .inr (1, [.ref v3, .int 0, ml, .int (nI (c0 + 1))])), (v3, .inl (cB, m4, .inl f5))] := hD
  refine W.widen (k := 1) (n := 65536) (by omega) (by omega) ?_
  obtain rfl := her2.symm
  refine lv_pop hx hb dX1_writeRow_6 rfl ?_
  refine lv_iconst (v := 0) hx hb dX1_writeRow_7 (by decide) ?_
  refine lv_istore_n (lv' := [(3, .int 0), (0, .ref h0), (1, .ref y1), (2, .int 3)]) hx hb dX1_writeRow_8 rfl hl (by decide) rfl (fun ls hl => ?_)
  refine lv_iload_n hx hb dX1_writeRow_9 rfl (lv_at hl 3 rfl) ?_
  refine lv_if_le (tgt := 45) hx hb dX1_writeRow_10 (by decide) (fun c9 => ?_) (fun c9 => ?_)
  · exact absurd c9 (by decide)
  refine lv_iload_n hx hb dX1_writeRow_13 rfl (lv_at hl 0 rfl) ?_
  refine lv_aload_n hx hb dX1_writeRow_14 rfl (lv_at hl 2 rfl) ?_
  refine va_getN (D := (dC, dI)) (ci := 5) (v := .int 4) (C := RX0) (T := TX0) (N := 6) hx hb hts hi_X1_writeRow_X0 hown hK hP 4 rfl rfl 1 (by decide) (zn3 hZ) (fun _ h9 => h9) rfl dX1_writeRow_15 ?_
  refine lv_icmp_ge (tgt := 45) hx hb dX1_writeRow_18 (by decide) (fun c9 => ?_) (fun c9 => ?_)
  · exact absurd c9 (by decide)
  refine lv_iload_n hx hb dX1_writeRow_21 rfl (lv_at hl 0 rfl) ?_
  refine lv_if_le (tgt := 32) hx hb dX1_writeRow_22 (by decide) (fun c9 => ?_) (fun c9 => ?_)
  rotate_left
  · exact absurd (by decide) c9
  refine lv_aload_n hx hb dX1_writeRow_32 rfl (lv_at hl 1 rfl) ?_
  refine lv_aload_n hx hb dX1_writeRow_33 rfl (lv_at hl 2 rfl) ?_
  refine lv_iload_n hx hb dX1_writeRow_34 rfl (lv_at hl 0 rfl) ?_
  refine lv_iload_n hx hb dX1_writeRow_35 rfl (lv_at hl 3 rfl) ?_
  have hPc := hP.sub (ws' := [(h0, .inr (1, [.ref v3, .int 0, ml, .int (nI (c0 + 1))])), (v3, .inl (cB, m4, .inl f5)), (y0, .inr (5, [.int 4, .int 4, .ref yw0, .ref yv0, .ref yh0, .int nb0])), (yw0, .inl (cI, 4, .inl gw0)), (yv0, .inl (cI, 4, .inl gv0)), (yh0, .inl (cR, 4, .inr (.inr (.inr (.inr gh0))))), (y1, .inr (5, [.int 4, .int 4, .ref yw1, .ref yv1, .ref yh1, .int nb1])), (yw1, .inl (cI, 4, .inl gw1)), (yv1, .inl (cI, 4, .inl gv1)), (yh1, .inl (cR, 4, .inr (.inr (.inr (.inr gh1)))))]) [8, 9, 0, 1, 2, 3, 4, 5, 6, 7] rfl
  have hDc := hD.sub (ws' := [(h0, .inr (1, [.ref v3, .int 0, ml, .int (nI (c0 + 1))])), (v3, .inl (cB, m4, .inl f5)), (y0, .inr (5, [.int 4, .int 4, .ref yw0, .ref yv0, .ref yh0, .int nb0])), (yw0, .inl (cI, 4, .inl gw0)), (yv0, .inl (cI, 4, .inl gv0)), (yh0, .inl (cR, 4, .inr (.inr (.inr (.inr gh0))))), (y1, .inr (5, [.int 4, .int 4, .ref yw1, .ref yv1, .ref yh1, .int nb1])), (yw1, .inl (cI, 4, .inl gw1)), (yv1, .inl (cI, 4, .inl gv1)), (yh1, .inl (cR, 4, .inr (.inr (.inr (.inr gh1)))))]) [8, 9, 0, 1, 2, 3, 4, 5, 6, 7] (by decide) rfl
  have hFc := va_free (wc := [(h0, .inr (1, [.ref v3, .int 0, ml, .int (nI (c0 + 1))])), (v3, .inl (cB, m4, .inl f5)), (y0, .inr (5, [.int 4, .int 4, .ref yw0, .ref yv0, .ref yh0, .int nb0])), (yw0, .inl (cI, 4, .inl gw0)), (yv0, .inl (cI, 4, .inl gv0)), (yh0, .inl (cR, 4, .inr (.inr (.inr (.inr gh0))))), (y1, .inr (5, [.int 4, .int 4, .ref yw1, .ref yv1, .ref yh1, .int nb1])), (yw1, .inl (cI, 4, .inl gw1)), (yv1, .inl (cI, 4, .inl gv1)), (yh1, .inl (cR, 4, .inr (.inr (.inr (.inr gh1)))))]) hD hS hA [8, 9, 0, 1, 2, 3, 4, 5, 6, 7] rfl
  have hDv := hDc.self (sz := H1.size)
  have hpre := zpre (xs' := []) (av := [.ref h0, .ref y1, .int 0, .int 3]) hPc hK (hDc.weaken (fun _ _ _ h => h)) hZ hS hFc (fun r hr => by cases hr)
  refine va_callv (va_runS (As := [.ref h0, .ref y1, .int 0, .int 3]) (rest := []) ⟨hx, hb, hml, hown, hts⟩ (k_wPl1_0 l dC dI cI cB cR cO zk h0 v3 m4 (c0 + 1) f5 ml y0 yw0 yv0 yh0 y1 yw1 yv1 yh1 nb0 nb1 gw0 gv0 gw1 gv1 gh0 gh1 H1.size hmm4 (by omega) (by omega) hff5 hgw0 hgh0 hgh1) (va_cwS 4 hts gX1_writeRow_X1_writePlace rfl rfl rfl (by decide +kernel) ⟨Nat.le_of_ble_eq_true rfl, Nat.le_of_ble_eq_true rfl⟩) ⟨zblind, hpre⟩ rfl rfl hl.1 rfl (lv_room (Nat.le_of_ble_eq_true rfl)) dX1_writeRow_36 ⟨Nat.le_of_ble_eq_true rfl, Nat.le_of_ble_eq_true rfl⟩) hS (fun q _ h => hFc q h) hFc (fun u t H6 locs ht hvm hw hB hz1 hk1 hS => ?_)
  obtain ⟨v8, m9, f10, ⟨hP1, hK1, hD1, hz2⟩, hff10, hlm9, hmm9⟩ := hB
  rw [ht] at hP1 hz2
  have hPD9 := va_join (wr := []) (w1 := [(h0, .inr (1, [.ref v8, .int 0, ml, .int (nI (c0 + 25))])), (v8, .inl (cB, m9, .inl f10)), (y0, .inr (5, [.int 4, .int 4, .ref yw0, .ref yv0, .ref yh0, .int nb0])), (yw0, .inl (cI, 4, .inl gw0)), (yv0, .inl (cI, 4, .inl gv0)), (yh0, .inl (cR, 4, .inr (.inr (.inr (.inr gh0))))), (y1, .inr (5, [.int 4, .int 4, .ref yw1, .ref yv1, .ref yh1, .int nb1])), (yw1, .inl (cI, 4, .inl gw1)), (yv1, .inl (cI, 4, .inl gv1)), (yh1, .inl (cR, 4, .inr (.inr (.inr (.inr gh1)))))]) hP hD [8, 9, 0, 1, 2, 3, 4, 5, 6, 7] [] rfl rfl (by decide) (by decide) hk1 hFc hP1 hD1
  clear hPc hDc hFc hDv hpre hP hD hP1 hK1 hD1
  obtain ⟨hP, hD⟩ := hPD9
  replace hz : s.heap.size + 0 ≤ H6.size := by omega
  clear hz2
  replace hP : va_P (dC, dI) vwCl [(h0, .inr (1, [.ref v8, .int 0, ml, .int (nI (c0 + 25))])), (v8, .inl (cB, m9, .inl f10)), (y0, .inr (5, [.int 4, .int 4, .ref yw0, .ref yv0, .ref yh0, .int nb0])), (yw0, .inl (cI, 4, .inl gw0)), (yv0, .inl (cI, 4, .inl gv0)), (yh0, .inl (cR, 4, .inr (.inr (.inr (.inr gh0))))), (y1, .inr (5, [.int 4, .int 4, .ref yw1, .ref yv1, .ref yh1, .int nb1])), (yw1, .inl (cI, 4, .inl gw1)), (yv1, .inl (cI, 4, .inl gv1)), (yh1, .inl (cR, 4, .inr (.inr (.inr (.inr gh1)))))] H6 := hP
  replace hD : va_D A [(h0, .inr (1, [.ref v8, .int 0, ml, .int (nI (c0 + 25))])), (v8, .inl (cB, m9, .inl f10)), (y0, .inr (5, [.int 4, .int 4, .ref yw0, .ref yv0, .ref yh0, .int nb0])), (yw0, .inl (cI, 4, .inl gw0)), (yv0, .inl (cI, 4, .inl gv0)), (yh0, .inl (cR, 4, .inr (.inr (.inr (.inr gh0))))), (y1, .inr (5, [.int 4, .int 4, .ref yw1, .ref yv1, .ref yh1, .int nb1])), (yw1, .inl (cI, 4, .inl gw1)), (yv1, .inl (cI, 4, .inl gv1)), (yh1, .inl (cR, 4, .inr (.inr (.inr (.inr gh1)))))] := hD
  refine W.widen (k := 25) (n := 1638400) (by omega) (by omega) ?_
  refine lv_iinc (v := 1) (lv' := [(3, .int 1), (0, .ref h0), (1, .ref y1), (2, .int 3)]) hx hb dX1_writeRow_39 hl (k := 0) rfl (by decide) (by decide) rfl (fun ls hl => ?_)
  refine lv_goto (tgt := 9) hx hb dX1_writeRow_42 (by decide) ?_
  refine lv_iload_n hx hb dX1_writeRow_9 rfl (lv_at hl 3 rfl) ?_
  refine lv_if_le (tgt := 45) hx hb dX1_writeRow_10 (by decide) (fun c9 => ?_) (fun c9 => ?_)
  · exact absurd c9 (by decide)
  refine lv_iload_n hx hb dX1_writeRow_13 rfl (lv_at hl 0 rfl) ?_
  refine lv_aload_n hx hb dX1_writeRow_14 rfl (lv_at hl 2 rfl) ?_
  refine va_getN (D := (dC, dI)) (ci := 5) (v := .int 4) (C := RX0) (T := TX0) (N := 6) hx hb hts hi_X1_writeRow_X0 hown hK hP 6 rfl rfl 1 (by decide) (zn3 hZ) (fun _ h9 => h9) rfl dX1_writeRow_15 ?_
  refine lv_icmp_ge (tgt := 45) hx hb dX1_writeRow_18 (by decide) (fun c9 => ?_) (fun c9 => ?_)
  · exact absurd c9 (by decide)
  refine lv_iload_n hx hb dX1_writeRow_21 rfl (lv_at hl 0 rfl) ?_
  refine lv_if_le (tgt := 32) hx hb dX1_writeRow_22 (by decide) (fun c9 => ?_) (fun c9 => ?_)
  · exact absurd c9 (by decide)
  refine lv_aload_n hx hb dX1_writeRow_25 rfl (lv_at hl 1 rfl) ?_
  refine zw_ldcw (own := RX1) (tx := ", ") (q := zk 3) hx hb hown (zl5 hZ) dX1_writeRow_26 ?_
  have hPc := hP.sub (ws' := [(h0, .inr (1, [.ref v8, .int 0, ml, .int (nI (c0 + 25))])), (v8, .inl (cB, m9, .inl f10))]) [0, 1] rfl
  have hDc := hD.sub (ws' := [(h0, .inr (1, [.ref v8, .int 0, ml, .int (nI (c0 + 25))])), (v8, .inl (cB, m9, .inl f10))]) [0, 1] (by decide) rfl
  have hFc := va_free (wc := [(h0, .inr (1, [.ref v8, .int 0, ml, .int (nI (c0 + 25))])), (v8, .inl (cB, m9, .inl f10))]) hD hS hA [0, 1] rfl
  have hDv := hDc.self (sz := H6.size)
  have hx0 : zS ((zk 3), (zk 13), 2, (fun j => (zByt.getD 2 []).getD j 0)) (va_A [(h0, .inr (1, [.ref v8, .int 0, ml, .int (nI (c0 + 25))])), (v8, .inl (cB, m9, .inl f10))] H6.size) s H6 := zc2 hZ hS hFc
  have hpre := zpre (xs' := [((zk 3), (zk 13), 2, (fun j => (zByt.getD 2 []).getD j 0))]) (av := [.ref h0, .ref (zk 3)]) hPc hK (hDc.weaken (fun _ _ _ h => h)) hZ hS hFc (fun r hr => by cases hr with | head => exact hx0 | tail _ h => cases h)
  refine va_callv (va_runS (As := [.ref h0, .ref (zk 3)]) (rest := []) ⟨hx, hb, hml, hown, hts⟩ (k_wSig2 l dC dI cI cB cR cO zk h0 v8 m9 (c0 + 25) f10 ml  H6.size hmm9 (by omega) (by omega) hff10 ) (va_cwS 2 hts gX1_writeRow_X1_writeSigns rfl rfl rfl (by decide +kernel) ⟨Nat.le_of_ble_eq_true rfl, Nat.le_of_ble_eq_true rfl⟩) ⟨zblind, hpre⟩ rfl rfl hl.1 rfl (lv_room (Nat.le_of_ble_eq_true rfl)) dX1_writeRow_29 ⟨Nat.le_of_ble_eq_true rfl, Nat.le_of_ble_eq_true rfl⟩) hS (fun q _ h => hFc q h) hFc (fun u t H11 locs ht hvm hw hB hz1 hk1 hS => ?_)
  obtain ⟨v13, m14, f15, ⟨hP1, hK1, hD1, hz2⟩, hff15, hlm14, hmm14⟩ := hB
  rw [ht] at hP1 hz2
  have hPD9 := va_join (wr := [(y0, .inr (5, [.int 4, .int 4, .ref yw0, .ref yv0, .ref yh0, .int nb0])), (yw0, .inl (cI, 4, .inl gw0)), (yv0, .inl (cI, 4, .inl gv0)), (yh0, .inl (cR, 4, .inr (.inr (.inr (.inr gh0))))), (y1, .inr (5, [.int 4, .int 4, .ref yw1, .ref yv1, .ref yh1, .int nb1])), (yw1, .inl (cI, 4, .inl gw1)), (yv1, .inl (cI, 4, .inl gv1)), (yh1, .inl (cR, 4, .inr (.inr (.inr (.inr gh1)))))]) (w1 := [(h0, .inr (1, [.ref v13, .int 0, ml, .int (nI (c0 + 27))])), (v13, .inl (cB, m14, .inl f15))]) hP hD [0, 1] [2, 3, 4, 5, 6, 7, 8, 9] rfl rfl (by decide) (by decide) hk1 hFc hP1 hD1
  clear hPc hDc hFc hDv hpre hP hD hP1 hK1 hD1
  obtain ⟨hP, hD⟩ := hPD9
  replace hz : s.heap.size + 0 ≤ H11.size := by omega
  clear hz2
  replace hP : va_P (dC, dI) vwCl [(y0, .inr (5, [.int 4, .int 4, .ref yw0, .ref yv0, .ref yh0, .int nb0])), (yw0, .inl (cI, 4, .inl gw0)), (yv0, .inl (cI, 4, .inl gv0)), (yh0, .inl (cR, 4, .inr (.inr (.inr (.inr gh0))))), (y1, .inr (5, [.int 4, .int 4, .ref yw1, .ref yv1, .ref yh1, .int nb1])), (yw1, .inl (cI, 4, .inl gw1)), (yv1, .inl (cI, 4, .inl gv1)), (yh1, .inl (cR, 4, .inr (.inr (.inr (.inr gh1))))), (h0, .inr (1, [.ref v13, .int 0, ml, .int (nI (c0 + 27))])), (v13, .inl (cB, m14, .inl f15))] H11 := hP
  replace hD : va_D A [(y0, .inr (5, [.int 4, .int 4, .ref yw0, .ref yv0, .ref yh0, .int nb0])), (yw0, .inl (cI, 4, .inl gw0)), (yv0, .inl (cI, 4, .inl gv0)), (yh0, .inl (cR, 4, .inr (.inr (.inr (.inr gh0))))), (y1, .inr (5, [.int 4, .int 4, .ref yw1, .ref yv1, .ref yh1, .int nb1])), (yw1, .inl (cI, 4, .inl gw1)), (yv1, .inl (cI, 4, .inl gv1)), (yh1, .inl (cR, 4, .inr (.inr (.inr (.inr gh1))))), (h0, .inr (1, [.ref v13, .int 0, ml, .int (nI (c0 + 27))])), (v13, .inl (cB, m14, .inl f15))] := hD
  refine W.widen (k := 27) (n := 1769472) (by omega) (by omega) ?_
  refine lv_aload_n hx hb dX1_writeRow_32 rfl (lv_at hl 1 rfl) ?_
  refine lv_aload_n hx hb dX1_writeRow_33 rfl (lv_at hl 2 rfl) ?_
  refine lv_iload_n hx hb dX1_writeRow_34 rfl (lv_at hl 0 rfl) ?_
  refine lv_iload_n hx hb dX1_writeRow_35 rfl (lv_at hl 3 rfl) ?_
  have hPc := hP.sub (ws' := [(h0, .inr (1, [.ref v13, .int 0, ml, .int (nI (c0 + 27))])), (v13, .inl (cB, m14, .inl f15)), (y0, .inr (5, [.int 4, .int 4, .ref yw0, .ref yv0, .ref yh0, .int nb0])), (yw0, .inl (cI, 4, .inl gw0)), (yv0, .inl (cI, 4, .inl gv0)), (yh0, .inl (cR, 4, .inr (.inr (.inr (.inr gh0))))), (y1, .inr (5, [.int 4, .int 4, .ref yw1, .ref yv1, .ref yh1, .int nb1])), (yw1, .inl (cI, 4, .inl gw1)), (yv1, .inl (cI, 4, .inl gv1)), (yh1, .inl (cR, 4, .inr (.inr (.inr (.inr gh1)))))]) [8, 9, 0, 1, 2, 3, 4, 5, 6, 7] rfl
  have hDc := hD.sub (ws' := [(h0, .inr (1, [.ref v13, .int 0, ml, .int (nI (c0 + 27))])), (v13, .inl (cB, m14, .inl f15)), (y0, .inr (5, [.int 4, .int 4, .ref yw0, .ref yv0, .ref yh0, .int nb0])), (yw0, .inl (cI, 4, .inl gw0)), (yv0, .inl (cI, 4, .inl gv0)), (yh0, .inl (cR, 4, .inr (.inr (.inr (.inr gh0))))), (y1, .inr (5, [.int 4, .int 4, .ref yw1, .ref yv1, .ref yh1, .int nb1])), (yw1, .inl (cI, 4, .inl gw1)), (yv1, .inl (cI, 4, .inl gv1)), (yh1, .inl (cR, 4, .inr (.inr (.inr (.inr gh1)))))]) [8, 9, 0, 1, 2, 3, 4, 5, 6, 7] (by decide) rfl
  have hFc := va_free (wc := [(h0, .inr (1, [.ref v13, .int 0, ml, .int (nI (c0 + 27))])), (v13, .inl (cB, m14, .inl f15)), (y0, .inr (5, [.int 4, .int 4, .ref yw0, .ref yv0, .ref yh0, .int nb0])), (yw0, .inl (cI, 4, .inl gw0)), (yv0, .inl (cI, 4, .inl gv0)), (yh0, .inl (cR, 4, .inr (.inr (.inr (.inr gh0))))), (y1, .inr (5, [.int 4, .int 4, .ref yw1, .ref yv1, .ref yh1, .int nb1])), (yw1, .inl (cI, 4, .inl gw1)), (yv1, .inl (cI, 4, .inl gv1)), (yh1, .inl (cR, 4, .inr (.inr (.inr (.inr gh1)))))]) hD hS hA [8, 9, 0, 1, 2, 3, 4, 5, 6, 7] rfl
  have hDv := hDc.self (sz := H11.size)
  have hpre := zpre (xs' := []) (av := [.ref h0, .ref y1, .int 1, .int 3]) hPc hK (hDc.weaken (fun _ _ _ h => h)) hZ hS hFc (fun r hr => by cases hr)
  refine va_callv (va_runS (As := [.ref h0, .ref y1, .int 1, .int 3]) (rest := []) ⟨hx, hb, hml, hown, hts⟩ (k_wPl1_1 l dC dI cI cB cR cO zk h0 v13 m14 (c0 + 27) f15 ml y0 yw0 yv0 yh0 y1 yw1 yv1 yh1 nb0 nb1 gw0 gv0 gw1 gv1 gh0 gh1 H11.size hmm14 (by omega) (by omega) hff15 hgw0 hgh0 hgh1) (va_cwS 4 hts gX1_writeRow_X1_writePlace rfl rfl rfl (by decide +kernel) ⟨Nat.le_of_ble_eq_true rfl, Nat.le_of_ble_eq_true rfl⟩) ⟨zblind, hpre⟩ rfl rfl hl.1 rfl (lv_room (Nat.le_of_ble_eq_true rfl)) dX1_writeRow_36 ⟨Nat.le_of_ble_eq_true rfl, Nat.le_of_ble_eq_true rfl⟩) hS (fun q _ h => hFc q h) hFc (fun u t H16 locs ht hvm hw hB hz1 hk1 hS => ?_)
  obtain ⟨v18, m19, f20, ⟨hP1, hK1, hD1, hz2⟩, hff20, hlm19, hmm19⟩ := hB
  rw [ht] at hP1 hz2
  have hPD9 := va_join (wr := []) (w1 := [(h0, .inr (1, [.ref v18, .int 0, ml, .int (nI (c0 + 51))])), (v18, .inl (cB, m19, .inl f20)), (y0, .inr (5, [.int 4, .int 4, .ref yw0, .ref yv0, .ref yh0, .int nb0])), (yw0, .inl (cI, 4, .inl gw0)), (yv0, .inl (cI, 4, .inl gv0)), (yh0, .inl (cR, 4, .inr (.inr (.inr (.inr gh0))))), (y1, .inr (5, [.int 4, .int 4, .ref yw1, .ref yv1, .ref yh1, .int nb1])), (yw1, .inl (cI, 4, .inl gw1)), (yv1, .inl (cI, 4, .inl gv1)), (yh1, .inl (cR, 4, .inr (.inr (.inr (.inr gh1)))))]) hP hD [8, 9, 0, 1, 2, 3, 4, 5, 6, 7] [] rfl rfl (by decide) (by decide) hk1 hFc hP1 hD1
  clear hPc hDc hFc hDv hpre hP hD hP1 hK1 hD1
  obtain ⟨hP, hD⟩ := hPD9
  replace hz : s.heap.size + 0 ≤ H16.size := by omega
  clear hz2
  replace hP : va_P (dC, dI) vwCl [(h0, .inr (1, [.ref v18, .int 0, ml, .int (nI (c0 + 51))])), (v18, .inl (cB, m19, .inl f20)), (y0, .inr (5, [.int 4, .int 4, .ref yw0, .ref yv0, .ref yh0, .int nb0])), (yw0, .inl (cI, 4, .inl gw0)), (yv0, .inl (cI, 4, .inl gv0)), (yh0, .inl (cR, 4, .inr (.inr (.inr (.inr gh0))))), (y1, .inr (5, [.int 4, .int 4, .ref yw1, .ref yv1, .ref yh1, .int nb1])), (yw1, .inl (cI, 4, .inl gw1)), (yv1, .inl (cI, 4, .inl gv1)), (yh1, .inl (cR, 4, .inr (.inr (.inr (.inr gh1)))))] H16 := hP
  replace hD : va_D A [(h0, .inr (1, [.ref v18, .int 0, ml, .int (nI (c0 + 51))])), (v18, .inl (cB, m19, .inl f20)), (y0, .inr (5, [.int 4, .int 4, .ref yw0, .ref yv0, .ref yh0, .int nb0])), (yw0, .inl (cI, 4, .inl gw0)), (yv0, .inl (cI, 4, .inl gv0)), (yh0, .inl (cR, 4, .inr (.inr (.inr (.inr gh0))))), (y1, .inr (5, [.int 4, .int 4, .ref yw1, .ref yv1, .ref yh1, .int nb1])), (yw1, .inl (cI, 4, .inl gw1)), (yv1, .inl (cI, 4, .inl gv1)), (yh1, .inl (cR, 4, .inr (.inr (.inr (.inr gh1)))))] := hD
  refine W.widen (k := 51) (n := 3342336) (by omega) (by omega) ?_
  refine lv_iinc (v := 2) (lv' := [(3, .int 2), (0, .ref h0), (1, .ref y1), (2, .int 3)]) hx hb dX1_writeRow_39 hl (k := 0) rfl (by decide) (by decide) rfl (fun ls hl => ?_)
  refine lv_goto (tgt := 9) hx hb dX1_writeRow_42 (by decide) ?_
  refine lv_iload_n hx hb dX1_writeRow_9 rfl (lv_at hl 3 rfl) ?_
  refine lv_if_le (tgt := 45) hx hb dX1_writeRow_10 (by decide) (fun c9 => ?_) (fun c9 => ?_)
  · exact absurd c9 (by decide)
  refine lv_iload_n hx hb dX1_writeRow_13 rfl (lv_at hl 0 rfl) ?_
  refine lv_aload_n hx hb dX1_writeRow_14 rfl (lv_at hl 2 rfl) ?_
  refine va_getN (D := (dC, dI)) (ci := 5) (v := .int 4) (C := RX0) (T := TX0) (N := 6) hx hb hts hi_X1_writeRow_X0 hown hK hP 6 rfl rfl 1 (by decide) (zn3 hZ) (fun _ h9 => h9) rfl dX1_writeRow_15 ?_
  refine lv_icmp_ge (tgt := 45) hx hb dX1_writeRow_18 (by decide) (fun c9 => ?_) (fun c9 => ?_)
  · exact absurd c9 (by decide)
  refine lv_iload_n hx hb dX1_writeRow_21 rfl (lv_at hl 0 rfl) ?_
  refine lv_if_le (tgt := 32) hx hb dX1_writeRow_22 (by decide) (fun c9 => ?_) (fun c9 => ?_)
  · exact absurd c9 (by decide)
  refine lv_aload_n hx hb dX1_writeRow_25 rfl (lv_at hl 1 rfl) ?_
  refine zw_ldcw (own := RX1) (tx := ", ") (q := zk 3) hx hb hown (zl5 hZ) dX1_writeRow_26 ?_
  have hPc := hP.sub (ws' := [(h0, .inr (1, [.ref v18, .int 0, ml, .int (nI (c0 + 51))])), (v18, .inl (cB, m19, .inl f20))]) [0, 1] rfl
  have hDc := hD.sub (ws' := [(h0, .inr (1, [.ref v18, .int 0, ml, .int (nI (c0 + 51))])), (v18, .inl (cB, m19, .inl f20))]) [0, 1] (by decide) rfl
  have hFc := va_free (wc := [(h0, .inr (1, [.ref v18, .int 0, ml, .int (nI (c0 + 51))])), (v18, .inl (cB, m19, .inl f20))]) hD hS hA [0, 1] rfl
  have hDv := hDc.self (sz := H16.size)
  have hx0 : zS ((zk 3), (zk 13), 2, (fun j => (zByt.getD 2 []).getD j 0)) (va_A [(h0, .inr (1, [.ref v18, .int 0, ml, .int (nI (c0 + 51))])), (v18, .inl (cB, m19, .inl f20))] H16.size) s H16 := zc2 hZ hS hFc
  have hpre := zpre (xs' := [((zk 3), (zk 13), 2, (fun j => (zByt.getD 2 []).getD j 0))]) (av := [.ref h0, .ref (zk 3)]) hPc hK (hDc.weaken (fun _ _ _ h => h)) hZ hS hFc (fun r hr => by cases hr with | head => exact hx0 | tail _ h => cases h)
  refine va_callv (va_runS (As := [.ref h0, .ref (zk 3)]) (rest := []) ⟨hx, hb, hml, hown, hts⟩ (k_wSig2 l dC dI cI cB cR cO zk h0 v18 m19 (c0 + 51) f20 ml  H16.size hmm19 (by omega) (by omega) hff20 ) (va_cwS 2 hts gX1_writeRow_X1_writeSigns rfl rfl rfl (by decide +kernel) ⟨Nat.le_of_ble_eq_true rfl, Nat.le_of_ble_eq_true rfl⟩) ⟨zblind, hpre⟩ rfl rfl hl.1 rfl (lv_room (Nat.le_of_ble_eq_true rfl)) dX1_writeRow_29 ⟨Nat.le_of_ble_eq_true rfl, Nat.le_of_ble_eq_true rfl⟩) hS (fun q _ h => hFc q h) hFc (fun u t H21 locs ht hvm hw hB hz1 hk1 hS => ?_)
  obtain ⟨v23, m24, f25, ⟨hP1, hK1, hD1, hz2⟩, hff25, hlm24, hmm24⟩ := hB
  rw [ht] at hP1 hz2
  have hPD9 := va_join (wr := [(y0, .inr (5, [.int 4, .int 4, .ref yw0, .ref yv0, .ref yh0, .int nb0])), (yw0, .inl (cI, 4, .inl gw0)), (yv0, .inl (cI, 4, .inl gv0)), (yh0, .inl (cR, 4, .inr (.inr (.inr (.inr gh0))))), (y1, .inr (5, [.int 4, .int 4, .ref yw1, .ref yv1, .ref yh1, .int nb1])), (yw1, .inl (cI, 4, .inl gw1)), (yv1, .inl (cI, 4, .inl gv1)), (yh1, .inl (cR, 4, .inr (.inr (.inr (.inr gh1)))))]) (w1 := [(h0, .inr (1, [.ref v23, .int 0, ml, .int (nI (c0 + 53))])), (v23, .inl (cB, m24, .inl f25))]) hP hD [0, 1] [2, 3, 4, 5, 6, 7, 8, 9] rfl rfl (by decide) (by decide) hk1 hFc hP1 hD1
  clear hPc hDc hFc hDv hpre hP hD hP1 hK1 hD1
  obtain ⟨hP, hD⟩ := hPD9
  replace hz : s.heap.size + 0 ≤ H21.size := by omega
  clear hz2
  replace hP : va_P (dC, dI) vwCl [(y0, .inr (5, [.int 4, .int 4, .ref yw0, .ref yv0, .ref yh0, .int nb0])), (yw0, .inl (cI, 4, .inl gw0)), (yv0, .inl (cI, 4, .inl gv0)), (yh0, .inl (cR, 4, .inr (.inr (.inr (.inr gh0))))), (y1, .inr (5, [.int 4, .int 4, .ref yw1, .ref yv1, .ref yh1, .int nb1])), (yw1, .inl (cI, 4, .inl gw1)), (yv1, .inl (cI, 4, .inl gv1)), (yh1, .inl (cR, 4, .inr (.inr (.inr (.inr gh1))))), (h0, .inr (1, [.ref v23, .int 0, ml, .int (nI (c0 + 53))])), (v23, .inl (cB, m24, .inl f25))] H21 := hP
  replace hD : va_D A [(y0, .inr (5, [.int 4, .int 4, .ref yw0, .ref yv0, .ref yh0, .int nb0])), (yw0, .inl (cI, 4, .inl gw0)), (yv0, .inl (cI, 4, .inl gv0)), (yh0, .inl (cR, 4, .inr (.inr (.inr (.inr gh0))))), (y1, .inr (5, [.int 4, .int 4, .ref yw1, .ref yv1, .ref yh1, .int nb1])), (yw1, .inl (cI, 4, .inl gw1)), (yv1, .inl (cI, 4, .inl gv1)), (yh1, .inl (cR, 4, .inr (.inr (.inr (.inr gh1))))), (h0, .inr (1, [.ref v23, .int 0, ml, .int (nI (c0 + 53))])), (v23, .inl (cB, m24, .inl f25))] := hD
  refine W.widen (k := 53) (n := 3473408) (by omega) (by omega) ?_
  refine lv_aload_n hx hb dX1_writeRow_32 rfl (lv_at hl 1 rfl) ?_
  refine lv_aload_n hx hb dX1_writeRow_33 rfl (lv_at hl 2 rfl) ?_
  refine lv_iload_n hx hb dX1_writeRow_34 rfl (lv_at hl 0 rfl) ?_
  refine lv_iload_n hx hb dX1_writeRow_35 rfl (lv_at hl 3 rfl) ?_
  have hPc := hP.sub (ws' := [(h0, .inr (1, [.ref v23, .int 0, ml, .int (nI (c0 + 53))])), (v23, .inl (cB, m24, .inl f25)), (y0, .inr (5, [.int 4, .int 4, .ref yw0, .ref yv0, .ref yh0, .int nb0])), (yw0, .inl (cI, 4, .inl gw0)), (yv0, .inl (cI, 4, .inl gv0)), (yh0, .inl (cR, 4, .inr (.inr (.inr (.inr gh0))))), (y1, .inr (5, [.int 4, .int 4, .ref yw1, .ref yv1, .ref yh1, .int nb1])), (yw1, .inl (cI, 4, .inl gw1)), (yv1, .inl (cI, 4, .inl gv1)), (yh1, .inl (cR, 4, .inr (.inr (.inr (.inr gh1)))))]) [8, 9, 0, 1, 2, 3, 4, 5, 6, 7] rfl
  have hDc := hD.sub (ws' := [(h0, .inr (1, [.ref v23, .int 0, ml, .int (nI (c0 + 53))])), (v23, .inl (cB, m24, .inl f25)), (y0, .inr (5, [.int 4, .int 4, .ref yw0, .ref yv0, .ref yh0, .int nb0])), (yw0, .inl (cI, 4, .inl gw0)), (yv0, .inl (cI, 4, .inl gv0)), (yh0, .inl (cR, 4, .inr (.inr (.inr (.inr gh0))))), (y1, .inr (5, [.int 4, .int 4, .ref yw1, .ref yv1, .ref yh1, .int nb1])), (yw1, .inl (cI, 4, .inl gw1)), (yv1, .inl (cI, 4, .inl gv1)), (yh1, .inl (cR, 4, .inr (.inr (.inr (.inr gh1)))))]) [8, 9, 0, 1, 2, 3, 4, 5, 6, 7] (by decide) rfl
  have hFc := va_free (wc := [(h0, .inr (1, [.ref v23, .int 0, ml, .int (nI (c0 + 53))])), (v23, .inl (cB, m24, .inl f25)), (y0, .inr (5, [.int 4, .int 4, .ref yw0, .ref yv0, .ref yh0, .int nb0])), (yw0, .inl (cI, 4, .inl gw0)), (yv0, .inl (cI, 4, .inl gv0)), (yh0, .inl (cR, 4, .inr (.inr (.inr (.inr gh0))))), (y1, .inr (5, [.int 4, .int 4, .ref yw1, .ref yv1, .ref yh1, .int nb1])), (yw1, .inl (cI, 4, .inl gw1)), (yv1, .inl (cI, 4, .inl gv1)), (yh1, .inl (cR, 4, .inr (.inr (.inr (.inr gh1)))))]) hD hS hA [8, 9, 0, 1, 2, 3, 4, 5, 6, 7] rfl
  have hDv := hDc.self (sz := H21.size)
  have hpre := zpre (xs' := []) (av := [.ref h0, .ref y1, .int 2, .int 3]) hPc hK (hDc.weaken (fun _ _ _ h => h)) hZ hS hFc (fun r hr => by cases hr)
  refine va_callv (va_runS (As := [.ref h0, .ref y1, .int 2, .int 3]) (rest := []) ⟨hx, hb, hml, hown, hts⟩ (k_wPl1_2 l dC dI cI cB cR cO zk h0 v23 m24 (c0 + 53) f25 ml y0 yw0 yv0 yh0 y1 yw1 yv1 yh1 nb0 nb1 gw0 gv0 gw1 gv1 gh0 gh1 H21.size hmm24 (by omega) (by omega) hff25 hgw0 hgh0 hgh1) (va_cwS 4 hts gX1_writeRow_X1_writePlace rfl rfl rfl (by decide +kernel) ⟨Nat.le_of_ble_eq_true rfl, Nat.le_of_ble_eq_true rfl⟩) ⟨zblind, hpre⟩ rfl rfl hl.1 rfl (lv_room (Nat.le_of_ble_eq_true rfl)) dX1_writeRow_36 ⟨Nat.le_of_ble_eq_true rfl, Nat.le_of_ble_eq_true rfl⟩) hS (fun q _ h => hFc q h) hFc (fun u t H26 locs ht hvm hw hB hz1 hk1 hS => ?_)
  obtain ⟨v28, m29, f30, ⟨hP1, hK1, hD1, hz2⟩, hff30, hlm29, hmm29⟩ := hB
  rw [ht] at hP1 hz2
  have hPD9 := va_join (wr := []) (w1 := [(h0, .inr (1, [.ref v28, .int 0, ml, .int (nI (c0 + 77))])), (v28, .inl (cB, m29, .inl f30)), (y0, .inr (5, [.int 4, .int 4, .ref yw0, .ref yv0, .ref yh0, .int nb0])), (yw0, .inl (cI, 4, .inl gw0)), (yv0, .inl (cI, 4, .inl gv0)), (yh0, .inl (cR, 4, .inr (.inr (.inr (.inr gh0))))), (y1, .inr (5, [.int 4, .int 4, .ref yw1, .ref yv1, .ref yh1, .int nb1])), (yw1, .inl (cI, 4, .inl gw1)), (yv1, .inl (cI, 4, .inl gv1)), (yh1, .inl (cR, 4, .inr (.inr (.inr (.inr gh1)))))]) hP hD [8, 9, 0, 1, 2, 3, 4, 5, 6, 7] [] rfl rfl (by decide) (by decide) hk1 hFc hP1 hD1
  clear hPc hDc hFc hDv hpre hP hD hP1 hK1 hD1
  obtain ⟨hP, hD⟩ := hPD9
  replace hz : s.heap.size + 0 ≤ H26.size := by omega
  clear hz2
  replace hP : va_P (dC, dI) vwCl [(h0, .inr (1, [.ref v28, .int 0, ml, .int (nI (c0 + 77))])), (v28, .inl (cB, m29, .inl f30)), (y0, .inr (5, [.int 4, .int 4, .ref yw0, .ref yv0, .ref yh0, .int nb0])), (yw0, .inl (cI, 4, .inl gw0)), (yv0, .inl (cI, 4, .inl gv0)), (yh0, .inl (cR, 4, .inr (.inr (.inr (.inr gh0))))), (y1, .inr (5, [.int 4, .int 4, .ref yw1, .ref yv1, .ref yh1, .int nb1])), (yw1, .inl (cI, 4, .inl gw1)), (yv1, .inl (cI, 4, .inl gv1)), (yh1, .inl (cR, 4, .inr (.inr (.inr (.inr gh1)))))] H26 := hP
  replace hD : va_D A [(h0, .inr (1, [.ref v28, .int 0, ml, .int (nI (c0 + 77))])), (v28, .inl (cB, m29, .inl f30)), (y0, .inr (5, [.int 4, .int 4, .ref yw0, .ref yv0, .ref yh0, .int nb0])), (yw0, .inl (cI, 4, .inl gw0)), (yv0, .inl (cI, 4, .inl gv0)), (yh0, .inl (cR, 4, .inr (.inr (.inr (.inr gh0))))), (y1, .inr (5, [.int 4, .int 4, .ref yw1, .ref yv1, .ref yh1, .int nb1])), (yw1, .inl (cI, 4, .inl gw1)), (yv1, .inl (cI, 4, .inl gv1)), (yh1, .inl (cR, 4, .inr (.inr (.inr (.inr gh1)))))] := hD
  refine W.widen (k := 77) (n := 5046272) (by omega) (by omega) ?_
  refine lv_iinc (v := 3) (lv' := [(3, .int 3), (0, .ref h0), (1, .ref y1), (2, .int 3)]) hx hb dX1_writeRow_39 hl (k := 0) rfl (by decide) (by decide) rfl (fun ls hl => ?_)
  refine lv_goto (tgt := 9) hx hb dX1_writeRow_42 (by decide) ?_
  refine lv_iload_n hx hb dX1_writeRow_9 rfl (lv_at hl 3 rfl) ?_
  refine lv_if_le (tgt := 45) hx hb dX1_writeRow_10 (by decide) (fun c9 => ?_) (fun c9 => ?_)
  · exact absurd c9 (by decide)
  refine lv_iload_n hx hb dX1_writeRow_13 rfl (lv_at hl 0 rfl) ?_
  refine lv_aload_n hx hb dX1_writeRow_14 rfl (lv_at hl 2 rfl) ?_
  refine va_getN (D := (dC, dI)) (ci := 5) (v := .int 4) (C := RX0) (T := TX0) (N := 6) hx hb hts hi_X1_writeRow_X0 hown hK hP 6 rfl rfl 1 (by decide) (zn3 hZ) (fun _ h9 => h9) rfl dX1_writeRow_15 ?_
  refine lv_icmp_ge (tgt := 45) hx hb dX1_writeRow_18 (by decide) (fun c9 => ?_) (fun c9 => ?_)
  · exact absurd c9 (by decide)
  refine lv_iload_n hx hb dX1_writeRow_21 rfl (lv_at hl 0 rfl) ?_
  refine lv_if_le (tgt := 32) hx hb dX1_writeRow_22 (by decide) (fun c9 => ?_) (fun c9 => ?_)
  · exact absurd c9 (by decide)
  refine lv_aload_n hx hb dX1_writeRow_25 rfl (lv_at hl 1 rfl) ?_
  refine zw_ldcw (own := RX1) (tx := ", ") (q := zk 3) hx hb hown (zl5 hZ) dX1_writeRow_26 ?_
  have hPc := hP.sub (ws' := [(h0, .inr (1, [.ref v28, .int 0, ml, .int (nI (c0 + 77))])), (v28, .inl (cB, m29, .inl f30))]) [0, 1] rfl
  have hDc := hD.sub (ws' := [(h0, .inr (1, [.ref v28, .int 0, ml, .int (nI (c0 + 77))])), (v28, .inl (cB, m29, .inl f30))]) [0, 1] (by decide) rfl
  have hFc := va_free (wc := [(h0, .inr (1, [.ref v28, .int 0, ml, .int (nI (c0 + 77))])), (v28, .inl (cB, m29, .inl f30))]) hD hS hA [0, 1] rfl
  have hDv := hDc.self (sz := H26.size)
  have hx0 : zS ((zk 3), (zk 13), 2, (fun j => (zByt.getD 2 []).getD j 0)) (va_A [(h0, .inr (1, [.ref v28, .int 0, ml, .int (nI (c0 + 77))])), (v28, .inl (cB, m29, .inl f30))] H26.size) s H26 := zc2 hZ hS hFc
  have hpre := zpre (xs' := [((zk 3), (zk 13), 2, (fun j => (zByt.getD 2 []).getD j 0))]) (av := [.ref h0, .ref (zk 3)]) hPc hK (hDc.weaken (fun _ _ _ h => h)) hZ hS hFc (fun r hr => by cases hr with | head => exact hx0 | tail _ h => cases h)
  refine va_callv (va_runS (As := [.ref h0, .ref (zk 3)]) (rest := []) ⟨hx, hb, hml, hown, hts⟩ (k_wSig2 l dC dI cI cB cR cO zk h0 v28 m29 (c0 + 77) f30 ml  H26.size hmm29 (by omega) (by omega) hff30 ) (va_cwS 2 hts gX1_writeRow_X1_writeSigns rfl rfl rfl (by decide +kernel) ⟨Nat.le_of_ble_eq_true rfl, Nat.le_of_ble_eq_true rfl⟩) ⟨zblind, hpre⟩ rfl rfl hl.1 rfl (lv_room (Nat.le_of_ble_eq_true rfl)) dX1_writeRow_29 ⟨Nat.le_of_ble_eq_true rfl, Nat.le_of_ble_eq_true rfl⟩) hS (fun q _ h => hFc q h) hFc (fun u t H31 locs ht hvm hw hB hz1 hk1 hS => ?_)
  obtain ⟨v33, m34, f35, ⟨hP1, hK1, hD1, hz2⟩, hff35, hlm34, hmm34⟩ := hB
  rw [ht] at hP1 hz2
  have hPD9 := va_join (wr := [(y0, .inr (5, [.int 4, .int 4, .ref yw0, .ref yv0, .ref yh0, .int nb0])), (yw0, .inl (cI, 4, .inl gw0)), (yv0, .inl (cI, 4, .inl gv0)), (yh0, .inl (cR, 4, .inr (.inr (.inr (.inr gh0))))), (y1, .inr (5, [.int 4, .int 4, .ref yw1, .ref yv1, .ref yh1, .int nb1])), (yw1, .inl (cI, 4, .inl gw1)), (yv1, .inl (cI, 4, .inl gv1)), (yh1, .inl (cR, 4, .inr (.inr (.inr (.inr gh1)))))]) (w1 := [(h0, .inr (1, [.ref v33, .int 0, ml, .int (nI (c0 + 79))])), (v33, .inl (cB, m34, .inl f35))]) hP hD [0, 1] [2, 3, 4, 5, 6, 7, 8, 9] rfl rfl (by decide) (by decide) hk1 hFc hP1 hD1
  clear hPc hDc hFc hDv hpre hP hD hP1 hK1 hD1
  obtain ⟨hP, hD⟩ := hPD9
  replace hz : s.heap.size + 0 ≤ H31.size := by omega
  clear hz2
  replace hP : va_P (dC, dI) vwCl [(y0, .inr (5, [.int 4, .int 4, .ref yw0, .ref yv0, .ref yh0, .int nb0])), (yw0, .inl (cI, 4, .inl gw0)), (yv0, .inl (cI, 4, .inl gv0)), (yh0, .inl (cR, 4, .inr (.inr (.inr (.inr gh0))))), (y1, .inr (5, [.int 4, .int 4, .ref yw1, .ref yv1, .ref yh1, .int nb1])), (yw1, .inl (cI, 4, .inl gw1)), (yv1, .inl (cI, 4, .inl gv1)), (yh1, .inl (cR, 4, .inr (.inr (.inr (.inr gh1))))), (h0, .inr (1, [.ref v33, .int 0, ml, .int (nI (c0 + 79))])), (v33, .inl (cB, m34, .inl f35))] H31 := hP
  replace hD : va_D A [(y0, .inr (5, [.int 4, .int 4, .ref yw0, .ref yv0, .ref yh0, .int nb0])), (yw0, .inl (cI, 4, .inl gw0)), (yv0, .inl (cI, 4, .inl gv0)), (yh0, .inl (cR, 4, .inr (.inr (.inr (.inr gh0))))), (y1, .inr (5, [.int 4, .int 4, .ref yw1, .ref yv1, .ref yh1, .int nb1])), (yw1, .inl (cI, 4, .inl gw1)), (yv1, .inl (cI, 4, .inl gv1)), (yh1, .inl (cR, 4, .inr (.inr (.inr (.inr gh1))))), (h0, .inr (1, [.ref v33, .int 0, ml, .int (nI (c0 + 79))])), (v33, .inl (cB, m34, .inl f35))] := hD
  refine W.widen (k := 79) (n := 5177344) (by omega) (by omega) ?_
  refine lv_aload_n hx hb dX1_writeRow_32 rfl (lv_at hl 1 rfl) ?_
  refine lv_aload_n hx hb dX1_writeRow_33 rfl (lv_at hl 2 rfl) ?_
  refine lv_iload_n hx hb dX1_writeRow_34 rfl (lv_at hl 0 rfl) ?_
  refine lv_iload_n hx hb dX1_writeRow_35 rfl (lv_at hl 3 rfl) ?_
  have hPc := hP.sub (ws' := [(h0, .inr (1, [.ref v33, .int 0, ml, .int (nI (c0 + 79))])), (v33, .inl (cB, m34, .inl f35)), (y0, .inr (5, [.int 4, .int 4, .ref yw0, .ref yv0, .ref yh0, .int nb0])), (yw0, .inl (cI, 4, .inl gw0)), (yv0, .inl (cI, 4, .inl gv0)), (yh0, .inl (cR, 4, .inr (.inr (.inr (.inr gh0))))), (y1, .inr (5, [.int 4, .int 4, .ref yw1, .ref yv1, .ref yh1, .int nb1])), (yw1, .inl (cI, 4, .inl gw1)), (yv1, .inl (cI, 4, .inl gv1)), (yh1, .inl (cR, 4, .inr (.inr (.inr (.inr gh1)))))]) [8, 9, 0, 1, 2, 3, 4, 5, 6, 7] rfl
  have hDc := hD.sub (ws' := [(h0, .inr (1, [.ref v33, .int 0, ml, .int (nI (c0 + 79))])), (v33, .inl (cB, m34, .inl f35)), (y0, .inr (5, [.int 4, .int 4, .ref yw0, .ref yv0, .ref yh0, .int nb0])), (yw0, .inl (cI, 4, .inl gw0)), (yv0, .inl (cI, 4, .inl gv0)), (yh0, .inl (cR, 4, .inr (.inr (.inr (.inr gh0))))), (y1, .inr (5, [.int 4, .int 4, .ref yw1, .ref yv1, .ref yh1, .int nb1])), (yw1, .inl (cI, 4, .inl gw1)), (yv1, .inl (cI, 4, .inl gv1)), (yh1, .inl (cR, 4, .inr (.inr (.inr (.inr gh1)))))]) [8, 9, 0, 1, 2, 3, 4, 5, 6, 7] (by decide) rfl
  have hFc := va_free (wc := [(h0, .inr (1, [.ref v33, .int 0, ml, .int (nI (c0 + 79))])), (v33, .inl (cB, m34, .inl f35)), (y0, .inr (5, [.int 4, .int 4, .ref yw0, .ref yv0, .ref yh0, .int nb0])), (yw0, .inl (cI, 4, .inl gw0)), (yv0, .inl (cI, 4, .inl gv0)), (yh0, .inl (cR, 4, .inr (.inr (.inr (.inr gh0))))), (y1, .inr (5, [.int 4, .int 4, .ref yw1, .ref yv1, .ref yh1, .int nb1])), (yw1, .inl (cI, 4, .inl gw1)), (yv1, .inl (cI, 4, .inl gv1)), (yh1, .inl (cR, 4, .inr (.inr (.inr (.inr gh1)))))]) hD hS hA [8, 9, 0, 1, 2, 3, 4, 5, 6, 7] rfl
  have hDv := hDc.self (sz := H31.size)
  have hpre := zpre (xs' := []) (av := [.ref h0, .ref y1, .int 3, .int 3]) hPc hK (hDc.weaken (fun _ _ _ h => h)) hZ hS hFc (fun r hr => by cases hr)
  refine va_callv (va_runS (As := [.ref h0, .ref y1, .int 3, .int 3]) (rest := []) ⟨hx, hb, hml, hown, hts⟩ (k_wPl1_3 l dC dI cI cB cR cO zk h0 v33 m34 (c0 + 79) f35 ml y0 yw0 yv0 yh0 y1 yw1 yv1 yh1 nb0 nb1 gw0 gv0 gw1 gv1 gh0 gh1 H31.size hmm34 (by omega) (by omega) hff35 hgw0 hgh0 hgh1) (va_cwS 4 hts gX1_writeRow_X1_writePlace rfl rfl rfl (by decide +kernel) ⟨Nat.le_of_ble_eq_true rfl, Nat.le_of_ble_eq_true rfl⟩) ⟨zblind, hpre⟩ rfl rfl hl.1 rfl (lv_room (Nat.le_of_ble_eq_true rfl)) dX1_writeRow_36 ⟨Nat.le_of_ble_eq_true rfl, Nat.le_of_ble_eq_true rfl⟩) hS (fun q _ h => hFc q h) hFc (fun u t H36 locs ht hvm hw hB hz1 hk1 hS => ?_)
  obtain ⟨v38, m39, f40, ⟨hP1, hK1, hD1, hz2⟩, hff40, hlm39, hmm39⟩ := hB
  rw [ht] at hP1 hz2
  have hPD9 := va_join (wr := []) (w1 := [(h0, .inr (1, [.ref v38, .int 0, ml, .int (nI (c0 + 103))])), (v38, .inl (cB, m39, .inl f40)), (y0, .inr (5, [.int 4, .int 4, .ref yw0, .ref yv0, .ref yh0, .int nb0])), (yw0, .inl (cI, 4, .inl gw0)), (yv0, .inl (cI, 4, .inl gv0)), (yh0, .inl (cR, 4, .inr (.inr (.inr (.inr gh0))))), (y1, .inr (5, [.int 4, .int 4, .ref yw1, .ref yv1, .ref yh1, .int nb1])), (yw1, .inl (cI, 4, .inl gw1)), (yv1, .inl (cI, 4, .inl gv1)), (yh1, .inl (cR, 4, .inr (.inr (.inr (.inr gh1)))))]) hP hD [8, 9, 0, 1, 2, 3, 4, 5, 6, 7] [] rfl rfl (by decide) (by decide) hk1 hFc hP1 hD1
  clear hPc hDc hFc hDv hpre hP hD hP1 hK1 hD1
  obtain ⟨hP, hD⟩ := hPD9
  replace hz : s.heap.size + 0 ≤ H36.size := by omega
  clear hz2
  replace hP : va_P (dC, dI) vwCl [(h0, .inr (1, [.ref v38, .int 0, ml, .int (nI (c0 + 103))])), (v38, .inl (cB, m39, .inl f40)), (y0, .inr (5, [.int 4, .int 4, .ref yw0, .ref yv0, .ref yh0, .int nb0])), (yw0, .inl (cI, 4, .inl gw0)), (yv0, .inl (cI, 4, .inl gv0)), (yh0, .inl (cR, 4, .inr (.inr (.inr (.inr gh0))))), (y1, .inr (5, [.int 4, .int 4, .ref yw1, .ref yv1, .ref yh1, .int nb1])), (yw1, .inl (cI, 4, .inl gw1)), (yv1, .inl (cI, 4, .inl gv1)), (yh1, .inl (cR, 4, .inr (.inr (.inr (.inr gh1)))))] H36 := hP
  replace hD : va_D A [(h0, .inr (1, [.ref v38, .int 0, ml, .int (nI (c0 + 103))])), (v38, .inl (cB, m39, .inl f40)), (y0, .inr (5, [.int 4, .int 4, .ref yw0, .ref yv0, .ref yh0, .int nb0])), (yw0, .inl (cI, 4, .inl gw0)), (yv0, .inl (cI, 4, .inl gv0)), (yh0, .inl (cR, 4, .inr (.inr (.inr (.inr gh0))))), (y1, .inr (5, [.int 4, .int 4, .ref yw1, .ref yv1, .ref yh1, .int nb1])), (yw1, .inl (cI, 4, .inl gw1)), (yv1, .inl (cI, 4, .inl gv1)), (yh1, .inl (cR, 4, .inr (.inr (.inr (.inr gh1)))))] := hD
  refine W.widen (k := 103) (n := 6750208) (by omega) (by omega) ?_
  refine lv_iinc (v := 4) (lv' := [(3, .int 4), (0, .ref h0), (1, .ref y1), (2, .int 3)]) hx hb dX1_writeRow_39 hl (k := 0) rfl (by decide) (by decide) rfl (fun ls hl => ?_)
  refine lv_goto (tgt := 9) hx hb dX1_writeRow_42 (by decide) ?_
  refine lv_iload_n hx hb dX1_writeRow_9 rfl (lv_at hl 3 rfl) ?_
  refine lv_if_le (tgt := 45) hx hb dX1_writeRow_10 (by decide) (fun c9 => ?_) (fun c9 => ?_)
  · exact absurd c9 (by decide)
  refine lv_iload_n hx hb dX1_writeRow_13 rfl (lv_at hl 0 rfl) ?_
  refine lv_aload_n hx hb dX1_writeRow_14 rfl (lv_at hl 2 rfl) ?_
  refine va_getN (D := (dC, dI)) (ci := 5) (v := .int 4) (C := RX0) (T := TX0) (N := 6) hx hb hts hi_X1_writeRow_X0 hown hK hP 6 rfl rfl 1 (by decide) (zn3 hZ) (fun _ h9 => h9) rfl dX1_writeRow_15 ?_
  refine lv_icmp_ge (tgt := 45) hx hb dX1_writeRow_18 (by decide) (fun c9 => ?_) (fun c9 => ?_)
  rotate_left
  · exact absurd (by decide) c9
  refine lv_aload_n hx hb dX1_writeRow_45 rfl (lv_at hl 1 rfl) ?_
  refine lv_bipush (v := 93) hx hb dX1_writeRow_46 (by decide) ?_
  have hPc := hP.sub (ws' := [(h0, .inr (1, [.ref v38, .int 0, ml, .int (nI (c0 + 103))])), (v38, .inl (cB, m39, .inl f40))]) [0, 1] rfl
  have hDc := hD.sub (ws' := [(h0, .inr (1, [.ref v38, .int 0, ml, .int (nI (c0 + 103))])), (v38, .inl (cB, m39, .inl f40))]) [0, 1] (by decide) rfl
  have hFc := va_free (wc := [(h0, .inr (1, [.ref v38, .int 0, ml, .int (nI (c0 + 103))])), (v38, .inl (cB, m39, .inl f40))]) hD hS hA [0, 1] rfl
  have hDv := hDc.self (sz := H36.size)
  have hpre := zpre (xs' := []) (av := [.ref h0, .int 93]) hPc hK (hDc.weaken (fun _ _ _ h => h)) hZ hS hFc (fun r hr => by cases hr)
  refine va_callr (va_runV (As := [.int 93]) (rest := []) ⟨hx, hb, hml, hown, hts⟩ (k_apC l dC dI cI cB cR cO zk h0 v38 m39 (c0 + 103) f40 ml 93 H36.size hmm39 (by omega) (by omega) hff40 (by decide) (by decide +kernel)) (cwV 1 hts gX1_writeRow_J4_append_cf468 rfl rfl rfl (by decide +kernel) ⟨Nat.le_of_ble_eq_true rfl, Nat.le_of_ble_eq_true rfl⟩) ⟨zblind, (zrecv_1 hK hPc (q0 := 0) rfl), hpre⟩ rfl rfl hl.1 rfl (lv_room (Nat.le_of_ble_eq_true rfl)) dX1_writeRow_48 ⟨Nat.le_of_ble_eq_true rfl, Nat.le_of_ble_eq_true rfl⟩) hS (fun q _ h => hFc q h) hFc (fun u r42 t H41 locs ht hvm hw hB hz1 hk1 hS => ?_)
  obtain ⟨v43, m44, f45, ⟨hP1, hK1, hD1, hz2⟩, hff45, hlm44, hmm44, her42⟩ := hB
  rw [ht] at hP1 hz2
  have hPD9 := va_join (wr := [(y0, .inr (5, [.int 4, .int 4, .ref yw0, .ref yv0, .ref yh0, .int nb0])), (yw0, .inl (cI, 4, .inl gw0)), (yv0, .inl (cI, 4, .inl gv0)), (yh0, .inl (cR, 4, .inr (.inr (.inr (.inr gh0))))), (y1, .inr (5, [.int 4, .int 4, .ref yw1, .ref yv1, .ref yh1, .int nb1])), (yw1, .inl (cI, 4, .inl gw1)), (yv1, .inl (cI, 4, .inl gv1)), (yh1, .inl (cR, 4, .inr (.inr (.inr (.inr gh1)))))]) (w1 := [(h0, .inr (1, [.ref v43, .int 0, ml, .int (nI (c0 + 104))])), (v43, .inl (cB, m44, .inl f45))]) hP hD [0, 1] [2, 3, 4, 5, 6, 7, 8, 9] rfl rfl (by decide) (by decide) hk1 hFc hP1 hD1
  clear hPc hDc hFc hDv hpre hP hD hP1 hK1 hD1
  obtain ⟨hP, hD⟩ := hPD9
  replace hz : s.heap.size + 0 ≤ H41.size := by omega
  clear hz2
  replace hP : va_P (dC, dI) vwCl [(y0, .inr (5, [.int 4, .int 4, .ref yw0, .ref yv0, .ref yh0, .int nb0])), (yw0, .inl (cI, 4, .inl gw0)), (yv0, .inl (cI, 4, .inl gv0)), (yh0, .inl (cR, 4, .inr (.inr (.inr (.inr gh0))))), (y1, .inr (5, [.int 4, .int 4, .ref yw1, .ref yv1, .ref yh1, .int nb1])), (yw1, .inl (cI, 4, .inl gw1)), (yv1, .inl (cI, 4, .inl gv1)), (yh1, .inl (cR, 4, .inr (.inr (.inr (.inr gh1))))), (h0, .inr (1, [.ref v43, .int 0, ml, .int (nI (c0 + 104))])), (v43, .inl (cB, m44, .inl f45))] H41 := hP
  replace hD : va_D A [(y0, .inr (5, [.int 4, .int 4, .ref yw0, .ref yv0, .ref yh0, .int nb0])), (yw0, .inl (cI, 4, .inl gw0)), (yv0, .inl (cI, 4, .inl gv0)), (yh0, .inl (cR, 4, .inr (.inr (.inr (.inr gh0))))), (y1, .inr (5, [.int 4, .int 4, .ref yw1, .ref yv1, .ref yh1, .int nb1])), (yw1, .inl (cI, 4, .inl gw1)), (yv1, .inl (cI, 4, .inl gv1)), (yh1, .inl (cR, 4, .inr (.inr (.inr (.inr gh1))))), (h0, .inr (1, [.ref v43, .int 0, ml, .int (nI (c0 + 104))])), (v43, .inl (cB, m44, .inl f45))] := hD
  refine W.widen (k := 104) (n := 6815744) (by omega) (by omega) ?_
  obtain rfl := her42.symm
  refine lv_pop hx hb dX1_writeRow_51 rfl ?_
  have hP9 := hP.sub (ws' := [(h0, .inr (1, [.ref v43, .int 0, ml, .int (nI (c0 + 104))])), (v43, .inl (cB, m44, .inl f45)), (y0, .inr (5, [.int 4, .int 4, .ref yw0, .ref yv0, .ref yh0, .int nb0])), (yw0, .inl (cI, 4, .inl gw0)), (yv0, .inl (cI, 4, .inl gv0)), (yh0, .inl (cR, 4, .inr (.inr (.inr (.inr gh0))))), (y1, .inr (5, [.int 4, .int 4, .ref yw1, .ref yv1, .ref yh1, .int nb1])), (yw1, .inl (cI, 4, .inl gw1)), (yv1, .inl (cI, 4, .inl gv1)), (yh1, .inl (cR, 4, .inr (.inr (.inr (.inr gh1)))))]) [8, 9, 0, 1, 2, 3, 4, 5, 6, 7] rfl
  have hD9 := hD.sub (ws' := [(h0, .inr (1, [.ref v43, .int 0, ml, .int (nI (c0 + 104))])), (v43, .inl (cB, m44, .inl f45)), (y0, .inr (5, [.int 4, .int 4, .ref yw0, .ref yv0, .ref yh0, .int nb0])), (yw0, .inl (cI, 4, .inl gw0)), (yv0, .inl (cI, 4, .inl gv0)), (yh0, .inl (cR, 4, .inr (.inr (.inr (.inr gh0))))), (y1, .inr (5, [.int 4, .int 4, .ref yw1, .ref yv1, .ref yh1, .int nb1])), (yw1, .inl (cI, 4, .inl gw1)), (yv1, .inl (cI, 4, .inl gv1)), (yh1, .inl (cR, 4, .inr (.inr (.inr (.inr gh1)))))]) [8, 9, 0, 1, 2, 3, 4, 5, 6, 7] (by decide) rfl
  exact W.vret hx hb hr (fun t ht hW => ⟨⟨(), rfl, trivial, ⟨_, _, _, ⟨by rw [ht]; exact hP9, va_K.moved hW.alike hK, hD9, by rw [ht]; exact hz⟩, hff45, (by omega), hmm44⟩⟩, hS.F ht⟩) hS.2.2 dX1_writeRow_52
