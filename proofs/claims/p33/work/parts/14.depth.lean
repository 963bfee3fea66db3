theorem hi_X1_depthIf_X0 : ∀ w ∈ u_ws RX0 TX0 6, w ∈ wsX1_depthIf := fun w h => List.mem_cons_of_mem _ (zhi_X0 w h)
set_option maxHeartbeats 4000000 in
set_option maxRecDepth 100000 in
theorem k_dIn0_2 (l : Launch) (dC : Nat → ClassId) (dI : Nat → Nat → Nat) (cI cB cR cO : ClassId) (zk : Nat → Nat) (y0 yw0 yv0 yh0 : Nat) (nb0 : Int32) (gw0 gv0 : Nat → Int32) (gh0 : Nat → Option Nat) (sz : Nat) (hgw0 : ∀ i, i < 4 → gw0 i = 0) (hgh0 : ∀ i, i < 4 → gh0 i = none) : Met l yX1_depthIf wsX1_depthIf ({ frames := 0, cells := 0, slots := 0, locals := 0 }) (va_Pc [.ref y0, .null, .int 0, .int 2] (zPre (dC, dI) (zT cI cB cR cO) zk [] [(y0, .inr (5, [.int 4, .int 4, .ref yw0, .ref yv0, .ref yh0, .int nb0])), (yw0, .inl (cI, 4, .inl gw0)), (yv0, .inl (cI, 4, .inl gv0)), (yh0, .inl (cR, 4, .inr (.inr (.inr (.inr gh0)))))] sz)) (va_Qi (fun r (_ : Unit) => r = 1) (fun _ t => zEnd (dC, dI) (zT cI cB cR cO) (va_A [(y0, .inr (5, [.int 4, .int 4, .ref yw0, .ref yv0, .ref yh0, .int nb0])), (yw0, .inl (cI, 4, .inl gw0)), (yv0, .inl (cI, 4, .inl gv0)), (yh0, .inl (cR, 4, .inr (.inr (.inr (.inr gh0)))))] sz) [(y0, .inr (5, [.int 4, .int 4, .ref yw0, .ref yv0, .ref yh0, .int nb0])), (yw0, .inl (cI, 4, .inl gw0)), (yv0, .inl (cI, 4, .inl gv0)), (yh0, .inl (cR, 4, .inr (.inr (.inr (.inr gh0)))))] sz 0 t) (va_A [(y0, .inr (5, [.int 4, .int 4, .ref yw0, .ref yv0, .ref yh0, .int nb0])), (yw0, .inl (cI, 4, .inl gw0)), (yv0, .inl (cI, 4, .inl gv0)), (yh0, .inl (cR, 4, .inr (.inr (.inr (.inr gh0)))))] sz)) 0 0 (va_A [(y0, .inr (5, [.int 4, .int 4, .ref yw0, .ref yv0, .ref yh0, .int nb0])), (yw0, .inl (cI, 4, .inl gw0)), (yv0, .inl (cI, 4, .inl gv0)), (yh0, .inl (cR, 4, .inr (.inr (.inr (.inr gh0)))))] sz) := by
  refine Met.ofW (cc := cX1_depthIf) (maxL := 7) (ret := (some .int)) (by decide) rfl ?_
  intro p e s mY args below meth c s₁ B hml hv
  obtain ⟨rfl, hsz, hP, hK, hD0, hZ⟩ := hv
  have hx := B.exec
  have hb := B.bytes
  have hr := B.returns
  have hts := atoms_spec (ws := wsX1_depthIf) B.pre
  have hown : s.vm.findClass RX1 = some mY.cls := findClass_of_methodNamed B.named
  have hlocks := B.notSynchronized
  subst hsz
  have hD := hD0.self (sz := s.heap.size)
  generalize hAe : va_A [(y0, .inr (5, [.int 4, .int 4, .ref yw0, .ref yv0, .ref yh0, .int nb0])), (yw0, .inl (cI, 4, .inl gw0)), (yv0, .inl (cI, 4, .inl gv0)), (yh0, .inl (cR, 4, .inr (.inr (.inr (.inr gh0)))))] s.heap.size = A at hD hZ ⊢
  have hA : ∀ q : Nat, s.heap.size ≤ q → A q := fun q h => by rw [← hAe]; exact Or.inr h
  have hS : va_S A s.heap s.heap [] := va_S.rf
  have hz : s.heap.size + 0 ≤ s.heap.size := Nat.le_refl _
  have hl := lv_entry ([.ref y0, .null, .int 0, .int 2]) (n := 7) (Nat.le_of_ble_eq_true rfl)
  rw [lg_entry_eq]
  generalize (lg_sl ([.ref y0, .null, .int 0, .int 2]) ++ List.replicate (7 - (lg_sl ([.ref y0, .null, .int 0, .int 2])).length) Slot.unset).toArray = ls at hl ⊢
  have hl : lv_has ls 7 [(0, .ref y0), (1, .null), (2, .int 0), (3, .int 2)] := hl
  have hP : va_P (dC, dI) vwCl [(y0, .inr (5, [.int 4, .int 4, .ref yw0, .ref yv0, .ref yh0, .int nb0])), (yw0, .inl (cI, 4, .inl gw0)), (yv0, .inl (cI, 4, .inl gv0)), (yh0, .inl (cR, 4, .inr (.inr (.inr (.inr gh0)))))] s.heap := hP
  have hD : va_D A [(y0, .inr (5, [.int 4, .int 4, .ref yw0, .ref yv0, .ref yh0, .int nb0])), (yw0, .inl (cI, 4, .inl gw0)), (yv0, .inl (cI, 4, .inl gv0)), (yh0, .inl (cR, 4, .inr (.inr (.inr (.inr gh0)))))] := hD
  refine lv_aload_n hx hb dX1_depthIf_0 rfl (lv_at hl 0 rfl) ?_
  refine lv_aload_nN hx hb dX1_depthIf_1 rfl (lv_at hl 1 rfl) ?_
  refine lv_acmp_ne (rx := (some y0)) (ry := none) (tgt := 7) hx hb dX1_depthIf_2 (by decide) (fun c9 => ?_) (fun c9 => ?_)
  rotate_left
  · exact absurd c9 (by intro h9; cases h9)
  refine lv_iconst (v := 1) hx hb dX1_depthIf_7 (by decide) ?_
  refine lv_istore (lv' := [(4, .int 1), (0, .ref y0), (1, .null), (2, .int 0), (3, .int 2)]) hx hb dX1_depthIf_8 hl (by decide) rfl (fun ls hl => ?_)
  refine lv_iconst (v := 0) hx hb dX1_depthIf_10 (by decide) ?_
  refine lv_istore (lv' := [(5, .int 0), (4, .int 1), (0, .ref y0), (1, .null), (2, .int 0), (3, .int 2)]) hx hb dX1_depthIf_11 hl (by decide) rfl (fun ls hl => ?_)
  refine lv_iload_n hx hb dX1_depthIf_13 rfl (lv_at hl 5 rfl) ?_
  refine lv_iconst (v := 1) hx hb dX1_depthIf_14 (by decide) ?_
  refine lv_icmp_le (tgt := 66) hx hb dX1_depthIf_15 (by decide) (fun c9 => ?_) (fun c9 => ?_)
  · exact absurd c9 (by decide)
  refine lv_iload hx hb dX1_depthIf_18 (lv_at hl 0 rfl) ?_
  refine lv_aload_n hx hb dX1_depthIf_20 rfl (lv_at hl 2 rfl) ?_
  refine va_getN (D := (dC, dI)) (ci := 5) (v := .int 4) (C := RX0) (T := TX0) (N := 6) hx hb hts hi_X1_depthIf_X0 hown hK hP 0 rfl rfl 1 (by decide) (zn3 hZ) (fun _ h9 => h9) rfl dX1_depthIf_21 ?_
  refine lv_icmp_ge (tgt := 66) hx hb dX1_depthIf_24 (by decide) (fun c9 => ?_) (fun c9 => ?_)
  · exact absurd c9 (by decide)
  refine lv_aload_n hx hb dX1_depthIf_27 rfl (lv_at hl 2 rfl) ?_
  refine va_getN (D := (dC, dI)) (ci := 5) (v := .ref yh0) (C := RX0) (T := TX0) (N := 6) hx hb hts hi_X1_depthIf_X0 hown hK hP 0 rfl rfl 4 (by decide) (zn2 hZ) (fun _ h9 => h9) rfl dX1_depthIf_28 ?_
  refine lv_iload hx hb dX1_depthIf_31 (lv_at hl 0 rfl) ?_
  refine va_aldq (D := (dC, dI)) (cl := vwCl) hx hb hK hP 3 2 rfl rfl (by unfold vp_in; decide) dX1_depthIf_33 ?_
  rw [show (0 : Int32).toNatClampNeg = 0 from by decide, hgh0 0 (by decide)]
  refine W.eq (g2 := F0 mY 34 ls [.null]) rfl ?_
  refine lv_astoreN (lv' := [(6, .null), (5, .int 0), (4, .int 1), (0, .ref y0), (1, .null), (2, .int 0), (3, .int 2)]) hx hb dX1_depthIf_34 hl (by decide) rfl (fun ls hl => ?_)
  refine lv_aloadN hx hb dX1_depthIf_36 (lv_at hl 0 rfl) ?_
  refine lv_ifnullN (tgt := 60) hx hb dX1_depthIf_38 (by decide) ?_
  refine lv_iinc (v := 1) (lv' := [(5, .int 1), (6, .null), (4, .int 1), (0, .ref y0), (1, .null), (2, .int 0), (3, .int 2)]) hx hb dX1_depthIf_60 hl (k := 1) rfl (by decide) (by decide) rfl (fun ls hl => ?_)
  refine lv_goto (tgt := 13) hx hb dX1_depthIf_63 (by decide) ?_
  refine lv_iload_n hx hb dX1_depthIf_13 rfl (lv_at hl 6 rfl) ?_
  refine lv_iconst (v := 1) hx hb dX1_depthIf_14 (by decide) ?_
  refine lv_icmp_le (tgt := 66) hx hb dX1_depthIf_15 (by decide) (fun c9 => ?_) (fun c9 => ?_)
  · exact absurd c9 (by decide)
  refine lv_iload hx hb dX1_depthIf_18 (lv_at hl 0 rfl) ?_
  refine lv_aload_n hx hb dX1_depthIf_20 rfl (lv_at hl 3 rfl) ?_
  refine va_getN (D := (dC, dI)) (ci := 5) (v := .int 4) (C := RX0) (T := TX0) (N := 6) hx hb hts hi_X1_depthIf_X0 hown hK hP 0 rfl rfl 1 (by decide) (zn3 hZ) (fun _ h9 => h9) rfl dX1_depthIf_21 ?_
  refine lv_icmp_ge (tgt := 66) hx hb dX1_depthIf_24 (by decide) (fun c9 => ?_) (fun c9 => ?_)
  · exact absurd c9 (by decide)
  refine lv_aload_n hx hb dX1_depthIf_27 rfl (lv_at hl 3 rfl) ?_
  refine va_getN (D := (dC, dI)) (ci := 5) (v := .ref yh0) (C := RX0) (T := TX0) (N := 6) hx hb hts hi_X1_depthIf_X0 hown hK hP 0 rfl rfl 4 (by decide) (zn2 hZ) (fun _ h9 => h9) rfl dX1_depthIf_28 ?_
  refine lv_iload hx hb dX1_depthIf_31 (lv_at hl 0 rfl) ?_
  refine va_aldq (D := (dC, dI)) (cl := vwCl) hx hb hK hP 3 2 rfl rfl (by unfold vp_in; decide) dX1_depthIf_33 ?_
  rw [show (1 : Int32).toNatClampNeg = 1 from by decide, hgh0 1 (by decide)]
  refine W.eq (g2 := F0 mY 34 ls [.null]) rfl ?_
  refine lv_astoreN (lv' := [(6, .null), (5, .int 1), (4, .int 1), (0, .ref y0), (1, .null), (2, .int 0), (3, .int 2)]) hx hb dX1_depthIf_34 hl (by decide) rfl (fun ls hl => ?_)
  refine lv_aloadN hx hb dX1_depthIf_36 (lv_at hl 0 rfl) ?_
  refine lv_ifnullN (tgt := 60) hx hb dX1_depthIf_38 (by decide) ?_
  refine lv_iinc (v := 2) (lv' := [(5, .int 2), (6, .null), (4, .int 1), (0, .ref y0), (1, .null), (2, .int 0), (3, .int 2)]) hx hb dX1_depthIf_60 hl (k := 1) rfl (by decide) (by decide) rfl (fun ls hl => ?_)
  refine lv_goto (tgt := 13) hx hb dX1_depthIf_63 (by decide) ?_
  refine lv_iload_n hx hb dX1_depthIf_13 rfl (lv_at hl 6 rfl) ?_
  refine lv_iconst (v := 1) hx hb dX1_depthIf_14 (by decide) ?_
  refine lv_icmp_le (tgt := 66) hx hb dX1_depthIf_15 (by decide) (fun c9 => ?_) (fun c9 => ?_)
  · exact absurd c9 (by decide)
  refine lv_iload hx hb dX1_depthIf_18 (lv_at hl 0 rfl) ?_
  refine lv_aload_n hx hb dX1_depthIf_20 rfl (lv_at hl 3 rfl) ?_
  refine va_getN (D := (dC, dI)) (ci := 5) (v := .int 4) (C := RX0) (T := TX0) (N := 6) hx hb hts hi_X1_depthIf_X0 hown hK hP 0 rfl rfl 1 (by decide) (zn3 hZ) (fun _ h9 => h9) rfl dX1_depthIf_21 ?_
  refine lv_icmp_ge (tgt := 66) hx hb dX1_depthIf_24 (by decide) (fun c9 => ?_) (fun c9 => ?_)
  · exact absurd c9 (by decide)
  refine lv_aload_n hx hb dX1_depthIf_27 rfl (lv_at hl 3 rfl) ?_
  refine va_getN (D := (dC, dI)) (ci := 5) (v := .ref yh0) (C := RX0) (T := TX0) (N := 6) hx hb hts hi_X1_depthIf_X0 hown hK hP 0 rfl rfl 4 (by decide) (zn2 hZ) (fun _ h9 => h9) rfl dX1_depthIf_28 ?_
  refine lv_iload hx hb dX1_depthIf_31 (lv_at hl 0 rfl) ?_
  refine va_aldq (D := (dC, dI)) (cl := vwCl) hx hb hK hP 3 2 rfl rfl (by unfold vp_in; decide) dX1_depthIf_33 ?_
  rw [show (2 : Int32).toNatClampNeg = 2 from by decide, hgh0 2 (by decide)]
  refine W.eq (g2 := F0 mY 34 ls [.null]) rfl ?_
  refine lv_astoreN (lv' := [(6, .null), (5, .int 2), (4, .int 1), (0, .ref y0), (1, .null), (2, .int 0), (3, .int 2)]) hx hb dX1_depthIf_34 hl (by decide) rfl (fun ls hl => ?_)
  refine lv_aloadN hx hb dX1_depthIf_36 (lv_at hl 0 rfl) ?_
  refine lv_ifnullN (tgt := 60) hx hb dX1_depthIf_38 (by decide) ?_
  refine lv_iinc (v := 3) (lv' := [(5, .int 3), (6, .null), (4, .int 1), (0, .ref y0), (1, .null), (2, .int 0), (3, .int 2)]) hx hb dX1_depthIf_60 hl (k := 1) rfl (by decide) (by decide) rfl (fun ls hl => ?_)
  refine lv_goto (tgt := 13) hx hb dX1_depthIf_63 (by decide) ?_
  refine lv_iload_n hx hb dX1_depthIf_13 rfl (lv_at hl 6 rfl) ?_
  refine lv_iconst (v := 1) hx hb dX1_depthIf_14 (by decide) ?_
  refine lv_icmp_le (tgt := 66) hx hb dX1_depthIf_15 (by decide) (fun c9 => ?_) (fun c9 => ?_)
  · exact absurd c9 (by decide)
  refine lv_iload hx hb dX1_depthIf_18 (lv_at hl 0 rfl) ?_
  refine lv_aload_n hx hb dX1_depthIf_20 rfl (lv_at hl 3 rfl) ?_
  refine va_getN (D := (dC, dI)) (ci := 5) (v := .int 4) (C := RX0) (T := TX0) (N := 6) hx hb hts hi_X1_depthIf_X0 hown hK hP 0 rfl rfl 1 (by decide) (zn3 hZ) (fun _ h9 => h9) rfl dX1_depthIf_21 ?_
  refine lv_icmp_ge (tgt := 66) hx hb dX1_depthIf_24 (by decide) (fun c9 => ?_) (fun c9 => ?_)
  · exact absurd c9 (by decide)
  refine lv_aload_n hx hb dX1_depthIf_27 rfl (lv_at hl 3 rfl) ?_
  refine va_getN (D := (dC, dI)) (ci := 5) (v := .ref yh0) (C := RX0) (T := TX0) (N := 6) hx hb hts hi_X1_depthIf_X0 hown hK hP 0 rfl rfl 4 (by decide) (zn2 hZ) (fun _ h9 => h9) rfl dX1_depthIf_28 ?_
  refine lv_iload hx hb dX1_depthIf_31 (lv_at hl 0 rfl) ?_
  refine va_aldq (D := (dC, dI)) (cl := vwCl) hx hb hK hP 3 2 rfl rfl (by unfold vp_in; decide) dX1_depthIf_33 ?_
  rw [show (3 : Int32).toNatClampNeg = 3 from by decide, hgh0 3 (by decide)]
  refine W.eq (g2 := F0 mY 34 ls [.null]) rfl ?_
  refine lv_astoreN (lv' := [(6, .null), (5, .int 3), (4, .int 1), (0, .ref y0), (1, .null), (2, .int 0), (3, .int 2)]) hx hb dX1_depthIf_34 hl (by decide) rfl (fun ls hl => ?_)
  refine lv_aloadN hx hb dX1_depthIf_36 (lv_at hl 0 rfl) ?_
  refine lv_ifnullN (tgt := 60) hx hb dX1_depthIf_38 (by decide) ?_
  refine lv_iinc (v := 4) (lv' := [(5, .int 4), (6, .null), (4, .int 1), (0, .ref y0), (1, .null), (2, .int 0), (3, .int 2)]) hx hb dX1_depthIf_60 hl (k := 1) rfl (by decide) (by decide) rfl (fun ls hl => ?_)
  refine lv_goto (tgt := 13) hx hb dX1_depthIf_63 (by decide) ?_
  refine lv_iload_n hx hb dX1_depthIf_13 rfl (lv_at hl 6 rfl) ?_
  refine lv_iconst (v := 1) hx hb dX1_depthIf_14 (by decide) ?_
  refine lv_icmp_le (tgt := 66) hx hb dX1_depthIf_15 (by decide) (fun c9 => ?_) (fun c9 => ?_)
  · exact absurd c9 (by decide)
  refine lv_iload hx hb dX1_depthIf_18 (lv_at hl 0 rfl) ?_
  refine lv_aload_n hx hb dX1_depthIf_20 rfl (lv_at hl 3 rfl) ?_
  refine va_getN (D := (dC, dI)) (ci := 5) (v := .int 4) (C := RX0) (T := TX0) (N := 6) hx hb hts hi_X1_depthIf_X0 hown hK hP 0 rfl rfl 1 (by decide) (zn3 hZ) (fun _ h9 => h9) rfl dX1_depthIf_21 ?_
  refine lv_icmp_ge (tgt := 66) hx hb dX1_depthIf_24 (by decide) (fun c9 => ?_) (fun c9 => ?_)
  rotate_left
  · exact absurd (by decide) c9
  refine lv_iload hx hb dX1_depthIf_66 (lv_at hl 2 rfl) ?_
  have hP9 := hP.sub (ws' := [(y0, .inr (5, [.int 4, .int 4, .ref yw0, .ref yv0, .ref yh0, .int nb0])), (yw0, .inl (cI, 4, .inl gw0)), (yv0, .inl (cI, 4, .inl gv0)), (yh0, .inl (cR, 4, .inr (.inr (.inr (.inr gh0)))))]) [0, 1, 2, 3] rfl
  have hD9 := hD.sub (ws' := [(y0, .inr (5, [.int 4, .int 4, .ref yw0, .ref yv0, .ref yh0, .int nb0])), (yw0, .inl (cI, 4, .inl gw0)), (yv0, .inl (cI, 4, .inl gv0)), (yh0, .inl (cR, 4, .inr (.inr (.inr (.inr gh0)))))]) [0, 1, 2, 3] (by decide) rfl
  exact W.iret (v := 1) hx hb hr (fun t ht hW => ⟨⟨_, (), rfl, rfl, ⟨by rw [ht]; exact hP9, va_K.moved hW.alike hK, hD9, by rw [ht]; exact hz⟩⟩, hS.F ht⟩) hS.2.2 dX1_depthIf_68

set_option maxHeartbeats 4000000 in
set_option maxRecDepth 100000 in
theorem k_dIn1_3 (l : Launch) (dC : Nat → ClassId) (dI : Nat → Nat → Nat) (cI cB cR cO : ClassId) (zk : Nat → Nat) (y0 yw0 yv0 yh0 y1 yw1 yv1 yh1 : Nat) (nb0 nb1 : Int32) (gw0 gv0 gw1 gv1 : Nat → Int32) (gh0 gh1 : Nat → Option Nat) (sz : Nat) (hgw0 : ∀ i, i < 4 → gw0 i = 0) (hgh0 : ∀ i, i < 4 → gh0 i = none) (hgh1 : ∀ i, i < 4 → gh1 i = some y0) : Met l yX1_depthIf wsX1_depthIf ({ frames := 1, cells := 0, slots := 0, locals := 40 }) (va_Pc [.ref y1, .null, .int 0, .int 3] (zPre (dC, dI) (zT cI cB cR cO) zk [] [(y0, .inr (5, [.int 4, .int 4, .ref yw0, .ref yv0, .ref yh0, .int nb0])), (yw0, .inl (cI, 4, .inl gw0)), (yv0, .inl (cI, 4, .inl gv0)), (yh0, .inl (cR, 4, .inr (.inr (.inr (.inr gh0))))), (y1, .inr (5, [.int 4, .int 4, .ref yw1, .ref yv1, .ref yh1, .int nb1])), (yw1, .inl (cI, 4, .inl gw1)), (yv1, .inl (cI, 4, .inl gv1)), (yh1, .inl (cR, 4, .inr (.inr (.inr (.inr gh1)))))] sz)) (va_Qi (fun r (_ : Unit) => r = 2) (fun _ t => zEnd (dC, dI) (zT cI cB cR cO) (va_A [(y0, .inr (5, [.int 4, .int 4, .ref yw0, .ref yv0, .ref yh0, .int nb0])), (yw0, .inl (cI, 4, .inl gw0)), (yv0, .inl (cI, 4, .inl gv0)), (yh0, .inl (cR, 4, .inr (.inr (.inr (.inr gh0))))), (y1, .inr (5, [.int 4, .int 4, .ref yw1, .ref yv1, .ref yh1, .int nb1])), (yw1, .inl (cI, 4, .inl gw1)), (yv1, .inl (cI, 4, .inl gv1)), (yh1, .inl (cR, 4, .inr (.inr (.inr (.inr gh1)))))] sz) [(y0, .inr (5, [.int 4, .int 4, .ref yw0, .ref yv0, .ref yh0, .int nb0])), (yw0, .inl (cI, 4, .inl gw0)), (yv0, .inl (cI, 4, .inl gv0)), (yh0, .inl (cR, 4, .inr (.inr (.inr (.inr gh0))))), (y1, .inr (5, [.int 4, .int 4, .ref yw1, .ref yv1, .ref yh1, .int nb1])), (yw1, .inl (cI, 4, .inl gw1)), (yv1, .inl (cI, 4, .inl gv1)), (yh1, .inl (cR, 4, .inr (.inr (.inr (.inr gh1)))))] sz 0 t) (va_A [(y0, .inr (5, [.int 4, .int 4, .ref yw0, .ref yv0, .ref yh0, .int nb0])), (yw0, .inl (cI, 4, .inl gw0)), (yv0, .inl (cI, 4, .inl gv0)), (yh0, .inl (cR, 4, .inr (.inr (.inr (.inr gh0))))), (y1, .inr (5, [.int 4, .int 4, .ref yw1, .ref yv1, .ref yh1, .int nb1])), (yw1, .inl (cI, 4, .inl gw1)), (yv1, .inl (cI, 4, .inl gv1)), (yh1, .inl (cR, 4, .inr (.inr (.inr (.inr gh1)))))] sz)) 0 0 (va_A [(y0, .inr (5, [.int 4, .int 4, .ref yw0, .ref yv0, .ref yh0, .int nb0])), (yw0, .inl (cI, 4, .inl gw0)), (yv0, .inl (cI, 4, .inl gv0)), (yh0, .inl (cR, 4, .inr (.inr (.inr (.inr gh0))))), (y1, .inr (5, [.int 4, .int 4, .ref yw1, .ref yv1, .ref yh1, .int nb1])), (yw1, .inl (cI, 4, .inl gw1)), (yv1, .inl (cI, 4, .inl gv1)), (yh1, .inl (cR, 4, .inr (.inr (.inr (.inr gh1)))))] sz) := by
  refine Met.ofW (cc := cX1_depthIf) (maxL := 7) (ret := (some .int)) (by decide) rfl ?_
  intro p e s mY args below meth c s₁ B hml hv
  obtain ⟨rfl, hsz, hP, hK, hD0, hZ⟩ := hv
  have hx := B.exec
  have hb := B.bytes
  have hr := B.returns
  have hts := atoms_spec (ws := wsX1_depthIf) B.pre
  have hown : s.vm.findClass RX1 = some mY.cls := findClass_of_methodNamed B.named
  have hlocks := B.notSynchronized
  subst hsz
  have hD := hD0.self (sz := s.heap.size)
  generalize hAe : va_A [(y0, .inr (5, [.int 4, .int 4, .ref yw0, .ref yv0, .ref yh0, .int nb0])), (yw0, .inl (cI, 4, .inl gw0)), (yv0, .inl (cI, 4, .inl gv0)), (yh0, .inl (cR, 4, .inr (.inr (.inr (.inr gh0))))), (y1, .inr (5, [.int 4, .int 4, .ref yw1, .ref yv1, .ref yh1, .int nb1])), (yw1, .inl (cI, 4, .inl gw1)), (yv1, .inl (cI, 4, .inl gv1)), (yh1, .inl (cR, 4, .inr (.inr (.inr (.inr gh1)))))] s.heap.size = A at hD hZ ⊢
  have hA : ∀ q : Nat, s.heap.size ≤ q → A q := fun q h => by rw [← hAe]; exact Or.inr h
  have hS : va_S A s.heap s.heap [] := va_S.rf
  have hz : s.heap.size + 0 ≤ s.heap.size := Nat.le_refl _
  have hl := lv_entry ([.ref y1, .null, .int 0, .int 3]) (n := 7) (Nat.le_of_ble_eq_true rfl)
  rw [lg_entry_eq]
  generalize (lg_sl ([.ref y1, .null, .int 0, .int 3]) ++ List.replicate (7 - (lg_sl ([.ref y1, .null, .int 0, .int 3])).length) Slot.unset).toArray = ls at hl ⊢
  have hl : lv_has ls 7 [(0, .ref y1), (1, .null), (2, .int 0), (3, .int 3)] := hl
  have hP : va_P (dC, dI) vwCl [(y0, .inr (5, [.int 4, .int 4, .ref yw0, .ref yv0, .ref yh0, .int nb0])), (yw0, .inl (cI, 4, .inl gw0)), (yv0, .inl (cI, 4, .inl gv0)), (yh0, .inl (cR, 4, .inr (.inr (.inr (.inr gh0))))), (y1, .inr (5, [.int 4, .int 4, .ref yw1, .ref yv1, .ref yh1, .int nb1])), (yw1, .inl (cI, 4, .inl gw1)), (yv1, .inl (cI, 4, .inl gv1)), (yh1, .inl (cR, 4, .inr (.inr (.inr (.inr gh1)))))] s.heap := hP
  have hD : va_D A [(y0, .inr (5, [.int 4, .int 4, .ref yw0, .ref yv0, .ref yh0, .int nb0])), (yw0, .inl (cI, 4, .inl gw0)), (yv0, .inl (cI, 4, .inl gv0)), (yh0, .inl (cR, 4, .inr (.inr (.inr (.inr gh0))))), (y1, .inr (5, [.int 4, .int 4, .ref yw1, .ref yv1, .ref yh1, .int nb1])), (yw1, .inl (cI, 4, .inl gw1)), (yv1, .inl (cI, 4, .inl gv1)), (yh1, .inl (cR, 4, .inr (.inr (.inr (.inr gh1)))))] := hD
  refine lv_aload_n hx hb dX1_depthIf_0 rfl (lv_at hl 0 rfl) ?_
  refine lv_aload_nN hx hb dX1_depthIf_1 rfl (lv_at hl 1 rfl) ?_
  refine lv_acmp_ne (rx := (some y1)) (ry := none) (tgt := 7) hx hb dX1_depthIf_2 (by decide) (fun c9 => ?_) (fun c9 => ?_)
  rotate_left
  · exact absurd c9 (by intro h9; cases h9)
  refine lv_iconst (v := 1) hx hb dX1_depthIf_7 (by decide) ?_
  refine lv_istore (lv' := [(4, .int 1), (0, .ref y1), (1, .null), (2, .int 0), (3, .int 3)]) hx hb dX1_depthIf_8 hl (by decide) rfl (fun ls hl => ?_)
  refine lv_iconst (v := 0) hx hb dX1_depthIf_10 (by decide) ?_
  refine lv_istore (lv' := [(5, .int 0), (4, .int 1), (0, .ref y1), (1, .null), (2, .int 0), (3, .int 3)]) hx hb dX1_depthIf_11 hl (by decide) rfl (fun ls hl => ?_)
  refine lv_iload_n hx hb dX1_depthIf_13 rfl (lv_at hl 5 rfl) ?_
  refine lv_iconst (v := 1) hx hb dX1_depthIf_14 (by decide) ?_
  refine lv_icmp_le (tgt := 66) hx hb dX1_depthIf_15 (by decide) (fun c9 => ?_) (fun c9 => ?_)
  · exact absurd c9 (by decide)
  refine lv_iload hx hb dX1_depthIf_18 (lv_at hl 0 rfl) ?_
  refine lv_aload_n hx hb dX1_depthIf_20 rfl (lv_at hl 2 rfl) ?_
  refine va_getN (D := (dC, dI)) (ci := 5) (v := .int 4) (C := RX0) (T := TX0) (N := 6) hx hb hts hi_X1_depthIf_X0 hown hK hP 4 rfl rfl 1 (by decide) (zn3 hZ) (fun _ h9 => h9) rfl dX1_depthIf_21 ?_
  refine lv_icmp_ge (tgt := 66) hx hb dX1_depthIf_24 (by decide) (fun c9 => ?_) (fun c9 => ?_)
  · exact absurd c9 (by decide)
  refine lv_aload_n hx hb dX1_depthIf_27 rfl (lv_at hl 2 rfl) ?_
  refine va_getN (D := (dC, dI)) (ci := 5) (v := .ref yh1) (C := RX0) (T := TX0) (N := 6) hx hb hts hi_X1_depthIf_X0 hown hK hP 4 rfl rfl 4 (by decide) (zn2 hZ) (fun _ h9 => h9) rfl dX1_depthIf_28 ?_
  refine lv_iload hx hb dX1_depthIf_31 (lv_at hl 0 rfl) ?_
  refine va_aldq (D := (dC, dI)) (cl := vwCl) hx hb hK hP 7 2 rfl rfl (by unfold vp_in; decide) dX1_depthIf_33 ?_
  rw [show (0 : Int32).toNatClampNeg = 0 from by decide, hgh1 0 (by decide)]
  refine W.eq (g2 := F0 mY 34 ls [.ref y0]) rfl ?_
  refine lv_astore (lv' := [(6, .ref y0), (5, .int 0), (4, .int 1), (0, .ref y1), (1, .null), (2, .int 0), (3, .int 3)]) hx hb dX1_depthIf_34 hl (by decide) rfl (fun ls hl => ?_)
  refine lv_aload hx hb dX1_depthIf_36 (lv_at hl 0 rfl) ?_
  refine lv_ifnull hx hb dX1_depthIf_38 ?_
  refine lv_iload hx hb dX1_depthIf_41 (lv_at hl 2 rfl) ?_
  refine lv_iconst (v := 1) hx hb dX1_depthIf_43 (by decide) ?_
  refine lv_aload hx hb dX1_depthIf_44 (lv_at hl 0 rfl) ?_
  refine lv_aload_nN hx hb dX1_depthIf_46 rfl (lv_at hl 4 rfl) ?_
  refine lv_iload_n hx hb dX1_depthIf_47 rfl (lv_at hl 5 rfl) ?_
  refine lv_iload_n hx hb dX1_depthIf_48 rfl (lv_at hl 6 rfl) ?_
  refine lv_iconst (v := 1) hx hb dX1_depthIf_49 (by decide) ?_
  refine lv_isub hx hb dX1_depthIf_50 ?_
  refine lv_topi (fun v1 ev1 => ?_)
  obtain rfl : v1 = 2 := ev1.trans (by decide)
  have hPc := hP.sub (ws' := [(y0, .inr (5, [.int 4, .int 4, .ref yw0, .ref yv0, .ref yh0, .int nb0])), (yw0, .inl (cI, 4, .inl gw0)), (yv0, .inl (cI, 4, .inl gv0)), (yh0, .inl (cR, 4, .inr (.inr (.inr (.inr gh0)))))]) [0, 1, 2, 3] rfl
  have hDc := hD.sub (ws' := [(y0, .inr (5, [.int 4, .int 4, .ref yw0, .ref yv0, .ref yh0, .int nb0])), (yw0, .inl (cI, 4, .inl gw0)), (yv0, .inl (cI, 4, .inl gv0)), (yh0, .inl (cR, 4, .inr (.inr (.inr (.inr gh0)))))]) [0, 1, 2, 3] (by decide) rfl
  have hFc := va_free (wc := [(y0, .inr (5, [.int 4, .int 4, .ref yw0, .ref yv0, .ref yh0, .int nb0])), (yw0, .inl (cI, 4, .inl gw0)), (yv0, .inl (cI, 4, .inl gv0)), (yh0, .inl (cR, 4, .inr (.inr (.inr (.inr gh0)))))]) hD hS hA [0, 1, 2, 3] rfl
  have hDv := hDc.self (sz := s.heap.size)
  have hpre := zpre (xs' := []) (av := [.ref y0, .null, .int 0, .int 2]) hPc hK (hDc.weaken (fun _ _ _ h => h)) hZ hS hFc (fun r hr => by cases hr)
  refine va_calli (va_runS (As := [.ref y0, .null, .int 0, .int 2]) (rest := [.int 1, .int 1]) ⟨hx, hb, hml, hown, hts⟩ (k_dIn0_2 l dC dI cI cB cR cO zk y0 yw0 yv0 yh0 nb0 gw0 gv0 gh0 s.heap.size hgw0 hgh0) (va_cwS 4 hts gX1_depthIf_X1_depthIf rfl rfl rfl (by decide +kernel) ⟨Nat.le_of_ble_eq_true rfl, Nat.le_of_ble_eq_true rfl⟩) ⟨zblind, hpre⟩ rfl rfl hl.1 rfl (lv_room (Nat.le_of_ble_eq_true rfl)) dX1_depthIf_51 ⟨Nat.le_of_ble_eq_true rfl, Nat.le_of_ble_eq_true rfl⟩) hS (fun q _ h => hFc q h) hFc (fun r3 u t H2 locs ht hvm hw hB hz1 hk1 hS => ?_)
  obtain rfl : 1 = r3 := (show r3 = 1 from hw).symm
  obtain ⟨hP1, hK1, hD1, hz2⟩ := hB
  rw [ht] at hP1 hz2
  have hPD9 := va_join (wr := [(y1, .inr (5, [.int 4, .int 4, .ref yw1, .ref yv1, .ref yh1, .int nb1])), (yw1, .inl (cI, 4, .inl gw1)), (yv1, .inl (cI, 4, .inl gv1)), (yh1, .inl (cR, 4, .inr (.inr (.inr (.inr gh1)))))]) (w1 := [(y0, .inr (5, [.int 4, .int 4, .ref yw0, .ref yv0, .ref yh0, .int nb0])), (yw0, .inl (cI, 4, .inl gw0)), (yv0, .inl (cI, 4, .inl gv0)), (yh0, .inl (cR, 4, .inr (.inr (.inr (.inr gh0)))))]) hP hD [0, 1, 2, 3] [4, 5, 6, 7] rfl rfl (by decide) (by decide) hk1 hFc hP1 hD1
  clear hPc hDc hFc hDv hpre hP hD hP1 hK1 hD1
  obtain ⟨hP, hD⟩ := hPD9
  replace hz : s.heap.size + 0 ≤ H2.size := by omega
  clear hz2
  replace hP : va_P (dC, dI) vwCl [(y1, .inr (5, [.int 4, .int 4, .ref yw1, .ref yv1, .ref yh1, .int nb1])), (yw1, .inl (cI, 4, .inl gw1)), (yv1, .inl (cI, 4, .inl gv1)), (yh1, .inl (cR, 4, .inr (.inr (.inr (.inr gh1))))), (y0, .inr (5, [.int 4, .int 4, .ref yw0, .ref yv0, .ref yh0, .int nb0])), (yw0, .inl (cI, 4, .inl gw0)), (yv0, .inl (cI, 4, .inl gv0)), (yh0, .inl (cR, 4, .inr (.inr (.inr (.inr gh0)))))] H2 := hP
  replace hD : va_D A [(y1, .inr (5, [.int 4, .int 4, .ref yw1, .ref yv1, .ref yh1, .int nb1])), (yw1, .inl (cI, 4, .inl gw1)), (yv1, .inl (cI, 4, .inl gv1)), (yh1, .inl (cR, 4, .inr (.inr (.inr (.inr gh1))))), (y0, .inr (5, [.int 4, .int 4, .ref yw0, .ref yv0, .ref yh0, .int nb0])), (yw0, .inl (cI, 4, .inl gw0)), (yv0, .inl (cI, 4, .inl gv0)), (yh0, .inl (cR, 4, .inr (.inr (.inr (.inr gh0)))))] := hD
  refine W.widen (k := 0) (n := 0) (by omega) (by omega) ?_
  refine lv_iadd hx hb dX1_depthIf_54 ?_
  refine lv_topi (fun v4 ev4 => ?_)
  obtain rfl : v4 = 2 := ev4.trans (by decide)
  refine va_mmax (x := 1) (y := 2) hx hb (hml.trans hl.1.symm) hown (hts (.methodLink RX1 126 Lib.Math.max.name) (List.mem_cons_of_mem _ zw_728)) (hts (.static Lib.Math.max.name) (List.mem_cons_of_mem _ zw_271)) (hts (.initialized "java/lang/Math") (List.mem_cons_of_mem _ zw_58)) (hts (.code Lib.Math.max.name Lib.Math.max.code 2 (some .int)) (List.mem_cons_of_mem _ zw_272)) (Nat.le_of_ble_eq_true rfl) (Nat.le_of_ble_eq_true rfl) (Nat.le_of_ble_eq_true rfl) (Nat.le_of_ble_eq_true rfl) dX1_depthIf_55 ?_
  refine lv_topi (fun v5 ev5 => ?_)
  obtain rfl : v5 = 2 := ev5.trans (by decide)
  refine lv_istore (lv' := [(4, .int 2), (6, .ref y0), (5, .int 0), (0, .ref y1), (1, .null), (2, .int 0), (3, .int 3)]) hx hb dX1_depthIf_58 hl (by decide) rfl (fun ls hl => ?_)
  refine lv_iinc (v := 1) (lv' := [(5, .int 1), (4, .int 2), (6, .ref y0), (0, .ref y1), (1, .null), (2, .int 0), (3, .int 3)]) hx hb dX1_depthIf_60 hl (k := 2) rfl (by decide) (by decide) rfl (fun ls hl => ?_)
  refine lv_goto (tgt := 13) hx hb dX1_depthIf_63 (by decide) ?_
  refine lv_iload_n hx hb dX1_depthIf_13 rfl (lv_at hl 6 rfl) ?_
  refine lv_iconst (v := 1) hx hb dX1_depthIf_14 (by decide) ?_
  refine lv_icmp_le (tgt := 66) hx hb dX1_depthIf_15 (by decide) (fun c9 => ?_) (fun c9 => ?_)
  · exact absurd c9 (by decide)
  refine lv_iload hx hb dX1_depthIf_18 (lv_at hl 0 rfl) ?_
  refine lv_aload_n hx hb dX1_depthIf_20 rfl (lv_at hl 3 rfl) ?_
  refine va_getN (D := (dC, dI)) (ci := 5) (v := .int 4) (C := RX0) (T := TX0) (N := 6) hx hb hts hi_X1_depthIf_X0 hown hK hP 0 rfl rfl 1 (by decide) (zn3 hZ) (fun _ h9 => h9) rfl dX1_depthIf_21 ?_
  refine lv_icmp_ge (tgt := 66) hx hb dX1_depthIf_24 (by decide) (fun c9 => ?_) (fun c9 => ?_)
  · exact absurd c9 (by decide)
  refine lv_aload_n hx hb dX1_depthIf_27 rfl (lv_at hl 3 rfl) ?_
  refine va_getN (D := (dC, dI)) (ci := 5) (v := .ref yh1) (C := RX0) (T := TX0) (N := 6) hx hb hts hi_X1_depthIf_X0 hown hK hP 0 rfl rfl 4 (by decide) (zn2 hZ) (fun _ h9 => h9) rfl dX1_depthIf_28 ?_
  refine lv_iload hx hb dX1_depthIf_31 (lv_at hl 0 rfl) ?_
  refine va_aldq (D := (dC, dI)) (cl := vwCl) hx hb hK hP 3 2 rfl rfl (by unfold vp_in; decide) dX1_depthIf_33 ?_
  rw [show (1 : Int32).toNatClampNeg = 1 from by decide, hgh1 1 (by decide)]
  refine W.eq (g2 := F0 mY 34 ls [.ref y0]) rfl ?_
  refine lv_astore (lv' := [(6, .ref y0), (5, .int 1), (4, .int 2), (0, .ref y1), (1, .null), (2, .int 0), (3, .int 3)]) hx hb dX1_depthIf_34 hl (by decide) rfl (fun ls hl => ?_)
  refine lv_aload hx hb dX1_depthIf_36 (lv_at hl 0 rfl) ?_
  refine lv_ifnull hx hb dX1_depthIf_38 ?_
  refine lv_iload hx hb dX1_depthIf_41 (lv_at hl 2 rfl) ?_
  refine lv_iconst (v := 1) hx hb dX1_depthIf_43 (by decide) ?_
  refine lv_aload hx hb dX1_depthIf_44 (lv_at hl 0 rfl) ?_
  refine lv_aload_nN hx hb dX1_depthIf_46 rfl (lv_at hl 4 rfl) ?_
  refine lv_iload_n hx hb dX1_depthIf_47 rfl (lv_at hl 5 rfl) ?_
  refine lv_iload_n hx hb dX1_depthIf_48 rfl (lv_at hl 6 rfl) ?_
  refine lv_iconst (v := 1) hx hb dX1_depthIf_49 (by decide) ?_
  refine lv_isub hx hb dX1_depthIf_50 ?_
  refine lv_topi (fun v6 ev6 => ?_)
  obtain rfl : v6 = 2 := ev6.trans (by decide)
  have hPc := hP.sub (ws' := [(y0, .inr (5, [.int 4, .int 4, .ref yw0, .ref yv0, .ref yh0, .int nb0])), (yw0, .inl (cI, 4, .inl gw0)), (yv0, .inl (cI, 4, .inl gv0)), (yh0, .inl (cR, 4, .inr (.inr (.inr (.inr gh0)))))]) [4, 5, 6, 7] rfl
  have hDc := hD.sub (ws' := [(y0, .inr (5, [.int 4, .int 4, .ref yw0, .ref yv0, .ref yh0, .int nb0])), (yw0, .inl (cI, 4, .inl gw0)), (yv0, .inl (cI, 4, .inl gv0)), (yh0, .inl (cR, 4, .inr (.inr (.inr (.inr gh0)))))]) [4, 5, 6, 7] (by decide) rfl
  have hFc := va_free (wc := [(y0, .inr (5, [.int 4, .int 4, .ref yw0, .ref yv0, .ref yh0, .int nb0])), (yw0, .inl (cI, 4, .inl gw0)), (yv0, .inl (cI, 4, .inl gv0)), (yh0, .inl (cR, 4, .inr (.inr (.inr (.inr gh0)))))]) hD hS hA [4, 5, 6, 7] rfl
  have hDv := hDc.self (sz := H2.size)
  have hpre := zpre (xs' := []) (av := [.ref y0, .null, .int 0, .int 2]) hPc hK (hDc.weaken (fun _ _ _ h => h)) hZ hS hFc (fun r hr => by cases hr)
  refine va_calli (va_runS (As := [.ref y0, .null, .int 0, .int 2]) (rest := [.int 1, .int 2]) ⟨hx, hb, hml, hown, hts⟩ (k_dIn0_2 l dC dI cI cB cR cO zk y0 yw0 yv0 yh0 nb0 gw0 gv0 gh0 H2.size hgw0 hgh0) (va_cwS 4 hts gX1_depthIf_X1_depthIf rfl rfl rfl (by decide +kernel) ⟨Nat.le_of_ble_eq_true rfl, Nat.le_of_ble_eq_true rfl⟩) ⟨zblind, hpre⟩ rfl rfl hl.1 rfl (lv_room (Nat.le_of_ble_eq_true rfl)) dX1_depthIf_51 ⟨Nat.le_of_ble_eq_true rfl, Nat.le_of_ble_eq_true rfl⟩) hS (fun q _ h => hFc q h) hFc (fun r8 u t H7 locs ht hvm hw hB hz1 hk1 hS => ?_)
  obtain rfl : 1 = r8 := (show r8 = 1 from hw).symm
  obtain ⟨hP1, hK1, hD1, hz2⟩ := hB
  rw [ht] at hP1 hz2
  have hPD9 := va_join (wr := [(y1, .inr (5, [.int 4, .int 4, .ref yw1, .ref yv1, .ref yh1, .int nb1])), (yw1, .inl (cI, 4, .inl gw1)), (yv1, .inl (cI, 4, .inl gv1)), (yh1, .inl (cR, 4, .inr (.inr (.inr (.inr gh1)))))]) (w1 := [(y0, .inr (5, [.int 4, .int 4, .ref yw0, .ref yv0, .ref yh0, .int nb0])), (yw0, .inl (cI, 4, .inl gw0)), (yv0, .inl (cI, 4, .inl gv0)), (yh0, .inl (cR, 4, .inr (.inr (.inr (.inr gh0)))))]) hP hD [4, 5, 6, 7] [0, 1, 2, 3] rfl rfl (by decide) (by decide) hk1 hFc hP1 hD1
  clear hPc hDc hFc hDv hpre hP hD hP1 hK1 hD1
  obtain ⟨hP, hD⟩ := hPD9
  replace hz : s.heap.size + 0 ≤ H7.size := by omega
  clear hz2
  replace hP : va_P (dC, dI) vwCl [(y1, .inr (5, [.int 4, .int 4, .ref yw1, .ref yv1, .ref yh1, .int nb1])), (yw1, .inl (cI, 4, .inl gw1)), (yv1, .inl (cI, 4, .inl gv1)), (yh1, .inl (cR, 4, .inr (.inr (.inr (.inr gh1))))), (y0, .inr (5, [.int 4, .int 4, .ref yw0, .ref yv0, .ref yh0, .int nb0])), (yw0, .inl (cI, 4, .inl gw0)), (yv0, .inl (cI, 4, .inl gv0)), (yh0, .inl (cR, 4, .inr (.inr (.inr (.inr gh0)))))] H7 := hP
  replace hD : va_D A [(y1, .inr (5, [.int 4, .int 4, .ref yw1, .ref yv1, .ref yh1, .int nb1])), (yw1, .inl (cI, 4, .inl gw1)), (yv1, .inl (cI, 4, .inl gv1)), (yh1, .inl (cR, 4, .inr (.inr (.inr (.inr gh1))))), (y0, .inr (5, [.int 4, .int 4, .ref yw0, .ref yv0, .ref yh0, .int nb0])), (yw0, .inl (cI, 4, .inl gw0)), (yv0, .inl (cI, 4, .inl gv0)), (yh0, .inl (cR, 4, .inr (.inr (.inr (.inr gh0)))))] := hD
  refine W.widen (k := 0) (n := 0) (by omega) (by omega) ?_
  refine lv_iadd hx hb dX1_depthIf_54 ?_
  refine lv_topi (fun v9 ev9 => ?_)
  obtain rfl : v9 = 2 := ev9.trans (by decide)
  refine va_mmax (x := 2) (y := 2) hx hb (hml.trans hl.1.symm) hown (hts (.methodLink RX1 126 Lib.Math.max.name) (List.mem_cons_of_mem _ zw_728)) (hts (.static Lib.Math.max.name) (List.mem_cons_of_mem _ zw_271)) (hts (.initialized "java/lang/Math") (List.mem_cons_of_mem _ zw_58)) (hts (.code Lib.Math.max.name Lib.Math.max.code 2 (some .int)) (List.mem_cons_of_mem _ zw_272)) (Nat.le_of_ble_eq_true rfl) (Nat.le_of_ble_eq_true rfl) (Nat.le_of_ble_eq_true rfl) (Nat.le_of_ble_eq_true rfl) dX1_depthIf_55 ?_
  refine lv_topi (fun v10 ev10 => ?_)
  obtain rfl : v10 = 2 := ev10.trans (by decide)
  refine lv_istore (lv' := [(4, .int 2), (6, .ref y0), (5, .int 1), (0, .ref y1), (1, .null), (2, .int 0), (3, .int 3)]) hx hb dX1_depthIf_58 hl (by decide) rfl (fun ls hl => ?_)
  refine lv_iinc (v := 2) (lv' := [(5, .int 2), (4, .int 2), (6, .ref y0), (0, .ref y1), (1, .null), (2, .int 0), (3, .int 3)]) hx hb dX1_depthIf_60 hl (k := 2) rfl (by decide) (by decide) rfl (fun ls hl => ?_)
  refine lv_goto (tgt := 13) hx hb dX1_depthIf_63 (by decide) ?_
  refine lv_iload_n hx hb dX1_depthIf_13 rfl (lv_at hl 6 rfl) ?_
  refine lv_iconst (v := 1) hx hb dX1_depthIf_14 (by decide) ?_
  refine lv_icmp_le (tgt := 66) hx hb dX1_depthIf_15 (by decide) (fun c9 => ?_) (fun c9 => ?_)
  · exact absurd c9 (by decide)
  refine lv_iload hx hb dX1_depthIf_18 (lv_at hl 0 rfl) ?_
  refine lv_aload_n hx hb dX1_depthIf_20 rfl (lv_at hl 3 rfl) ?_
  refine va_getN (D := (dC, dI)) (ci := 5) (v := .int 4) (C := RX0) (T := TX0) (N := 6) hx hb hts hi_X1_depthIf_X0 hown hK hP 0 rfl rfl 1 (by decide) (zn3 hZ) (fun _ h9 => h9) rfl dX1_depthIf_21 ?_
  refine lv_icmp_ge (tgt := 66) hx hb dX1_depthIf_24 (by decide) (fun c9 => ?_) (fun c9 => ?_)
  · exact absurd c9 (by decide)
  refine lv_aload_n hx hb dX1_depthIf_27 rfl (lv_at hl 3 rfl) ?_
  refine va_getN (D := (dC, dI)) (ci := 5) (v := .ref yh1) (C := RX0) (T := TX0) (N := 6) hx hb hts hi_X1_depthIf_X0 hown hK hP 0 rfl rfl 4 (by decide) (zn2 hZ) (fun _ h9 => h9) rfl dX1_depthIf_28 ?_
  refine lv_iload hx hb dX1_depthIf_31 (lv_at hl 0 rfl) ?_
  refine va_aldq (D := (dC, dI)) (cl := vwCl) hx hb hK hP 3 2 rfl rfl (by unfold vp_in; decide) dX1_depthIf_33 ?_
  rw [show (2 : Int32).toNatClampNeg = 2 from by decide, hgh1 2 (by decide)]
  refine W.eq (g2 := F0 mY 34 ls [.ref y0]) rfl ?_
  refine lv_astore (lv' := [(6, .ref y0), (5, .int 2), (4, .int 2), (0, .ref y1), (1, .null), (2, .int 0), (3, .int 3)]) hx hb dX1_depthIf_34 hl (by decide) rfl (fun ls hl => ?_)
  refine lv_aload hx hb dX1_depthIf_36 (lv_at hl 0 rfl) ?_
  refine lv_ifnull hx hb dX1_depthIf_38 ?_
  refine lv_iload hx hb dX1_depthIf_41 (lv_at hl 2 rfl) ?_
  refine lv_iconst (v := 1) hx hb dX1_depthIf_43 (by decide) ?_
  refine lv_aload hx hb dX1_depthIf_44 (lv_at hl 0 rfl) ?_
  refine lv_aload_nN hx hb dX1_depthIf_46 rfl (lv_at hl 4 rfl) ?_
  refine lv_iload_n hx hb dX1_depthIf_47 rfl (lv_at hl 5 rfl) ?_
  refine lv_iload_n hx hb dX1_depthIf_48 rfl (lv_at hl 6 rfl) ?_
  refine lv_iconst (v := 1) hx hb dX1_depthIf_49 (by decide) ?_
  refine lv_isub hx hb dX1_depthIf_50 ?_
  refine lv_topi (fun v11 ev11 => ?_)
  obtain rfl : v11 = 2 := ev11.trans (by decide)
  have hPc := hP.sub (ws' := [(y0, .inr (5, [.int 4, .int 4, .ref yw0, .ref yv0, .ref yh0, .int nb0])), (yw0, .inl (cI, 4, .inl gw0)), (yv0, .inl (cI, 4, .inl gv0)), (yh0, .inl (cR, 4, .inr (.inr (.inr (.inr gh0)))))]) [4, 5, 6, 7] rfl
  have hDc := hD.sub (ws' := [(y0, .inr (5, [.int 4, .int 4, .ref yw0, .ref yv0, .ref yh0, .int nb0])), (yw0, .inl (cI, 4, .inl gw0)), (yv0, .inl (cI, 4, .inl gv0)), (yh0, .inl (cR, 4, .inr (.inr (.inr (.inr gh0)))))]) [4, 5, 6, 7] (by decide) rfl
  have hFc := va_free (wc := [(y0, .inr (5, [.int 4, .int 4, .ref yw0, .ref yv0, .ref yh0, .int nb0])), (yw0, .inl (cI, 4, .inl gw0)), (yv0, .inl (cI, 4, .inl gv0)), (yh0, .inl (cR, 4, .inr (.inr (.inr (.inr gh0)))))]) hD hS hA [4, 5, 6, 7] rfl
  have hDv := hDc.self (sz := H7.size)
  have hpre := zpre (xs' := []) (av := [.ref y0, .null, .int 0, .int 2]) hPc hK (hDc.weaken (fun _ _ _ h => h)) hZ hS hFc (fun r hr => by cases hr)
  refine va_calli (va_runS (As := [.ref y0, .null, .int 0, .int 2]) (rest := [.int 1, .int 2]) ⟨hx, hb, hml, hown, hts⟩ (k_dIn0_2 l dC dI cI cB cR cO zk y0 yw0 yv0 yh0 nb0 gw0 gv0 gh0 H7.size hgw0 hgh0) (va_cwS 4 hts gX1_depthIf_X1_depthIf rfl rfl rfl (by decide +kernel) ⟨Nat.le_of_ble_eq_true rfl, Nat.le_of_ble_eq_true rfl⟩) ⟨zblind, hpre⟩ rfl rfl hl.1 rfl (lv_room (Nat.le_of_ble_eq_true rfl)) dX1_depthIf_51 ⟨Nat.le_of_ble_eq_true rfl, Nat.le_of_ble_eq_true rfl⟩) hS (fun q _ h => hFc q h) hFc (fun r13 u t H12 locs ht hvm hw hB hz1 hk1 hS => ?_)
  obtain rfl : 1 = r13 := (show r13 = 1 from hw).symm
  obtain ⟨hP1, hK1, hD1, hz2⟩ := hB
  rw [ht] at hP1 hz2
  have hPD9 := va_join (wr := [(y1, .inr (5, [.int 4, .int 4, .ref yw1, .ref yv1, .ref yh1, .int nb1])), (yw1, .inl (cI, 4, .inl gw1)), (yv1, .inl (cI, 4, .inl gv1)), (yh1, .inl (cR, 4, .inr (.inr (.inr (.inr gh1)))))]) (w1 := [(y0, .inr (5, [.int 4, .int 4, .ref yw0, .ref yv0, .ref yh0, .int nb0])), (yw0, .inl (cI, 4, .inl gw0)), (yv0, .inl (cI, 4, .inl gv0)), (yh0, .inl (cR, 4, .inr (.inr (.inr (.inr gh0)))))]) hP hD [4, 5, 6, 7] [0, 1, 2, 3] rfl rfl (by decide) (by decide) hk1 hFc hP1 hD1
  clear hPc hDc hFc hDv hpre hP hD hP1 hK1 hD1
  obtain ⟨hP, hD⟩ := hPD9
  replace hz : s.heap.size + 0 ≤ H12.size := by omega
  clear hz2
  replace hP : va_P (dC, dI) vwCl [(y1, .inr (5, [.int 4, .int 4, .ref yw1, .ref yv1, .ref yh1, .int nb1])), (yw1, .inl (cI, 4, .inl gw1)), (yv1, .inl (cI, 4, .inl gv1)), (yh1, .inl (cR, 4, .inr (.inr (.inr (.inr gh1))))), (y0, .inr (5, [.int 4, .int 4, .ref yw0, .ref yv0, .ref yh0, .int nb0])), (yw0, .inl (cI, 4, .inl gw0)), (yv0, .inl (cI, 4, .inl gv0)), (yh0, .inl (cR, 4, .inr (.inr (.inr (.inr gh0)))))] H12 := hP
  replace hD : va_D A [(y1, .inr (5, [.int 4, .int 4, .ref yw1, .ref yv1, .ref yh1, .int nb1])), (yw1, .inl (cI, 4, .inl gw1)), (yv1, .inl (cI, 4, .inl gv1)), (yh1, .inl (cR, 4, .inr (.inr (.inr (.inr gh1))))), (y0, .inr (5, [.int 4, .int 4, .ref yw0, .ref yv0, .ref yh0, .int nb0])), (yw0, .inl (cI, 4, .inl gw0)), (yv0, .inl (cI, 4, .inl gv0)), (yh0, .inl (cR, 4, .inr (.inr (.inr (.inr gh0)))))] := hD
  refine W.widen (k := 0) (n := 0) (by omega) (by omega) ?_
  refine lv_iadd hx hb dX1_depthIf_54 ?_
  refine lv_topi (fun v14 ev14 => ?_)
  obtain rfl : v14 = 2 := ev14.trans (by decide)
  refine va_mmax (x := 2) (y := 2) hx hb (hml.trans hl.1.symm) hown (hts (.methodLink RX1 126 Lib.Math.max.name) (List.mem_cons_of_mem _ zw_728)) (hts (.static Lib.Math.max.name) (List.mem_cons_of_mem _ zw_271)) (hts (.initialized "java/lang/Math") (List.mem_cons_of_mem _ zw_58)) (hts (.code Lib.Math.max.name Lib.Math.max.code 2 (some .int)) (List.mem_cons_of_mem _ zw_272)) (Nat.le_of_ble_eq_true rfl) (Nat.le_of_ble_eq_true rfl) (Nat.le_of_ble_eq_true rfl) (Nat.le_of_ble_eq_true rfl) dX1_depthIf_55 ?_
  refine lv_topi (fun v15 ev15 => ?_)
  obtain rfl : v15 = 2 := ev15.trans (by decide)
  refine lv_istore (lv' := [(4, .int 2), (6, .ref y0), (5, .int 2), (0, .ref y1), (1, .null), (2, .int 0), (3, .int 3)]) hx hb dX1_depthIf_58 hl (by decide) rfl (fun ls hl => ?_)
  refine lv_iinc (v := 3) (lv' := [(5, .int 3), (4, .int 2), (6, .ref y0), (0, .ref y1), (1, .null), (2, .int 0), (3, .int 3)]) hx hb dX1_depthIf_60 hl (k := 2) rfl (by decide) (by decide) rfl (fun ls hl => ?_)
  refine lv_goto (tgt := 13) hx hb dX1_depthIf_63 (by decide) ?_
  refine lv_iload_n hx hb dX1_depthIf_13 rfl (lv_at hl 6 rfl) ?_
  refine lv_iconst (v := 1) hx hb dX1_depthIf_14 (by decide) ?_
  refine lv_icmp_le (tgt := 66) hx hb dX1_depthIf_15 (by decide) (fun c9 => ?_) (fun c9 => ?_)
  · exact absurd c9 (by decide)
  refine lv_iload hx hb dX1_depthIf_18 (lv_at hl 0 rfl) ?_
  refine lv_aload_n hx hb dX1_depthIf_20 rfl (lv_at hl 3 rfl) ?_
  refine va_getN (D := (dC, dI)) (ci := 5) (v := .int 4) (C := RX0) (T := TX0) (N := 6) hx hb hts hi_X1_depthIf_X0 hown hK hP 0 rfl rfl 1 (by decide) (zn3 hZ) (fun _ h9 => h9) rfl dX1_depthIf_21 ?_
  refine lv_icmp_ge (tgt := 66) hx hb dX1_depthIf_24 (by decide) (fun c9 => ?_) (fun c9 => ?_)
  · exact absurd c9 (by decide)
  refine lv_aload_n hx hb dX1_depthIf_27 rfl (lv_at hl 3 rfl) ?_
  refine va_getN (D := (dC, dI)) (ci := 5) (v := .ref yh1) (C := RX0) (T := TX0) (N := 6) hx hb hts hi_X1_depthIf_X0 hown hK hP 0 rfl rfl 4 (by decide) (zn2 hZ) (fun _ h9 => h9) rfl dX1_depthIf_28 ?_
  refine lv_iload hx hb dX1_depthIf_31 (lv_at hl 0 rfl) ?_
  refine va_aldq (D := (dC, dI)) (cl := vwCl) hx hb hK hP 3 2 rfl rfl (by unfold vp_in; decide) dX1_depthIf_33 ?_
  rw [show (3 : Int32).toNatClampNeg = 3 from by decide, hgh1 3 (by decide)]
  refine W.eq (g2 := F0 mY 34 ls [.ref y0]) rfl ?_
  refine lv_astore (lv' := [(6, .ref y0), (5, .int 3), (4, .int 2), (0, .ref y1), (1, .null), (2, .int 0), (3, .int 3)]) hx hb dX1_depthIf_34 hl (by decide) rfl (fun ls hl => ?_)
  refine lv_aload hx hb dX1_depthIf_36 (lv_at hl 0 rfl) ?_
  refine lv_ifnull hx hb dX1_depthIf_38 ?_
  refine lv_iload hx hb dX1_depthIf_41 (lv_at hl 2 rfl) ?_
  refine lv_iconst (v := 1) hx hb dX1_depthIf_43 (by decide) ?_
  refine lv_aload hx hb dX1_depthIf_44 (lv_at hl 0 rfl) ?_
  refine lv_aload_nN hx hb dX1_depthIf_46 rfl (lv_at hl 4 rfl) ?_
  refine lv_iload_n hx hb dX1_depthIf_47 rfl (lv_at hl 5 rfl) ?_
  refine lv_iload_n hx hb dX1_depthIf_48 rfl (lv_at hl 6 rfl) ?_
  refine lv_iconst (v := 1) hx hb dX1_depthIf_49 (by decide) ?_
  refine lv_isub hx hb dX1_depthIf_50 ?_
  refine lv_topi (fun v16 ev16 => ?_)
  obtain rfl : v16 = 2 := ev16.trans (by decide)
  have hPc := hP.sub (ws' := [(y0, .inr (5, [.int 4, .int 4, .ref yw0, .ref yv0, .ref yh0, .int nb0])), (yw0, .inl (cI, 4, .inl gw0)), (yv0, .inl (cI, 4, .inl gv0)), (yh0, .inl (cR, 4, .inr (.inr (.inr (.inr gh0)))))]) [4, 5, 6, 7] rfl
  have hDc := hD.sub (ws' := [(y0, .inr (5, [.int 4, .int 4, .ref yw0, .ref yv0, .ref yh0, .int nb0])), (yw0, .inl (cI, 4, .inl gw0)), (yv0, .inl (cI, 4, .inl gv0)), (yh0, .inl (cR, 4, .inr (.inr (.inr (.inr gh0)))))]) [4, 5, 6, 7] (by decide) rfl
  have hFc := va_free (wc := [(y0, .inr (5, [.int 4, .int 4, .ref yw0, .ref yv0, .ref yh0, .int nb0])), (yw0, .inl (cI, 4, .inl gw0)), (yv0, .inl (cI, 4, .inl gv0)), (yh0, .inl (cR, 4, .inr (.inr (.inr (.inr gh0)))))]) hD hS hA [4, 5, 6, 7] rfl
  have hDv := hDc.self (sz := H12.size)
  have hpre := zpre (xs' := []) (av := [.ref y0, .null, .int 0, .int 2]) hPc hK (hDc.weaken (fun _ _ _ h => h)) hZ hS hFc (fun r hr => by cases hr)
  refine va_calli (va_runS (As := [.ref y0, .null, .int 0, .int 2]) (rest := [.int 1, .int 2]) ⟨hx, hb, hml, hown, hts⟩ (k_dIn0_2 l dC dI cI cB cR cO zk y0 yw0 yv0 yh0 nb0 gw0 gv0 gh0 H12.size hgw0 hgh0) (va_cwS 4 hts gX1_depthIf_X1_depthIf rfl rfl rfl (by decide +kernel) ⟨Nat.le_of_ble_eq_true rfl, Nat.le_of_ble_eq_true rfl⟩) ⟨zblind, hpre⟩ rfl rfl hl.1 rfl (lv_room (Nat.le_of_ble_eq_true rfl)) dX1_depthIf_51 ⟨Nat.le_of_ble_eq_true rfl, Nat.le_of_ble_eq_true rfl⟩) hS (fun q _ h => hFc q h) hFc (fun r18 u t H17 locs ht hvm hw hB hz1 hk1 hS => ?_)
  obtain rfl : 1 = r18 := (show r18 = 1 from hw).symm
  obtain ⟨hP1, hK1, hD1, hz2⟩ := hB
  rw [ht] at hP1 hz2
  have hPD9 := va_join (wr := [(y1, .inr (5, [.int 4, .int 4, .ref yw1, .ref yv1, .ref yh1, .int nb1])), (yw1, .inl (cI, 4, .inl gw1)), (yv1, .inl (cI, 4, .inl gv1)), (yh1, .inl (cR, 4, .inr (.inr (.inr (.inr gh1)))))]) (w1 := [(y0, .inr (5, [.int 4, .int 4, .ref yw0, .ref yv0, .ref yh0, .int nb0])), (yw0, .inl (cI, 4, .inl gw0)), (yv0, .inl (cI, 4, .inl gv0)), (yh0, .inl (cR, 4, .inr (.inr (.inr (.inr gh0)))))]) hP hD [4, 5, 6, 7] [0, 1, 2, 3] rfl rfl (by decide) (by decide) hk1 hFc hP1 hD1
  clear hPc hDc hFc hDv hpre hP hD hP1 hK1 hD1
  obtain ⟨hP, hD⟩ := hPD9
  replace hz : s.heap.size + 0 ≤ H17.size := by omega
  clear hz2
  replace hP : va_P (dC, dI) vwCl [(y1, .inr (5, [.int 4, .int 4, .ref yw1, .ref yv1, .ref yh1, .int nb1])), (yw1, .inl (cI, 4, .inl gw1)), (yv1, .inl (cI, 4, .inl gv1)), (yh1, .inl (cR, 4, .inr (.inr (.inr (.inr gh1))))), (y0, .inr (5, [.int 4, .int 4, .ref yw0, .ref yv0, .ref yh0, .int nb0])), (yw0, .inl (cI, 4, .inl gw0)), (yv0, .inl (cI, 4, .inl gv0)), (yh0, .inl (cR, 4, .inr (.inr (.inr (.inr gh0)))))] H17 := hP
  replace hD : va_D A [(y1, .inr (5, [.int 4, .int 4, .ref yw1, .ref yv1, .ref yh1, .int nb1])), (yw1, .inl (cI, 4, .inl gw1)), (yv1, .inl (cI, 4, .inl gv1)), (yh1, .inl (cR, 4, .inr (.inr (.inr (.inr gh1))))), (y0, .inr (5, [.int 4, .int 4, .ref yw0, .ref yv0, .ref yh0, .int nb0])), (yw0, .inl (cI, 4, .inl gw0)), (yv0, .inl (cI, 4, .inl gv0)), (yh0, .inl (cR, 4, .inr (.inr (.inr (.inr gh0)))))] := hD
  refine W.widen (k := 0) (n := 0) (by omega) (by omega) ?_
  refine lv_iadd hx hb dX1_depthIf_54 ?_
  refine lv_topi (fun v19 ev19 => ?_)
  obtain rfl : v19 = 2 := ev19.trans (by decide)
  refine va_mmax (x := 2) (y := 2) hx hb (hml.trans hl.1.symm) hown (hts (.methodLink RX1 126 Lib.Math.max.name) (List.mem_cons_of_mem _ zw_728)) (hts (.static Lib.Math.max.name) (List.mem_cons_of_mem _ zw_271)) (hts (.initialized "java/lang/Math") (List.mem_cons_of_mem _ zw_58)) (hts (.code Lib.Math.max.name Lib.Math.max.code 2 (some .int)) (List.mem_cons_of_mem _ zw_272)) (Nat.le_of_ble_eq_true rfl) (Nat.le_of_ble_eq_true rfl) (Nat.le_of_ble_eq_true rfl) (Nat.le_of_ble_eq_true rfl) dX1_depthIf_55 ?_
  refine lv_topi (fun v20 ev20 => ?_)
  obtain rfl : v20 = 2 := ev20.trans (by decide)
  refine lv_istore (lv' := [(4, .int 2), (6, .ref y0), (5, .int 3), (0, .ref y1), (1, .null), (2, .int 0), (3, .int 3)]) hx hb dX1_depthIf_58 hl (by decide) rfl (fun ls hl => ?_)
  refine lv_iinc (v := 4) (lv' := [(5, .int 4), (4, .int 2), (6, .ref y0), (0, .ref y1), (1, .null), (2, .int 0), (3, .int 3)]) hx hb dX1_depthIf_60 hl (k := 2) rfl (by decide) (by decide) rfl (fun ls hl => ?_)
  refine lv_goto (tgt := 13) hx hb dX1_depthIf_63 (by decide) ?_
  refine lv_iload_n hx hb dX1_depthIf_13 rfl (lv_at hl 6 rfl) ?_
  refine lv_iconst (v := 1) hx hb dX1_depthIf_14 (by decide) ?_
  refine lv_icmp_le (tgt := 66) hx hb dX1_depthIf_15 (by decide) (fun c9 => ?_) (fun c9 => ?_)
  · exact absurd c9 (by decide)
  refine lv_iload hx hb dX1_depthIf_18 (lv_at hl 0 rfl) ?_
  refine lv_aload_n hx hb dX1_depthIf_20 rfl (lv_at hl 3 rfl) ?_
  refine va_getN (D := (dC, dI)) (ci := 5) (v := .int 4) (C := RX0) (T := TX0) (N := 6) hx hb hts hi_X1_depthIf_X0 hown hK hP 0 rfl rfl 1 (by decide) (zn3 hZ) (fun _ h9 => h9) rfl dX1_depthIf_21 ?_
  refine lv_icmp_ge (tgt := 66) hx hb dX1_depthIf_24 (by decide) (fun c9 => ?_) (fun c9 => ?_)
  rotate_left
  · exact absurd (by decide) c9
  refine lv_iload hx hb dX1_depthIf_66 (lv_at hl 1 rfl) ?_
  have hP9 := hP.sub (ws' := [(y0, .inr (5, [.int 4, .int 4, .ref yw0, .ref yv0, .ref yh0, .int nb0])), (yw0, .inl (cI, 4, .inl gw0)), (yv0, .inl (cI, 4, .inl gv0)), (yh0, .inl (cR, 4, .inr (.inr (.inr (.inr gh0))))), (y1, .inr (5, [.int 4, .int 4, .ref yw1, .ref yv1, .ref yh1, .int nb1])), (yw1, .inl (cI, 4, .inl gw1)), (yv1, .inl (cI, 4, .inl gv1)), (yh1, .inl (cR, 4, .inr (.inr (.inr (.inr gh1)))))]) [4, 5, 6, 7, 0, 1, 2, 3] rfl
  have hD9 := hD.sub (ws' := [(y0, .inr (5, [.int 4, .int 4, .ref yw0, .ref yv0, .ref yh0, .int nb0])), (yw0, .inl (cI, 4, .inl gw0)), (yv0, .inl (cI, 4, .inl gv0)), (yh0, .inl (cR, 4, .inr (.inr (.inr (.inr gh0))))), (y1, .inr (5, [.int 4, .int 4, .ref yw1, .ref yv1, .ref yh1, .int nb1])), (yw1, .inl (cI, 4, .inl gw1)), (yv1, .inl (cI, 4, .inl gv1)), (yh1, .inl (cR, 4, .inr (.inr (.inr (.inr gh1)))))]) [4, 5, 6, 7, 0, 1, 2, 3] (by decide) rfl
  exact W.iret (v := 2) hx hb hr (fun t ht hW => ⟨⟨_, (), rfl, rfl, ⟨by rw [ht]; exact hP9, va_K.moved hW.alike hK, hD9, by rw [ht]; exact hz⟩⟩, hS.F ht⟩) hS.2.2 dX1_depthIf_68

set_option maxHeartbeats 4000000 in
set_option maxRecDepth 100000 in
theorem k_dIn2_4 (l : Launch) (dC : Nat → ClassId) (dI : Nat → Nat → Nat) (cI cB cR cO : ClassId) (zk : Nat → Nat) (y0 yw0 yv0 yh0 y1 yw1 yv1 yh1 y2 yw2 yv2 yh2 : Nat) (nb0 nb1 nb2 : Int32) (gw0 gv0 gw1 gv1 gw2 gv2 : Nat → Int32) (gh0 gh1 gh2 : Nat → Option Nat) (sz : Nat) (hgw0 : ∀ i, i < 4 → gw0 i = 0) (hgh0 : ∀ i, i < 4 → gh0 i = none) (hgh1 : ∀ i, i < 4 → gh1 i = some y0) (hgh2 : ∀ i, i < 4 → gh2 i = some y1) : Met l yX1_depthIf wsX1_depthIf ({ frames := 2, cells := 0, slots := 0, locals := 66 }) (va_Pc [.ref y2, .null, .int 0, .int 4] (zPre (dC, dI) (zT cI cB cR cO) zk [] [(y0, .inr (5, [.int 4, .int 4, .ref yw0, .ref yv0, .ref yh0, .int nb0])), (yw0, .inl (cI, 4, .inl gw0)), (yv0, .inl (cI, 4, .inl gv0)), (yh0, .inl (cR, 4, .inr (.inr (.inr (.inr gh0))))), (y1, .inr (5, [.int 4, .int 4, .ref yw1, .ref yv1, .ref yh1, .int nb1])), (yw1, .inl (cI, 4, .inl gw1)), (yv1, .inl (cI, 4, .inl gv1)), (yh1, .inl (cR, 4, .inr (.inr (.inr (.inr gh1))))), (y2, .inr (5, [.int 4, .int 4, .ref yw2, .ref yv2, .ref yh2, .int nb2])), (yw2, .inl (cI, 4, .inl gw2)), (yv2, .inl (cI, 4, .inl gv2)), (yh2, .inl (cR, 4, .inr (.inr (.inr (.inr gh2)))))] sz)) (va_Qi (fun r (_ : Unit) => r = 3) (fun _ t => zEnd (dC, dI) (zT cI cB cR cO) (va_A [(y0, .inr (5, [.int 4, .int 4, .ref yw0, .ref yv0, .ref yh0, .int nb0])), (yw0, .inl (cI, 4, .inl gw0)), (yv0, .inl (cI, 4, .inl gv0)), (yh0, .inl (cR, 4, .inr (.inr (.inr (.inr gh0))))), (y1, .inr (5, [.int 4, .int 4, .ref yw1, .ref yv1, .ref yh1, .int nb1])), (yw1, .inl (cI, 4, .inl gw1)), (yv1, .inl (cI, 4, .inl gv1)), (yh1, .inl (cR, 4, .inr (.inr (.inr (.inr gh1))))), (y2, .inr (5, [.int 4, .int 4, .ref yw2, .ref yv2, .ref yh2, .int nb2])), (yw2, .inl (cI, 4, .inl gw2)), (yv2, .inl (cI, 4, .inl gv2)), (yh2, .inl (cR, 4, .inr (.inr (.inr (.inr gh2)))))] sz) [(y0, .inr (5, [.int 4, .int 4, .ref yw0, .ref yv0, .ref yh0, .int nb0])), (yw0, .inl (cI, 4, .inl gw0)), (yv0, .inl (cI, 4, .inl gv0)), (yh0, .inl (cR, 4, .inr (.inr (.inr (.inr gh0))))), (y1, .inr (5, [.int 4, .int 4, .ref yw1, .ref yv1, .ref yh1, .int nb1])), (yw1, .inl (cI, 4, .inl gw1)), (yv1, .inl (cI, 4, .inl gv1)), (yh1, .inl (cR, 4, .inr (.inr (.inr (.inr gh1))))), (y2, .inr (5, [.int 4, .int 4, .ref yw2, .ref yv2, .ref yh2, .int nb2])), (yw2, .inl (cI, 4, .inl gw2)), (yv2, .inl (cI, 4, .inl gv2)), (yh2, .inl (cR, 4, .inr (.inr (.inr (.inr gh2)))))] sz 0 t) (va_A [(y0, .inr (5, [.int 4, .int 4, .ref yw0, .ref yv0, .ref yh0, .int nb0])), (yw0, .inl (cI, 4, .inl gw0)), (yv0, .inl (cI, 4, .inl gv0)), (yh0, .inl (cR, 4, .inr (.inr (.inr (.inr gh0))))), (y1, .inr (5, [.int 4, .int 4, .ref yw1, .ref yv1, .ref yh1, .int nb1])), (yw1, .inl (cI, 4, .inl gw1)), (yv1, .inl (cI, 4, .inl gv1)), (yh1, .inl (cR, 4, .inr (.inr (.inr (.inr gh1))))), (y2, .inr (5, [.int 4, .int 4, .ref yw2, .ref yv2, .ref yh2, .int nb2])), (yw2, .inl (cI, 4, .inl gw2)), (yv2, .inl (cI, 4, .inl gv2)), (yh2, .inl (cR, 4, .inr (.inr (.inr (.inr gh2)))))] sz)) 0 0 (va_A [(y0, .inr (5, [.int 4, .int 4, .ref yw0, .ref yv0, .ref yh0, .int nb0])), (yw0, .inl (cI, 4, .inl gw0)), (yv0, .inl (cI, 4, .inl gv0)), (yh0, .inl (cR, 4, .inr (.inr (.inr (.inr gh0))))), (y1, .inr (5, [.int 4, .int 4, .ref yw1, .ref yv1, .ref yh1, .int nb1])), (yw1, .inl (cI, 4, .inl gw1)), (yv1, .inl (cI, 4, .inl gv1)), (yh1, .inl (cR, 4, .inr (.inr (.inr (.inr gh1))))), (y2, .inr (5, [.int 4, .int 4, .ref yw2, .ref yv2, .ref yh2, .int nb2])), (yw2, .inl (cI, 4, .inl gw2)), (yv2, .inl (cI, 4, .inl gv2)), (yh2, .inl (cR, 4, .inr (.inr (.inr (.inr gh2)))))] sz) := by
  refine Met.ofW (cc := cX1_depthIf) (maxL := 7) (ret := (some .int)) (by decide) rfl ?_
  intro p e s mY args below meth c s₁ B hml hv
  obtain ⟨rfl, hsz, hP, hK, hD0, hZ⟩ := hv
  have hx := B.exec
  have hb := B.bytes
  have hr := B.returns
  have hts := atoms_spec (ws := wsX1_depthIf) B.pre
  have hown : s.vm.findClass RX1 = some mY.cls := findClass_of_methodNamed B.named
  have hlocks := B.notSynchronized
  subst hsz
  have hD := hD0.self (sz := s.heap.size)
  generalize hAe : va_A [(y0, .inr (5, [.int 4, .int 4, .ref yw0, .ref yv0, .ref yh0, .int nb0])), (yw0, .inl (cI, 4, .inl gw0)), (yv0, .inl (cI, 4, .inl gv0)), (yh0, .inl (cR, 4, .inr (.inr (.inr (.inr gh0))))), (y1, .inr (5, [.int 4, .int 4, .ref yw1, .ref yv1, .ref yh1, .int nb1])), (yw1, .inl (cI, 4, .inl gw1)), (yv1, .inl (cI, 4, .inl gv1)), (yh1, .inl (cR, 4, .inr (.inr (.inr (.inr gh1))))), (y2, .inr (5, [.int 4, .int 4, .ref yw2, .ref yv2, .ref yh2, .int nb2])), (yw2, .inl (cI, 4, .inl gw2)), (yv2, .inl (cI, 4, .inl gv2)), (yh2, .inl (cR, 4, .inr (.inr (.inr (.inr gh2)))))] s.heap.size = A at hD hZ ⊢
  have hA : ∀ q : Nat, s.heap.size ≤ q → A q := fun q h => by rw [← hAe]; exact Or.inr h
  have hS : va_S A s.heap s.heap [] := va_S.rf
  have hz : s.heap.size + 0 ≤ s.heap.size := Nat.le_refl _
  have hl := lv_entry ([.ref y2, .null, .int 0, .int 4]) (n := 7) (Nat.le_of_ble_eq_true rfl)
  rw [lg_entry_eq]
  generalize (lg_sl ([.ref y2, .null, .int 0, .int 4]) ++ List.replicate (7 - (lg_sl ([.ref y2, .null, .int 0, .int 4])).length) Slot.unset).toArray = ls at hl ⊢
  have hl : lv_has ls 7 [(0, .ref y2), (1, .null), (2, .int 0), (3, .int 4)] := hl
  have hP : va_P (dC, dI) vwCl [(y0, .inr (5, [.int 4, .int 4, .ref yw0, .ref yv0, .ref yh0, .int nb0])), (yw0, .inl (cI, 4, .inl gw0)), (yv0, .inl (cI, 4, .inl gv0)), (yh0, .inl (cR, 4, .inr (.inr (.inr (.inr gh0))))), (y1, .inr (5, [.int 4, .int 4, .ref yw1, .ref yv1, .ref yh1, .int nb1])), (yw1, .inl (cI, 4, .inl gw1)), (yv1, .inl (cI, 4, .inl gv1)), (yh1, .inl (cR, 4, .inr (.inr (.inr (.inr gh1))))), (y2, .inr (5, [.int 4, .int 4, .ref yw2, .ref yv2, .ref yh2, .int nb2])), (yw2, .inl (cI, 4, .inl gw2)), (yv2, .inl (cI, 4, .inl gv2)), (yh2, .inl (cR, 4, .inr (.inr (.inr (.inr gh2)))))] s.heap := hP
  have hD : va_D A [(y0, .inr (5, [.int 4, .int 4, .ref yw0, .ref yv0, .ref yh0, .int nb0])), (yw0, .inl (cI, 4, .inl gw0)), (yv0, .inl (cI, 4, .inl gv0)), (yh0, .inl (cR, 4, .inr (.inr (.inr (.inr gh0))))), (y1, .inr (5, [.int 4, .int 4, .ref yw1, .ref yv1, .ref yh1, .int nb1])), (yw1, .inl (cI, 4, .inl gw1)), (yv1, .inl (cI, 4, .inl gv1)), (yh1, .inl (cR, 4, .inr (.inr (.inr (.inr gh1))))), (y2, .inr (5, [.int 4, .int 4, .ref yw2, .ref yv2, .ref yh2, .int nb2])), (yw2, .inl (cI, 4, .inl gw2)), (yv2, .inl (cI, 4, .inl gv2)), (yh2, .inl (cR, 4, .inr (.inr (.inr (.inr gh2)))))] := hD
  refine lv_aload_n hx hb dX1_depthIf_0 rfl (lv_at hl 0 rfl) ?_
  refine lv_aload_nN hx hb dX1_depthIf_1 rfl (lv_at hl 1 rfl) ?_
  refine lv_acmp_ne (rx := (some y2)) (ry := none) (tgt := 7) hx hb dX1_depthIf_2 (by decide) (fun c9 => ?_) (fun c9 => ?_)
  rotate_left
  · exact absurd c9 (by intro h9; cases h9)
  refine lv_iconst (v := 1) hx hb dX1_depthIf_7 (by decide) ?_
  refine lv_istore (lv' := [(4, .int 1), (0, .ref y2), (1, .null), (2, .int 0), (3, .int 4)]) hx hb dX1_depthIf_8 hl (by decide) rfl (fun ls hl => ?_)
  refine lv_iconst (v := 0) hx hb dX1_depthIf_10 (by decide) ?_
  refine lv_istore (lv' := [(5, .int 0), (4, .int 1), (0, .ref y2), (1, .null), (2, .int 0), (3, .int 4)]) hx hb dX1_depthIf_11 hl (by decide) rfl (fun ls hl => ?_)
  refine lv_iload_n hx hb dX1_depthIf_13 rfl (lv_at hl 5 rfl) ?_
  refine lv_iconst (v := 1) hx hb dX1_depthIf_14 (by decide) ?_
  refine lv_icmp_le (tgt := 66) hx hb dX1_depthIf_15 (by decide) (fun c9 => ?_) (fun c9 => ?_)
  · exact absurd c9 (by decide)
  refine lv_iload hx hb dX1_depthIf_18 (lv_at hl 0 rfl) ?_
  refine lv_aload_n hx hb dX1_depthIf_20 rfl (lv_at hl 2 rfl) ?_
  refine va_getN (D := (dC, dI)) (ci := 5) (v := .int 4) (C := RX0) (T := TX0) (N := 6) hx hb hts hi_X1_depthIf_X0 hown hK hP 8 rfl rfl 1 (by decide) (zn3 hZ) (fun _ h9 => h9) rfl dX1_depthIf_21 ?_
  refine lv_icmp_ge (tgt := 66) hx hb dX1_depthIf_24 (by decide) (fun c9 => ?_) (fun c9 => ?_)
  · exact absurd c9 (by decide)
  refine lv_aload_n hx hb dX1_depthIf_27 rfl (lv_at hl 2 rfl) ?_
  refine va_getN (D := (dC, dI)) (ci := 5) (v := .ref yh2) (C := RX0) (T := TX0) (N := 6) hx hb hts hi_X1_depthIf_X0 hown hK hP 8 rfl rfl 4 (by decide) (zn2 hZ) (fun _ h9 => h9) rfl dX1_depthIf_28 ?_
  refine lv_iload hx hb dX1_depthIf_31 (lv_at hl 0 rfl) ?_
  refine va_aldq (D := (dC, dI)) (cl := vwCl) hx hb hK hP 11 2 rfl rfl (by unfold vp_in; decide) dX1_depthIf_33 ?_
  rw [show (0 : Int32).toNatClampNeg = 0 from by decide, hgh2 0 (by decide)]
  refine W.eq (g2 := F0 mY 34 ls [.ref y1]) rfl ?_
  refine lv_astore (lv' := [(6, .ref y1), (5, .int 0), (4, .int 1), (0, .ref y2), (1, .null), (2, .int 0), (3, .int 4)]) hx hb dX1_depthIf_34 hl (by decide) rfl (fun ls hl => ?_)
  refine lv_aload hx hb dX1_depthIf_36 (lv_at hl 0 rfl) ?_
  refine lv_ifnull hx hb dX1_depthIf_38 ?_
  refine lv_iload hx hb dX1_depthIf_41 (lv_at hl 2 rfl) ?_
  refine lv_iconst (v := 1) hx hb dX1_depthIf_43 (by decide) ?_
  refine lv_aload hx hb dX1_depthIf_44 (lv_at hl 0 rfl) ?_
  refine lv_aload_nN hx hb dX1_depthIf_46 rfl (lv_at hl 4 rfl) ?_
  refine lv_iload_n hx hb dX1_depthIf_47 rfl (lv_at hl 5 rfl) ?_
  refine lv_iload_n hx hb dX1_depthIf_48 rfl (lv_at hl 6 rfl) ?_
  refine lv_iconst (v := 1) hx hb dX1_depthIf_49 (by decide) ?_
  refine lv_isub hx hb dX1_depthIf_50 ?_
  refine lv_topi (fun v1 ev1 => ?_)
  obtain rfl : v1 = 3 := ev1.trans (by decide)
  have hPc := hP.sub (ws' := [(y0, .inr (5, [.int 4, .int 4, .ref yw0, .ref yv0, .ref yh0, .int nb0])), (yw0, .inl (cI, 4, .inl gw0)), (yv0, .inl (cI, 4, .inl gv0)), (yh0, .inl (cR, 4, .inr (.inr (.inr (.inr gh0))))), (y1, .inr (5, [.int 4, .int 4, .ref yw1, .ref yv1, .ref yh1, .int nb1])), (yw1, .inl (cI, 4, .inl gw1)), (yv1, .inl (cI, 4, .inl gv1)), (yh1, .inl (cR, 4, .inr (.inr (.inr (.inr gh1)))))]) [0, 1, 2, 3, 4, 5, 6, 7] rfl
  have hDc := hD.sub (ws' := [(y0, .inr (5, [.int 4, .int 4, .ref yw0, .ref yv0, .ref yh0, .int nb0])), (yw0, .inl (cI, 4, .inl gw0)), (yv0, .inl (cI, 4, .inl gv0)), (yh0, .inl (cR, 4, .inr (.inr (.inr (.inr gh0))))), (y1, .inr (5, [.int 4, .int 4, .ref yw1, .ref yv1, .ref yh1, .int nb1])), (yw1, .inl (cI, 4, .inl gw1)), (yv1, .inl (cI, 4, .inl gv1)), (yh1, .inl (cR, 4, .inr (.inr (.inr (.inr gh1)))))]) [0, 1, 2, 3, 4, 5, 6, 7] (by decide) rfl
  have hFc := va_free (wc := [(y0, .inr (5, [.int 4, .int 4, .ref yw0, .ref yv0, .ref yh0, .int nb0])), (yw0, .inl (cI, 4, .inl gw0)), (yv0, .inl (cI, 4, .inl gv0)), (yh0, .inl (cR, 4, .inr (.inr (.inr (.inr gh0))))), (y1, .inr (5, [.int 4, .int 4, .ref yw1, .ref yv1, .ref yh1, .int nb1])), (yw1, .inl (cI, 4, .inl gw1)), (yv1, .inl (cI, 4, .inl gv1)), (yh1, .inl (cR, 4, .inr (.inr (.inr (.inr gh1)))))]) hD hS hA [0, 1, 2, 3, 4, 5, 6, 7] rfl
  have hDv := hDc.self (sz := s.heap.size)
  have hpre := zpre (xs' := []) (av := [.ref y1, .null, .int 0, .int 3]) hPc hK (hDc.weaken (fun _ _ _ h => h)) hZ hS hFc (fun r hr => by cases hr)
  refine va_calli (va_runS (As := [.ref y1, .null, .int 0, .int 3]) (rest := [.int 1, .int 1]) ⟨hx, hb, hml, hown, hts⟩ (k_dIn1_3 l dC dI cI cB cR cO zk y0 yw0 yv0 yh0 y1 yw1 yv1 yh1 nb0 nb1 gw0 gv0 gw1 gv1 gh0 gh1 s.heap.size hgw0 hgh0 hgh1) (va_cwS 4 hts gX1_depthIf_X1_depthIf rfl rfl rfl (by decide +kernel) ⟨Nat.le_of_ble_eq_true rfl, Nat.le_of_ble_eq_true rfl⟩) ⟨zblind, hpre⟩ rfl rfl hl.1 rfl (lv_room (Nat.le_of_ble_eq_true rfl)) dX1_depthIf_51 ⟨Nat.le_of_ble_eq_true rfl, Nat.le_of_ble_eq_true rfl⟩) hS (fun q _ h => hFc q h) hFc (fun r3 u t H2 locs ht hvm hw hB hz1 hk1 hS => ?_)
  obtain rfl : 2 = r3 := (show r3 = 2 from hw).symm
  obtain ⟨hP1, hK1, hD1, hz2⟩ := hB
  rw [ht] at hP1 hz2
  have hPD9 := va_join (wr := [(y2, .inr (5, [.int 4, .int 4, .ref yw2, .ref yv2, .ref yh2, .int nb2])), (yw2, .inl (cI, 4, .inl gw2)), (yv2, .inl (cI, 4, .inl gv2)), (yh2, .inl (cR, 4, .inr (.inr (.inr (.inr gh2)))))]) (w1 := [(y0, .inr (5, [.int 4, .int 4, .ref yw0, .ref yv0, .ref yh0, .int nb0])), (yw0, .inl (cI, 4, .inl gw0)), (yv0, .inl (cI, 4, .inl gv0)), (yh0, .inl (cR, 4, .inr (.inr (.inr (.inr gh0))))), (y1, .inr (5, [.int 4, .int 4, .ref yw1, .ref yv1, .ref yh1, .int nb1])), (yw1, .inl (cI, 4, .inl gw1)), (yv1, .inl (cI, 4, .inl gv1)), (yh1, .inl (cR, 4, .inr (.inr (.inr (.inr gh1)))))]) hP hD [0, 1, 2, 3, 4, 5, 6, 7] [8, 9, 10, 11] rfl rfl (by decide) (by decide) hk1 hFc hP1 hD1
  clear hPc hDc hFc hDv hpre hP hD hP1 hK1 hD1
  obtain ⟨hP, hD⟩ := hPD9
  replace hz : s.heap.size + 0 ≤ H2.size := by omega
  clear hz2
  replace hP : va_P (dC, dI) vwCl [(y2, .inr (5, [.int 4, .int 4, .ref yw2, .ref yv2, .ref yh2, .int nb2])), (yw2, .inl (cI, 4, .inl gw2)), (yv2, .inl (cI, 4, .inl gv2)), (yh2, .inl (cR, 4, .inr (.inr (.inr (.inr gh2))))), (y0, .inr (5, [.int 4, .int 4, .ref yw0, .ref yv0, .ref yh0, .int nb0])), (yw0, .inl (cI, 4, .inl gw0)), (yv0, .inl (cI, 4, .inl gv0)), (yh0, .inl (cR, 4, .inr (.inr (.inr (.inr gh0))))), (y1, .inr (5, [.int 4, .int 4, .ref yw1, .ref yv1, .ref yh1, .int nb1])), (yw1, .inl (cI, 4, .inl gw1)), (yv1, .inl (cI, 4, .inl gv1)), (yh1, .inl (cR, 4, .inr (.inr (.inr (.inr gh1)))))] H2 := hP
  replace hD : va_D A [(y2, .inr (5, [.int 4, .int 4, .ref yw2, .ref yv2, .ref yh2, .int nb2])), (yw2, .inl (cI, 4, .inl gw2)), (yv2, .inl (cI, 4, .inl gv2)), (yh2, .inl (cR, 4, .inr (.inr (.inr (.inr gh2))))), (y0, .inr (5, [.int 4, .int 4, .ref yw0, .ref yv0, .ref yh0, .int nb0])), (yw0, .inl (cI, 4, .inl gw0)), (yv0, .inl (cI, 4, .inl gv0)), (yh0, .inl (cR, 4, .inr (.inr (.inr (.inr gh0))))), (y1, .inr (5, [.int 4, .int 4, .ref yw1, .ref yv1, .ref yh1, .int nb1])), (yw1, .inl (cI, 4, .inl gw1)), (yv1, .inl (cI, 4, .inl gv1)), (yh1, .inl (cR, 4, .inr (.inr (.inr (.inr gh1)))))] := hD
  refine W.widen (k := 0) (n := 0) (by omega) (by omega) ?_
  refine lv_iadd hx hb dX1_depthIf_54 ?_
  refine lv_topi (fun v4 ev4 => ?_)
  obtain rfl : v4 = 3 := ev4.trans (by decide)
  refine va_mmax (x := 1) (y := 3) hx hb (hml.trans hl.1.symm) hown (hts (.methodLink RX1 126 Lib.Math.max.name) (List.mem_cons_of_mem _ zw_728)) (hts (.static Lib.Math.max.name) (List.mem_cons_of_mem _ zw_271)) (hts (.initialized "java/lang/Math") (List.mem_cons_of_mem _ zw_58)) (hts (.code Lib.Math.max.name Lib.Math.max.code 2 (some .int)) (List.mem_cons_of_mem _ zw_272)) (Nat.le_of_ble_eq_true rfl) (Nat.le_of_ble_eq_true rfl) (Nat.le_of_ble_eq_true rfl) (Nat.le_of_ble_eq_true rfl) dX1_depthIf_55 ?_
  refine lv_topi (fun v5 ev5 => ?_)
  obtain rfl : v5 = 3 := ev5.trans (by decide)
  refine lv_istore (lv' := [(4, .int 3), (6, .ref y1), (5, .int 0), (0, .ref y2), (1, .null), (2, .int 0), (3, .int 4)]) hx hb dX1_depthIf_58 hl (by decide) rfl (fun ls hl => ?_)
  refine lv_iinc (v := 1) (lv' := [(5, .int 1), (4, .int 3), (6, .ref y1), (0, .ref y2), (1, .null), (2, .int 0), (3, .int 4)]) hx hb dX1_depthIf_60 hl (k := 2) rfl (by decide) (by decide) rfl (fun ls hl => ?_)
  refine lv_goto (tgt := 13) hx hb dX1_depthIf_63 (by decide) ?_
  refine lv_iload_n hx hb dX1_depthIf_13 rfl (lv_at hl 6 rfl) ?_
  refine lv_iconst (v := 1) hx hb dX1_depthIf_14 (by decide) ?_
  refine lv_icmp_le (tgt := 66) hx hb dX1_depthIf_15 (by decide) (fun c9 => ?_) (fun c9 => ?_)
  · exact absurd c9 (by decide)
  refine lv_iload hx hb dX1_depthIf_18 (lv_at hl 0 rfl) ?_
  refine lv_aload_n hx hb dX1_depthIf_20 rfl (lv_at hl 3 rfl) ?_
  refine va_getN (D := (dC, dI)) (ci := 5) (v := .int 4) (C := RX0) (T := TX0) (N := 6) hx hb hts hi_X1_depthIf_X0 hown hK hP 0 rfl rfl 1 (by decide) (zn3 hZ) (fun _ h9 => h9) rfl dX1_depthIf_21 ?_
  refine lv_icmp_ge (tgt := 66) hx hb dX1_depthIf_24 (by decide) (fun c9 => ?_) (fun c9 => ?_)
  · exact absurd c9 (by decide)
  refine lv_aload_n hx hb dX1_depthIf_27 rfl (lv_at hl 3 rfl) ?_
  refine va_getN (D := (dC, dI)) (ci := 5) (v := .ref yh2) (C := RX0) (T := TX0) (N := 6) hx hb hts hi_X1_depthIf_X0 hown hK hP 0 rfl rfl 4 (by decide) (zn2 hZ) (fun _ h9 => h9) rfl dX1_depthIf_28 ?_
  refine lv_iload hx hb dX1_depthIf_31 (lv_at hl 0 rfl) ?_
  refine va_aldq (D := (dC, dI)) (cl := vwCl) hx hb hK hP 3 2 rfl rfl (by unfold vp_in; decide) dX1_depthIf_33 ?_
  rw [show (1 : Int32).toNatClampNeg = 1 from by decide, hgh2 1 (by decide)]
  refine W.eq (g2 := F0 mY 34 ls [.ref y1]) rfl ?_
  refine lv_astore (lv' := [(6, .ref y1), (5, .int 1), (4, .int 3), (0, .ref y2), (1, .null), (2, .int 0), (3, .int 4)]) hx hb dX1_depthIf_34 hl (by decide) rfl (fun ls hl => ?_)
  refine lv_aload hx hb dX1_depthIf_36 (lv_at hl 0 rfl) ?_
  refine lv_ifnull hx hb dX1_depthIf_38 ?_
  refine lv_iload hx hb dX1_depthIf_41 (lv_at hl 2 rfl) ?_
  refine lv_iconst (v := 1) hx hb dX1_depthIf_43 (by decide) ?_
  refine lv_aload hx hb dX1_depthIf_44 (lv_at hl 0 rfl) ?_
  refine lv_aload_nN hx hb dX1_depthIf_46 rfl (lv_at hl 4 rfl) ?_
  refine lv_iload_n hx hb dX1_depthIf_47 rfl (lv_at hl 5 rfl) ?_
  refine lv_iload_n hx hb dX1_depthIf_48 rfl (lv_at hl 6 rfl) ?_
  refine lv_iconst (v := 1) hx hb dX1_depthIf_49 (by decide) ?_
  refine lv_isub hx hb dX1_depthIf_50 ?_
  refine lv_topi (fun v6 ev6 => ?_)
  obtain rfl : v6 = 3 := ev6.trans (by decide)
  have hPc := hP.sub (ws' := [(y0, .inr (5, [.int 4, .int 4, .ref yw0, .ref yv0, .ref yh0, .int nb0])), (yw0, .inl (cI, 4, .inl gw0)), (yv0, .inl (cI, 4, .inl gv0)), (yh0, .inl (cR, 4, .inr (.inr (.inr (.inr gh0))))), (y1, .inr (5, [.int 4, .int 4, .ref yw1, .ref yv1, .ref yh1, .int nb1])), (yw1, .inl (cI, 4, .inl gw1)), (yv1, .inl (cI, 4, .inl gv1)), (yh1, .inl (cR, 4, .inr (.inr (.inr (.inr gh1)))))]) [4, 5, 6, 7, 8, 9, 10, 11] rfl
  have hDc := hD.sub (ws' := [(y0, .inr (5, [.int 4, .int 4, .ref yw0, .ref yv0, .ref yh0, .int nb0])), (yw0, .inl (cI, 4, .inl gw0)), (yv0, .inl (cI, 4, .inl gv0)), (yh0, .inl (cR, 4, .inr (.inr (.inr (.inr gh0))))), (y1, .inr (5, [.int 4, .int 4, .ref yw1, .ref yv1, .ref yh1, .int nb1])), (yw1, .inl (cI, 4, .inl gw1)), (yv1, .inl (cI, 4, .inl gv1)), (yh1, .inl (cR, 4, .inr (.inr (.inr (.inr gh1)))))]) [4, 5, 6, 7, 8, 9, 10, 11] (by decide) rfl
  have hFc := va_free (wc := [(y0, .inr (5, [.int 4, .int 4, .ref yw0, .ref yv0, .ref yh0, .int nb0])), (yw0, .inl (cI, 4, .inl gw0)), (yv0, .inl (cI, 4, .inl gv0)), (yh0, .inl (cR, 4, .inr (.inr (.inr (.inr gh0))))), (y1, .inr (5, [.int 4, .int 4, .ref yw1, .ref yv1, .ref yh1, .int nb1])), (yw1, .inl (cI, 4, .inl gw1)), (yv1, .inl (cI, 4, .inl gv1)), (yh1, .inl (cR, 4, .inr (.inr (.inr (.inr gh1)))))]) hD hS hA [4, 5, 6, 7, 8, 9, 10, 11] rfl
  have hDv := hDc.self (sz := H2.size)
  have hpre := zpre (xs' := []) (av := [.ref y1, .null, .int 0, .int 3]) hPc hK (hDc.weaken (fun _ _ _ h => h)) hZ hS hFc (fun r hr => by cases hr)
  refine va_calli (va_runS (As := [.ref y1, .null, .int 0, .int 3]) (rest := [.int 1, .int 3]) ⟨hx, hb, hml, hown, hts⟩ (k_dIn1_3 l dC dI cI cB cR cO zk y0 yw0 yv0 yh0 y1 yw1 yv1 yh1 nb0 nb1 gw0 gv0 gw1 gv1 gh0 gh1 H2.size hgw0 hgh0 hgh1) (va_cwS 4 hts gX1_depthIf_X1_depthIf rfl rfl rfl (by decide +kernel) ⟨Nat.le_of_ble_eq_true rfl, Nat.le_of_ble_eq_true rfl⟩) ⟨zblind, hpre⟩ rfl rfl hl.1 rfl (lv_room (Nat.le_of_ble_eq_true rfl)) dX1_depthIf_51 ⟨Nat.le_of_ble_eq_true rfl, Nat.le_of_ble_eq_true rfl⟩) hS (fun q _ h => hFc q h) hFc (fun r8 u t H7 locs ht hvm hw hB hz1 hk1 hS => ?_)
  obtain rfl : 2 = r8 := (show r8 = 2 from hw).symm
  obtain ⟨hP1, hK1, hD1, hz2⟩ := hB
  rw [ht] at hP1 hz2
  have hPD9 := va_join (wr := [(y2, .inr (5, [.int 4, .int 4, .ref yw2, .ref yv2, .ref yh2, .int nb2])), (yw2, .inl (cI, 4, .inl gw2)), (yv2, .inl (cI, 4, .inl gv2)), (yh2, .inl (cR, 4, .inr (.inr (.inr (.inr gh2)))))]) (w1 := [(y0, .inr (5, [.int 4, .int 4, .ref yw0, .ref yv0, .ref yh0, .int nb0])), (yw0, .inl (cI, 4, .inl gw0)), (yv0, .inl (cI, 4, .inl gv0)), (yh0, .inl (cR, 4, .inr (.inr (.inr (.inr gh0))))), (y1, .inr (5, [.int 4, .int 4, .ref yw1, .ref yv1, .ref yh1, .int nb1])), (yw1, .inl (cI, 4, .inl gw1)), (yv1, .inl (cI, 4, .inl gv1)), (yh1, .inl (cR, 4, .inr (.inr (.inr (.inr gh1)))))]) hP hD [4, 5, 6, 7, 8, 9, 10, 11] [0, 1, 2, 3] rfl rfl (by decide) (by decide) hk1 hFc hP1 hD1
  clear hPc hDc hFc hDv hpre hP hD hP1 hK1 hD1
  obtain ⟨hP, hD⟩ := hPD9
  replace hz : s.heap.size + 0 ≤ H7.size := by omega
  clear hz2
  replace hP : va_P (dC, dI) vwCl [(y2, .inr (5, [.int 4, .int 4, .ref yw2, .ref yv2, .ref yh2, .int nb2])), (yw2, .inl (cI, 4, .inl gw2)), (yv2, .inl (cI, 4, .inl gv2)), (yh2, .inl (cR, 4, .inr (.inr (.inr (.inr gh2))))), (y0, .inr (5, [.int 4, .int 4, .ref yw0, .ref yv0, .ref yh0, .int nb0])), (yw0, .inl (cI, 4, .inl gw0)), (yv0, .inl (cI, 4, .inl gv0)), (yh0, .inl (cR, 4, .inr (.inr (.inr (.inr gh0))))), (y1, .inr (5, [.int 4, .int 4, .ref yw1, .ref yv1, .ref yh1, .int nb1])), (yw1, .inl (cI, 4, .inl gw1)), (yv1, .inl (cI, 4, .inl gv1)), (yh1, .inl (cR, 4, .inr (.inr (.inr (.inr gh1)))))] H7 := hP
  replace hD : va_D A [(y2, .inr (5, [.int 4, .int 4, .ref yw2, .ref yv2, .ref yh2, .int nb2])), (yw2, .inl (cI, 4, .inl gw2)), (yv2, .inl (cI, 4, .inl gv2)), (yh2, .inl (cR, 4, .inr (.inr (.inr (.inr gh2))))), (y0, .inr (5, [.int 4, .int 4, .ref yw0, .ref yv0, .ref yh0, .int nb0])), (yw0, .inl (cI, 4, .inl gw0)), (yv0, .inl (cI, 4, .inl gv0)), (yh0, .inl (cR, 4, .inr (.inr (.inr (.inr gh0))))), (y1, .inr (5, [.int 4, .int 4, .ref yw1, .ref yv1, .ref yh1, .int nb1])), (yw1, .inl (cI, 4, .inl gw1)), (yv1, .inl (cI, 4, .inl gv1)), (yh1, .inl (cR, 4, .inr (.inr (.inr (.inr gh1)))))] := hD
  refine W.widen (k := 0) (n := 0) (by omega) (by omega) ?_
  refine lv_iadd hx hb dX1_depthIf_54 ?_
  refine lv_topi (fun v9 ev9 => ?_)
  obtain rfl : v9 = 3 := ev9.trans (by decide)
  refine va_mmax (x := 3) (y := 3) hx hb (hml.trans hl.1.symm) hown (hts (.methodLink RX1 126 Lib.Math.max.name) (List.mem_cons_of_mem _ zw_728)) (hts (.static Lib.Math.max.name) (List.mem_cons_of_mem _ zw_271)) (hts (.initialized "java/lang/Math") (List.mem_cons_of_mem _ zw_58)) (hts (.code Lib.Math.max.name Lib.Math.max.code 2 (some .int)) (List.mem_cons_of_mem _ zw_272)) (Nat.le_of_ble_eq_true rfl) (Nat.le_of_ble_eq_true rfl) (Nat.le_of_ble_eq_true rfl) (Nat.le_of_ble_eq_true rfl) dX1_depthIf_55 ?_
  refine lv_topi (fun v10 ev10 => ?_)
  obtain rfl : v10 = 3 := ev10.trans (by decide)
  refine lv_istore (lv' := [(4, .int 3), (6, .ref y1), (5, .int 1), (0, .ref y2), (1, .null), (2, .int 0), (3, .int 4)]) hx hb dX1_depthIf_58 hl (by decide) rfl (fun ls hl => ?_)
  refine lv_iinc (v := 2) (lv' := [(5, .int 2), (4, .int 3), (6, .ref y1), (0, .ref y2), (1, .null), (2, .int 0), (3, .int 4)]) hx hb dX1_depthIf_60 hl (k := 2) rfl (by decide) (by decide) rfl (fun ls hl => ?_)
  refine lv_goto (tgt := 13) hx hb dX1_depthIf_63 (by decide) ?_
  refine lv_iload_n hx hb dX1_depthIf_13 rfl (lv_at hl 6 rfl) ?_
  refine lv_iconst (v := 1) hx hb dX1_depthIf_14 (by decide) ?_
  refine lv_icmp_le (tgt := 66) hx hb dX1_depthIf_15 (by decide) (fun c9 => ?_) (fun c9 => ?_)
  · exact absurd c9 (by decide)
  refine lv_iload hx hb dX1_depthIf_18 (lv_at hl 0 rfl) ?_
  refine lv_aload_n hx hb dX1_depthIf_20 rfl (lv_at hl 3 rfl) ?_
  refine va_getN (D := (dC, dI)) (ci := 5) (v := .int 4) (C := RX0) (T := TX0) (N := 6) hx hb hts hi_X1_depthIf_X0 hown hK hP 0 rfl rfl 1 (by decide) (zn3 hZ) (fun _ h9 => h9) rfl dX1_depthIf_21 ?_
  refine lv_icmp_ge (tgt := 66) hx hb dX1_depthIf_24 (by decide) (fun c9 => ?_) (fun c9 => ?_)
  · exact absurd c9 (by decide)
  refine lv_aload_n hx hb dX1_depthIf_27 rfl (lv_at hl 3 rfl) ?_
  refine va_getN (D := (dC, dI)) (ci := 5) (v := .ref yh2) (C := RX0) (T := TX0) (N := 6) hx hb hts hi_X1_depthIf_X0 hown hK hP 0 rfl rfl 4 (by decide) (zn2 hZ) (fun _ h9 => h9) rfl dX1_depthIf_28 ?_
  refine lv_iload hx hb dX1_depthIf_31 (lv_at hl 0 rfl) ?_
  refine va_aldq (D := (dC, dI)) (cl := vwCl) hx hb hK hP 3 2 rfl rfl (by unfold vp_in; decide) dX1_depthIf_33 ?_
  rw [show (2 : Int32).toNatClampNeg = 2 from by decide, hgh2 2 (by decide)]
  refine W.eq (g2 := F0 mY 34 ls [.ref y1]) rfl ?_
  refine lv_astore (lv' := [(6, .ref y1), (5, .int 2), (4, .int 3), (0, .ref y2), (1, .null), (2, .int 0), (3, .int 4)]) hx hb dX1_depthIf_34 hl (by decide) rfl (fun ls hl => ?_)
  refine lv_aload hx hb dX1_depthIf_36 (lv_at hl 0 rfl) ?_
  refine lv_ifnull hx hb dX1_depthIf_38 ?_
  refine lv_iload hx hb dX1_depthIf_41 (lv_at hl 2 rfl) ?_
  refine lv_iconst (v := 1) hx hb dX1_depthIf_43 (by decide) ?_
  refine lv_aload hx hb dX1_depthIf_44 (lv_at hl 0 rfl) ?_
  refine lv_aload_nN hx hb dX1_depthIf_46 rfl (lv_at hl 4 rfl) ?_
  refine lv_iload_n hx hb dX1_depthIf_47 rfl (lv_at hl 5 rfl) ?_
  refine lv_iload_n hx hb dX1_depthIf_48 rfl (lv_at hl 6 rfl) ?_
  refine lv_iconst (v := 1) hx hb dX1_depthIf_49 (by decide) ?_
  refine lv_isub hx hb dX1_depthIf_50 ?_
  refine lv_topi (fun v11 ev11 => ?_)
  obtain rfl : v11 = 3 := ev11.trans (by decide)
  have hPc := hP.sub (ws' := [(y0, .inr (5, [.int 4, .int 4, .ref yw0, .ref yv0, .ref yh0, .int nb0])), (yw0, .inl (cI, 4, .inl gw0)), (yv0, .inl (cI, 4, .inl gv0)), (yh0, .inl (cR, 4, .inr (.inr (.inr (.inr gh0))))), (y1, .inr (5, [.int 4, .int 4, .ref yw1, .ref yv1, .ref yh1, .int nb1])), (yw1, .inl (cI, 4, .inl gw1)), (yv1, .inl (cI, 4, .inl gv1)), (yh1, .inl (cR, 4, .inr (.inr (.inr (.inr gh1)))))]) [4, 5, 6, 7, 8, 9, 10, 11] rfl
  have hDc := hD.sub (ws' := [(y0, .inr (5, [.int 4, .int 4, .ref yw0, .ref yv0, .ref yh0, .int nb0])), (yw0, .inl (cI, 4, .inl gw0)), (yv0, .inl (cI, 4, .inl gv0)), (yh0, .inl (cR, 4, .inr (.inr (.inr (.inr gh0))))), (y1, .inr (5, [.int 4, .int 4, .ref yw1, .ref yv1, .ref yh1, .int nb1])), (yw1, .inl (cI, 4, .inl gw1)), (yv1, .inl (cI, 4, .inl gv1)), (yh1, .inl (cR, 4, .inr (.inr (.inr (.inr gh1)))))]) [4, 5, 6, 7, 8, 9, 10, 11] (by decide) rfl
  have hFc := va_free (wc := [(y0, .inr (5, [.int 4, .int 4, .ref yw0, .ref yv0, .ref yh0, .int nb0])), (yw0, .inl (cI, 4, .inl gw0)), (yv0, .inl (cI, 4, .inl gv0)), (yh0, .inl (cR, 4, .inr (.inr (.inr (.inr gh0))))), (y1, .inr (5, [.int 4, .int 4, .ref yw1, .ref yv1, .ref yh1, .int nb1])), (yw1, .inl (cI, 4, .inl gw1)), (yv1, .inl (cI, 4, .inl gv1)), (yh1, .inl (cR, 4, .inr (.inr (.inr (.inr gh1)))))]) hD hS hA [4, 5, 6, 7, 8, 9, 10, 11] rfl
  have hDv := hDc.self (sz := H7.size)
  have hpre := zpre (xs' := []) (av := [.ref y1, .null, .int 0, .int 3]) hPc hK (hDc.weaken (fun _ _ _ h => h)) hZ hS hFc (fun r hr => by cases hr)
  refine va_calli (va_runS (As := [.ref y1, .null, .int 0, .int 3]) (rest := [.int 1, .int 3]) ⟨hx, hb, hml, hown, hts⟩ (k_dIn1_3 l dC dI cI cB cR cO zk y0 yw0 yv0 yh0 y1 yw1 yv1 yh1 nb0 nb1 gw0 gv0 gw1 gv1 gh0 gh1 H7.size hgw0 hgh0 hgh1) (va_cwS 4 hts gX1_depthIf_X1_depthIf rfl rfl rfl (by decide +kernel) ⟨Nat.le_of_ble_eq_true rfl, Nat.le_of_ble_eq_true rfl⟩) ⟨zblind, hpre⟩ rfl rfl hl.1 rfl (lv_room (Nat.le_of_ble_eq_true rfl)) dX1_depthIf_51 ⟨Nat.le_of_ble_eq_true rfl, Nat.le_of_ble_eq_true rfl⟩) hS (fun q _ h => hFc q h) hFc (fun r13 u t H12 locs ht hvm hw hB hz1 hk1 hS => ?_)
  obtain rfl : 2 = r13 := (show r13 = 2 from hw).symm
  obtain ⟨hP1, hK1, hD1, hz2⟩ := hB
  rw [ht] at hP1 hz2
  have hPD9 := va_join (wr := [(y2, .inr (5, [.int 4, .int 4, .ref yw2, .ref yv2, .ref yh2, .int nb2])), (yw2, .inl (cI, 4, .inl gw2)), (yv2, .inl (cI, 4, .inl gv2)), (yh2, .inl (cR, 4, .inr (.inr (.inr (.inr gh2)))))]) (w1 := [(y0, .inr (5, [.int 4, .int 4, .ref yw0, .ref yv0, .ref yh0, .int nb0])), (yw0, .inl (cI, 4, .inl gw0)), (yv0, .inl (cI, 4, .inl gv0)), (yh0, .inl (cR, 4, .inr (.inr (.inr (.inr gh0))))), (y1, .inr (5, [.int 4, .int 4, .ref yw1, .ref yv1, .ref yh1, .int nb1])), (yw1, .inl (cI, 4, .inl gw1)), (yv1, .inl (cI, 4, .inl gv1)), (yh1, .inl (cR, 4, .inr (.inr (.inr (.inr gh1)))))]) hP hD [4, 5, 6, 7, 8, 9, 10, 11] [0, 1, 2, 3] rfl rfl (by decide) (by decide) hk1 hFc hP1 hD1
  clear hPc hDc hFc hDv hpre hP hD hP1 hK1 hD1
  obtain ⟨hP, hD⟩ := hPD9
  replace hz : s.heap.size + 0 ≤ H12.size := by omega
  clear hz2
  replace hP : va_P (dC, dI) vwCl [(y2, .inr (5, [.int 4, .int 4, .ref yw2, .ref yv2, .ref yh2, .int nb2])), (yw2, .inl (cI, 4, .inl gw2)), (yv2, .inl (cI, 4, .inl gv2)), (yh2, .inl (cR, 4, .inr (.inr (.inr (.inr gh2))))), (y0, .inr (5, [.int 4, .int 4, .ref yw0, .ref yv0, .ref yh0, .int nb0])), (yw0, .inl (cI, 4, .inl gw0)), (yv0, .inl (cI, 4, .inl gv0)), (yh0, .inl (cR, 4, .inr (.inr (.inr (.inr gh0))))), (y1, .inr (5, [.int 4, .int 4, .ref yw1, .ref yv1, .ref yh1, .int nb1])), (yw1, .inl (cI, 4, .inl gw1)), (yv1, .inl (cI, 4, .inl gv1)), (yh1, .inl (cR, 4, .inr (.inr (.inr (.inr gh1)))))] H12 := hP
  replace hD : va_D A [(y2, .inr (5, [.int 4, .int 4, .ref yw2, .ref yv2, .ref yh2, .int nb2])), (yw2, .inl (cI, 4, .inl gw2)), (yv2, .inl (cI, 4, .inl gv2)), (yh2, .inl (cR, 4, .inr (.inr (.inr (.inr gh2))))), (y0, .inr (5, [.int 4, .int 4, .ref yw0, .ref yv0, .ref yh0, .int nb0])), (yw0, .inl (cI, 4, .inl gw0)), (yv0, .inl (cI, 4, .inl gv0)), (yh0, .inl (cR, 4, .inr (.inr (.inr (.inr gh0))))), (y1, .inr (5, [.int 4, .int 4, .ref yw1, .ref yv1, .ref yh1, .int nb1])), (yw1, .inl (cI, 4, .inl gw1)), (yv1, .inl (cI, 4, .inl gv1)), (yh1, .inl (cR, 4, .inr (.inr (.inr (.inr gh1)))))] := hD
  refine W.widen (k := 0) (n := 0) (by omega) (by omega) ?_
  refine lv_iadd hx hb dX1_depthIf_54 ?_
  refine lv_topi (fun v14 ev14 => ?_)
  obtain rfl : v14 = 3 := ev14.trans (by decide)
  refine va_mmax (x := 3) (y := 3) hx hb (hml.trans hl.1.symm) hown (hts (.methodLink RX1 126 Lib.Math.max.name) (List.mem_cons_of_mem _ zw_728)) (hts (.static Lib.Math.max.name) (List.mem_cons_of_mem _ zw_271)) (hts (.initialized "java/lang/Math") (List.mem_cons_of_mem _ zw_58)) (hts (.code Lib.Math.max.name Lib.Math.max.code 2 (some .int)) (List.mem_cons_of_mem _ zw_272)) (Nat.le_of_ble_eq_true rfl) (Nat.le_of_ble_eq_true rfl) (Nat.le_of_ble_eq_true rfl) (Nat.le_of_ble_eq_true rfl) dX1_depthIf_55 ?_
  refine lv_topi (fun v15 ev15 => ?_)
  obtain rfl : v15 = 3 := ev15.trans (by decide)
  refine lv_istore (lv' := [(4, .int 3), (6, .ref y1), (5, .int 2), (0, .ref y2), (1, .null), (2, .int 0), (3, .int 4)]) hx hb dX1_depthIf_58 hl (by decide) rfl (fun ls hl => ?_)
  refine lv_iinc (v := 3) (lv' := [(5, .int 3), (4, .int 3), (6, .ref y1), (0, .ref y2), (1, .null), (2, .int 0), (3, .int 4)]) hx hb dX1_depthIf_60 hl (k := 2) rfl (by decide) (by decide) rfl (fun ls hl => ?_)
  refine lv_goto (tgt := 13) hx hb dX1_depthIf_63 (by decide) ?_
  refine lv_iload_n hx hb dX1_depthIf_13 rfl (lv_at hl 6 rfl) ?_
  refine lv_iconst (v := 1) hx hb dX1_depthIf_14 (by decide) ?_
  refine lv_icmp_le (tgt := 66) hx hb dX1_depthIf_15 (by decide) (fun c9 => ?_) (fun c9 => ?_)
  · exact absurd c9 (by decide)
  refine lv_iload hx hb dX1_depthIf_18 (lv_at hl 0 rfl) ?_
  refine lv_aload_n hx hb dX1_depthIf_20 rfl (lv_at hl 3 rfl) ?_
  refine va_getN (D := (dC, dI)) (ci := 5) (v := .int 4) (C := RX0) (T := TX0) (N := 6) hx hb hts hi_X1_depthIf_X0 hown hK hP 0 rfl rfl 1 (by decide) (zn3 hZ) (fun _ h9 => h9) rfl dX1_depthIf_21 ?_
  refine lv_icmp_ge (tgt := 66) hx hb dX1_depthIf_24 (by decide) (fun c9 => ?_) (fun c9 => ?_)
  · exact absurd c9 (by decide)
  refine lv_aload_n hx hb dX1_depthIf_27 rfl (lv_at hl 3 rfl) ?_
  refine va_getN (D := (dC, dI)) (ci := 5) (v := .ref yh2) (C := RX0) (T := TX0) (N := 6) hx hb hts hi_X1_depthIf_X0 hown hK hP 0 rfl rfl 4 (by decide) (zn2 hZ) (fun _ h9 => h9) rfl dX1_depthIf_28 ?_
  refine lv_iload hx hb dX1_depthIf_31 (lv_at hl 0 rfl) ?_
  refine va_aldq (D := (dC, dI)) (cl := vwCl) hx hb hK hP 3 2 rfl rfl (by unfold vp_in; decide) dX1_depthIf_33 ?_
  rw [show (3 : Int32).toNatClampNeg = 3 from by decide, hgh2 3 (by decide)]
  refine W.eq (g2 := F0 mY 34 ls [.ref y1]) rfl ?_
  refine lv_astore (lv' := [(6, .ref y1), (5, .int 3), (4, .int 3), (0, .ref y2), (1, .null), (2, .int 0), (3, .int 4)]) hx hb dX1_depthIf_34 hl (by decide) rfl (fun ls hl => ?_)
  refine lv_aload hx hb dX1_depthIf_36 (lv_at hl 0 rfl) ?_
  refine lv_ifnull hx hb dX1_depthIf_38 ?_
  refine lv_iload hx hb dX1_depthIf_41 (lv_at hl 2 rfl) ?_
  refine lv_iconst (v := 1) hx hb dX1_depthIf_43 (by decide) ?_
  refine lv_aload hx hb dX1_depthIf_44 (lv_at hl 0 rfl) ?_
  refine lv_aload_nN hx hb dX1_depthIf_46 rfl (lv_at hl 4 rfl) ?_
  refine lv_iload_n hx hb dX1_depthIf_47 rfl (lv_at hl 5 rfl) ?_
  refine lv_iload_n hx hb dX1_depthIf_48 rfl (lv_at hl 6 rfl) ?_
  refine lv_iconst (v := 1) hx hb dX1_depthIf_49 (by decide) ?_
  refine lv_isub hx hb dX1_depthIf_50 ?_
  refine lv_topi (fun v16 ev16 => ?_)
  obtain rfl : v16 = 3 := ev16.trans (by decide)
  have hPc := hP.sub (ws' := [(y0, .inr (5, [.int 4, .int 4, .ref yw0, .ref yv0, .ref yh0, .int nb0])), (yw0, .inl (cI, 4, .inl gw0)), (yv0, .inl (cI, 4, .inl gv0)), (yh0, .inl (cR, 4, .inr (.inr (.inr (.inr gh0))))), (y1, .inr (5, [.int 4, .int 4, .ref yw1, .ref yv1, .ref yh1, .int nb1])), (yw1, .inl (cI, 4, .inl gw1)), (yv1, .inl (cI, 4, .inl gv1)), (yh1, .inl (cR, 4, .inr (.inr (.inr (.inr gh1)))))]) [4, 5, 6, 7, 8, 9, 10, 11] rfl
  have hDc := hD.sub (ws' := [(y0, .inr (5, [.int 4, .int 4, .ref yw0, .ref yv0, .ref yh0, .int nb0])), (yw0, .inl (cI, 4, .inl gw0)), (yv0, .inl (cI, 4, .inl gv0)), (yh0, .inl (cR, 4, .inr (.inr (.inr (.inr gh0))))), (y1, .inr (5, [.int 4, .int 4, .ref yw1, .ref yv1, .ref yh1, .int nb1])), (yw1, .inl (cI, 4, .inl gw1)), (yv1, .inl (cI, 4, .inl gv1)), (yh1, .inl (cR, 4, .inr (.inr (.inr (.inr gh1)))))]) [4, 5, 6, 7, 8, 9, 10, 11] (by decide) rfl
  have hFc := va_free (wc := [(y0, .inr (5, [.int 4, .int 4, .ref yw0, .ref yv0, .ref yh0, .int nb0])), (yw0, .inl (cI, 4, .inl gw0)), (yv0, .inl (cI, 4, .inl gv0)), (yh0, .inl (cR, 4, .inr (.inr (.inr (.inr gh0))))), (y1, .inr (5, [.int 4, .int 4, .ref yw1, .ref yv1, .ref yh1, .int nb1])), (yw1, .inl (cI, 4, .inl gw1)), (yv1, .inl (cI, 4, .inl gv1)), (yh1, .inl (cR, 4, .inr (.inr (.inr (.inr gh1)))))]) hD hS hA [4, 5, 6, 7, 8, 9, 10, 11] rfl
  have hDv := hDc.self (sz := H12.size)
  have hpre := zpre (xs' := []) (av := [.ref y1, .null, .int 0, .int 3]) hPc hK (hDc.weaken (fun _ _ _ h => h)) hZ hS hFc (fun r hr => by cases hr)
  refine va_calli (va_runS (As := [.ref y1, .null, .int 0, .int 3]) (rest := [.int 1, .int 3]) ⟨hx, hb, hml, hown, hts⟩ (k_dIn1_3 l dC dI cI cB cR cO zk y0 yw0 yv0 yh0 y1 yw1 yv1 yh1 nb0 nb1 gw0 gv0 gw1 gv1 gh0 gh1 H12.size hgw0 hgh0 hgh1) (va_cwS 4 hts gX1_depthIf_X1_depthIf rfl rfl rfl (by decide +kernel) ⟨Nat.le_of_ble_eq_true rfl, Nat.le_of_ble_eq_true rfl⟩) ⟨zblind, hpre⟩ rfl rfl hl.1 rfl (lv_room (Nat.le_of_ble_eq_true rfl)) dX1_depthIf_51 ⟨Nat.le_of_ble_eq_true rfl, Nat.le_of_ble_eq_true rfl⟩) hS (fun q _ h => hFc q h) hFc (fun r18 u t H17 locs ht hvm hw hB hz1 hk1 hS => ?_)
  obtain rfl : 2 = r18 := (show r18 = 2 from hw).symm
  obtain ⟨hP1, hK1, hD1, hz2⟩ := hB
  rw [ht] at hP1 hz2
  have hPD9 := va_join (wr := [(y2, .inr (5, [.int 4, .int 4, .ref yw2, .ref yv2, .ref yh2, .int nb2])), (yw2, .inl (cI, 4, .inl gw2)), (yv2, .inl (cI, 4, .inl gv2)), (yh2, .inl (cR, 4, .inr (.inr (.inr (.inr gh2)))))]) (w1 := [(y0, .inr (5, [.int 4, .int 4, .ref yw0, .ref yv0, .ref yh0, .int nb0])), (yw0, .inl (cI, 4, .inl gw0)), (yv0, .inl (cI, 4, .inl gv0)), (yh0, .inl (cR, 4, .inr (.inr (.inr (.inr gh0))))), (y1, .inr (5, [.int 4, .int 4, .ref yw1, .ref yv1, .ref yh1, .int nb1])), (yw1, .inl (cI, 4, .inl gw1)), (yv1, .inl (cI, 4, .inl gv1)), (yh1, .inl (cR, 4, .inr (.inr (.inr (.inr gh1)))))]) hP hD [4, 5, 6, 7, 8, 9, 10, 11] [0, 1, 2, 3] rfl rfl (by decide) (by decide) hk1 hFc hP1 hD1
  clear hPc hDc hFc hDv hpre hP hD hP1 hK1 hD1
  obtain ⟨hP, hD⟩ := hPD9
  replace hz : s.heap.size + 0 ≤ H17.size := by omega
  clear hz2
  replace hP : va_P (dC, dI) vwCl [(y2, .inr (5, [.int 4, .int 4, .ref yw2, .ref yv2, .ref yh2, .int nb2])), (yw2, .inl (cI, 4, .inl gw2)), (yv2, .inl (cI, 4, .inl gv2)), (yh2, .inl (cR, 4, .inr (.inr (.inr (.inr gh2))))), (y0, .inr (5, [.int 4, .int 4, .ref yw0, .ref yv0, .ref yh0, .int nb0])), (yw0, .inl (cI, 4, .inl gw0)), (yv0, .inl (cI, 4, .inl gv0)), (yh0, .inl (cR, 4, .inr (.inr (.inr (.inr gh0))))), (y1, .inr (5, [.int 4, .int 4, .ref yw1, .ref yv1, .ref yh1, .int nb1])), (yw1, .inl (cI, 4, .inl gw1)), (yv1, .inl (cI, 4, .inl gv1)), (yh1, .inl (cR, 4, .inr (.inr (.inr (.inr gh1)))))] H17 := hP
  replace hD : va_D A [(y2, .inr (5, [.int 4, .int 4, .ref yw2, .ref yv2, .ref yh2, .int nb2])), (yw2, .inl (cI, 4, .inl gw2)), (yv2, .inl (cI, 4, .inl gv2)), (yh2, .inl (cR, 4, .inr (.inr (.inr (.inr gh2))))), (y0, .inr (5, [.int 4, .int 4, .ref yw0, .ref yv0, .ref yh0, .int nb0])), (yw0, .inl (cI, 4, .inl gw0)), (yv0, .inl (cI, 4, .inl gv0)), (yh0, .inl (cR, 4, .inr (.inr (.inr (.inr gh0))))), (y1, .inr (5, [.int 4, .int 4, .ref yw1, .ref yv1, .ref yh1, .int nb1])), (yw1, .inl (cI, 4, .inl gw1)), (yv1, .inl (cI, 4, .inl gv1)), (yh1, .inl (cR, 4, .inr (.inr (.inr (.inr gh1)))))] := hD
  refine W.widen (k := 0) (n := 0) (by omega) (by omega) ?_
  refine lv_iadd hx hb dX1_depthIf_54 ?_
  refine lv_topi (fun v19 ev19 => ?_)
  obtain rfl : v19 = 3 := ev19.trans (by decide)
  refine va_mmax (x := 3) (y := 3) hx hb (hml.trans hl.1.symm) hown (hts (.methodLink RX1 126 Lib.Math.max.name) (List.mem_cons_of_mem _ zw_728)) (hts (.static Lib.Math.max.name) (List.mem_cons_of_mem _ zw_271)) (hts (.initialized "java/lang/Math") (List.mem_cons_of_mem _ zw_58)) (hts (.code Lib.Math.max.name Lib.Math.max.code 2 (some .int)) (List.mem_cons_of_mem _ zw_272)) (Nat.le_of_ble_eq_true rfl) (Nat.le_of_ble_eq_true rfl) (Nat.le_of_ble_eq_true rfl) (Nat.le_of_ble_eq_true rfl) dX1_depthIf_55 ?_
  refine lv_topi (fun v20 ev20 => ?_)
  obtain rfl : v20 = 3 := ev20.trans (by decide)
  refine lv_istore (lv' := [(4, .int 3), (6, .ref y1), (5, .int 3), (0, .ref y2), (1, .null), (2, .int 0), (3, .int 4)]) hx hb dX1_depthIf_58 hl (by decide) rfl (fun ls hl => ?_)
  refine lv_iinc (v := 4) (lv' := [(5, .int 4), (4, .int 3), (6, .ref y1), (0, .ref y2), (1, .null), (2, .int 0), (3, .int 4)]) hx hb dX1_depthIf_60 hl (k := 2) rfl (by decide) (by decide) rfl (fun ls hl => ?_)
  refine lv_goto (tgt := 13) hx hb dX1_depthIf_63 (by decide) ?_
  refine lv_iload_n hx hb dX1_depthIf_13 rfl (lv_at hl 6 rfl) ?_
  refine lv_iconst (v := 1) hx hb dX1_depthIf_14 (by decide) ?_
  refine lv_icmp_le (tgt := 66) hx hb dX1_depthIf_15 (by decide) (fun c9 => ?_) (fun c9 => ?_)
  · exact absurd c9 (by decide)
  refine lv_iload hx hb dX1_depthIf_18 (lv_at hl 0 rfl) ?_
  refine lv_aload_n hx hb dX1_depthIf_20 rfl (lv_at hl 3 rfl) ?_
  refine va_getN (D := (dC, dI)) (ci := 5) (v := .int 4) (C := RX0) (T := TX0) (N := 6) hx hb hts hi_X1_depthIf_X0 hown hK hP 0 rfl rfl 1 (by decide) (zn3 hZ) (fun _ h9 => h9) rfl dX1_depthIf_21 ?_
  refine lv_icmp_ge (tgt := 66) hx hb dX1_depthIf_24 (by decide) (fun c9 => ?_) (fun c9 => ?_)
  rotate_left
  · exact absurd (by decide) c9
  refine lv_iload hx hb dX1_depthIf_66 (lv_at hl 1 rfl) ?_
  have hP9 := hP.sub (ws' := [(y0, .inr (5, [.int 4, .int 4, .ref yw0, .ref yv0, .ref yh0, .int nb0])), (yw0, .inl (cI, 4, .inl gw0)), (yv0, .inl (cI, 4, .inl gv0)), (yh0, .inl (cR, 4, .inr (.inr (.inr (.inr gh0))))), (y1, .inr (5, [.int 4, .int 4, .ref yw1, .ref yv1, .ref yh1, .int nb1])), (yw1, .inl (cI, 4, .inl gw1)), (yv1, .inl (cI, 4, .inl gv1)), (yh1, .inl (cR, 4, .inr (.inr (.inr (.inr gh1))))), (y2, .inr (5, [.int 4, .int 4, .ref yw2, .ref yv2, .ref yh2, .int nb2])), (yw2, .inl (cI, 4, .inl gw2)), (yv2, .inl (cI, 4, .inl gv2)), (yh2, .inl (cR, 4, .inr (.inr (.inr (.inr gh2)))))]) [4, 5, 6, 7, 8, 9, 10, 11, 0, 1, 2, 3] rfl
  have hD9 := hD.sub (ws' := [(y0, .inr (5, [.int 4, .int 4, .ref yw0, .ref yv0, .ref yh0, .int nb0])), (yw0, .inl (cI, 4, .inl gw0)), (yv0, .inl (cI, 4, .inl gv0)), (yh0, .inl (cR, 4, .inr (.inr (.inr (.inr gh0))))), (y1, .inr (5, [.int 4, .int 4, .ref yw1, .ref yv1, .ref yh1, .int nb1])), (yw1, .inl (cI, 4, .inl gw1)), (yv1, .inl (cI, 4, .inl gv1)), (yh1, .inl (cR, 4, .inr (.inr (.inr (.inr gh1))))), (y2, .inr (5, [.int 4, .int 4, .ref yw2, .ref yv2, .ref yh2, .int nb2])), (yw2, .inl (cI, 4, .inl gw2)), (yv2, .inl (cI, 4, .inl gv2)), (yh2, .inl (cR, 4, .inr (.inr (.inr (.inr gh2)))))]) [4, 5, 6, 7, 8, 9, 10, 11, 0, 1, 2, 3] (by decide) rfl
  exact W.iret (v := 3) hx hb hr (fun t ht hW => ⟨⟨_, (), rfl, rfl, ⟨by rw [ht]; exact hP9, va_K.moved hW.alike hK, hD9, by rw [ht]; exact hz⟩⟩, hS.F ht⟩) hS.2.2 dX1_depthIf_68

set_option maxHeartbeats 4000000 in
set_option maxRecDepth 100000 in
theorem k_dIn0_3 (l : Launch) (dC : Nat → ClassId) (dI : Nat → Nat → Nat) (cI cB cR cO : ClassId) (zk : Nat → Nat) (y0 yw0 yv0 yh0 : Nat) (nb0 : Int32) (gw0 gv0 : Nat → Int32) (gh0 : Nat → Option Nat) (sz : Nat) (hgw0 : ∀ i, i < 4 → gw0 i = 0) (hgh0 : ∀ i, i < 4 → gh0 i = none) : Met l yX1_depthIf wsX1_depthIf ({ frames := 0, cells := 0, slots := 0, locals := 0 }) (va_Pc [.ref y0, .null, .int 0, .int 3] (zPre (dC, dI) (zT cI cB cR cO) zk [] [(y0, .inr (5, [.int 4, .int 4, .ref yw0, .ref yv0, .ref yh0, .int nb0])), (yw0, .inl (cI, 4, .inl gw0)), (yv0, .inl (cI, 4, .inl gv0)), (yh0, .inl (cR, 4, .inr (.inr (.inr (.inr gh0)))))] sz)) (va_Qi (fun r (_ : Unit) => r = 1) (fun _ t => zEnd (dC, dI) (zT cI cB cR cO) (va_A [(y0, .inr (5, [.int 4, .int 4, .ref yw0, .ref yv0, .ref yh0, .int nb0])), (yw0, .inl (cI, 4, .inl gw0)), (yv0, .inl (cI, 4, .inl gv0)), (yh0, .inl (cR, 4, .inr (.inr (.inr (.inr gh0)))))] sz) [(y0, .inr (5, [.int 4, .int 4, .ref yw0, .ref yv0, .ref yh0, .int nb0])), (yw0, .inl (cI, 4, .inl gw0)), (yv0, .inl (cI, 4, .inl gv0)), (yh0, .inl (cR, 4, .inr (.inr (.inr (.inr gh0)))))] sz 0 t) (va_A [(y0, .inr (5, [.int 4, .int 4, .ref yw0, .ref yv0, .ref yh0, .int nb0])), (yw0, .inl (cI, 4, .inl gw0)), (yv0, .inl (cI, 4, .inl gv0)), (yh0, .inl (cR, 4, .inr (.inr (.inr (.inr gh0)))))] sz)) 0 0 (va_A [(y0, .inr (5, [.int 4, .int 4, .ref yw0, .ref yv0, .ref yh0, .int nb0])), (yw0, .inl (cI, 4, .inl gw0)), (yv0, .inl (cI, 4, .inl gv0)), (yh0, .inl (cR, 4, .inr (.inr (.inr (.inr gh0)))))] sz) := by
  refine Met.ofW (cc := cX1_depthIf) (maxL := 7) (ret := (some .int)) (by decide) rfl ?_
  intro p e s mY args below meth c s₁ B hml hv
  obtain ⟨rfl, hsz, hP, hK, hD0, hZ⟩ := hv
  have hx := B.exec
  have hb := B.bytes
  have hr := B.returns
  have hts := atoms_spec (ws := wsX1_depthIf) B.pre
  have hown : s.vm.findClass RX1 = some mY.cls := findClass_of_methodNamed B.named
  have hlocks := B.notSynchronized
  subst hsz
  have hD := hD0.self (sz := s.heap.size)
  generalize hAe : va_A [(y0, .inr (5, [.int 4, .int 4, .ref yw0, .ref yv0, .ref yh0, .int nb0])), (yw0, .inl (cI, 4, .inl gw0)), (yv0, .inl (cI, 4, .inl gv0)), (yh0, .inl (cR, 4, .inr (.inr (.inr (.inr gh0)))))] s.heap.size = A at hD hZ ⊢
  have hA : ∀ q : Nat, s.heap.size ≤ q → A q := fun q h => by rw [← hAe]; exact Or.inr h
  have hS : va_S A s.heap s.heap [] := va_S.rf
  have hz : s.heap.size + 0 ≤ s.heap.size := Nat.le_refl _
  have hl := lv_entry ([.ref y0, .null, .int 0, .int 3]) (n := 7) (Nat.le_of_ble_eq_true rfl)
  rw [lg_entry_eq]
  generalize (lg_sl ([.ref y0, .null, .int 0, .int 3]) ++ List.replicate (7 - (lg_sl ([.ref y0, .null, .int 0, .int 3])).length) Slot.unset).toArray = ls at hl ⊢
  have hl : lv_has ls 7 [(0, .ref y0), (1, .null), (2, .int 0), (3, .int 3)] := hl
  have hP : va_P (dC, dI) vwCl [(y0, .inr (5, [.int 4, .int 4, .ref yw0, .ref yv0, .ref yh0, .int nb0])), (yw0, .inl (cI, 4, .inl gw0)), (yv0, .inl (cI, 4, .inl gv0)), (yh0, .inl (cR, 4, .inr (.inr (.inr (.inr gh0)))))] s.heap := hP
  have hD : va_D A [(y0, .inr (5, [.int 4, .int 4, .ref yw0, .ref yv0, .ref yh0, .int nb0])), (yw0, .inl (cI, 4, .inl gw0)), (yv0, .inl (cI, 4, .inl gv0)), (yh0, .inl (cR, 4, .inr (.inr (.inr (.inr gh0)))))] := hD
  refine lv_aload_n hx hb dX1_depthIf_0 rfl (lv_at hl 0 rfl) ?_
  refine lv_aload_nN hx hb dX1_depthIf_1 rfl (lv_at hl 1 rfl) ?_
  refine lv_acmp_ne (rx := (some y0)) (ry := none) (tgt := 7) hx hb dX1_depthIf_2 (by decide) (fun c9 => ?_) (fun c9 => ?_)
  rotate_left
  · exact absurd c9 (by intro h9; cases h9)
  refine lv_iconst (v := 1) hx hb dX1_depthIf_7 (by decide) ?_
  refine lv_istore (lv' := [(4, .int 1), (0, .ref y0), (1, .null), (2, .int 0), (3, .int 3)]) hx hb dX1_depthIf_8 hl (by decide) rfl (fun ls hl => ?_)
  refine lv_iconst (v := 0) hx hb dX1_depthIf_10 (by decide) ?_
  refine lv_istore (lv' := [(5, .int 0), (4, .int 1), (0, .ref y0), (1, .null), (2, .int 0), (3, .int 3)]) hx hb dX1_depthIf_11 hl (by decide) rfl (fun ls hl => ?_)
  refine lv_iload_n hx hb dX1_depthIf_13 rfl (lv_at hl 5 rfl) ?_
  refine lv_iconst (v := 1) hx hb dX1_depthIf_14 (by decide) ?_
  refine lv_icmp_le (tgt := 66) hx hb dX1_depthIf_15 (by decide) (fun c9 => ?_) (fun c9 => ?_)
  · exact absurd c9 (by decide)
  refine lv_iload hx hb dX1_depthIf_18 (lv_at hl 0 rfl) ?_
  refine lv_aload_n hx hb dX1_depthIf_20 rfl (lv_at hl 2 rfl) ?_
  refine va_getN (D := (dC, dI)) (ci := 5) (v := .int 4) (C := RX0) (T := TX0) (N := 6) hx hb hts hi_X1_depthIf_X0 hown hK hP 0 rfl rfl 1 (by decide) (zn3 hZ) (fun _ h9 => h9) rfl dX1_depthIf_21 ?_
  refine lv_icmp_ge (tgt := 66) hx hb dX1_depthIf_24 (by decide) (fun c9 => ?_) (fun c9 => ?_)
  · exact absurd c9 (by decide)
  refine lv_aload_n hx hb dX1_depthIf_27 rfl (lv_at hl 2 rfl) ?_
  refine va_getN (D := (dC, dI)) (ci := 5) (v := .ref yh0) (C := RX0) (T := TX0) (N := 6) hx hb hts hi_X1_depthIf_X0 hown hK hP 0 rfl rfl 4 (by decide) (zn2 hZ) (fun _ h9 => h9) rfl dX1_depthIf_28 ?_
  refine lv_iload hx hb dX1_depthIf_31 (lv_at hl 0 rfl) ?_
  refine va_aldq (D := (dC, dI)) (cl := vwCl) hx hb hK hP 3 2 rfl rfl (by unfold vp_in; decide) dX1_depthIf_33 ?_
  rw [show (0 : Int32).toNatClampNeg = 0 from by decide, hgh0 0 (by decide)]
  refine W.eq (g2 := F0 mY 34 ls [.null]) rfl ?_
  refine lv_astoreN (lv' := [(6, .null), (5, .int 0), (4, .int 1), (0, .ref y0), (1, .null), (2, .int 0), (3, .int 3)]) hx hb dX1_depthIf_34 hl (by decide) rfl (fun ls hl => ?_)
  refine lv_aloadN hx hb dX1_depthIf_36 (lv_at hl 0 rfl) ?_
  refine lv_ifnullN (tgt := 60) hx hb dX1_depthIf_38 (by decide) ?_
  refine lv_iinc (v := 1) (lv' := [(5, .int 1), (6, .null), (4, .int 1), (0, .ref y0), (1, .null), (2, .int 0), (3, .int 3)]) hx hb dX1_depthIf_60 hl (k := 1) rfl (by decide) (by decide) rfl (fun ls hl => ?_)
  refine lv_goto (tgt := 13) hx hb dX1_depthIf_63 (by decide) ?_
  refine lv_iload_n hx hb dX1_depthIf_13 rfl (lv_at hl 6 rfl) ?_
  refine lv_iconst (v := 1) hx hb dX1_depthIf_14 (by decide) ?_
  refine lv_icmp_le (tgt := 66) hx hb dX1_depthIf_15 (by decide) (fun c9 => ?_) (fun c9 => ?_)
  · exact absurd c9 (by decide)
  refine lv_iload hx hb dX1_depthIf_18 (lv_at hl 0 rfl) ?_
  refine lv_aload_n hx hb dX1_depthIf_20 rfl (lv_at hl 3 rfl) ?_
  refine va_getN (D := (dC, dI)) (ci := 5) (v := .int 4) (C := RX0) (T := TX0) (N := 6) hx hb hts hi_X1_depthIf_X0 hown hK hP 0 rfl rfl 1 (by decide) (zn3 hZ) (fun _ h9 => h9) rfl dX1_depthIf_21 ?_
  refine lv_icmp_ge (tgt := 66) hx hb dX1_depthIf_24 (by decide) (fun c9 => ?_) (fun c9 => ?_)
  · exact absurd c9 (by decide)
  refine lv_aload_n hx hb dX1_depthIf_27 rfl (lv_at hl 3 rfl) ?_
  refine va_getN (D := (dC, dI)) (ci := 5) (v := .ref yh0) (C := RX0) (T := TX0) (N := 6) hx hb hts hi_X1_depthIf_X0 hown hK hP 0 rfl rfl 4 (by decide) (zn2 hZ) (fun _ h9 => h9) rfl dX1_depthIf_28 ?_
  refine lv_iload hx hb dX1_depthIf_31 (lv_at hl 0 rfl) ?_
  refine va_aldq (D := (dC, dI)) (cl := vwCl) hx hb hK hP 3 2 rfl rfl (by unfold vp_in; decide) dX1_depthIf_33 ?_
  rw [show (1 : Int32).toNatClampNeg = 1 from by decide, hgh0 1 (by decide)]
  refine W.eq (g2 := F0 mY 34 ls [.null]) rfl ?_
  refine lv_astoreN (lv' := [(6, .null), (5, .int 1), (4, .int 1), (0, .ref y0), (1, .null), (2, .int 0), (3, .int 3)]) hx hb dX1_depthIf_34 hl (by decide) rfl (fun ls hl => ?_)
  refine lv_aloadN hx hb dX1_depthIf_36 (lv_at hl 0 rfl) ?_
  refine lv_ifnullN (tgt := 60) hx hb dX1_depthIf_38 (by decide) ?_
  refine lv_iinc (v := 2) (lv' := [(5, .int 2), (6, .null), (4, .int 1), (0, .ref y0), (1, .null), (2, .int 0), (3, .int 3)]) hx hb dX1_depthIf_60 hl (k := 1) rfl (by decide) (by decide) rfl (fun ls hl => ?_)
  refine lv_goto (tgt := 13) hx hb dX1_depthIf_63 (by decide) ?_
  refine lv_iload_n hx hb dX1_depthIf_13 rfl (lv_at hl 6 rfl) ?_
  refine lv_iconst (v := 1) hx hb dX1_depthIf_14 (by decide) ?_
  refine lv_icmp_le (tgt := 66) hx hb dX1_depthIf_15 (by decide) (fun c9 => ?_) (fun c9 => ?_)
  · exact absurd c9 (by decide)
  refine lv_iload hx hb dX1_depthIf_18 (lv_at hl 0 rfl) ?_
  refine lv_aload_n hx hb dX1_depthIf_20 rfl (lv_at hl 3 rfl) ?_
  refine va_getN (D := (dC, dI)) (ci := 5) (v := .int 4) (C := RX0) (T := TX0) (N := 6) hx hb hts hi_X1_depthIf_X0 hown hK hP 0 rfl rfl 1 (by decide) (zn3 hZ) (fun _ h9 => h9) rfl dX1_depthIf_21 ?_
  refine lv_icmp_ge (tgt := 66) hx hb dX1_depthIf_24 (by decide) (fun c9 => ?_) (fun c9 => ?_)
  · exact absurd c9 (by decide)
  refine lv_aload_n hx hb dX1_depthIf_27 rfl (lv_at hl 3 rfl) ?_
  refine va_getN (D := (dC, dI)) (ci := 5) (v := .ref yh0) (C := RX0) (T := TX0) (N := 6) hx hb hts hi_X1_depthIf_X0 hown hK hP 0 rfl rfl 4 (by decide) (zn2 hZ) (fun _ h9 => h9) rfl dX1_depthIf_28 ?_
  refine lv_iload hx hb dX1_depthIf_31 (lv_at hl 0 rfl) ?_
  refine va_aldq (D := (dC, dI)) (cl := vwCl) hx hb hK hP 3 2 rfl rfl (by unfold vp_in; decide) dX1_depthIf_33 ?_
  rw [show (2 : Int32).toNatClampNeg = 2 from by decide, hgh0 2 (by decide)]
  refine W.eq (g2 := F0 mY 34 ls [.null]) rfl ?_
  refine lv_astoreN (lv' := [(6, .null), (5, .int 2), (4, .int 1), (0, .ref y0), (1, .null), (2, .int 0), (3, .int 3)]) hx hb dX1_depthIf_34 hl (by decide) rfl (fun ls hl => ?_)
  refine lv_aloadN hx hb dX1_depthIf_36 (lv_at hl 0 rfl) ?_
  refine lv_ifnullN (tgt := 60) hx hb dX1_depthIf_38 (by decide) ?_
  refine lv_iinc (v := 3) (lv' := [(5, .int 3), (6, .null), (4, .int 1), (0, .ref y0), (1, .null), (2, .int 0), (3, .int 3)]) hx hb dX1_depthIf_60 hl (k := 1) rfl (by decide) (by decide) rfl (fun ls hl => ?_)
  refine lv_goto (tgt := 13) hx hb dX1_depthIf_63 (by decide) ?_
  refine lv_iload_n hx hb dX1_depthIf_13 rfl (lv_at hl 6 rfl) ?_
  refine lv_iconst (v := 1) hx hb dX1_depthIf_14 (by decide) ?_
  refine lv_icmp_le (tgt := 66) hx hb dX1_depthIf_15 (by decide) (fun c9 => ?_) (fun c9 => ?_)
  · exact absurd c9 (by decide)
  refine lv_iload hx hb dX1_depthIf_18 (lv_at hl 0 rfl) ?_
  refine lv_aload_n hx hb dX1_depthIf_20 rfl (lv_at hl 3 rfl) ?_
  refine va_getN (D := (dC, dI)) (ci := 5) (v := .int 4) (C := RX0) (T := TX0) (N := 6) hx hb hts hi_X1_depthIf_X0 hown hK hP 0 rfl rfl 1 (by decide) (zn3 hZ) (fun _ h9 => h9) rfl dX1_depthIf_21 ?_
  refine lv_icmp_ge (tgt := 66) hx hb dX1_depthIf_24 (by decide) (fun c9 => ?_) (fun c9 => ?_)
  · exact absurd c9 (by decide)
  refine lv_aload_n hx hb dX1_depthIf_27 rfl (lv_at hl 3 rfl) ?_
  refine va_getN (D := (dC, dI)) (ci := 5) (v := .ref yh0) (C := RX0) (T := TX0) (N := 6) hx hb hts hi_X1_depthIf_X0 hown hK hP 0 rfl rfl 4 (by decide) (zn2 hZ) (fun _ h9 => h9) rfl dX1_depthIf_28 ?_
  refine lv_iload hx hb dX1_depthIf_31 (lv_at hl 0 rfl) ?_
  refine va_aldq (D := (dC, dI)) (cl := vwCl) hx hb hK hP 3 2 rfl rfl (by unfold vp_in; decide) dX1_depthIf_33 ?_
  rw [show (3 : Int32).toNatClampNeg = 3 from by decide, hgh0 3 (by decide)]
  refine W.eq (g2 := F0 mY 34 ls [.null]) rfl ?_
  refine lv_astoreN (lv' := [(6, .null), (5, .int 3), (4, .int 1), (0, .ref y0), (1, .null), (2, .int 0), (3, .int 3)]) hx hb dX1_depthIf_34 hl (by decide) rfl (fun ls hl => ?_)
  refine lv_aloadN hx hb dX1_depthIf_36 (lv_at hl 0 rfl) ?_
  refine lv_ifnullN (tgt := 60) hx hb dX1_depthIf_38 (by decide) ?_
  refine lv_iinc (v := 4) (lv' := [(5, .int 4), (6, .null), (4, .int 1), (0, .ref y0), (1, .null), (2, .int 0), (3, .int 3)]) hx hb dX1_depthIf_60 hl (k := 1) rfl (by decide) (by decide) rfl (fun ls hl => ?_)
  refine lv_goto (tgt := 13) hx hb dX1_depthIf_63 (by decide) ?_
  refine lv_iload_n hx hb dX1_depthIf_13 rfl (lv_at hl 6 rfl) ?_
  refine lv_iconst (v := 1) hx hb dX1_depthIf_14 (by decide) ?_
  refine lv_icmp_le (tgt := 66) hx hb dX1_depthIf_15 (by decide) (fun c9 => ?_) (fun c9 => ?_)
  · exact absurd c9 (by decide)
  refine lv_iload hx hb dX1_depthIf_18 (lv_at hl 0 rfl) ?_
  refine lv_aload_n hx hb dX1_depthIf_20 rfl (lv_at hl 3 rfl) ?_
  refine va_getN (D := (dC, dI)) (ci := 5) (v := .int 4) (C := RX0) (T := TX0) (N := 6) hx hb hts hi_X1_depthIf_X0 hown hK hP 0 rfl rfl 1 (by decide) (zn3 hZ) (fun _ h9 => h9) rfl dX1_depthIf_21 ?_
  refine lv_icmp_ge (tgt := 66) hx hb dX1_depthIf_24 (by decide) (fun c9 => ?_) (fun c9 => ?_)
  rotate_left
  · exact absurd (by decide) c9
  refine lv_iload hx hb dX1_depthIf_66 (lv_at hl 2 rfl) ?_
  have hP9 := hP.sub (ws' := [(y0, .inr (5, [.int 4, .int 4, .ref yw0, .ref yv0, .ref yh0, .int nb0])), (yw0, .inl (cI, 4, .inl gw0)), (yv0, .inl (cI, 4, .inl gv0)), (yh0, .inl (cR, 4, .inr (.inr (.inr (.inr gh0)))))]) [0, 1, 2, 3] rfl
  have hD9 := hD.sub (ws' := [(y0, .inr (5, [.int 4, .int 4, .ref yw0, .ref yv0, .ref yh0, .int nb0])), (yw0, .inl (cI, 4, .inl gw0)), (yv0, .inl (cI, 4, .inl gv0)), (yh0, .inl (cR, 4, .inr (.inr (.inr (.inr gh0)))))]) [0, 1, 2, 3] (by decide) rfl
  exact W.iret (v := 1) hx hb hr (fun t ht hW => ⟨⟨_, (), rfl, rfl, ⟨by rw [ht]; exact hP9, va_K.moved hW.alike hK, hD9, by rw [ht]; exact hz⟩⟩, hS.F ht⟩) hS.2.2 dX1_depthIf_68

set_option maxHeartbeats 4000000 in
set_option maxRecDepth 100000 in
theorem k_dIn1_4 (l : Launch) (dC : Nat → ClassId) (dI : Nat → Nat → Nat) (cI cB cR cO : ClassId) (zk : Nat → Nat) (y0 yw0 yv0 yh0 y1 yw1 yv1 yh1 : Nat) (nb0 nb1 : Int32) (gw0 gv0 gw1 gv1 : Nat → Int32) (gh0 gh1 : Nat → Option Nat) (sz : Nat) (hgw0 : ∀ i, i < 4 → gw0 i = 0) (hgh0 : ∀ i, i < 4 → gh0 i = none) (hgh1 : ∀ i, i < 4 → gh1 i = some y0) : Met l yX1_depthIf wsX1_depthIf ({ frames := 1, cells := 0, slots := 0, locals := 40 }) (va_Pc [.ref y1, .null, .int 0, .int 4] (zPre (dC, dI) (zT cI cB cR cO) zk [] [(y0, .inr (5, [.int 4, .int 4, .ref yw0, .ref yv0, .ref yh0, .int nb0])), (yw0, .inl (cI, 4, .inl gw0)), (yv0, .inl (cI, 4, .inl gv0)), (yh0, .inl (cR, 4, .inr (.inr (.inr (.inr gh0))))), (y1, .inr (5, [.int 4, .int 4, .ref yw1, .ref yv1, .ref yh1, .int nb1])), (yw1, .inl (cI, 4, .inl gw1)), (yv1, .inl (cI, 4, .inl gv1)), (yh1, .inl (cR, 4, .inr (.inr (.inr (.inr gh1)))))] sz)) (va_Qi (fun r (_ : Unit) => r = 2) (fun _ t => zEnd (dC, dI) (zT cI cB cR cO) (va_A [(y0, .inr (5, [.int 4, .int 4, .ref yw0, .ref yv0, .ref yh0, .int nb0])), (yw0, .inl (cI, 4, .inl gw0)), (yv0, .inl (cI, 4, .inl gv0)), (yh0, .inl (cR, 4, .inr (.inr (.inr (.inr gh0))))), (y1, .inr (5, [.int 4, .int 4, .ref yw1, .ref yv1, .ref yh1, .int nb1])), (yw1, .inl (cI, 4, .inl gw1)), (yv1, .inl (cI, 4, .inl gv1)), (yh1, .inl (cR, 4, .inr (.inr (.inr (.inr gh1)))))] sz) [(y0, .inr (5, [.int 4, .int 4, .ref yw0, .ref yv0, .ref yh0, .int nb0])), (yw0, .inl (cI, 4, .inl gw0)), (yv0, .inl (cI, 4, .inl gv0)), (yh0, .inl (cR, 4, .inr (.inr (.inr (.inr gh0))))), (y1, .inr (5, [.int 4, .int 4, .ref yw1, .ref yv1, .ref yh1, .int nb1])), (yw1, .inl (cI, 4, .inl gw1)), (yv1, .inl (cI, 4, .inl gv1)), (yh1, .inl (cR, 4, .inr (.inr (.inr (.inr gh1)))))] sz 0 t) (va_A [(y0, .inr (5, [.int 4, .int 4, .ref yw0, .ref yv0, .ref yh0, .int nb0])), (yw0, .inl (cI, 4, .inl gw0)), (yv0, .inl (cI, 4, .inl gv0)), (yh0, .inl (cR, 4, .inr (.inr (.inr (.inr gh0))))), (y1, .inr (5, [.int 4, .int 4, .ref yw1, .ref yv1, .ref yh1, .int nb1])), (yw1, .inl (cI, 4, .inl gw1)), (yv1, .inl (cI, 4, .inl gv1)), (yh1, .inl (cR, 4, .inr (.inr (.inr (.inr gh1)))))] sz)) 0 0 (va_A [(y0, .inr (5, [.int 4, .int 4, .ref yw0, .ref yv0, .ref yh0, .int nb0])), (yw0, .inl (cI, 4, .inl gw0)), (yv0, .inl (cI, 4, .inl gv0)), (yh0, .inl (cR, 4, .inr (.inr (.inr (.inr gh0))))), (y1, .inr (5, [.int 4, .int 4, .ref yw1, .ref yv1, .ref yh1, .int nb1])), (yw1, .inl (cI, 4, .inl gw1)), (yv1, .inl (cI, 4, .inl gv1)), (yh1, .inl (cR, 4, .inr (.inr (.inr (.inr gh1)))))] sz) := by
  refine Met.ofW (cc := cX1_depthIf) (maxL := 7) (ret := (some .int)) (by decide) rfl ?_
  intro p e s mY args below meth c s₁ B hml hv
  obtain ⟨rfl, hsz, hP, hK, hD0, hZ⟩ := hv
  have hx := B.exec
  have hb := B.bytes
  have hr := B.returns
  have hts := atoms_spec (ws := wsX1_depthIf) B.pre
  have hown : s.vm.findClass RX1 = some mY.cls := findClass_of_methodNamed B.named
  have hlocks := B.notSynchronized
  subst hsz
  have hD := hD0.self (sz := s.heap.size)
  generalize hAe : va_A [(y0, .inr (5, [.int 4, .int 4, .ref yw0, .ref yv0, .ref yh0, .int nb0])), (yw0, .inl (cI, 4, .inl gw0)), (yv0, .inl (cI, 4, .inl gv0)), (yh0, .inl (cR, 4, .inr (.inr (.inr (.inr gh0))))), (y1, .inr (5, [.int 4, .int 4, .ref yw1, .ref yv1, .ref yh1, .int nb1])), (yw1, .inl (cI, 4, .inl gw1)), (yv1, .inl (cI, 4, .inl gv1)), (yh1, .inl (cR, 4, .inr (.inr (.inr (.inr gh1)))))] s.heap.size = A at hD hZ ⊢
  have hA : ∀ q : Nat, s.heap.size ≤ q → A q := fun q h => by rw [← hAe]; exact Or.inr h
  have hS : va_S A s.heap s.heap [] := va_S.rf
  have hz : s.heap.size + 0 ≤ s.heap.size := Nat.le_refl _
  have hl := lv_entry ([.ref y1, .null, .int 0, .int 4]) (n := 7) (Nat.le_of_ble_eq_true rfl)
  rw [lg_entry_eq]
  generalize (lg_sl ([.ref y1, .null, .int 0, .int 4]) ++ List.replicate (7 - (lg_sl ([.ref y1, .null, .int 0, .int 4])).length) Slot.unset).toArray = ls at hl ⊢
  have hl : lv_has ls 7 [(0, .ref y1), (1, .null), (2, .int 0), (3, .int 4)] := hl
  have hP : va_P (dC, dI) vwCl [(y0, .inr (5, [.int 4, .int 4, .ref yw0, .ref yv0, .ref yh0, .int nb0])), (yw0, .inl (cI, 4, .inl gw0)), (yv0, .inl (cI, 4, .inl gv0)), (yh0, .inl (cR, 4, .inr (.inr (.inr (.inr gh0))))), (y1, .inr (5, [.int 4, .int 4, .ref yw1, .ref yv1, .ref yh1, .int nb1])), (yw1, .inl (cI, 4, .inl gw1)), (yv1, .inl (cI, 4, .inl gv1)), (yh1, .inl (cR, 4, .inr (.inr (.inr (.inr gh1)))))] s.heap := hP
  have hD : va_D A [(y0, .inr (5, [.int 4, .int 4, .ref yw0, .ref yv0, .ref yh0, .int nb0])), (yw0, .inl (cI, 4, .inl gw0)), (yv0, .inl (cI, 4, .inl gv0)), (yh0, .inl (cR, 4, .inr (.inr (.inr (.inr gh0))))), (y1, .inr (5, [.int 4, .int 4, .ref yw1, .ref yv1, .ref yh1, .int nb1])), (yw1, .inl (cI, 4, .inl gw1)), (yv1, .inl (cI, 4, .inl gv1)), (yh1, .inl (cR, 4, .inr (.inr (.inr (.inr gh1)))))] := hD
  refine lv_aload_n hx hb dX1_depthIf_0 rfl (lv_at hl 0 rfl) ?_
  refine lv_aload_nN hx hb dX1_depthIf_1 rfl (lv_at hl 1 rfl) ?_
  refine lv_acmp_ne (rx := (some y1)) (ry := none) (tgt := 7) hx hb dX1_depthIf_2 (by decide) (fun c9 => ?_) (fun c9 => ?_)
  rotate_left
  · exact absurd c9 (by intro h9; cases h9)
  refine lv_iconst (v := 1) hx hb dX1_depthIf_7 (by decide) ?_
  refine lv_istore (lv' := [(4, .int 1), (0, .ref y1), (1, .null), (2, .int 0), (3, .int 4)]) hx hb dX1_depthIf_8 hl (by decide) rfl (fun ls hl => ?_)
  refine lv_iconst (v := 0) hx hb dX1_depthIf_10 (by decide) ?_
  refine lv_istore (lv' := [(5, .int 0), (4, .int 1), (0, .ref y1), (1, .null), (2, .int 0), (3, .int 4)]) hx hb dX1_depthIf_11 hl (by decide) rfl (fun ls hl => ?_)
  refine lv_iload_n hx hb dX1_depthIf_13 rfl (lv_at hl 5 rfl) ?_
  refine lv_iconst (v := 1) hx hb dX1_depthIf_14 (by decide) ?_
  refine lv_icmp_le (tgt := 66) hx hb dX1_depthIf_15 (by decide) (fun c9 => ?_) (fun c9 => ?_)
  · exact absurd c9 (by decide)
  refine lv_iload hx hb dX1_depthIf_18 (lv_at hl 0 rfl) ?_
  refine lv_aload_n hx hb dX1_depthIf_20 rfl (lv_at hl 2 rfl) ?_
  refine va_getN (D := (dC, dI)) (ci := 5) (v := .int 4) (C := RX0) (T := TX0) (N := 6) hx hb hts hi_X1_depthIf_X0 hown hK hP 4 rfl rfl 1 (by decide) (zn3 hZ) (fun _ h9 => h9) rfl dX1_depthIf_21 ?_
  refine lv_icmp_ge (tgt := 66) hx hb dX1_depthIf_24 (by decide) (fun c9 => ?_) (fun c9 => ?_)
  · exact absurd c9 (by decide)
  refine lv_aload_n hx hb dX1_depthIf_27 rfl (lv_at hl 2 rfl) ?_
  refine va_getN (D := (dC, dI)) (ci := 5) (v := .ref yh1) (C := RX0) (T := TX0) (N := 6) hx hb hts hi_X1_depthIf_X0 hown hK hP 4 rfl rfl 4 (by decide) (zn2 hZ) (fun _ h9 => h9) rfl dX1_depthIf_28 ?_
  refine lv_iload hx hb dX1_depthIf_31 (lv_at hl 0 rfl) ?_
  refine va_aldq (D := (dC, dI)) (cl := vwCl) hx hb hK hP 7 2 rfl rfl (by unfold vp_in; decide) dX1_depthIf_33 ?_
  rw [show (0 : Int32).toNatClampNeg = 0 from by decide, hgh1 0 (by decide)]
  refine W.eq (g2 := F0 mY 34 ls [.ref y0]) rfl ?_
  refine lv_astore (lv' := [(6, .ref y0), (5, .int 0), (4, .int 1), (0, .ref y1), (1, .null), (2, .int 0), (3, .int 4)]) hx hb dX1_depthIf_34 hl (by decide) rfl (fun ls hl => ?_)
  refine lv_aload hx hb dX1_depthIf_36 (lv_at hl 0 rfl) ?_
  refine lv_ifnull hx hb dX1_depthIf_38 ?_
  refine lv_iload hx hb dX1_depthIf_41 (lv_at hl 2 rfl) ?_
  refine lv_iconst (v := 1) hx hb dX1_depthIf_43 (by decide) ?_
  refine lv_aload hx hb dX1_depthIf_44 (lv_at hl 0 rfl) ?_
  refine lv_aload_nN hx hb dX1_depthIf_46 rfl (lv_at hl 4 rfl) ?_
  refine lv_iload_n hx hb dX1_depthIf_47 rfl (lv_at hl 5 rfl) ?_
  refine lv_iload_n hx hb dX1_depthIf_48 rfl (lv_at hl 6 rfl) ?_
  refine lv_iconst (v := 1) hx hb dX1_depthIf_49 (by decide) ?_
  refine lv_isub hx hb dX1_depthIf_50 ?_
  refine lv_topi (fun v1 ev1 => ?_)
  obtain rfl : v1 = 3 := ev1.trans (by decide)
  have hPc := hP.sub (ws' := [(y0, .inr (5, [.int 4, .int 4, .ref yw0, .ref yv0, .ref yh0, .int nb0])), (yw0, .inl (cI, 4, .inl gw0)), (yv0, .inl (cI, 4, .inl gv0)), (yh0, .inl (cR, 4, .inr (.inr (.inr (.inr gh0)))))]) [0, 1, 2, 3] rfl
  have hDc := hD.sub (ws' := [(y0, .inr (5, [.int 4, .int 4, .ref yw0, .ref yv0, .ref yh0, .int nb0])), (yw0, .inl (cI, 4, .inl gw0)), (yv0, .inl (cI, 4, .inl gv0)), (yh0, .inl (cR, 4, .inr (.inr (.inr (.inr gh0)))))]) [0, 1, 2, 3] (by decide) rfl
  have hFc := va_free (wc := [(y0, .inr (5, [.int 4, .int 4, .ref yw0, .ref yv0, .ref yh0, .int nb0])), (yw0, .inl (cI, 4, .inl gw0)), (yv0, .inl (cI, 4, .inl gv0)), (yh0, .inl (cR, 4, .inr (.inr (.inr (.inr gh0)))))]) hD hS hA [0, 1, 2, 3] rfl
  have hDv := hDc.self (sz := s.heap.size)
  have hpre := zpre (xs' := []) (av := [.ref y0, .null, .int 0, .int 3]) hPc hK (hDc.weaken (fun _ _ _ h => h)) hZ hS hFc (fun r hr => by cases hr)
  refine va_calli (va_runS (As := [.ref y0, .null, .int 0, .int 3]) (rest := [.int 1, .int 1]) ⟨hx, hb, hml, hown, hts⟩ (k_dIn0_3 l dC dI cI cB cR cO zk y0 yw0 yv0 yh0 nb0 gw0 gv0 gh0 s.heap.size hgw0 hgh0) (va_cwS 4 hts gX1_depthIf_X1_depthIf rfl rfl rfl (by decide +kernel) ⟨Nat.le_of_ble_eq_true rfl, Nat.le_of_ble_eq_true rfl⟩) ⟨zblind, hpre⟩ rfl rfl hl.1 rfl (lv_room (Nat.le_of_ble_eq_true rfl)) dX1_depthIf_51 ⟨Nat.le_of_ble_eq_true rfl, Nat.le_of_ble_eq_true rfl⟩) hS (fun q _ h => hFc q h) hFc (fun r3 u t H2 locs ht hvm hw hB hz1 hk1 hS => ?_)
  obtain rfl : 1 = r3 := (show r3 = 1 from hw).symm
  obtain ⟨hP1, hK1, hD1, hz2⟩ := hB
  rw [ht] at hP1 hz2
  have hPD9 := va_join (wr := [(y1, .inr (5, [.int 4, .int 4, .ref yw1, .ref yv1, .ref yh1, .int nb1])), (yw1, .inl (cI, 4, .inl gw1)), (yv1, .inl (cI, 4, .inl gv1)), (yh1, .inl (cR, 4, .inr (.inr (.inr (.inr gh1)))))]) (w1 := [(y0, .inr (5, [.int 4, .int 4, .ref yw0, .ref yv0, .ref yh0, .int nb0])), (yw0, .inl (cI, 4, .inl gw0)), (yv0, .inl (cI, 4, .inl gv0)), (yh0, .inl (cR, 4, .inr (.inr (.inr (.inr gh0)))))]) hP hD [0, 1, 2, 3] [4, 5, 6, 7] rfl rfl (by decide) (by decide) hk1 hFc hP1 hD1
  clear hPc hDc hFc hDv hpre hP hD hP1 hK1 hD1
  obtain ⟨hP, hD⟩ := hPD9
  replace hz : s.heap.size + 0 ≤ H2.size := by omega
  clear hz2
  replace hP : va_P (dC, dI) vwCl [(y1, .inr (5, [.int 4, .int 4, .ref yw1, .ref yv1, .ref yh1, .int nb1])), (yw1, .inl (cI, 4, .inl gw1)), (yv1, .inl (cI, 4, .inl gv1)), (yh1, .inl (cR, 4, .inr (.inr (.inr (.inr gh1))))), (y0, .inr (5, [.int 4, .int 4, .ref yw0, .ref yv0, .ref yh0, .int nb0])), (yw0, .inl (cI, 4, .inl gw0)), (yv0, .inl (cI, 4, .inl gv0)), (yh0, .inl (cR, 4, .inr (.inr (.inr (.inr gh0)))))] H2 := hP
  replace hD : va_D A [(y1, .inr (5, [.int 4, .int 4, .ref yw1, .ref yv1, .ref yh1, .int nb1])), (yw1, .inl (cI, 4, .inl gw1)), (yv1, .inl (cI, 4, .inl gv1)), (yh1, .inl (cR, 4, .inr (.inr (.inr (.inr gh1))))), (y0, .inr (5, [.int 4, .int 4, .ref yw0, .ref yv0, .ref yh0, .int nb0])), (yw0, .inl (cI, 4, .inl gw0)), (yv0, .inl (cI, 4, .inl gv0)), (yh0, .inl (cR, 4, .inr (.inr (.inr (.inr gh0)))))] := hD
  refine W.widen (k := 0) (n := 0) (by omega) (by omega) ?_
  refine lv_iadd hx hb dX1_depthIf_54 ?_
  refine lv_topi (fun v4 ev4 => ?_)
  obtain rfl : v4 = 2 := ev4.trans (by decide)
  refine va_mmax (x := 1) (y := 2) hx hb (hml.trans hl.1.symm) hown (hts (.methodLink RX1 126 Lib.Math.max.name) (List.mem_cons_of_mem _ zw_728)) (hts (.static Lib.Math.max.name) (List.mem_cons_of_mem _ zw_271)) (hts (.initialized "java/lang/Math") (List.mem_cons_of_mem _ zw_58)) (hts (.code Lib.Math.max.name Lib.Math.max.code 2 (some .int)) (List.mem_cons_of_mem _ zw_272)) (Nat.le_of_ble_eq_true rfl) (Nat.le_of_ble_eq_true rfl) (Nat.le_of_ble_eq_true rfl) (Nat.le_of_ble_eq_true rfl) dX1_depthIf_55 ?_
  refine lv_topi (fun v5 ev5 => ?_)
  obtain rfl : v5 = 2 := ev5.trans (by decide)
  refine lv_istore (lv' := [(4, .int 2), (6, .ref y0), (5, .int 0), (0, .ref y1), (1, .null), (2, .int 0), (3, .int 4)]) hx hb dX1_depthIf_58 hl (by decide) rfl (fun ls hl => ?_)
  refine lv_iinc (v := 1) (lv' := [(5, .int 1), (4, .int 2), (6, .ref y0), (0, .ref y1), (1, .null), (2, .int 0), (3, .int 4)]) hx hb dX1_depthIf_60 hl (k := 2) rfl (by decide) (by decide) rfl (fun ls hl => ?_)
  refine lv_goto (tgt := 13) hx hb dX1_depthIf_63 (by decide) ?_
  refine lv_iload_n hx hb dX1_depthIf_13 rfl (lv_at hl 6 rfl) ?_
  refine lv_iconst (v := 1) hx hb dX1_depthIf_14 (by decide) ?_
  refine lv_icmp_le (tgt := 66) hx hb dX1_depthIf_15 (by decide) (fun c9 => ?_) (fun c9 => ?_)
  · exact absurd c9 (by decide)
  refine lv_iload hx hb dX1_depthIf_18 (lv_at hl 0 rfl) ?_
  refine lv_aload_n hx hb dX1_depthIf_20 rfl (lv_at hl 3 rfl) ?_
  refine va_getN (D := (dC, dI)) (ci := 5) (v := .int 4) (C := RX0) (T := TX0) (N := 6) hx hb hts hi_X1_depthIf_X0 hown hK hP 0 rfl rfl 1 (by decide) (zn3 hZ) (fun _ h9 => h9) rfl dX1_depthIf_21 ?_
  refine lv_icmp_ge (tgt := 66) hx hb dX1_depthIf_24 (by decide) (fun c9 => ?_) (fun c9 => ?_)
  · exact absurd c9 (by decide)
  refine lv_aload_n hx hb dX1_depthIf_27 rfl (lv_at hl 3 rfl) ?_
  refine va_getN (D := (dC, dI)) (ci := 5) (v := .ref yh1) (C := RX0) (T := TX0) (N := 6) hx hb hts hi_X1_depthIf_X0 hown hK hP 0 rfl rfl 4 (by decide) (zn2 hZ) (fun _ h9 => h9) rfl dX1_depthIf_28 ?_
  refine lv_iload hx hb dX1_depthIf_31 (lv_at hl 0 rfl) ?_
  refine va_aldq (D := (dC, dI)) (cl := vwCl) hx hb hK hP 3 2 rfl rfl (by unfold vp_in; decide) dX1_depthIf_33 ?_
  rw [show (1 : Int32).toNatClampNeg = 1 from by decide, hgh1 1 (by decide)]
  refine W.eq (g2 := F0 mY 34 ls [.ref y0]) rfl ?_
  refine lv_astore (lv' := [(6, .ref y0), (5, .int 1), (4, .int 2), (0, .ref y1), (1, .null), (2, .int 0), (3, .int 4)]) hx hb dX1_depthIf_34 hl (by decide) rfl (fun ls hl => ?_)
  refine lv_aload hx hb dX1_depthIf_36 (lv_at hl 0 rfl) ?_
  refine lv_ifnull hx hb dX1_depthIf_38 ?_
  refine lv_iload hx hb dX1_depthIf_41 (lv_at hl 2 rfl) ?_
  refine lv_iconst (v := 1) hx hb dX1_depthIf_43 (by decide) ?_
  refine lv_aload hx hb dX1_depthIf_44 (lv_at hl 0 rfl) ?_
  refine lv_aload_nN hx hb dX1_depthIf_46 rfl (lv_at hl 4 rfl) ?_
  refine lv_iload_n hx hb dX1_depthIf_47 rfl (lv_at hl 5 rfl) ?_
  refine lv_iload_n hx hb dX1_depthIf_48 rfl (lv_at hl 6 rfl) ?_
  refine lv_iconst (v := 1) hx hb dX1_depthIf_49 (by decide) ?_
  refine lv_isub hx hb dX1_depthIf_50 ?_
  refine lv_topi (fun v6 ev6 => ?_)
  obtain rfl : v6 = 3 := ev6.trans (by decide)
  have hPc := hP.sub (ws' := [(y0, .inr (5, [.int 4, .int 4, .ref yw0, .ref yv0, .ref yh0, .int nb0])), (yw0, .inl (cI, 4, .inl gw0)), (yv0, .inl (cI, 4, .inl gv0)), (yh0, .inl (cR, 4, .inr (.inr (.inr (.inr gh0)))))]) [4, 5, 6, 7] rfl
  have hDc := hD.sub (ws' := [(y0, .inr (5, [.int 4, .int 4, .ref yw0, .ref yv0, .ref yh0, .int nb0])), (yw0, .inl (cI, 4, .inl gw0)), (yv0, .inl (cI, 4, .inl gv0)), (yh0, .inl (cR, 4, .inr (.inr (.inr (.inr gh0)))))]) [4, 5, 6, 7] (by decide) rfl
  have hFc := va_free (wc := [(y0, .inr (5, [.int 4, .int 4, .ref yw0, .ref yv0, .ref yh0, .int nb0])), (yw0, .inl (cI, 4, .inl gw0)), (yv0, .inl (cI, 4, .inl gv0)), (yh0, .inl (cR, 4, .inr (.inr (.inr (.inr gh0)))))]) hD hS hA [4, 5, 6, 7] rfl
  have hDv := hDc.self (sz := H2.size)
  have hpre := zpre (xs' := []) (av := [.ref y0, .null, .int 0, .int 3]) hPc hK (hDc.weaken (fun _ _ _ h => h)) hZ hS hFc (fun r hr => by cases hr)
  refine va_calli (va_runS (As := [.ref y0, .null, .int 0, .int 3]) (rest := [.int 1, .int 2]) ⟨hx, hb, hml, hown, hts⟩ (k_dIn0_3 l dC dI cI cB cR cO zk y0 yw0 yv0 yh0 nb0 gw0 gv0 gh0 H2.size hgw0 hgh0) (va_cwS 4 hts gX1_depthIf_X1_depthIf rfl rfl rfl (by decide +kernel) ⟨Nat.le_of_ble_eq_true rfl, Nat.le_of_ble_eq_true rfl⟩) ⟨zblind, hpre⟩ rfl rfl hl.1 rfl (lv_room (Nat.le_of_ble_eq_true rfl)) dX1_depthIf_51 ⟨Nat.le_of_ble_eq_true rfl, Nat.le_of_ble_eq_true rfl⟩) hS (fun q _ h => hFc q h) hFc (fun r8 u t H7 locs ht hvm hw hB hz1 hk1 hS => ?_)
  obtain rfl : 1 = r8 := (show r8 = 1 from hw).symm
  obtain ⟨hP1, hK1, hD1, hz2⟩ := hB
  rw [ht] at hP1 hz2
  have hPD9 := va_join (wr := [(y1, .inr (5, [.int 4, .int 4, .ref yw1, .ref yv1, .ref yh1, .int nb1])), (yw1, .inl (cI, 4, .inl gw1)), (yv1, .inl (cI, 4, .inl gv1)), (yh1, .inl (cR, 4, .inr (.inr (.inr (.inr gh1)))))]) (w1 := [(y0, .inr (5, [.int 4, .int 4, .ref yw0, .ref yv0, .ref yh0, .int nb0])), (yw0, .inl (cI, 4, .inl gw0)), (yv0, .inl (cI, 4, .inl gv0)), (yh0, .inl (cR, 4, .inr (.inr (.inr (.inr gh0)))))]) hP hD [4, 5, 6, 7] [0, 1, 2, 3] rfl rfl (by decide) (by decide) hk1 hFc hP1 hD1
  clear hPc hDc hFc hDv hpre hP hD hP1 hK1 hD1
  obtain ⟨hP, hD⟩ := hPD9
  replace hz : s.heap.size + 0 ≤ H7.size := by omega
  clear hz2
  replace hP : va_P (dC, dI) vwCl [(y1, .inr (5, [.int 4, .int 4, .ref yw1, .ref yv1, .ref yh1, .int nb1])), (yw1, .inl (cI, 4, .inl gw1)), (yv1, .inl (cI, 4, .inl gv1)), (yh1, .inl (cR, 4, .inr (.inr (.inr (.inr gh1))))), (y0, .inr (5, [.int 4, .int 4, .ref yw0, .ref yv0, .ref yh0, .int nb0])), (yw0, .inl (cI, 4, .inl gw0)), (yv0, .inl (cI, 4, .inl gv0)), (yh0, .inl (cR, 4, .inr (.inr (.inr (.inr gh0)))))] H7 := hP
  replace hD : va_D A [(y1, .inr (5, [.int 4, .int 4, .ref yw1, .ref yv1, .ref yh1, .int nb1])), (yw1, .inl (cI, 4, .inl gw1)), (yv1, .inl (cI, 4, .inl gv1)), (yh1, .inl (cR, 4, .inr (.inr (.inr (.inr gh1))))), (y0, .inr (5, [.int 4, .int 4, .ref yw0, .ref yv0, .ref yh0, .int nb0])), (yw0, .inl (cI, 4, .inl gw0)), (yv0, .inl (cI, 4, .inl gv0)), (yh0, .inl (cR, 4, .inr (.inr (.inr (.inr gh0)))))] := hD
  refine W.widen (k := 0) (n := 0) (by omega) (by omega) ?_
  refine lv_iadd hx hb dX1_depthIf_54 ?_
  refine lv_topi (fun v9 ev9 => ?_)
  obtain rfl : v9 = 2 := ev9.trans (by decide)
  refine va_mmax (x := 2) (y := 2) hx hb (hml.trans hl.1.symm) hown (hts (.methodLink RX1 126 Lib.Math.max.name) (List.mem_cons_of_mem _ zw_728)) (hts (.static Lib.Math.max.name) (List.mem_cons_of_mem _ zw_271)) (hts (.initialized "java/lang/Math") (List.mem_cons_of_mem _ zw_58)) (hts (.code Lib.Math.max.name Lib.Math.max.code 2 (some .int)) (List.mem_cons_of_mem _ zw_272)) (Nat.le_of_ble_eq_true rfl) (Nat.le_of_ble_eq_true rfl) (Nat.le_of_ble_eq_true rfl) (Nat.le_of_ble_eq_true rfl) dX1_depthIf_55 ?_
  refine lv_topi (fun v10 ev10 => ?_)
  obtain rfl : v10 = 2 := ev10.trans (by decide)
  refine lv_istore (lv' := [(4, .int 2), (6, .ref y0), (5, .int 1), (0, .ref y1), (1, .null), (2, .int 0), (3, .int 4)]) hx hb dX1_depthIf_58 hl (by decide) rfl (fun ls hl => ?_)
  refine lv_iinc (v := 2) (lv' := [(5, .int 2), (4, .int 2), (6, .ref y0), (0, .ref y1), (1, .null), (2, .int 0), (3, .int 4)]) hx hb dX1_depthIf_60 hl (k := 2) rfl (by decide) (by decide) rfl (fun ls hl => ?_)
  refine lv_goto (tgt := 13) hx hb dX1_depthIf_63 (by decide) ?_
  refine lv_iload_n hx hb dX1_depthIf_13 rfl (lv_at hl 6 rfl) ?_
  refine lv_iconst (v := 1) hx hb dX1_depthIf_14 (by decide) ?_
  refine lv_icmp_le (tgt := 66) hx hb dX1_depthIf_15 (by decide) (fun c9 => ?_) (fun c9 => ?_)
  · exact absurd c9 (by decide)
  refine lv_iload hx hb dX1_depthIf_18 (lv_at hl 0 rfl) ?_
  refine lv_aload_n hx hb dX1_depthIf_20 rfl (lv_at hl 3 rfl) ?_
  refine va_getN (D := (dC, dI)) (ci := 5) (v := .int 4) (C := RX0) (T := TX0) (N := 6) hx hb hts hi_X1_depthIf_X0 hown hK hP 0 rfl rfl 1 (by decide) (zn3 hZ) (fun _ h9 => h9) rfl dX1_depthIf_21 ?_
  refine lv_icmp_ge (tgt := 66) hx hb dX1_depthIf_24 (by decide) (fun c9 => ?_) (fun c9 => ?_)
  · exact absurd c9 (by decide)
  refine lv_aload_n hx hb dX1_depthIf_27 rfl (lv_at hl 3 rfl) ?_
  refine va_getN (D := (dC, dI)) (ci := 5) (v := .ref yh1) (C := RX0) (T := TX0) (N := 6) hx hb hts hi_X1_depthIf_X0 hown hK hP 0 rfl rfl 4 (by decide) (zn2 hZ) (fun _ h9 => h9) rfl dX1_depthIf_28 ?_
  refine lv_iload hx hb dX1_depthIf_31 (lv_at hl 0 rfl) ?_
  refine va_aldq (D := (dC, dI)) (cl := vwCl) hx hb hK hP 3 2 rfl rfl (by unfold vp_in; decide) dX1_depthIf_33 ?_
  rw [show (2 : Int32).toNatClampNeg = 2 from by decide, hgh1 2 (by decide)]
  refine W.eq (g2 := F0 mY 34 ls [.ref y0]) rfl ?_
  refine lv_astore (lv' := [(6, .ref y0), (5, .int 2), (4, .int 2), (0, .ref y1), (1, .null), (2, .int 0), (3, .int 4)]) hx hb dX1_depthIf_34 hl (by decide) rfl (fun ls hl => ?_)
  refine lv_aload hx hb dX1_depthIf_36 (lv_at hl 0 rfl) ?_
  refine lv_ifnull hx hb dX1_depthIf_38 ?_
  refine lv_iload hx hb dX1_depthIf_41 (lv_at hl 2 rfl) ?_
  refine lv_iconst (v := 1) hx hb dX1_depthIf_43 (by decide) ?_
  refine lv_aload hx hb dX1_depthIf_44 (lv_at hl 0 rfl) ?_
  refine lv_aload_nN hx hb dX1_depthIf_46 rfl (lv_at hl 4 rfl) ?_
  refine lv_iload_n hx hb dX1_depthIf_47 rfl (lv_at hl 5 rfl) ?_
  refine lv_iload_n hx hb dX1_depthIf_48 rfl (lv_at hl 6 rfl) ?_
  refine lv_iconst (v := 1) hx hb dX1_depthIf_49 (by decide) ?_
  refine lv_isub hx hb dX1_depthIf_50 ?_
  refine lv_topi (fun v11 ev11 => ?_)
  obtain rfl : v11 = 3 := ev11.trans (by decide)
  have hPc := hP.sub (ws' := [(y0, .inr (5, [.int 4, .int 4, .ref yw0, .ref yv0, .ref yh0, .int nb0])), (yw0, .inl (cI, 4, .inl gw0)), (yv0, .inl (cI, 4, .inl gv0)), (yh0, .inl (cR, 4, .inr (.inr (.inr (.inr gh0)))))]) [4, 5, 6, 7] rfl
  have hDc := hD.sub (ws' := [(y0, .inr (5, [.int 4, .int 4, .ref yw0, .ref yv0, .ref yh0, .int nb0])), (yw0, .inl (cI, 4, .inl gw0)), (yv0, .inl (cI, 4, .inl gv0)), (yh0, .inl (cR, 4, .inr (.inr (.inr (.inr gh0)))))]) [4, 5, 6, 7] (by decide) rfl
  have hFc := va_free (wc := [(y0, .inr (5, [.int 4, .int 4, .ref yw0, .ref yv0, .ref yh0, .int nb0])), (yw0, .inl (cI, 4, .inl gw0)), (yv0, .inl (cI, 4, .inl gv0)), (yh0, .inl (cR, 4, .inr (.inr (.inr (.inr gh0)))))]) hD hS hA [4, 5, 6, 7] rfl
  have hDv := hDc.self (sz := H7.size)
  have hpre := zpre (xs' := []) (av := [.ref y0, .null, .int 0, .int 3]) hPc hK (hDc.weaken (fun _ _ _ h => h)) hZ hS hFc (fun r hr => by cases hr)
  refine va_calli (va_runS (As := [.ref y0, .null, .int 0, .int 3]) (rest := [.int 1, .int 2]) ⟨hx, hb, hml, hown, hts⟩ (k_dIn0_3 l dC dI cI cB cR cO zk y0 yw0 yv0 yh0 nb0 gw0 gv0 gh0 H7.size hgw0 hgh0) (va_cwS 4 hts gX1_depthIf_X1_depthIf rfl rfl rfl (by decide +kernel) ⟨Nat.le_of_ble_eq_true rfl, Nat.le_of_ble_eq_true rfl⟩) ⟨zblind, hpre⟩ rfl rfl hl.1 rfl (lv_room (Nat.le_of_ble_eq_true rfl)) dX1_depthIf_51 ⟨Nat.le_of_ble_eq_true rfl, Nat.le_of_ble_eq_true rfl⟩) hS (fun q _ h => hFc q h) hFc (fun r13 u t H12 locs ht hvm hw hB hz1 hk1 hS => ?_)
  obtain rfl : 1 = r13 := (show r13 = 1 from hw).symm
  obtain ⟨hP1, hK1, hD1, hz2⟩ := hB
  rw [ht] at hP1 hz2
  have hPD9 := va_join (wr := [(y1, .inr (5, [.int 4, .int 4, .ref yw1, .ref yv1, .ref yh1, .int nb1])), (yw1, .inl (cI, 4, .inl gw1)), (yv1, .inl (cI, 4, .inl gv1)), (yh1, .inl (cR, 4, .inr (.inr (.inr (.inr gh1)))))]) (w1 := [(y0, .inr (5, [.int 4, .int 4, .ref yw0, .ref yv0, .ref yh0, .int nb0])), (yw0, .inl (cI, 4, .inl gw0)), (yv0, .inl (cI, 4, .inl gv0)), (yh0, .inl (cR, 4, .inr (.inr (.inr (.inr gh0)))))]) hP hD [4, 5, 6, 7] [0, 1, 2, 3] rfl rfl (by decide) (by decide) hk1 hFc hP1 hD1
  clear hPc hDc hFc hDv hpre hP hD hP1 hK1 hD1
  obtain ⟨hP, hD⟩ := hPD9
  replace hz : s.heap.size + 0 ≤ H12.size := by omega
  clear hz2
  replace hP : va_P (dC, dI) vwCl [(y1, .inr (5, [.int 4, .int 4, .ref yw1, .ref yv1, .ref yh1, .int nb1])), (yw1, .inl (cI, 4, .inl gw1)), (yv1, .inl (cI, 4, .inl gv1)), (yh1, .inl (cR, 4, .inr (.inr (.inr (.inr gh1))))), (y0, .inr (5, [.int 4, .int 4, .ref yw0, .ref yv0, .ref yh0, .int nb0])), (yw0, .inl (cI, 4, .inl gw0)), (yv0, .inl (cI, 4, .inl gv0)), (yh0, .inl (cR, 4, .inr (.inr (.inr (.inr gh0)))))] H12 := hP
  replace hD : va_D A [(y1, .inr (5, [.int 4, .int 4, .ref yw1, .ref yv1, .ref yh1, .int nb1])), (yw1, .inl (cI, 4, .inl gw1)), (yv1, .inl (cI, 4, .inl gv1)), (yh1, .inl (cR, 4, .inr (.inr (.inr (.inr gh1))))), (y0, .inr (5, [.int 4, .int 4, .ref yw0, .ref yv0, .ref yh0, .int nb0])), (yw0, .inl (cI, 4, .inl gw0)), (yv0, .inl (cI, 4, .inl gv0)), (yh0, .inl (cR, 4, .inr (.inr (.inr (.inr gh0)))))] := hD
  refine W.widen (k := 0) (n := 0) (by omega) (by omega) ?_
  refine lv_iadd hx hb dX1_depthIf_54 ?_
  refine lv_topi (fun v14 ev14 => ?_)
  obtain rfl : v14 = 2 := ev14.trans (by decide)
  refine va_mmax (x := 2) (y := 2) hx hb (hml.trans hl.1.symm) hown (hts (.methodLink RX1 126 Lib.Math.max.name) (List.mem_cons_of_mem _ zw_728)) (hts (.static Lib.Math.max.name) (List.mem_cons_of_mem _ zw_271)) (hts (.initialized "java/lang/Math") (List.mem_cons_of_mem _ zw_58)) (hts (.code Lib.Math.max.name Lib.Math.max.code 2 (some .int)) (List.mem_cons_of_mem _ zw_272)) (Nat.le_of_ble_eq_true rfl) (Nat.le_of_ble_eq_true rfl) (Nat.le_of_ble_eq_true rfl) (Nat.le_of_ble_eq_true rfl) dX1_depthIf_55 ?_
  refine lv_topi (fun v15 ev15 => ?_)
  obtain rfl : v15 = 2 := ev15.trans (by decide)
  refine lv_istore (lv' := [(4, .int 2), (6, .ref y0), (5, .int 2), (0, .ref y1), (1, .null), (2, .int 0), (3, .int 4)]) hx hb dX1_depthIf_58 hl (by decide) rfl (fun ls hl => ?_)
  refine lv_iinc (v := 3) (lv' := [(5, .int 3), (4, .int 2), (6, .ref y0), (0, .ref y1), (1, .null), (2, .int 0), (3, .int 4)]) hx hb dX1_depthIf_60 hl (k := 2) rfl (by decide) (by decide) rfl (fun ls hl => ?_)
  refine lv_goto (tgt := 13) hx hb dX1_depthIf_63 (by decide) ?_
  refine lv_iload_n hx hb dX1_depthIf_13 rfl (lv_at hl 6 rfl) ?_
  refine lv_iconst (v := 1) hx hb dX1_depthIf_14 (by decide) ?_
  refine lv_icmp_le (tgt := 66) hx hb dX1_depthIf_15 (by decide) (fun c9 => ?_) (fun c9 => ?_)
  · exact absurd c9 (by decide)
  refine lv_iload hx hb dX1_depthIf_18 (lv_at hl 0 rfl) ?_
  refine lv_aload_n hx hb dX1_depthIf_20 rfl (lv_at hl 3 rfl) ?_
  refine va_getN (D := (dC, dI)) (ci := 5) (v := .int 4) (C := RX0) (T := TX0) (N := 6) hx hb hts hi_X1_depthIf_X0 hown hK hP 0 rfl rfl 1 (by decide) (zn3 hZ) (fun _ h9 => h9) rfl dX1_depthIf_21 ?_
  refine lv_icmp_ge (tgt := 66) hx hb dX1_depthIf_24 (by decide) (fun c9 => ?_) (fun c9 => ?_)
  · exact absurd c9 (by decide)
  refine lv_aload_n hx hb dX1_depthIf_27 rfl (lv_at hl 3 rfl) ?_
  refine va_getN (D := (dC, dI)) (ci := 5) (v := .ref yh1) (C := RX0) (T := TX0) (N := 6) hx hb hts hi_X1_depthIf_X0 hown hK hP 0 rfl rfl 4 (by decide) (zn2 hZ) (fun _ h9 => h9) rfl dX1_depthIf_28 ?_
  refine lv_iload hx hb dX1_depthIf_31 (lv_at hl 0 rfl) ?_
  refine va_aldq (D := (dC, dI)) (cl := vwCl) hx hb hK hP 3 2 rfl rfl (by unfold vp_in; decide) dX1_depthIf_33 ?_
  rw [show (3 : Int32).toNatClampNeg = 3 from by decide, hgh1 3 (by decide)]
  refine W.eq (g2 := F0 mY 34 ls [.ref y0]) rfl ?_
  refine lv_astore (lv' := [(6, .ref y0), (5, .int 3), (4, .int 2), (0, .ref y1), (1, .null), (2, .int 0), (3, .int 4)]) hx hb dX1_depthIf_34 hl (by decide) rfl (fun ls hl => ?_)
  refine lv_aload hx hb dX1_depthIf_36 (lv_at hl 0 rfl) ?_
  refine lv_ifnull hx hb dX1_depthIf_38 ?_
  refine lv_iload hx hb dX1_depthIf_41 (lv_at hl 2 rfl) ?_
  refine lv_iconst (v := 1) hx hb dX1_depthIf_43 (by decide) ?_
  refine lv_aload hx hb dX1_depthIf_44 (lv_at hl 0 rfl) ?_
  refine lv_aload_nN hx hb dX1_depthIf_46 rfl (lv_at hl 4 rfl) ?_
  refine lv_iload_n hx hb dX1_depthIf_47 rfl (lv_at hl 5 rfl) ?_
  refine lv_iload_n hx hb dX1_depthIf_48 rfl (lv_at hl 6 rfl) ?_
  refine lv_iconst (v := 1) hx hb dX1_depthIf_49 (by decide) ?_
  refine lv_isub hx hb dX1_depthIf_50 ?_
  refine lv_topi (fun v16 ev16 => ?_)
  obtain rfl : v16 = 3 := ev16.trans (by decide)
  have hPc := hP.sub (ws' := [(y0, .inr (5, [.int 4, .int 4, .ref yw0, .ref yv0, .ref yh0, .int nb0])), (yw0, .inl (cI, 4, .inl gw0)), (yv0, .inl (cI, 4, .inl gv0)), (yh0, .inl (cR, 4, .inr (.inr (.inr (.inr gh0)))))]) [4, 5, 6, 7] rfl
  have hDc := hD.sub (ws' := [(y0, .inr (5, [.int 4, .int 4, .ref yw0, .ref yv0, .ref yh0, .int nb0])), (yw0, .inl (cI, 4, .inl gw0)), (yv0, .inl (cI, 4, .inl gv0)), (yh0, .inl (cR, 4, .inr (.inr (.inr (.inr gh0)))))]) [4, 5, 6, 7] (by decide) rfl
  have hFc := va_free (wc := [(y0, .inr (5, [.int 4, .int 4, .ref yw0, .ref yv0, .ref yh0, .int nb0])), (yw0, .inl (cI, 4, .inl gw0)), (yv0, .inl (cI, 4, .inl gv0)), (yh0, .inl (cR, 4, .inr (.inr (.inr (.inr gh0)))))]) hD hS hA [4, 5, 6, 7] rfl
  have hDv := hDc.self (sz := H12.size)
  have hpre := zpre (xs' := []) (av := [.ref y0, .null, .int 0, .int 3]) hPc hK (hDc.weaken (fun _ _ _ h => h)) hZ hS hFc (fun r hr => by cases hr)
  refine va_calli (va_runS (As := [.ref y0, .null, .int 0, .int 3]) (rest := [.int 1, .int 2]) ⟨hx, hb, hml, hown, hts⟩ (k_dIn0_3 l dC dI cI cB cR cO zk y0 yw0 yv0 yh0 nb0 gw0 gv0 gh0 H12.size hgw0 hgh0) (va_cwS 4 hts gX1_depthIf_X1_depthIf rfl rfl rfl (by decide +kernel) ⟨Nat.le_of_ble_eq_true rfl, Nat.le_of_ble_eq_true rfl⟩) ⟨zblind, hpre⟩ rfl rfl hl.1 rfl (lv_room (Nat.le_of_ble_eq_true rfl)) dX1_depthIf_51 ⟨Nat.le_of_ble_eq_true rfl, Nat.le_of_ble_eq_true rfl⟩) hS (fun q _ h => hFc q h) hFc (fun r18 u t H17 locs ht hvm hw hB hz1 hk1 hS => ?_)
  obtain rfl : 1 = r18 := (show r18 = 1 from hw).symm
  obtain ⟨hP1, hK1, hD1, hz2⟩ := hB
  rw [ht] at hP1 hz2
  have hPD9 := va_join (wr := [(y1, .inr (5, [.int 4, .int 4, .ref yw1, .ref yv1, .ref yh1, .int nb1])), (yw1, .inl (cI, 4, .inl gw1)), (yv1, .inl (cI, 4, .inl gv1)), (yh1, .inl (cR, 4, .inr (.inr (.inr (.inr gh1)))))]) (w1 := [(y0, .inr (5, [.int 4, .int 4, .ref yw0, .ref yv0, .ref yh0, .int nb0])), (yw0, .inl (cI, 4, .inl gw0)), (yv0, .inl (cI, 4, .inl gv0)), (yh0, .inl (cR, 4, .inr (.inr (.inr (.inr gh0)))))]) hP hD [4, 5, 6, 7] [0, 1, 2, 3] rfl rfl (by decide) (by decide) hk1 hFc hP1 hD1
  clear hPc hDc hFc hDv hpre hP hD hP1 hK1 hD1
  obtain ⟨hP, hD⟩ := hPD9
  replace hz : s.heap.size + 0 ≤ H17.size := by omega
  clear hz2
  replace hP : va_P (dC, dI) vwCl [(y1, .inr (5, [.int 4, .int 4, .ref yw1, .ref yv1, .ref yh1, .int nb1])), (yw1, .inl (cI, 4, .inl gw1)), (yv1, .inl (cI, 4, .inl gv1)), (yh1, .inl (cR, 4, .inr (.inr (.inr (.inr gh1))))), (y0, .inr (5, [.int 4, .int 4, .ref yw0, .ref yv0, .ref yh0, .int nb0])), (yw0, .inl (cI, 4, .inl gw0)), (yv0, .inl (cI, 4, .inl gv0)), (yh0, .inl (cR, 4, .inr (.inr (.inr (.inr gh0)))))] H17 := hP
  replace hD : va_D A [(y1, .inr (5, [.int 4, .int 4, .ref yw1, .ref yv1, .ref yh1, .int nb1])), (yw1, .inl (cI, 4, .inl gw1)), (yv1, .inl (cI, 4, .inl gv1)), (yh1, .inl (cR, 4, .inr (.inr (.inr (.inr gh1))))), (y0, .inr (5, [.int 4, .int 4, .ref yw0, .ref yv0, .ref yh0, .int nb0])), (yw0, .inl (cI, 4, .inl gw0)), (yv0, .inl (cI, 4, .inl gv0)), (yh0, .inl (cR, 4, .inr (.inr (.inr (.inr gh0)))))] := hD
  refine W.widen (k := 0) (n := 0) (by omega) (by omega) ?_
  refine lv_iadd hx hb dX1_depthIf_54 ?_
  refine lv_topi (fun v19 ev19 => ?_)
  obtain rfl : v19 = 2 := ev19.trans (by decide)
  refine va_mmax (x := 2) (y := 2) hx hb (hml.trans hl.1.symm) hown (hts (.methodLink RX1 126 Lib.Math.max.name) (List.mem_cons_of_mem _ zw_728)) (hts (.static Lib.Math.max.name) (List.mem_cons_of_mem _ zw_271)) (hts (.initialized "java/lang/Math") (List.mem_cons_of_mem _ zw_58)) (hts (.code Lib.Math.max.name Lib.Math.max.code 2 (some .int)) (List.mem_cons_of_mem _ zw_272)) (Nat.le_of_ble_eq_true rfl) (Nat.le_of_ble_eq_true rfl) (Nat.le_of_ble_eq_true rfl) (Nat.le_of_ble_eq_true rfl) dX1_depthIf_55 ?_
  refine lv_topi (fun v20 ev20 => ?_)
  obtain rfl : v20 = 2 := ev20.trans (by decide)
  refine lv_istore (lv' := [(4, .int 2), (6, .ref y0), (5, .int 3), (0, .ref y1), (1, .null), (2, .int 0), (3, .int 4)]) hx hb dX1_depthIf_58 hl (by decide) rfl (fun ls hl => ?_)
  refine lv_iinc (v := 4) (lv' := [(5, .int 4), (4, .int 2), (6, .ref y0), (0, .ref y1), (1, .null), (2, .int 0), (3, .int 4)]) hx hb dX1_depthIf_60 hl (k := 2) rfl (by decide) (by decide) rfl (fun ls hl => ?_)
  refine lv_goto (tgt := 13) hx hb dX1_depthIf_63 (by decide) ?_
  refine lv_iload_n hx hb dX1_depthIf_13 rfl (lv_at hl 6 rfl) ?_
  refine lv_iconst (v := 1) hx hb dX1_depthIf_14 (by decide) ?_
  refine lv_icmp_le (tgt := 66) hx hb dX1_depthIf_15 (by decide) (fun c9 => ?_) (fun c9 => ?_)
  · exact absurd c9 (by decide)
  refine lv_iload hx hb dX1_depthIf_18 (lv_at hl 0 rfl) ?_
  refine lv_aload_n hx hb dX1_depthIf_20 rfl (lv_at hl 3 rfl) ?_
  refine va_getN (D := (dC, dI)) (ci := 5) (v := .int 4) (C := RX0) (T := TX0) (N := 6) hx hb hts hi_X1_depthIf_X0 hown hK hP 0 rfl rfl 1 (by decide) (zn3 hZ) (fun _ h9 => h9) rfl dX1_depthIf_21 ?_
  refine lv_icmp_ge (tgt := 66) hx hb dX1_depthIf_24 (by decide) (fun c9 => ?_) (fun c9 => ?_)
  rotate_left
  · exact absurd (by decide) c9
  refine lv_iload hx hb dX1_depthIf_66 (lv_at hl 1 rfl) ?_
  have hP9 := hP.sub (ws' := [(y0, .inr (5, [.int 4, .int 4, .ref yw0, .ref yv0, .ref yh0, .int nb0])), (yw0, .inl (cI, 4, .inl gw0)), (yv0, .inl (cI, 4, .inl gv0)), (yh0, .inl (cR, 4, .inr (.inr (.inr (.inr gh0))))), (y1, .inr (5, [.int 4, .int 4, .ref yw1, .ref yv1, .ref yh1, .int nb1])), (yw1, .inl (cI, 4, .inl gw1)), (yv1, .inl (cI, 4, .inl gv1)), (yh1, .inl (cR, 4, .inr (.inr (.inr (.inr gh1)))))]) [4, 5, 6, 7, 0, 1, 2, 3] rfl
  have hD9 := hD.sub (ws' := [(y0, .inr (5, [.int 4, .int 4, .ref yw0, .ref yv0, .ref yh0, .int nb0])), (yw0, .inl (cI, 4, .inl gw0)), (yv0, .inl (cI, 4, .inl gv0)), (yh0, .inl (cR, 4, .inr (.inr (.inr (.inr gh0))))), (y1, .inr (5, [.int 4, .int 4, .ref yw1, .ref yv1, .ref yh1, .int nb1])), (yw1, .inl (cI, 4, .inl gw1)), (yv1, .inl (cI, 4, .inl gv1)), (yh1, .inl (cR, 4, .inr (.inr (.inr (.inr gh1)))))]) [4, 5, 6, 7, 0, 1, 2, 3] (by decide) rfl
  exact W.iret (v := 2) hx hb hr (fun t ht hW => ⟨⟨_, (), rfl, rfl, ⟨by rw [ht]; exact hP9, va_K.moved hW.alike hK, hD9, by rw [ht]; exact hz⟩⟩, hS.F ht⟩) hS.2.2 dX1_depthIf_68

set_option maxHeartbeats 4000000 in
set_option maxRecDepth 100000 in
theorem k_dIn0_4 (l : Launch) (dC : Nat → ClassId) (dI : Nat → Nat → Nat) (cI cB cR cO : ClassId) (zk : Nat → Nat) (y0 yw0 yv0 yh0 : Nat) (nb0 : Int32) (gw0 gv0 : Nat → Int32) (gh0 : Nat → Option Nat) (sz : Nat) (hgw0 : ∀ i, i < 4 → gw0 i = 0) (hgh0 : ∀ i, i < 4 → gh0 i = none) : Met l yX1_depthIf wsX1_depthIf ({ frames := 0, cells := 0, slots := 0, locals := 0 }) (va_Pc [.ref y0, .null, .int 0, .int 4] (zPre (dC, dI) (zT cI cB cR cO) zk [] [(y0, .inr (5, [.int 4, .int 4, .ref yw0, .ref yv0, .ref yh0, .int nb0])), (yw0, .inl (cI, 4, .inl gw0)), (yv0, .inl (cI, 4, .inl gv0)), (yh0, .inl (cR, 4, .inr (.inr (.inr (.inr gh0)))))] sz)) (va_Qi (fun r (_ : Unit) => r = 1) (fun _ t => zEnd (dC, dI) (zT cI cB cR cO) (va_A [(y0, .inr (5, [.int 4, .int 4, .ref yw0, .ref yv0, .ref yh0, .int nb0])), (yw0, .inl (cI, 4, .inl gw0)), (yv0, .inl (cI, 4, .inl gv0)), (yh0, .inl (cR, 4, .inr (.inr (.inr (.inr gh0)))))] sz) [(y0, .inr (5, [.int 4, .int 4, .ref yw0, .ref yv0, .ref yh0, .int nb0])), (yw0, .inl (cI, 4, .inl gw0)), (yv0, .inl (cI, 4, .inl gv0)), (yh0, .inl (cR, 4, .inr (.inr (.inr (.inr gh0)))))] sz 0 t) (va_A [(y0, .inr (5, [.int 4, .int 4, .ref yw0, .ref yv0, .ref yh0, .int nb0])), (yw0, .inl (cI, 4, .inl gw0)), (yv0, .inl (cI, 4, .inl gv0)), (yh0, .inl (cR, 4, .inr (.inr (.inr (.inr gh0)))))] sz)) 0 0 (va_A [(y0, .inr (5, [.int 4, .int 4, .ref yw0, .ref yv0, .ref yh0, .int nb0])), (yw0, .inl (cI, 4, .inl gw0)), (yv0, .inl (cI, 4, .inl gv0)), (yh0, .inl (cR, 4, .inr (.inr (.inr (.inr gh0)))))] sz) := by
  refine Met.ofW (cc := cX1_depthIf) (maxL := 7) (ret := (some .int)) (by decide) rfl ?_
  intro p e s mY args below meth c s₁ B hml hv
  obtain ⟨rfl, hsz, hP, hK, hD0, hZ⟩ := hv
  have hx := B.exec
  have hb := B.bytes
  have hr := B.returns
  have hts := atoms_spec (ws := wsX1_depthIf) B.pre
  have hown : s.vm.findClass RX1 = some mY.cls := findClass_of_methodNamed B.named
  have hlocks := B.notSynchronized
  subst hsz
  have hD := hD0.self (sz := s.heap.size)
  generalize hAe : va_A [(y0, .inr (5, [.int 4, .int 4, .ref yw0, .ref yv0, .ref yh0, .int nb0])), (yw0, .inl (cI, 4, .inl gw0)), (yv0, .inl (cI, 4, .inl gv0)), (yh0, .inl (cR, 4, .inr (.inr (.inr (.inr gh0)))))] s.heap.size = A at hD hZ ⊢
  have hA : ∀ q : Nat, s.heap.size ≤ q → A q := fun q h => by rw [← hAe]; exact Or.inr h
  have hS : va_S A s.heap s.heap [] := va_S.rf
  have hz : s.heap.size + 0 ≤ s.heap.size := Nat.le_refl _
  have hl := lv_entry ([.ref y0, .null, .int 0, .int 4]) (n := 7) (Nat.le_of_ble_eq_true rfl)
  rw [lg_entry_eq]
  generalize (lg_sl ([.ref y0, .null, .int 0, .int 4]) ++ List.replicate (7 - (lg_sl ([.ref y0, .null, .int 0, .int 4])).length) Slot.unset).toArray = ls at hl ⊢
  have hl : lv_has ls 7 [(0, .ref y0), (1, .null), (2, .int 0), (3, .int 4)] := hl
  have hP : va_P (dC, dI) vwCl [(y0, .inr (5, [.int 4, .int 4, .ref yw0, .ref yv0, .ref yh0, .int nb0])), (yw0, .inl (cI, 4, .inl gw0)), (yv0, .inl (cI, 4, .inl gv0)), (yh0, .inl (cR, 4, .inr (.inr (.inr (.inr gh0)))))] s.heap := hP
  have hD : va_D A [(y0, .inr (5, [.int 4, .int 4, .ref yw0, .ref yv0, .ref yh0, .int nb0])), (yw0, .inl (cI, 4, .inl gw0)), (yv0, .inl (cI, 4, .inl gv0)), (yh0, .inl (cR, 4, .inr (.inr (.inr (.inr gh0)))))] := hD
  refine lv_aload_n hx hb dX1_depthIf_0 rfl (lv_at hl 0 rfl) ?_
  refine lv_aload_nN hx hb dX1_depthIf_1 rfl (lv_at hl 1 rfl) ?_
  refine lv_acmp_ne (rx := (some y0)) (ry := none) (tgt := 7) hx hb dX1_depthIf_2 (by decide) (fun c9 => ?_) (fun c9 => ?_)
  rotate_left
  · exact absurd c9 (by intro h9; cases h9)
  refine lv_iconst (v := 1) hx hb dX1_depthIf_7 (by decide) ?_
  refine lv_istore (lv' := [(4, .int 1), (0, .ref y0), (1, .null), (2, .int 0), (3, .int 4)]) hx hb dX1_depthIf_8 hl (by decide) rfl (fun ls hl => ?_)
  refine lv_iconst (v := 0) hx hb dX1_depthIf_10 (by decide) ?_
  refine lv_istore (lv' := [(5, .int 0), (4, .int 1), (0, .ref y0), (1, .null), (2, .int 0), (3, .int 4)]) hx hb dX1_depthIf_11 hl (by decide) rfl (fun ls hl => ?_)
  refine lv_iload_n hx hb dX1_depthIf_13 rfl (lv_at hl 5 rfl) ?_
  refine lv_iconst (v := 1) hx hb dX1_depthIf_14 (by decide) ?_
  refine lv_icmp_le (tgt := 66) hx hb dX1_depthIf_15 (by decide) (fun c9 => ?_) (fun c9 => ?_)
  · exact absurd c9 (by decide)
  refine lv_iload hx hb dX1_depthIf_18 (lv_at hl 0 rfl) ?_
  refine lv_aload_n hx hb dX1_depthIf_20 rfl (lv_at hl 2 rfl) ?_
  refine va_getN (D := (dC, dI)) (ci := 5) (v := .int 4) (C := RX0) (T := TX0) (N := 6) hx hb hts hi_X1_depthIf_X0 hown hK hP 0 rfl rfl 1 (by decide) (zn3 hZ) (fun _ h9 => h9) rfl dX1_depthIf_21 ?_
  refine lv_icmp_ge (tgt := 66) hx hb dX1_depthIf_24 (by decide) (fun c9 => ?_) (fun c9 => ?_)
  · exact absurd c9 (by decide)
  refine lv_aload_n hx hb dX1_depthIf_27 rfl (lv_at hl 2 rfl) ?_
  refine va_getN (D := (dC, dI)) (ci := 5) (v := .ref yh0) (C := RX0) (T := TX0) (N := 6) hx hb hts hi_X1_depthIf_X0 hown hK hP 0 rfl rfl 4 (by decide) (zn2 hZ) (fun _ h9 => h9) rfl dX1_depthIf_28 ?_
  refine lv_iload hx hb dX1_depthIf_31 (lv_at hl 0 rfl) ?_
  refine va_aldq (D := (dC, dI)) (cl := vwCl) hx hb hK hP 3 2 rfl rfl (by unfold vp_in; decide) dX1_depthIf_33 ?_
  rw [show (0 : Int32).toNatClampNeg = 0 from by decide, hgh0 0 (by decide)]
  refine W.eq (g2 := F0 mY 34 ls [.null]) rfl ?_
  refine lv_astoreN (lv' := [(6, .null), (5, .int 0), (4, .int 1), (0, .ref y0), (1, .null), (2, .int 0), (3, .int 4)]) hx hb dX1_depthIf_34 hl (by decide) rfl (fun ls hl => ?_)
  refine lv_aloadN hx hb dX1_depthIf_36 (lv_at hl 0 rfl) ?_
  refine lv_ifnullN (tgt := 60) hx hb dX1_depthIf_38 (by decide) ?_
  refine lv_iinc (v := 1) (lv' := [(5, .int 1), (6, .null), (4, .int 1), (0, .ref y0), (1, .null), (2, .int 0), (3, .int 4)]) hx hb dX1_depthIf_60 hl (k := 1) rfl (by decide) (by decide) rfl (fun ls hl => ?_)
  refine lv_goto (tgt := 13) hx hb dX1_depthIf_63 (by decide) ?_
  refine lv_iload_n hx hb dX1_depthIf_13 rfl (lv_at hl 6 rfl) ?_
  refine lv_iconst (v := 1) hx hb dX1_depthIf_14 (by decide) ?_
  refine lv_icmp_le (tgt := 66) hx hb dX1_depthIf_15 (by decide) (fun c9 => ?_) (fun c9 => ?_)
  · exact absurd c9 (by decide)
  refine lv_iload hx hb dX1_depthIf_18 (lv_at hl 0 rfl) ?_
  refine lv_aload_n hx hb dX1_depthIf_20 rfl (lv_at hl 3 rfl) ?_
  refine va_getN (D := (dC, dI)) (ci := 5) (v := .int 4) (C := RX0) (T := TX0) (N := 6) hx hb hts hi_X1_depthIf_X0 hown hK hP 0 rfl rfl 1 (by decide) (zn3 hZ) (fun _ h9 => h9) rfl dX1_depthIf_21 ?_
  refine lv_icmp_ge (tgt := 66) hx hb dX1_depthIf_24 (by decide) (fun c9 => ?_) (fun c9 => ?_)
  · exact absurd c9 (by decide)
  refine lv_aload_n hx hb dX1_depthIf_27 rfl (lv_at hl 3 rfl) ?_
  refine va_getN (D := (dC, dI)) (ci := 5) (v := .ref yh0) (C := RX0) (T := TX0) (N := 6) hx hb hts hi_X1_depthIf_X0 hown hK hP 0 rfl rfl 4 (by decide) (zn2 hZ) (fun _ h9 => h9) rfl dX1_depthIf_28 ?_
  refine lv_iload hx hb dX1_depthIf_31 (lv_at hl 0 rfl) ?_
  refine va_aldq (D := (dC, dI)) (cl := vwCl) hx hb hK hP 3 2 rfl rfl (by unfold vp_in; decide) dX1_depthIf_33 ?_
  rw [show (1 : Int32).toNatClampNeg = 1 from by decide, hgh0 1 (by decide)]
  refine W.eq (g2 := F0 mY 34 ls [.null]) rfl ?_
  refine lv_astoreN (lv' := [(6, .null), (5, .int 1), (4, .int 1), (0, .ref y0), (1, .null), (2, .int 0), (3, .int 4)]) hx hb dX1_depthIf_34 hl (by decide) rfl (fun ls hl => ?_)
  refine lv_aloadN hx hb dX1_depthIf_36 (lv_at hl 0 rfl) ?_
  refine lv_ifnullN (tgt := 60) hx hb dX1_depthIf_38 (by decide) ?_
  refine lv_iinc (v := 2) (lv' := [(5, .int 2), (6, .null), (4, .int 1), (0, .ref y0), (1, .null), (2, .int 0), (3, .int 4)]) hx hb dX1_depthIf_60 hl (k := 1) rfl (by decide) (by decide) rfl (fun ls hl => ?_)
  refine lv_goto (tgt := 13) hx hb dX1_depthIf_63 (by decide) ?_
  refine lv_iload_n hx hb dX1_depthIf_13 rfl (lv_at hl 6 rfl) ?_
  refine lv_iconst (v := 1) hx hb dX1_depthIf_14 (by decide) ?_
  refine lv_icmp_le (tgt := 66) hx hb dX1_depthIf_15 (by decide) (fun c9 => ?_) (fun c9 => ?_)
  · exact absurd c9 (by decide)
  refine lv_iload hx hb dX1_depthIf_18 (lv_at hl 0 rfl) ?_
  refine lv_aload_n hx hb dX1_depthIf_20 rfl (lv_at hl 3 rfl) ?_
  refine va_getN (D := (dC, dI)) (ci := 5) (v := .int 4) (C := RX0) (T := TX0) (N := 6) hx hb hts hi_X1_depthIf_X0 hown hK hP 0 rfl rfl 1 (by decide) (zn3 hZ) (fun _ h9 => h9) rfl dX1_depthIf_21 ?_
  refine lv_icmp_ge (tgt := 66) hx hb dX1_depthIf_24 (by decide) (fun c9 => ?_) (fun c9 => ?_)
  · exact absurd c9 (by decide)
  refine lv_aload_n hx hb dX1_depthIf_27 rfl (lv_at hl 3 rfl) ?_
  refine va_getN (D := (dC, dI)) (ci := 5) (v := .ref yh0) (C := RX0) (T := TX0) (N := 6) hx hb hts hi_X1_depthIf_X0 hown hK hP 0 rfl rfl 4 (by decide) (zn2 hZ) (fun _ h9 => h9) rfl dX1_depthIf_28 ?_
  refine lv_iload hx hb dX1_depthIf_31 (lv_at hl 0 rfl) ?_
  refine va_aldq (D := (dC, dI)) (cl := vwCl) hx hb hK hP 3 2 rfl rfl (by unfold vp_in; decide) dX1_depthIf_33 ?_
  rw [show (2 : Int32).toNatClampNeg = 2 from by decide, hgh0 2 (by decide)]
  refine W.eq (g2 := F0 mY 34 ls [.null]) rfl ?_
  refine lv_astoreN (lv' := [(6, .null), (5, .int 2), (4, .int 1), (0, .ref y0), (1, .null), (2, .int 0), (3, .int 4)]) hx hb dX1_depthIf_34 hl (by decide) rfl (fun ls hl => ?_)
  refine lv_aloadN hx hb dX1_depthIf_36 (lv_at hl 0 rfl) ?_
  refine lv_ifnullN (tgt := 60) hx hb dX1_depthIf_38 (by decide) ?_
  refine lv_iinc (v := 3) (lv' := [(5, .int 3), (6, .null), (4, .int 1), (0, .ref y0), (1, .null), (2, .int 0), (3, .int 4)]) hx hb dX1_depthIf_60 hl (k := 1) rfl (by decide) (by decide) rfl (fun ls hl => ?_)
  refine lv_goto (tgt := 13) hx hb dX1_depthIf_63 (by decide) ?_
  refine lv_iload_n hx hb dX1_depthIf_13 rfl (lv_at hl 6 rfl) ?_
  refine lv_iconst (v := 1) hx hb dX1_depthIf_14 (by decide) ?_
  refine lv_icmp_le (tgt := 66) hx hb dX1_depthIf_15 (by decide) (fun c9 => ?_) (fun c9 => ?_)
  · exact absurd c9 (by decide)
  refine lv_iload hx hb dX1_depthIf_18 (lv_at hl 0 rfl) ?_
  refine lv_aload_n hx hb dX1_depthIf_20 rfl (lv_at hl 3 rfl) ?_
  refine va_getN (D := (dC, dI)) (ci := 5) (v := .int 4) (C := RX0) (T := TX0) (N := 6) hx hb hts hi_X1_depthIf_X0 hown hK hP 0 rfl rfl 1 (by decide) (zn3 hZ) (fun _ h9 => h9) rfl dX1_depthIf_21 ?_
  refine lv_icmp_ge (tgt := 66) hx hb dX1_depthIf_24 (by decide) (fun c9 => ?_) (fun c9 => ?_)
  · exact absurd c9 (by decide)
  refine lv_aload_n hx hb dX1_depthIf_27 rfl (lv_at hl 3 rfl) ?_
  refine va_getN (D := (dC, dI)) (ci := 5) (v := .ref yh0) (C := RX0) (T := TX0) (N := 6) hx hb hts hi_X1_depthIf_X0 hown hK hP 0 rfl rfl 4 (by decide) (zn2 hZ) (fun _ h9 => h9) rfl dX1_depthIf_28 ?_
  refine lv_iload hx hb dX1_depthIf_31 (lv_at hl 0 rfl) ?_
  refine va_aldq (D := (dC, dI)) (cl := vwCl) hx hb hK hP 3 2 rfl rfl (by unfold vp_in; decide) dX1_depthIf_33 ?_
  rw [show (3 : Int32).toNatClampNeg = 3 from by decide, hgh0 3 (by decide)]
  refine W.eq (g2 := F0 mY 34 ls [.null]) rfl ?_
  refine lv_astoreN (lv' := [(6, .null), (5, .int 3), (4, .int 1), (0, .ref y0), (1, .null), (2, .int 0), (3, .int 4)]) hx hb dX1_depthIf_34 hl (by decide) rfl (fun ls hl => ?_)
  refine lv_aloadN hx hb dX1_depthIf_36 (lv_at hl 0 rfl) ?_
  refine lv_ifnullN (tgt := 60) hx hb dX1_depthIf_38 (by decide) ?_
  refine lv_iinc (v := 4) (lv' := [(5, .int 4), (6, .null), (4, .int 1), (0, .ref y0), (1, .null), (2, .int 0), (3, .int 4)]) hx hb dX1_depthIf_60 hl (k := 1) rfl (by decide) (by decide) rfl (fun ls hl => ?_)
  refine lv_goto (tgt := 13) hx hb dX1_depthIf_63 (by decide) ?_
  refine lv_iload_n hx hb dX1_depthIf_13 rfl (lv_at hl 6 rfl) ?_
  refine lv_iconst (v := 1) hx hb dX1_depthIf_14 (by decide) ?_
  refine lv_icmp_le (tgt := 66) hx hb dX1_depthIf_15 (by decide) (fun c9 => ?_) (fun c9 => ?_)
  · exact absurd c9 (by decide)
  refine lv_iload hx hb dX1_depthIf_18 (lv_at hl 0 rfl) ?_
  refine lv_aload_n hx hb dX1_depthIf_20 rfl (lv_at hl 3 rfl) ?_
  refine va_getN (D := (dC, dI)) (ci := 5) (v := .int 4) (C := RX0) (T := TX0) (N := 6) hx hb hts hi_X1_depthIf_X0 hown hK hP 0 rfl rfl 1 (by decide) (zn3 hZ) (fun _ h9 => h9) rfl dX1_depthIf_21 ?_
  refine lv_icmp_ge (tgt := 66) hx hb dX1_depthIf_24 (by decide) (fun c9 => ?_) (fun c9 => ?_)
  rotate_left
  · exact absurd (by decide) c9
  refine lv_iload hx hb dX1_depthIf_66 (lv_at hl 2 rfl) ?_
  have hP9 := hP.sub (ws' := [(y0, .inr (5, [.int 4, .int 4, .ref yw0, .ref yv0, .ref yh0, .int nb0])), (yw0, .inl (cI, 4, .inl gw0)), (yv0, .inl (cI, 4, .inl gv0)), (yh0, .inl (cR, 4, .inr (.inr (.inr (.inr gh0)))))]) [0, 1, 2, 3] rfl
  have hD9 := hD.sub (ws' := [(y0, .inr (5, [.int 4, .int 4, .ref yw0, .ref yv0, .ref yh0, .int nb0])), (yw0, .inl (cI, 4, .inl gw0)), (yv0, .inl (cI, 4, .inl gv0)), (yh0, .inl (cR, 4, .inr (.inr (.inr (.inr gh0)))))]) [0, 1, 2, 3] (by decide) rfl
  exact W.iret (v := 1) hx hb hr (fun t ht hW => ⟨⟨_, (), rfl, rfl, ⟨by rw [ht]; exact hP9, va_K.moved hW.alike hK, hD9, by rw [ht]; exact hz⟩⟩, hS.F ht⟩) hS.2.2 dX1_depthIf_68

set_option maxHeartbeats 4000000 in
set_option maxRecDepth 100000 in
theorem k_dIc0_2 (l : Launch) (dC : Nat → ClassId) (dI : Nat → Nat → Nat) (cI cB cR cO : ClassId) (zk : Nat → Nat) (y0 yw0 yv0 yh0 : Nat) (nb0 : Int32) (gw0 gv0 : Nat → Int32) (gh0 : Nat → Option Nat) (tg e1 e2 e3 : Nat) (e4 : Int32) (dd : Int32) (sz : Nat) (hgw0 : ∀ i, i < 4 → gw0 i = 0) (hgh0 : ∀ i, i < 4 → gh0 i = none) : Met l yX1_depthIf wsX1_depthIf ({ frames := 0, cells := 0, slots := 0, locals := 0 }) (va_Pc [.ref y0, .ref tg, .int dd, .int 2] (zPre (dC, dI) (zT cI cB cR cO) zk [] [(y0, .inr (5, [.int 4, .int 4, .ref yw0, .ref yv0, .ref yh0, .int nb0])), (yw0, .inl (cI, 4, .inl gw0)), (yv0, .inl (cI, 4, .inl gv0)), (yh0, .inl (cR, 4, .inr (.inr (.inr (.inr gh0))))), (tg, .inr (5, [.int 4, .int 4, .ref e1, .ref e2, .ref e3, .int e4]))] sz)) (va_Qi (fun r (_ : Unit) => r = 1) (fun _ t => zEnd (dC, dI) (zT cI cB cR cO) (va_A [(y0, .inr (5, [.int 4, .int 4, .ref yw0, .ref yv0, .ref yh0, .int nb0])), (yw0, .inl (cI, 4, .inl gw0)), (yv0, .inl (cI, 4, .inl gv0)), (yh0, .inl (cR, 4, .inr (.inr (.inr (.inr gh0))))), (tg, .inr (5, [.int 4, .int 4, .ref e1, .ref e2, .ref e3, .int e4]))] sz) [(y0, .inr (5, [.int 4, .int 4, .ref yw0, .ref yv0, .ref yh0, .int nb0])), (yw0, .inl (cI, 4, .inl gw0)), (yv0, .inl (cI, 4, .inl gv0)), (yh0, .inl (cR, 4, .inr (.inr (.inr (.inr gh0))))), (tg, .inr (5, [.int 4, .int 4, .ref e1, .ref e2, .ref e3, .int e4]))] sz 0 t) (va_A [(y0, .inr (5, [.int 4, .int 4, .ref yw0, .ref yv0, .ref yh0, .int nb0])), (yw0, .inl (cI, 4, .inl gw0)), (yv0, .inl (cI, 4, .inl gv0)), (yh0, .inl (cR, 4, .inr (.inr (.inr (.inr gh0))))), (tg, .inr (5, [.int 4, .int 4, .ref e1, .ref e2, .ref e3, .int e4]))] sz)) 0 0 (va_A [(y0, .inr (5, [.int 4, .int 4, .ref yw0, .ref yv0, .ref yh0, .int nb0])), (yw0, .inl (cI, 4, .inl gw0)), (yv0, .inl (cI, 4, .inl gv0)), (yh0, .inl (cR, 4, .inr (.inr (.inr (.inr gh0))))), (tg, .inr (5, [.int 4, .int 4, .ref e1, .ref e2, .ref e3, .int e4]))] sz) := by
  refine Met.ofW (cc := cX1_depthIf) (maxL := 7) (ret := (some .int)) (by decide) rfl ?_
  intro p e s mY args below meth c s₁ B hml hv
  obtain ⟨rfl, hsz, hP, hK, hD0, hZ⟩ := hv
  have hx := B.exec
  have hb := B.bytes
  have hr := B.returns
  have hts := atoms_spec (ws := wsX1_depthIf) B.pre
  have hown : s.vm.findClass RX1 = some mY.cls := findClass_of_methodNamed B.named
  have hlocks := B.notSynchronized
  subst hsz
  have hD := hD0.self (sz := s.heap.size)
  generalize hAe : va_A [(y0, .inr (5, [.int 4, .int 4, .ref yw0, .ref yv0, .ref yh0, .int nb0])), (yw0, .inl (cI, 4, .inl gw0)), (yv0, .inl (cI, 4, .inl gv0)), (yh0, .inl (cR, 4, .inr (.inr (.inr (.inr gh0))))), (tg, .inr (5, [.int 4, .int 4, .ref e1, .ref e2, .ref e3, .int e4]))] s.heap.size = A at hD hZ ⊢
  have hA : ∀ q : Nat, s.heap.size ≤ q → A q := fun q h => by rw [← hAe]; exact Or.inr h
  have hS : va_S A s.heap s.heap [] := va_S.rf
  have hz : s.heap.size + 0 ≤ s.heap.size := Nat.le_refl _
  have hl := lv_entry ([.ref y0, .ref tg, .int dd, .int 2]) (n := 7) (Nat.le_of_ble_eq_true rfl)
  rw [lg_entry_eq]
  generalize (lg_sl ([.ref y0, .ref tg, .int dd, .int 2]) ++ List.replicate (7 - (lg_sl ([.ref y0, .ref tg, .int dd, .int 2])).length) Slot.unset).toArray = ls at hl ⊢
  have hl : lv_has ls 7 [(0, .ref y0), (1, .ref tg), (2, .int dd), (3, .int 2)] := hl
  have hP : va_P (dC, dI) vwCl [(y0, .inr (5, [.int 4, .int 4, .ref yw0, .ref yv0, .ref yh0, .int nb0])), (yw0, .inl (cI, 4, .inl gw0)), (yv0, .inl (cI, 4, .inl gv0)), (yh0, .inl (cR, 4, .inr (.inr (.inr (.inr gh0))))), (tg, .inr (5, [.int 4, .int 4, .ref e1, .ref e2, .ref e3, .int e4]))] s.heap := hP
  have hD : va_D A [(y0, .inr (5, [.int 4, .int 4, .ref yw0, .ref yv0, .ref yh0, .int nb0])), (yw0, .inl (cI, 4, .inl gw0)), (yv0, .inl (cI, 4, .inl gv0)), (yh0, .inl (cR, 4, .inr (.inr (.inr (.inr gh0))))), (tg, .inr (5, [.int 4, .int 4, .ref e1, .ref e2, .ref e3, .int e4]))] := hD
  refine lv_aload_n hx hb dX1_depthIf_0 rfl (lv_at hl 0 rfl) ?_
  refine lv_aload_n hx hb dX1_depthIf_1 rfl (lv_at hl 1 rfl) ?_
  refine lv_acmp_ne (rx := (some y0)) (ry := (some tg)) (tgt := 7) hx hb dX1_depthIf_2 (by decide) (fun c9 => ?_) (fun c9 => ?_)
  rotate_left
  · exact absurd c9 (fun h9 => absurd (hD.1 0 4 _ _ rfl rfl (Option.some.inj h9)) (by decide))
  refine lv_iconst (v := 1) hx hb dX1_depthIf_7 (by decide) ?_
  refine lv_istore (lv' := [(4, .int 1), (0, .ref y0), (1, .ref tg), (2, .int dd), (3, .int 2)]) hx hb dX1_depthIf_8 hl (by decide) rfl (fun ls hl => ?_)
  refine lv_iconst (v := 0) hx hb dX1_depthIf_10 (by decide) ?_
  refine lv_istore (lv' := [(5, .int 0), (4, .int 1), (0, .ref y0), (1, .ref tg), (2, .int dd), (3, .int 2)]) hx hb dX1_depthIf_11 hl (by decide) rfl (fun ls hl => ?_)
  refine lv_iload_n hx hb dX1_depthIf_13 rfl (lv_at hl 5 rfl) ?_
  refine lv_iconst (v := 1) hx hb dX1_depthIf_14 (by decide) ?_
  refine lv_icmp_le (tgt := 66) hx hb dX1_depthIf_15 (by decide) (fun c9 => ?_) (fun c9 => ?_)
  · exact absurd c9 (by decide)
  refine lv_iload hx hb dX1_depthIf_18 (lv_at hl 0 rfl) ?_
  refine lv_aload_n hx hb dX1_depthIf_20 rfl (lv_at hl 2 rfl) ?_
  refine va_getN (D := (dC, dI)) (ci := 5) (v := .int 4) (C := RX0) (T := TX0) (N := 6) hx hb hts hi_X1_depthIf_X0 hown hK hP 0 rfl rfl 1 (by decide) (zn3 hZ) (fun _ h9 => h9) rfl dX1_depthIf_21 ?_
  refine lv_icmp_ge (tgt := 66) hx hb dX1_depthIf_24 (by decide) (fun c9 => ?_) (fun c9 => ?_)
  · exact absurd c9 (by decide)
  refine lv_aload_n hx hb dX1_depthIf_27 rfl (lv_at hl 2 rfl) ?_
  refine va_getN (D := (dC, dI)) (ci := 5) (v := .ref yh0) (C := RX0) (T := TX0) (N := 6) hx hb hts hi_X1_depthIf_X0 hown hK hP 0 rfl rfl 4 (by decide) (zn2 hZ) (fun _ h9 => h9) rfl dX1_depthIf_28 ?_
  refine lv_iload hx hb dX1_depthIf_31 (lv_at hl 0 rfl) ?_
  refine va_aldq (D := (dC, dI)) (cl := vwCl) hx hb hK hP 3 2 rfl rfl (by unfold vp_in; decide) dX1_depthIf_33 ?_
  rw [show (0 : Int32).toNatClampNeg = 0 from by decide, hgh0 0 (by decide)]
  refine W.eq (g2 := F0 mY 34 ls [.null]) rfl ?_
  refine lv_astoreN (lv' := [(6, .null), (5, .int 0), (4, .int 1), (0, .ref y0), (1, .ref tg), (2, .int dd), (3, .int 2)]) hx hb dX1_depthIf_34 hl (by decide) rfl (fun ls hl => ?_)
  refine lv_aloadN hx hb dX1_depthIf_36 (lv_at hl 0 rfl) ?_
  refine lv_ifnullN (tgt := 60) hx hb dX1_depthIf_38 (by decide) ?_
  refine lv_iinc (v := 1) (lv' := [(5, .int 1), (6, .null), (4, .int 1), (0, .ref y0), (1, .ref tg), (2, .int dd), (3, .int 2)]) hx hb dX1_depthIf_60 hl (k := 1) rfl (by decide) (by decide) rfl (fun ls hl => ?_)
  refine lv_goto (tgt := 13) hx hb dX1_depthIf_63 (by decide) ?_
  refine lv_iload_n hx hb dX1_depthIf_13 rfl (lv_at hl 6 rfl) ?_
  refine lv_iconst (v := 1) hx hb dX1_depthIf_14 (by decide) ?_
  refine lv_icmp_le (tgt := 66) hx hb dX1_depthIf_15 (by decide) (fun c9 => ?_) (fun c9 => ?_)
  · exact absurd c9 (by decide)
  refine lv_iload hx hb dX1_depthIf_18 (lv_at hl 0 rfl) ?_
  refine lv_aload_n hx hb dX1_depthIf_20 rfl (lv_at hl 3 rfl) ?_
  refine va_getN (D := (dC, dI)) (ci := 5) (v := .int 4) (C := RX0) (T := TX0) (N := 6) hx hb hts hi_X1_depthIf_X0 hown hK hP 0 rfl rfl 1 (by decide) (zn3 hZ) (fun _ h9 => h9) rfl dX1_depthIf_21 ?_
  refine lv_icmp_ge (tgt := 66) hx hb dX1_depthIf_24 (by decide) (fun c9 => ?_) (fun c9 => ?_)
  · exact absurd c9 (by decide)
  refine lv_aload_n hx hb dX1_depthIf_27 rfl (lv_at hl 3 rfl) ?_
  refine va_getN (D := (dC, dI)) (ci := 5) (v := .ref yh0) (C := RX0) (T := TX0) (N := 6) hx hb hts hi_X1_depthIf_X0 hown hK hP 0 rfl rfl 4 (by decide) (zn2 hZ) (fun _ h9 => h9) rfl dX1_depthIf_28 ?_
  refine lv_iload hx hb dX1_depthIf_31 (lv_at hl 0 rfl) ?_
  refine va_aldq (D := (dC, dI)) (cl := vwCl) hx hb hK hP 3 2 rfl rfl (by unfold vp_in; decide) dX1_depthIf_33 ?_
  rw [show (1 : Int32).toNatClampNeg = 1 from by decide, hgh0 1 (by decide)]
  refine W.eq (g2 := F0 mY 34 ls [.null]) rfl ?_
  refine lv_astoreN (lv' := [(6, .null), (5, .int 1), (4, .int 1), (0, .ref y0), (1, .ref tg), (2, .int dd), (3, .int 2)]) hx hb dX1_depthIf_34 hl (by decide) rfl (fun ls hl => ?_)
  refine lv_aloadN hx hb dX1_depthIf_36 (lv_at hl 0 rfl) ?_
  refine lv_ifnullN (tgt := 60) hx hb dX1_depthIf_38 (by decide) ?_
  refine lv_iinc (v := 2) (lv' := [(5, .int 2), (6, .null), (4, .int 1), (0, .ref y0), (1, .ref tg), (2, .int dd), (3, .int 2)]) hx hb dX1_depthIf_60 hl (k := 1) rfl (by decide) (by decide) rfl (fun ls hl => ?_)
  refine lv_goto (tgt := 13) hx hb dX1_depthIf_63 (by decide) ?_
  refine lv_iload_n hx hb dX1_depthIf_13 rfl (lv_at hl 6 rfl) ?_
  refine lv_iconst (v := 1) hx hb dX1_depthIf_14 (by decide) ?_
  refine lv_icmp_le (tgt := 66) hx hb dX1_depthIf_15 (by decide) (fun c9 => ?_) (fun c9 => ?_)
  · exact absurd c9 (by decide)
  refine lv_iload hx hb dX1_depthIf_18 (lv_at hl 0 rfl) ?_
  refine lv_aload_n hx hb dX1_depthIf_20 rfl (lv_at hl 3 rfl) ?_
  refine va_getN (D := (dC, dI)) (ci := 5) (v := .int 4) (C := RX0) (T := TX0) (N := 6) hx hb hts hi_X1_depthIf_X0 hown hK hP 0 rfl rfl 1 (by decide) (zn3 hZ) (fun _ h9 => h9) rfl dX1_depthIf_21 ?_
  refine lv_icmp_ge (tgt := 66) hx hb dX1_depthIf_24 (by decide) (fun c9 => ?_) (fun c9 => ?_)
  · exact absurd c9 (by decide)
  refine lv_aload_n hx hb dX1_depthIf_27 rfl (lv_at hl 3 rfl) ?_
  refine va_getN (D := (dC, dI)) (ci := 5) (v := .ref yh0) (C := RX0) (T := TX0) (N := 6) hx hb hts hi_X1_depthIf_X0 hown hK hP 0 rfl rfl 4 (by decide) (zn2 hZ) (fun _ h9 => h9) rfl dX1_depthIf_28 ?_
  refine lv_iload hx hb dX1_depthIf_31 (lv_at hl 0 rfl) ?_
  refine va_aldq (D := (dC, dI)) (cl := vwCl) hx hb hK hP 3 2 rfl rfl (by unfold vp_in; decide) dX1_depthIf_33 ?_
  rw [show (2 : Int32).toNatClampNeg = 2 from by decide, hgh0 2 (by decide)]
  refine W.eq (g2 := F0 mY 34 ls [.null]) rfl ?_
  refine lv_astoreN (lv' := [(6, .null), (5, .int 2), (4, .int 1), (0, .ref y0), (1, .ref tg), (2, .int dd), (3, .int 2)]) hx hb dX1_depthIf_34 hl (by decide) rfl (fun ls hl => ?_)
  refine lv_aloadN hx hb dX1_depthIf_36 (lv_at hl 0 rfl) ?_
  refine lv_ifnullN (tgt := 60) hx hb dX1_depthIf_38 (by decide) ?_
  refine lv_iinc (v := 3) (lv' := [(5, .int 3), (6, .null), (4, .int 1), (0, .ref y0), (1, .ref tg), (2, .int dd), (3, .int 2)]) hx hb dX1_depthIf_60 hl (k := 1) rfl (by decide) (by decide) rfl (fun ls hl => ?_)
  refine lv_goto (tgt := 13) hx hb dX1_depthIf_63 (by decide) ?_
  refine lv_iload_n hx hb dX1_depthIf_13 rfl (lv_at hl 6 rfl) ?_
  refine lv_iconst (v := 1) hx hb dX1_depthIf_14 (by decide) ?_
  refine lv_icmp_le (tgt := 66) hx hb dX1_depthIf_15 (by decide) (fun c9 => ?_) (fun c9 => ?_)
  · exact absurd c9 (by decide)
  refine lv_iload hx hb dX1_depthIf_18 (lv_at hl 0 rfl) ?_
  refine lv_aload_n hx hb dX1_depthIf_20 rfl (lv_at hl 3 rfl) ?_
  refine va_getN (D := (dC, dI)) (ci := 5) (v := .int 4) (C := RX0) (T := TX0) (N := 6) hx hb hts hi_X1_depthIf_X0 hown hK hP 0 rfl rfl 1 (by decide) (zn3 hZ) (fun _ h9 => h9) rfl dX1_depthIf_21 ?_
  refine lv_icmp_ge (tgt := 66) hx hb dX1_depthIf_24 (by decide) (fun c9 => ?_) (fun c9 => ?_)
  · exact absurd c9 (by decide)
  refine lv_aload_n hx hb dX1_depthIf_27 rfl (lv_at hl 3 rfl) ?_
  refine va_getN (D := (dC, dI)) (ci := 5) (v := .ref yh0) (C := RX0) (T := TX0) (N := 6) hx hb hts hi_X1_depthIf_X0 hown hK hP 0 rfl rfl 4 (by decide) (zn2 hZ) (fun _ h9 => h9) rfl dX1_depthIf_28 ?_
  refine lv_iload hx hb dX1_depthIf_31 (lv_at hl 0 rfl) ?_
  refine va_aldq (D := (dC, dI)) (cl := vwCl) hx hb hK hP 3 2 rfl rfl (by unfold vp_in; decide) dX1_depthIf_33 ?_
  rw [show (3 : Int32).toNatClampNeg = 3 from by decide, hgh0 3 (by decide)]
  refine W.eq (g2 := F0 mY 34 ls [.null]) rfl ?_
  refine lv_astoreN (lv' := [(6, .null), (5, .int 3), (4, .int 1), (0, .ref y0), (1, .ref tg), (2, .int dd), (3, .int 2)]) hx hb dX1_depthIf_34 hl (by decide) rfl (fun ls hl => ?_)
  refine lv_aloadN hx hb dX1_depthIf_36 (lv_at hl 0 rfl) ?_
  refine lv_ifnullN (tgt := 60) hx hb dX1_depthIf_38 (by decide) ?_
  refine lv_iinc (v := 4) (lv' := [(5, .int 4), (6, .null), (4, .int 1), (0, .ref y0), (1, .ref tg), (2, .int dd), (3, .int 2)]) hx hb dX1_depthIf_60 hl (k := 1) rfl (by decide) (by decide) rfl (fun ls hl => ?_)
  refine lv_goto (tgt := 13) hx hb dX1_depthIf_63 (by decide) ?_
  refine lv_iload_n hx hb dX1_depthIf_13 rfl (lv_at hl 6 rfl) ?_
  refine lv_iconst (v := 1) hx hb dX1_depthIf_14 (by decide) ?_
  refine lv_icmp_le (tgt := 66) hx hb dX1_depthIf_15 (by decide) (fun c9 => ?_) (fun c9 => ?_)
  · exact absurd c9 (by decide)
  refine lv_iload hx hb dX1_depthIf_18 (lv_at hl 0 rfl) ?_
  refine lv_aload_n hx hb dX1_depthIf_20 rfl (lv_at hl 3 rfl) ?_
  refine va_getN (D := (dC, dI)) (ci := 5) (v := .int 4) (C := RX0) (T := TX0) (N := 6) hx hb hts hi_X1_depthIf_X0 hown hK hP 0 rfl rfl 1 (by decide) (zn3 hZ) (fun _ h9 => h9) rfl dX1_depthIf_21 ?_
  refine lv_icmp_ge (tgt := 66) hx hb dX1_depthIf_24 (by decide) (fun c9 => ?_) (fun c9 => ?_)
  rotate_left
  · exact absurd (by decide) c9
  refine lv_iload hx hb dX1_depthIf_66 (lv_at hl 2 rfl) ?_
  have hP9 := hP.sub (ws' := [(y0, .inr (5, [.int 4, .int 4, .ref yw0, .ref yv0, .ref yh0, .int nb0])), (yw0, .inl (cI, 4, .inl gw0)), (yv0, .inl (cI, 4, .inl gv0)), (yh0, .inl (cR, 4, .inr (.inr (.inr (.inr gh0))))), (tg, .inr (5, [.int 4, .int 4, .ref e1, .ref e2, .ref e3, .int e4]))]) [0, 1, 2, 3, 4] rfl
  have hD9 := hD.sub (ws' := [(y0, .inr (5, [.int 4, .int 4, .ref yw0, .ref yv0, .ref yh0, .int nb0])), (yw0, .inl (cI, 4, .inl gw0)), (yv0, .inl (cI, 4, .inl gv0)), (yh0, .inl (cR, 4, .inr (.inr (.inr (.inr gh0))))), (tg, .inr (5, [.int 4, .int 4, .ref e1, .ref e2, .ref e3, .int e4]))]) [0, 1, 2, 3, 4] (by decide) rfl
  exact W.iret (v := 1) hx hb hr (fun t ht hW => ⟨⟨_, (), rfl, rfl, ⟨by rw [ht]; exact hP9, va_K.moved hW.alike hK, hD9, by rw [ht]; exact hz⟩⟩, hS.F ht⟩) hS.2.2 dX1_depthIf_68

set_option maxHeartbeats 4000000 in
set_option maxRecDepth 100000 in
theorem k_dIc1_3 (l : Launch) (dC : Nat → ClassId) (dI : Nat → Nat → Nat) (cI cB cR cO : ClassId) (zk : Nat → Nat) (y0 yw0 yv0 yh0 y1 yw1 yv1 yh1 : Nat) (nb0 nb1 : Int32) (gw0 gv0 gw1 gv1 : Nat → Int32) (gh0 gh1 : Nat → Option Nat) (tg e1 e2 e3 : Nat) (e4 : Int32) (dd : Int32) (sz : Nat) (hgw0 : ∀ i, i < 4 → gw0 i = 0) (hgh0 : ∀ i, i < 4 → gh0 i = none) (hgh1 : ∀ i, i < 4 → gh1 i = some y0) : Met l yX1_depthIf wsX1_depthIf ({ frames := 1, cells := 0, slots := 0, locals := 40 }) (va_Pc [.ref y1, .ref tg, .int dd, .int 3] (zPre (dC, dI) (zT cI cB cR cO) zk [] [(y0, .inr (5, [.int 4, .int 4, .ref yw0, .ref yv0, .ref yh0, .int nb0])), (yw0, .inl (cI, 4, .inl gw0)), (yv0, .inl (cI, 4, .inl gv0)), (yh0, .inl (cR, 4, .inr (.inr (.inr (.inr gh0))))), (y1, .inr (5, [.int 4, .int 4, .ref yw1, .ref yv1, .ref yh1, .int nb1])), (yw1, .inl (cI, 4, .inl gw1)), (yv1, .inl (cI, 4, .inl gv1)), (yh1, .inl (cR, 4, .inr (.inr (.inr (.inr gh1))))), (tg, .inr (5, [.int 4, .int 4, .ref e1, .ref e2, .ref e3, .int e4]))] sz)) (va_Qi (fun r (_ : Unit) => r = 2) (fun _ t => zEnd (dC, dI) (zT cI cB cR cO) (va_A [(y0, .inr (5, [.int 4, .int 4, .ref yw0, .ref yv0, .ref yh0, .int nb0])), (yw0, .inl (cI, 4, .inl gw0)), (yv0, .inl (cI, 4, .inl gv0)), (yh0, .inl (cR, 4, .inr (.inr (.inr (.inr gh0))))), (y1, .inr (5, [.int 4, .int 4, .ref yw1, .ref yv1, .ref yh1, .int nb1])), (yw1, .inl (cI, 4, .inl gw1)), (yv1, .inl (cI, 4, .inl gv1)), (yh1, .inl (cR, 4, .inr (.inr (.inr (.inr gh1))))), (tg, .inr (5, [.int 4, .int 4, .ref e1, .ref e2, .ref e3, .int e4]))] sz) [(y0, .inr (5, [.int 4, .int 4, .ref yw0, .ref yv0, .ref yh0, .int nb0])), (yw0, .inl (cI, 4, .inl gw0)), (yv0, .inl (cI, 4, .inl gv0)), (yh0, .inl (cR, 4, .inr (.inr (.inr (.inr gh0))))), (y1, .inr (5, [.int 4, .int 4, .ref yw1, .ref yv1, .ref yh1, .int nb1])), (yw1, .inl (cI, 4, .inl gw1)), (yv1, .inl (cI, 4, .inl gv1)), (yh1, .inl (cR, 4, .inr (.inr (.inr (.inr gh1))))), (tg, .inr (5, [.int 4, .int 4, .ref e1, .ref e2, .ref e3, .int e4]))] sz 0 t) (va_A [(y0, .inr (5, [.int 4, .int 4, .ref yw0, .ref yv0, .ref yh0, .int nb0])), (yw0, .inl (cI, 4, .inl gw0)), (yv0, .inl (cI, 4, .inl gv0)), (yh0, .inl (cR, 4, .inr (.inr (.inr (.inr gh0))))), (y1, .inr (5, [.int 4, .int 4, .ref yw1, .ref yv1, .ref yh1, .int nb1])), (yw1, .inl (cI, 4, .inl gw1)), (yv1, .inl (cI, 4, .inl gv1)), (yh1, .inl (cR, 4, .inr (.inr (.inr (.inr gh1))))), (tg, .inr (5, [.int 4, .int 4, .ref e1, .ref e2, .ref e3, .int e4]))] sz)) 0 0 (va_A [(y0, .inr (5, [.int 4, .int 4, .ref yw0, .ref yv0, .ref yh0, .int nb0])), (yw0, .inl (cI, 4, .inl gw0)), (yv0, .inl (cI, 4, .inl gv0)), (yh0, .inl (cR, 4, .inr (.inr (.inr (.inr gh0))))), (y1, .inr (5, [.int 4, .int 4, .ref yw1, .ref yv1, .ref yh1, .int nb1])), (yw1, .inl (cI, 4, .inl gw1)), (yv1, .inl (cI, 4, .inl gv1)), (yh1, .inl (cR, 4, .inr (.inr (.inr (.inr gh1))))), (tg, .inr (5, [.int 4, .int 4, .ref e1, .ref e2, .ref e3, .int e4]))] sz) := by
  refine Met.ofW (cc := cX1_depthIf) (maxL := 7) (ret := (some .int)) (by decide) rfl ?_
  intro p e s mY args below meth c s₁ B hml hv
  obtain ⟨rfl, hsz, hP, hK, hD0, hZ⟩ := hv
  have hx := B.exec
  have hb := B.bytes
  have hr := B.returns
  have hts := atoms_spec (ws := wsX1_depthIf) B.pre
  have hown : s.vm.findClass RX1 = some mY.cls := findClass_of_methodNamed B.named
  have hlocks := B.notSynchronized
  subst hsz
  have hD := hD0.self (sz := s.heap.size)
  generalize hAe : va_A [(y0, .inr (5, [.int 4, .int 4, .ref yw0, .ref yv0, .ref yh0, .int nb0])), (yw0, .inl (cI, 4, .inl gw0)), (yv0, .inl (cI, 4, .inl gv0)), (yh0, .inl (cR, 4, .inr (.inr (.inr (.inr gh0))))), (y1, .inr (5, [.int 4, .int 4, .ref yw1, .ref yv1, .ref yh1, .int nb1])), (yw1, .inl (cI, 4, .inl gw1)), (yv1, .inl (cI, 4, .inl gv1)), (yh1, .inl (cR, 4, .inr (.inr (.inr (.inr gh1))))), (tg, .inr (5, [.int 4, .int 4, .ref e1, .ref e2, .ref e3, .int e4]))] s.heap.size = A at hD hZ ⊢
  have hA : ∀ q : Nat, s.heap.size ≤ q → A q := fun q h => by rw [← hAe]; exact Or.inr h
  have hS : va_S A s.heap s.heap [] := va_S.rf
  have hz : s.heap.size + 0 ≤ s.heap.size := Nat.le_refl _
  have hl := lv_entry ([.ref y1, .ref tg, .int dd, .int 3]) (n := 7) (Nat.le_of_ble_eq_true rfl)
  rw [lg_entry_eq]
  generalize (lg_sl ([.ref y1, .ref tg, .int dd, .int 3]) ++ List.replicate (7 - (lg_sl ([.ref y1, .ref tg, .int dd, .int 3])).length) Slot.unset).toArray = ls at hl ⊢
  have hl : lv_has ls 7 [(0, .ref y1), (1, .ref tg), (2, .int dd), (3, .int 3)] := hl
  have hP : va_P (dC, dI) vwCl [(y0, .inr (5, [.int 4, .int 4, .ref yw0, .ref yv0, .ref yh0, .int nb0])), (yw0, .inl (cI, 4, .inl gw0)), (yv0, .inl (cI, 4, .inl gv0)), (yh0, .inl (cR, 4, .inr (.inr (.inr (.inr gh0))))), (y1, .inr (5, [.int 4, .int 4, .ref yw1, .ref yv1, .ref yh1, .int nb1])), (yw1, .inl (cI, 4, .inl gw1)), (yv1, .inl (cI, 4, .inl gv1)), (yh1, .inl (cR, 4, .inr (.inr (.inr (.inr gh1))))), (tg, .inr (5, [.int 4, .int 4, .ref e1, .ref e2, .ref e3, .int e4]))] s.heap := hP
  have hD : va_D A [(y0, .inr (5, [.int 4, .int 4, .ref yw0, .ref yv0, .ref yh0, .int nb0])), (yw0, .inl (cI, 4, .inl gw0)), (yv0, .inl (cI, 4, .inl gv0)), (yh0, .inl (cR, 4, .inr (.inr (.inr (.inr gh0))))), (y1, .inr (5, [.int 4, .int 4, .ref yw1, .ref yv1, .ref yh1, .int nb1])), (yw1, .inl (cI, 4, .inl gw1)), (yv1, .inl (cI, 4, .inl gv1)), (yh1, .inl (cR, 4, .inr (.inr (.inr (.inr gh1))))), (tg, .inr (5, [.int 4, .int 4, .ref e1, .ref e2, .ref e3, .int e4]))] := hD
  refine lv_aload_n hx hb dX1_depthIf_0 rfl (lv_at hl 0 rfl) ?_
  refine lv_aload_n hx hb dX1_depthIf_1 rfl (lv_at hl 1 rfl) ?_
  refine lv_acmp_ne (rx := (some y1)) (ry := (some tg)) (tgt := 7) hx hb dX1_depthIf_2 (by decide) (fun c9 => ?_) (fun c9 => ?_)
  rotate_left
  · exact absurd c9 (fun h9 => absurd (hD.1 4 8 _ _ rfl rfl (Option.some.inj h9)) (by decide))
  refine lv_iconst (v := 1) hx hb dX1_depthIf_7 (by decide) ?_
  refine lv_istore (lv' := [(4, .int 1), (0, .ref y1), (1, .ref tg), (2, .int dd), (3, .int 3)]) hx hb dX1_depthIf_8 hl (by decide) rfl (fun ls hl => ?_)
  refine lv_iconst (v := 0) hx hb dX1_depthIf_10 (by decide) ?_
  refine lv_istore (lv' := [(5, .int 0), (4, .int 1), (0, .ref y1), (1, .ref tg), (2, .int dd), (3, .int 3)]) hx hb dX1_depthIf_11 hl (by decide) rfl (fun ls hl => ?_)
  refine lv_iload_n hx hb dX1_depthIf_13 rfl (lv_at hl 5 rfl) ?_
  refine lv_iconst (v := 1) hx hb dX1_depthIf_14 (by decide) ?_
  refine lv_icmp_le (tgt := 66) hx hb dX1_depthIf_15 (by decide) (fun c9 => ?_) (fun c9 => ?_)
  · exact absurd c9 (by decide)
  refine lv_iload hx hb dX1_depthIf_18 (lv_at hl 0 rfl) ?_
  refine lv_aload_n hx hb dX1_depthIf_20 rfl (lv_at hl 2 rfl) ?_
  refine va_getN (D := (dC, dI)) (ci := 5) (v := .int 4) (C := RX0) (T := TX0) (N := 6) hx hb hts hi_X1_depthIf_X0 hown hK hP 4 rfl rfl 1 (by decide) (zn3 hZ) (fun _ h9 => h9) rfl dX1_depthIf_21 ?_
  refine lv_icmp_ge (tgt := 66) hx hb dX1_depthIf_24 (by decide) (fun c9 => ?_) (fun c9 => ?_)
  · exact absurd c9 (by decide)
  refine lv_aload_n hx hb dX1_depthIf_27 rfl (lv_at hl 2 rfl) ?_
  refine va_getN (D := (dC, dI)) (ci := 5) (v := .ref yh1) (C := RX0) (T := TX0) (N := 6) hx hb hts hi_X1_depthIf_X0 hown hK hP 4 rfl rfl 4 (by decide) (zn2 hZ) (fun _ h9 => h9) rfl dX1_depthIf_28 ?_
  refine lv_iload hx hb dX1_depthIf_31 (lv_at hl 0 rfl) ?_
  refine va_aldq (D := (dC, dI)) (cl := vwCl) hx hb hK hP 7 2 rfl rfl (by unfold vp_in; decide) dX1_depthIf_33 ?_
  rw [show (0 : Int32).toNatClampNeg = 0 from by decide, hgh1 0 (by decide)]
  refine W.eq (g2 := F0 mY 34 ls [.ref y0]) rfl ?_
  refine lv_astore (lv' := [(6, .ref y0), (5, .int 0), (4, .int 1), (0, .ref y1), (1, .ref tg), (2, .int dd), (3, .int 3)]) hx hb dX1_depthIf_34 hl (by decide) rfl (fun ls hl => ?_)
  refine lv_aload hx hb dX1_depthIf_36 (lv_at hl 0 rfl) ?_
  refine lv_ifnull hx hb dX1_depthIf_38 ?_
  refine lv_iload hx hb dX1_depthIf_41 (lv_at hl 2 rfl) ?_
  refine lv_iconst (v := 1) hx hb dX1_depthIf_43 (by decide) ?_
  refine lv_aload hx hb dX1_depthIf_44 (lv_at hl 0 rfl) ?_
  refine lv_aload_n hx hb dX1_depthIf_46 rfl (lv_at hl 4 rfl) ?_
  refine lv_iload_n hx hb dX1_depthIf_47 rfl (lv_at hl 5 rfl) ?_
  refine lv_iload_n hx hb dX1_depthIf_48 rfl (lv_at hl 6 rfl) ?_
  refine lv_iconst (v := 1) hx hb dX1_depthIf_49 (by decide) ?_
  refine lv_isub hx hb dX1_depthIf_50 ?_
  refine lv_topi (fun v1 ev1 => ?_)
  obtain rfl : v1 = 2 := ev1.trans (by decide)
  have hPc := hP.sub (ws' := [(y0, .inr (5, [.int 4, .int 4, .ref yw0, .ref yv0, .ref yh0, .int nb0])), (yw0, .inl (cI, 4, .inl gw0)), (yv0, .inl (cI, 4, .inl gv0)), (yh0, .inl (cR, 4, .inr (.inr (.inr (.inr gh0))))), (tg, .inr (5, [.int 4, .int 4, .ref e1, .ref e2, .ref e3, .int e4]))]) [0, 1, 2, 3, 8] rfl
  have hDc := hD.sub (ws' := [(y0, .inr (5, [.int 4, .int 4, .ref yw0, .ref yv0, .ref yh0, .int nb0])), (yw0, .inl (cI, 4, .inl gw0)), (yv0, .inl (cI, 4, .inl gv0)), (yh0, .inl (cR, 4, .inr (.inr (.inr (.inr gh0))))), (tg, .inr (5, [.int 4, .int 4, .ref e1, .ref e2, .ref e3, .int e4]))]) [0, 1, 2, 3, 8] (by decide) rfl
  have hFc := va_free (wc := [(y0, .inr (5, [.int 4, .int 4, .ref yw0, .ref yv0, .ref yh0, .int nb0])), (yw0, .inl (cI, 4, .inl gw0)), (yv0, .inl (cI, 4, .inl gv0)), (yh0, .inl (cR, 4, .inr (.inr (.inr (.inr gh0))))), (tg, .inr (5, [.int 4, .int 4, .ref e1, .ref e2, .ref e3, .int e4]))]) hD hS hA [0, 1, 2, 3, 8] rfl
  have hDv := hDc.self (sz := s.heap.size)
  have hpre := zpre (xs' := []) (av := [.ref y0, .ref tg, .int dd, .int 2]) hPc hK (hDc.weaken (fun _ _ _ h => h)) hZ hS hFc (fun r hr => by cases hr)
  refine va_calli (va_runS (As := [.ref y0, .ref tg, .int dd, .int 2]) (rest := [.int 1, .int 1]) ⟨hx, hb, hml, hown, hts⟩ (k_dIc0_2 l dC dI cI cB cR cO zk y0 yw0 yv0 yh0 nb0 gw0 gv0 gh0 tg e1 e2 e3 e4 dd s.heap.size hgw0 hgh0) (va_cwS 4 hts gX1_depthIf_X1_depthIf rfl rfl rfl (by decide +kernel) ⟨Nat.le_of_ble_eq_true rfl, Nat.le_of_ble_eq_true rfl⟩) ⟨zblind, hpre⟩ rfl rfl hl.1 rfl (lv_room (Nat.le_of_ble_eq_true rfl)) dX1_depthIf_51 ⟨Nat.le_of_ble_eq_true rfl, Nat.le_of_ble_eq_true rfl⟩) hS (fun q _ h => hFc q h) hFc (fun r3 u t H2 locs ht hvm hw hB hz1 hk1 hS => ?_)
  obtain rfl : 1 = r3 := (show r3 = 1 from hw).symm
  obtain ⟨hP1, hK1, hD1, hz2⟩ := hB
  rw [ht] at hP1 hz2
  have hPD9 := va_join (wr := [(y1, .inr (5, [.int 4, .int 4, .ref yw1, .ref yv1, .ref yh1, .int nb1])), (yw1, .inl (cI, 4, .inl gw1)), (yv1, .inl (cI, 4, .inl gv1)), (yh1, .inl (cR, 4, .inr (.inr (.inr (.inr gh1)))))]) (w1 := [(y0, .inr (5, [.int 4, .int 4, .ref yw0, .ref yv0, .ref yh0, .int nb0])), (yw0, .inl (cI, 4, .inl gw0)), (yv0, .inl (cI, 4, .inl gv0)), (yh0, .inl (cR, 4, .inr (.inr (.inr (.inr gh0))))), (tg, .inr (5, [.int 4, .int 4, .ref e1, .ref e2, .ref e3, .int e4]))]) hP hD [0, 1, 2, 3, 8] [4, 5, 6, 7] rfl rfl (by decide) (by decide) hk1 hFc hP1 hD1
  clear hPc hDc hFc hDv hpre hP hD hP1 hK1 hD1
  obtain ⟨hP, hD⟩ := hPD9
  replace hz : s.heap.size + 0 ≤ H2.size := by omega
  clear hz2
  replace hP : va_P (dC, dI) vwCl [(y1, .inr (5, [.int 4, .int 4, .ref yw1, .ref yv1, .ref yh1, .int nb1])), (yw1, .inl (cI, 4, .inl gw1)), (yv1, .inl (cI, 4, .inl gv1)), (yh1, .inl (cR, 4, .inr (.inr (.inr (.inr gh1))))), (y0, .inr (5, [.int 4, .int 4, .ref yw0, .ref yv0, .ref yh0, .int nb0])), (yw0, .inl (cI, 4, .inl gw0)), (yv0, .inl (cI, 4, .inl gv0)), (yh0, .inl (cR, 4, .inr (.inr (.inr (.inr gh0))))), (tg, .inr (5, [.int 4, .int 4, .ref e1, .ref e2, .ref e3, .int e4]))] H2 := hP
  replace hD : va_D A [(y1, .inr (5, [.int 4, .int 4, .ref yw1, .ref yv1, .ref yh1, .int nb1])), (yw1, .inl (cI, 4, .inl gw1)), (yv1, .inl (cI, 4, .inl gv1)), (yh1, .inl (cR, 4, .inr (.inr (.inr (.inr gh1))))), (y0, .inr (5, [.int 4, .int 4, .ref yw0, .ref yv0, .ref yh0, .int nb0])), (yw0, .inl (cI, 4, .inl gw0)), (yv0, .inl (cI, 4, .inl gv0)), (yh0, .inl (cR, 4, .inr (.inr (.inr (.inr gh0))))), (tg, .inr (5, [.int 4, .int 4, .ref e1, .ref e2, .ref e3, .int e4]))] := hD
  refine W.widen (k := 0) (n := 0) (by omega) (by omega) ?_
  refine lv_iadd hx hb dX1_depthIf_54 ?_
  refine lv_topi (fun v4 ev4 => ?_)
  obtain rfl : v4 = 2 := ev4.trans (by decide)
  refine va_mmax (x := 1) (y := 2) hx hb (hml.trans hl.1.symm) hown (hts (.methodLink RX1 126 Lib.Math.max.name) (List.mem_cons_of_mem _ zw_728)) (hts (.static Lib.Math.max.name) (List.mem_cons_of_mem _ zw_271)) (hts (.initialized "java/lang/Math") (List.mem_cons_of_mem _ zw_58)) (hts (.code Lib.Math.max.name Lib.Math.max.code 2 (some .int)) (List.mem_cons_of_mem _ zw_272)) (Nat.le_of_ble_eq_true rfl) (Nat.le_of_ble_eq_true rfl) (Nat.le_of_ble_eq_true rfl) (Nat.le_of_ble_eq_true rfl) dX1_depthIf_55 ?_
  refine lv_topi (fun v5 ev5 => ?_)
  obtain rfl : v5 = 2 := ev5.trans (by decide)
  refine lv_istore (lv' := [(4, .int 2), (6, .ref y0), (5, .int 0), (0, .ref y1), (1, .ref tg), (2, .int dd), (3, .int 3)]) hx hb dX1_depthIf_58 hl (by decide) rfl (fun ls hl => ?_)
  refine lv_iinc (v := 1) (lv' := [(5, .int 1), (4, .int 2), (6, .ref y0), (0, .ref y1), (1, .ref tg), (2, .int dd), (3, .int 3)]) hx hb dX1_depthIf_60 hl (k := 2) rfl (by decide) (by decide) rfl (fun ls hl => ?_)
  refine lv_goto (tgt := 13) hx hb dX1_depthIf_63 (by decide) ?_
  refine lv_iload_n hx hb dX1_depthIf_13 rfl (lv_at hl 6 rfl) ?_
  refine lv_iconst (v := 1) hx hb dX1_depthIf_14 (by decide) ?_
  refine lv_icmp_le (tgt := 66) hx hb dX1_depthIf_15 (by decide) (fun c9 => ?_) (fun c9 => ?_)
  · exact absurd c9 (by decide)
  refine lv_iload hx hb dX1_depthIf_18 (lv_at hl 0 rfl) ?_
  refine lv_aload_n hx hb dX1_depthIf_20 rfl (lv_at hl 3 rfl) ?_
  refine va_getN (D := (dC, dI)) (ci := 5) (v := .int 4) (C := RX0) (T := TX0) (N := 6) hx hb hts hi_X1_depthIf_X0 hown hK hP 0 rfl rfl 1 (by decide) (zn3 hZ) (fun _ h9 => h9) rfl dX1_depthIf_21 ?_
  refine lv_icmp_ge (tgt := 66) hx hb dX1_depthIf_24 (by decide) (fun c9 => ?_) (fun c9 => ?_)
  · exact absurd c9 (by decide)
  refine lv_aload_n hx hb dX1_depthIf_27 rfl (lv_at hl 3 rfl) ?_
  refine va_getN (D := (dC, dI)) (ci := 5) (v := .ref yh1) (C := RX0) (T := TX0) (N := 6) hx hb hts hi_X1_depthIf_X0 hown hK hP 0 rfl rfl 4 (by decide) (zn2 hZ) (fun _ h9 => h9) rfl dX1_depthIf_28 ?_
  refine lv_iload hx hb dX1_depthIf_31 (lv_at hl 0 rfl) ?_
  refine va_aldq (D := (dC, dI)) (cl := vwCl) hx hb hK hP 3 2 rfl rfl (by unfold vp_in; decide) dX1_depthIf_33 ?_
  rw [show (1 : Int32).toNatClampNeg = 1 from by decide, hgh1 1 (by decide)]
  refine W.eq (g2 := F0 mY 34 ls [.ref y0]) rfl ?_
  refine lv_astore (lv' := [(6, .ref y0), (5, .int 1), (4, .int 2), (0, .ref y1), (1, .ref tg), (2, .int dd), (3, .int 3)]) hx hb dX1_depthIf_34 hl (by decide) rfl (fun ls hl => ?_)
  refine lv_aload hx hb dX1_depthIf_36 (lv_at hl 0 rfl) ?_
  refine lv_ifnull hx hb dX1_depthIf_38 ?_
  refine lv_iload hx hb dX1_depthIf_41 (lv_at hl 2 rfl) ?_
  refine lv_iconst (v := 1) hx hb dX1_depthIf_43 (by decide) ?_
  refine lv_aload hx hb dX1_depthIf_44 (lv_at hl 0 rfl) ?_
  refine lv_aload_n hx hb dX1_depthIf_46 rfl (lv_at hl 4 rfl) ?_
  refine lv_iload_n hx hb dX1_depthIf_47 rfl (lv_at hl 5 rfl) ?_
  refine lv_iload_n hx hb dX1_depthIf_48 rfl (lv_at hl 6 rfl) ?_
  refine lv_iconst (v := 1) hx hb dX1_depthIf_49 (by decide) ?_
  refine lv_isub hx hb dX1_depthIf_50 ?_
  refine lv_topi (fun v6 ev6 => ?_)
  obtain rfl : v6 = 2 := ev6.trans (by decide)
  have hPc := hP.sub (ws' := [(y0, .inr (5, [.int 4, .int 4, .ref yw0, .ref yv0, .ref yh0, .int nb0])), (yw0, .inl (cI, 4, .inl gw0)), (yv0, .inl (cI, 4, .inl gv0)), (yh0, .inl (cR, 4, .inr (.inr (.inr (.inr gh0))))), (tg, .inr (5, [.int 4, .int 4, .ref e1, .ref e2, .ref e3, .int e4]))]) [4, 5, 6, 7, 8] rfl
  have hDc := hD.sub (ws' := [(y0, .inr (5, [.int 4, .int 4, .ref yw0, .ref yv0, .ref yh0, .int nb0])), (yw0, .inl (cI, 4, .inl gw0)), (yv0, .inl (cI, 4, .inl gv0)), (yh0, .inl (cR, 4, .inr (.inr (.inr (.inr gh0))))), (tg, .inr (5, [.int 4, .int 4, .ref e1, .ref e2, .ref e3, .int e4]))]) [4, 5, 6, 7, 8] (by decide) rfl
  have hFc := va_free (wc := [(y0, .inr (5, [.int 4, .int 4, .ref yw0, .ref yv0, .ref yh0, .int nb0])), (yw0, .inl (cI, 4, .inl gw0)), (yv0, .inl (cI, 4, .inl gv0)), (yh0, .inl (cR, 4, .inr (.inr (.inr (.inr gh0))))), (tg, .inr (5, [.int 4, .int 4, .ref e1, .ref e2, .ref e3, .int e4]))]) hD hS hA [4, 5, 6, 7, 8] rfl
  have hDv := hDc.self (sz := H2.size)
  have hpre := zpre (xs' := []) (av := [.ref y0, .ref tg, .int dd, .int 2]) hPc hK (hDc.weaken (fun _ _ _ h => h)) hZ hS hFc (fun r hr => by cases hr)
  refine va_calli (va_runS (As := [.ref y0, .ref tg, .int dd, .int 2]) (rest := [.int 1, .int 2]) ⟨hx, hb, hml, hown, hts⟩ (k_dIc0_2 l dC dI cI cB cR cO zk y0 yw0 yv0 yh0 nb0 gw0 gv0 gh0 tg e1 e2 e3 e4 dd H2.size hgw0 hgh0) (va_cwS 4 hts gX1_depthIf_X1_depthIf rfl rfl rfl (by decide +kernel) ⟨Nat.le_of_ble_eq_true rfl, Nat.le_of_ble_eq_true rfl⟩) ⟨zblind, hpre⟩ rfl rfl hl.1 rfl (lv_room (Nat.le_of_ble_eq_true rfl)) dX1_depthIf_51 ⟨Nat.le_of_ble_eq_true rfl, Nat.le_of_ble_eq_true rfl⟩) hS (fun q _ h => hFc q h) hFc (fun r8 u t H7 locs ht hvm hw hB hz1 hk1 hS => ?_)
  obtain rfl : 1 = r8 := (show r8 = 1 from hw).symm
  obtain ⟨hP1, hK1, hD1, hz2⟩ := hB
  rw [ht] at hP1 hz2
  have hPD9 := va_join (wr := [(y1, .inr (5, [.int 4, .int 4, .ref yw1, .ref yv1, .ref yh1, .int nb1])), (yw1, .inl (cI, 4, .inl gw1)), (yv1, .inl (cI, 4, .inl gv1)), (yh1, .inl (cR, 4, .inr (.inr (.inr (.inr gh1)))))]) (w1 := [(y0, .inr (5, [.int 4, .int 4, .ref yw0, .ref yv0, .ref yh0, .int nb0])), (yw0, .inl (cI, 4, .inl gw0)), (yv0, .inl (cI, 4, .inl gv0)), (yh0, .inl (cR, 4, .inr (.inr (.inr (.inr gh0))))), (tg, .inr (5, [.int 4, .int 4, .ref e1, .ref e2, .ref e3, .int e4]))]) hP hD [4, 5, 6, 7, 8] [0, 1, 2, 3] rfl rfl (by decide) (by decide) hk1 hFc hP1 hD1
  clear hPc hDc hFc hDv hpre hP hD hP1 hK1 hD1
  obtain ⟨hP, hD⟩ := hPD9
  replace hz : s.heap.size + 0 ≤ H7.size := by omega
  clear hz2
  replace hP : va_P (dC, dI) vwCl [(y1, .inr (5, [.int 4, .int 4, .ref yw1, .ref yv1, .ref yh1, .int nb1])), (yw1, .inl (cI, 4, .inl gw1)), (yv1, .inl (cI, 4, .inl gv1)), (yh1, .inl (cR, 4, .inr (.inr (.inr (.inr gh1))))), (y0, .inr (5, [.int 4, .int 4, .ref yw0, .ref yv0, .ref yh0, .int nb0])), (yw0, .inl (cI, 4, .inl gw0)), (yv0, .inl (cI, 4, .inl gv0)), (yh0, .inl (cR, 4, .inr (.inr (.inr (.inr gh0))))), (tg, .inr (5, [.int 4, .int 4, .ref e1, .ref e2, .ref e3, .int e4]))] H7 := hP
  replace hD : va_D A [(y1, .inr (5, [.int 4, .int 4, .ref yw1, .ref yv1, .ref yh1, .int nb1])), (yw1, .inl (cI, 4, .inl gw1)), (yv1, .inl (cI, 4, .inl gv1)), (yh1, .inl (cR, 4, .inr (.inr (.inr (.inr gh1))))), (y0, .inr (5, [.int 4, .int 4, .ref yw0, .ref yv0, .ref yh0, .int nb0])), (yw0, .inl (cI, 4, .inl gw0)), (yv0, .inl (cI, 4, .inl gv0)), (yh0, .inl (cR, 4, .inr (.inr (.inr (.inr gh0))))), (tg, .inr (5, [.int 4, .int 4, .ref e1, .ref e2, .ref e3, .int e4]))] := hD
  refine W.widen (k := 0) (n := 0) (by omega) (by omega) ?_
  refine lv_iadd hx hb dX1_depthIf_54 ?_
  refine lv_topi (fun v9 ev9 => ?_)
  obtain rfl : v9 = 2 := ev9.trans (by decide)
  refine va_mmax (x := 2) (y := 2) hx hb (hml.trans hl.1.symm) hown (hts (.methodLink RX1 126 Lib.Math.max.name) (List.mem_cons_of_mem _ zw_728)) (hts (.static Lib.Math.max.name) (List.mem_cons_of_mem _ zw_271)) (hts (.initialized "java/lang/Math") (List.mem_cons_of_mem _ zw_58)) (hts (.code Lib.Math.max.name Lib.Math.max.code 2 (some .int)) (List.mem_cons_of_mem _ zw_272)) (Nat.le_of_ble_eq_true rfl) (Nat.le_of_ble_eq_true rfl) (Nat.le_of_ble_eq_true rfl) (Nat.le_of_ble_eq_true rfl) dX1_depthIf_55 ?_
  refine lv_topi (fun v10 ev10 => ?_)
  obtain rfl : v10 = 2 := ev10.trans (by decide)
  refine lv_istore (lv' := [(4, .int 2), (6, .ref y0), (5, .int 1), (0, .ref y1), (1, .ref tg), (2, .int dd), (3, .int 3)]) hx hb dX1_depthIf_58 hl (by decide) rfl (fun ls hl => ?_)
  refine lv_iinc (v := 2) (lv' := [(5, .int 2), (4, .int 2), (6, .ref y0), (0, .ref y1), (1, .ref tg), (2, .int dd), (3, .int 3)]) hx hb dX1_depthIf_60 hl (k := 2) rfl (by decide) (by decide) rfl (fun ls hl => ?_)
  refine lv_goto (tgt := 13) hx hb dX1_depthIf_63 (by decide) ?_
  refine lv_iload_n hx hb dX1_depthIf_13 rfl (lv_at hl 6 rfl) ?_
  refine lv_iconst (v := 1) hx hb dX1_depthIf_14 (by decide) ?_
  refine lv_icmp_le (tgt := 66) hx hb dX1_depthIf_15 (by decide) (fun c9 => ?_) (fun c9 => ?_)
  · exact absurd c9 (by decide)
  refine lv_iload hx hb dX1_depthIf_18 (lv_at hl 0 rfl) ?_
  refine lv_aload_n hx hb dX1_depthIf_20 rfl (lv_at hl 3 rfl) ?_
  refine va_getN (D := (dC, dI)) (ci := 5) (v := .int 4) (C := RX0) (T := TX0) (N := 6) hx hb hts hi_X1_depthIf_X0 hown hK hP 0 rfl rfl 1 (by decide) (zn3 hZ) (fun _ h9 => h9) rfl dX1_depthIf_21 ?_
  refine lv_icmp_ge (tgt := 66) hx hb dX1_depthIf_24 (by decide) (fun c9 => ?_) (fun c9 => ?_)
  · exact absurd c9 (by decide)
  refine lv_aload_n hx hb dX1_depthIf_27 rfl (lv_at hl 3 rfl) ?_
  refine va_getN (D := (dC, dI)) (ci := 5) (v := .ref yh1) (C := RX0) (T := TX0) (N := 6) hx hb hts hi_X1_depthIf_X0 hown hK hP 0 rfl rfl 4 (by decide) (zn2 hZ) (fun _ h9 => h9) rfl dX1_depthIf_28 ?_
  refine lv_iload hx hb dX1_depthIf_31 (lv_at hl 0 rfl) ?_
  refine va_aldq (D := (dC, dI)) (cl := vwCl) hx hb hK hP 3 2 rfl rfl (by unfold vp_in; decide) dX1_depthIf_33 ?_
  rw [show (2 : Int32).toNatClampNeg = 2 from by decide, hgh1 2 (by decide)]
  refine W.eq (g2 := F0 mY 34 ls [.ref y0]) rfl ?_
  refine lv_astore (lv' := [(6, .ref y0), (5, .int 2), (4, .int 2), (0, .ref y1), (1, .ref tg), (2, .int dd), (3, .int 3)]) hx hb dX1_depthIf_34 hl (by decide) rfl (fun ls hl => ?_)
  refine lv_aload hx hb dX1_depthIf_36 (lv_at hl 0 rfl) ?_
  refine lv_ifnull hx hb dX1_depthIf_38 ?_
  refine lv_iload hx hb dX1_depthIf_41 (lv_at hl 2 rfl) ?_
  refine lv_iconst (v := 1) hx hb dX1_depthIf_43 (by decide) ?_
  refine lv_aload hx hb dX1_depthIf_44 (lv_at hl 0 rfl) ?_
  refine lv_aload_n hx hb dX1_depthIf_46 rfl (lv_at hl 4 rfl) ?_
  refine lv_iload_n hx hb dX1_depthIf_47 rfl (lv_at hl 5 rfl) ?_
  refine lv_iload_n hx hb dX1_depthIf_48 rfl (lv_at hl 6 rfl) ?_
  refine lv_iconst (v := 1) hx hb dX1_depthIf_49 (by decide) ?_
  refine lv_isub hx hb dX1_depthIf_50 ?_
  refine lv_topi (fun v11 ev11 => ?_)
  obtain rfl : v11 = 2 := ev11.trans (by decide)
  have hPc := hP.sub (ws' := [(y0, .inr (5, [.int 4, .int 4, .ref yw0, .ref yv0, .ref yh0, .int nb0])), (yw0, .inl (cI, 4, .inl gw0)), (yv0, .inl (cI, 4, .inl gv0)), (yh0, .inl (cR, 4, .inr (.inr (.inr (.inr gh0))))), (tg, .inr (5, [.int 4, .int 4, .ref e1, .ref e2, .ref e3, .int e4]))]) [4, 5, 6, 7, 8] rfl
  have hDc := hD.sub (ws' := [(y0, .inr (5, [.int 4, .int 4, .ref yw0, .ref yv0, .ref yh0, .int nb0])), (yw0, .inl (cI, 4, .inl gw0)), (yv0, .inl (cI, 4, .inl gv0)), (yh0, .inl (cR, 4, .inr (.inr (.inr (.inr gh0))))), (tg, .inr (5, [.int 4, .int 4, .ref e1, .ref e2, .ref e3, .int e4]))]) [4, 5, 6, 7, 8] (by decide) rfl
  have hFc := va_free (wc := [(y0, .inr (5, [.int 4, .int 4, .ref yw0, .ref yv0, .ref yh0, .int nb0])), (yw0, .inl (cI, 4, .inl gw0)), (yv0, .inl (cI, 4, .inl gv0)), (yh0, .inl (cR, 4, .inr (.inr (.inr (.inr gh0))))), (tg, .inr (5, [.int 4, .int 4, .ref e1, .ref e2, .ref e3, .int e4]))]) hD hS hA [4, 5, 6, 7, 8] rfl
  have hDv := hDc.self (sz := H7.size)
  have hpre := zpre (xs' := []) (av := [.ref y0, .ref tg, .int dd, .int 2]) hPc hK (hDc.weaken (fun _ _ _ h => h)) hZ hS hFc (fun r hr => by cases hr)
  refine va_calli (va_runS (As := [.ref y0, .ref tg, .int dd, .int 2]) (rest := [.int 1, .int 2]) ⟨hx, hb, hml, hown, hts⟩ (k_dIc0_2 l dC dI cI cB cR cO zk y0 yw0 yv0 yh0 nb0 gw0 gv0 gh0 tg e1 e2 e3 e4 dd H7.size hgw0 hgh0) (va_cwS 4 hts gX1_depthIf_X1_depthIf rfl rfl rfl (by decide +kernel) ⟨Nat.le_of_ble_eq_true rfl, Nat.le_of_ble_eq_true rfl⟩) ⟨zblind, hpre⟩ rfl rfl hl.1 rfl (lv_room (Nat.le_of_ble_eq_true rfl)) dX1_depthIf_51 ⟨Nat.le_of_ble_eq_true rfl, Nat.le_of_ble_eq_true rfl⟩) hS (fun q _ h => hFc q h) hFc (fun r13 u t H12 locs ht hvm hw hB hz1 hk1 hS => ?_)
  obtain rfl : 1 = r13 := (show r13 = 1 from hw).symm
  obtain ⟨hP1, hK1, hD1, hz2⟩ := hB
  rw [ht] at hP1 hz2
  have hPD9 := va_join (wr := [(y1, .inr (5, [.int 4, .int 4, .ref yw1, .ref yv1, .ref yh1, .int nb1])), (yw1, .inl (cI, 4, .inl gw1)), (yv1, .inl (cI, 4, .inl gv1)), (yh1, .inl (cR, 4, .inr (.inr (.inr (.inr gh1)))))]) (w1 := [(y0, .inr (5, [.int 4, .int 4, .ref yw0, .ref yv0, .ref yh0, .int nb0])), (yw0, .inl (cI, 4, .inl gw0)), (yv0, .inl (cI, 4, .inl gv0)), (yh0, .inl (cR, 4, .inr (.inr (.inr (.inr gh0))))), (tg, .inr (5, [.int 4, .int 4, .ref e1, .ref e2, .ref e3, .int e4]))]) hP hD [4, 5, 6, 7, 8] [0, 1, 2, 3] rfl rfl (by decide) (by decide) hk1 hFc hP1 hD1
  clear hPc hDc hFc hDv hpre hP hD hP1 hK1 hD1
  obtain ⟨hP, hD⟩ := hPD9
  replace hz : s.heap.size + 0 ≤ H12.size := by omega
  clear hz2
  replace hP : va_P (dC, dI) vwCl [(y1, .inr (5, [.int 4, .int 4, .ref yw1, .ref yv1, .ref yh1, .int nb1])), (yw1, .inl (cI, 4, .inl gw1)), (yv1, .inl (cI, 4, .inl gv1)), (yh1, .inl (cR, 4, .inr (.inr (.inr (.inr gh1))))), (y0, .inr (5, [.int 4, .int 4, .ref yw0, .ref yv0, .ref yh0, .int nb0])), (yw0, .inl (cI, 4, .inl gw0)), (yv0, .inl (cI, 4, .inl gv0)), (yh0, .inl (cR, 4, .inr (.inr (.inr (.inr gh0))))), (tg, .inr (5, [.int 4, .int 4, .ref e1, .ref e2, .ref e3, .int e4]))] H12 := hP
  replace hD : va_D A [(y1, .inr (5, [.int 4, .int 4, .ref yw1, .ref yv1, .ref yh1, .int nb1])), (yw1, .inl (cI, 4, .inl gw1)), (yv1, .inl (cI, 4, .inl gv1)), (yh1, .inl (cR, 4, .inr (.inr (.inr (.inr gh1))))), (y0, .inr (5, [.int 4, .int 4, .ref yw0, .ref yv0, .ref yh0, .int nb0])), (yw0, .inl (cI, 4, .inl gw0)), (yv0, .inl (cI, 4, .inl gv0)), (yh0, .inl (cR, 4, .inr (.inr (.inr (.inr gh0))))), (tg, .inr (5, [.int 4, .int 4, .ref e1, .ref e2, .ref e3, .int e4]))] := hD
  refine W.widen (k := 0) (n := 0) (by omega) (by omega) ?_
  refine lv_iadd hx hb dX1_depthIf_54 ?_
  refine lv_topi (fun v14 ev14 => ?_)
  obtain rfl : v14 = 2 := ev14.trans (by decide)
  refine va_mmax (x := 2) (y := 2) hx hb (hml.trans hl.1.symm) hown (hts (.methodLink RX1 126 Lib.Math.max.name) (List.mem_cons_of_mem _ zw_728)) (hts (.static Lib.Math.max.name) (List.mem_cons_of_mem _ zw_271)) (hts (.initialized "java/lang/Math") (List.mem_cons_of_mem _ zw_58)) (hts (.code Lib.Math.max.name Lib.Math.max.code 2 (some .int)) (List.mem_cons_of_mem _ zw_272)) (Nat.le_of_ble_eq_true rfl) (Nat.le_of_ble_eq_true rfl) (Nat.le_of_ble_eq_true rfl) (Nat.le_of_ble_eq_true rfl) dX1_depthIf_55 ?_
  refine lv_topi (fun v15 ev15 => ?_)
  obtain rfl : v15 = 2 := ev15.trans (by decide)
  refine lv_istore (lv' := [(4, .int 2), (6, .ref y0), (5, .int 2), (0, .ref y1), (1, .ref tg), (2, .int dd), (3, .int 3)]) hx hb dX1_depthIf_58 hl (by decide) rfl (fun ls hl => ?_)
  refine lv_iinc (v := 3) (lv' := [(5, .int 3), (4, .int 2), (6, .ref y0), (0, .ref y1), (1, .ref tg), (2, .int dd), (3, .int 3)]) hx hb dX1_depthIf_60 hl (k := 2) rfl (by decide) (by decide) rfl (fun ls hl => ?_)
  refine lv_goto (tgt := 13) hx hb dX1_depthIf_63 (by decide) ?_
  refine lv_iload_n hx hb dX1_depthIf_13 rfl (lv_at hl 6 rfl) ?_
  refine lv_iconst (v := 1) hx hb dX1_depthIf_14 (by decide) ?_
  refine lv_icmp_le (tgt := 66) hx hb dX1_depthIf_15 (by decide) (fun c9 => ?_) (fun c9 => ?_)
  · exact absurd c9 (by decide)
  refine lv_iload hx hb dX1_depthIf_18 (lv_at hl 0 rfl) ?_
  refine lv_aload_n hx hb dX1_depthIf_20 rfl (lv_at hl 3 rfl) ?_
  refine va_getN (D := (dC, dI)) (ci := 5) (v := .int 4) (C := RX0) (T := TX0) (N := 6) hx hb hts hi_X1_depthIf_X0 hown hK hP 0 rfl rfl 1 (by decide) (zn3 hZ) (fun _ h9 => h9) rfl dX1_depthIf_21 ?_
  refine lv_icmp_ge (tgt := 66) hx hb dX1_depthIf_24 (by decide) (fun c9 => ?_) (fun c9 => ?_)
  · exact absurd c9 (by decide)
  refine lv_aload_n hx hb dX1_depthIf_27 rfl (lv_at hl 3 rfl) ?_
  refine va_getN (D := (dC, dI)) (ci := 5) (v := .ref yh1) (C := RX0) (T := TX0) (N := 6) hx hb hts hi_X1_depthIf_X0 hown hK hP 0 rfl rfl 4 (by decide) (zn2 hZ) (fun _ h9 => h9) rfl dX1_depthIf_28 ?_
  refine lv_iload hx hb dX1_depthIf_31 (lv_at hl 0 rfl) ?_
  refine va_aldq (D := (dC, dI)) (cl := vwCl) hx hb hK hP 3 2 rfl rfl (by unfold vp_in; decide) dX1_depthIf_33 ?_
  rw [show (3 : Int32).toNatClampNeg = 3 from by decide, hgh1 3 (by decide)]
  refine W.eq (g2 := F0 mY 34 ls [.ref y0]) rfl ?_
  refine lv_astore (lv' := [(6, .ref y0), (5, .int 3), (4, .int 2), (0, .ref y1), (1, .ref tg), (2, .int dd), (3, .int 3)]) hx hb dX1_depthIf_34 hl (by decide) rfl (fun ls hl => ?_)
  refine lv_aload hx hb dX1_depthIf_36 (lv_at hl 0 rfl) ?_
  refine lv_ifnull hx hb dX1_depthIf_38 ?_
  refine lv_iload hx hb dX1_depthIf_41 (lv_at hl 2 rfl) ?_
  refine lv_iconst (v := 1) hx hb dX1_depthIf_43 (by decide) ?_
  refine lv_aload hx hb dX1_depthIf_44 (lv_at hl 0 rfl) ?_
  refine lv_aload_n hx hb dX1_depthIf_46 rfl (lv_at hl 4 rfl) ?_
  refine lv_iload_n hx hb dX1_depthIf_47 rfl (lv_at hl 5 rfl) ?_
  refine lv_iload_n hx hb dX1_depthIf_48 rfl (lv_at hl 6 rfl) ?_
  refine lv_iconst (v := 1) hx hb dX1_depthIf_49 (by decide) ?_
  refine lv_isub hx hb dX1_depthIf_50 ?_
  refine lv_topi (fun v16 ev16 => ?_)
  obtain rfl : v16 = 2 := ev16.trans (by decide)
  have hPc := hP.sub (ws' := [(y0, .inr (5, [.int 4, .int 4, .ref yw0, .ref yv0, .ref yh0, .int nb0])), (yw0, .inl (cI, 4, .inl gw0)), (yv0, .inl (cI, 4, .inl gv0)), (yh0, .inl (cR, 4, .inr (.inr (.inr (.inr gh0))))), (tg, .inr (5, [.int 4, .int 4, .ref e1, .ref e2, .ref e3, .int e4]))]) [4, 5, 6, 7, 8] rfl
  have hDc := hD.sub (ws' := [(y0, .inr (5, [.int 4, .int 4, .ref yw0, .ref yv0, .ref yh0, .int nb0])), (yw0, .inl (cI, 4, .inl gw0)), (yv0, .inl (cI, 4, .inl gv0)), (yh0, .inl (cR, 4, .inr (.inr (.inr (.inr gh0))))), (tg, .inr (5, [.int 4, .int 4, .ref e1, .ref e2, .ref e3, .int e4]))]) [4, 5, 6, 7, 8] (by decide) rfl
  have hFc := va_free (wc := [(y0, .inr (5, [.int 4, .int 4, .ref yw0, .ref yv0, .ref yh0, .int nb0])), (yw0, .inl (cI, 4, .inl gw0)), (yv0, .inl (cI, 4, .inl gv0)), (yh0, .inl (cR, 4, .inr (.inr (.inr (.inr gh0))))), (tg, .inr (5, [.int 4, .int 4, .ref e1, .ref e2, .ref e3, .int e4]))]) hD hS hA [4, 5, 6, 7, 8] rfl
  have hDv := hDc.self (sz := H12.size)
  have hpre := zpre (xs' := []) (av := [.ref y0, .ref tg, .int dd, .int 2]) hPc hK (hDc.weaken (fun _ _ _ h => h)) hZ hS hFc (fun r hr => by cases hr)
  refine va_calli (va_runS (As := [.ref y0, .ref tg, .int dd, .int 2]) (rest := [.int 1, .int 2]) ⟨hx, hb, hml, hown, hts⟩ (k_dIc0_2 l dC dI cI cB cR cO zk y0 yw0 yv0 yh0 nb0 gw0 gv0 gh0 tg e1 e2 e3 e4 dd H12.size hgw0 hgh0) (va_cwS 4 hts gX1_depthIf_X1_depthIf rfl rfl rfl (by decide +kernel) ⟨Nat.le_of_ble_eq_true rfl, Nat.le_of_ble_eq_true rfl⟩) ⟨zblind, hpre⟩ rfl rfl hl.1 rfl (lv_room (Nat.le_of_ble_eq_true rfl)) dX1_depthIf_51 ⟨Nat.le_of_ble_eq_true rfl, Nat.le_of_ble_eq_true rfl⟩) hS (fun q _ h => hFc q h) hFc (fun r18 u t H17 locs ht hvm hw hB hz1 hk1 hS => ?_)
  obtain rfl : 1 = r18 := (show r18 = 1 from hw).symm
  obtain ⟨hP1, hK1, hD1, hz2⟩ := hB
  rw [ht] at hP1 hz2
  have hPD9 := va_join (wr := [(y1, .inr (5, [.int 4, .int 4, .ref yw1, .ref yv1, .ref yh1, .int nb1])), (yw1, .inl (cI, 4, .inl gw1)), (yv1, .inl (cI, 4, .inl gv1)), (yh1, .inl (cR, 4, .inr (.inr (.inr (.inr gh1)))))]) (w1 := [(y0, .inr (5, [.int 4, .int 4, .ref yw0, .ref yv0, .ref yh0, .int nb0])), (yw0, .inl (cI, 4, .inl gw0)), (yv0, .inl (cI, 4, .inl gv0)), (yh0, .inl (cR, 4, .inr (.inr (.inr (.inr gh0))))), (tg, .inr (5, [.int 4, .int 4, .ref e1, .ref e2, .ref e3, .int e4]))]) hP hD [4, 5, 6, 7, 8] [0, 1, 2, 3] rfl rfl (by decide) (by decide) hk1 hFc hP1 hD1
  clear hPc hDc hFc hDv hpre hP hD hP1 hK1 hD1
  obtain ⟨hP, hD⟩ := hPD9
  replace hz : s.heap.size + 0 ≤ H17.size := by omega
  clear hz2
  replace hP : va_P (dC, dI) vwCl [(y1, .inr (5, [.int 4, .int 4, .ref yw1, .ref yv1, .ref yh1, .int nb1])), (yw1, .inl (cI, 4, .inl gw1)), (yv1, .inl (cI, 4, .inl gv1)), (yh1, .inl (cR, 4, .inr (.inr (.inr (.inr gh1))))), (y0, .inr (5, [.int 4, .int 4, .ref yw0, .ref yv0, .ref yh0, .int nb0])), (yw0, .inl (cI, 4, .inl gw0)), (yv0, .inl (cI, 4, .inl gv0)), (yh0, .inl (cR, 4, .inr (.inr (.inr (.inr gh0))))), (tg, .inr (5, [.int 4, .int 4, .ref e1, .ref e2, .ref e3, .int e4]))] H17 := hP
  replace hD : va_D A [(y1, .inr (5, [.int 4, .int 4, .ref yw1, .ref yv1, .ref yh1, .int nb1])), (yw1, .inl (cI, 4, .inl gw1)), (yv1, .inl (cI, 4, .inl gv1)), (yh1, .inl (cR, 4, .inr (.inr (.inr (.inr gh1))))), (y0, .inr (5, [.int 4, .int 4, .ref yw0, .ref yv0, .ref yh0, .int nb0])), (yw0, .inl (cI, 4, .inl gw0)), (yv0, .inl (cI, 4, .inl gv0)), (yh0, .inl (cR, 4, .inr (.inr (.inr (.inr gh0))))), (tg, .inr (5, [.int 4, .int 4, .ref e1, .ref e2, .ref e3, .int e4]))] := hD
  refine W.widen (k := 0) (n := 0) (by omega) (by omega) ?_
  refine lv_iadd hx hb dX1_depthIf_54 ?_
  refine lv_topi (fun v19 ev19 => ?_)
  obtain rfl : v19 = 2 := ev19.trans (by decide)
  refine va_mmax (x := 2) (y := 2) hx hb (hml.trans hl.1.symm) hown (hts (.methodLink RX1 126 Lib.Math.max.name) (List.mem_cons_of_mem _ zw_728)) (hts (.static Lib.Math.max.name) (List.mem_cons_of_mem _ zw_271)) (hts (.initialized "java/lang/Math") (List.mem_cons_of_mem _ zw_58)) (hts (.code Lib.Math.max.name Lib.Math.max.code 2 (some .int)) (List.mem_cons_of_mem _ zw_272)) (Nat.le_of_ble_eq_true rfl) (Nat.le_of_ble_eq_true rfl) (Nat.le_of_ble_eq_true rfl) (Nat.le_of_ble_eq_true rfl) dX1_depthIf_55 ?_
  refine lv_topi (fun v20 ev20 => ?_)
  obtain rfl : v20 = 2 := ev20.trans (by decide)
  refine lv_istore (lv' := [(4, .int 2), (6, .ref y0), (5, .int 3), (0, .ref y1), (1, .ref tg), (2, .int dd), (3, .int 3)]) hx hb dX1_depthIf_58 hl (by decide) rfl (fun ls hl => ?_)
  refine lv_iinc (v := 4) (lv' := [(5, .int 4), (4, .int 2), (6, .ref y0), (0, .ref y1), (1, .ref tg), (2, .int dd), (3, .int 3)]) hx hb dX1_depthIf_60 hl (k := 2) rfl (by decide) (by decide) rfl (fun ls hl => ?_)
  refine lv_goto (tgt := 13) hx hb dX1_depthIf_63 (by decide) ?_
  refine lv_iload_n hx hb dX1_depthIf_13 rfl (lv_at hl 6 rfl) ?_
  refine lv_iconst (v := 1) hx hb dX1_depthIf_14 (by decide) ?_
  refine lv_icmp_le (tgt := 66) hx hb dX1_depthIf_15 (by decide) (fun c9 => ?_) (fun c9 => ?_)
  · exact absurd c9 (by decide)
  refine lv_iload hx hb dX1_depthIf_18 (lv_at hl 0 rfl) ?_
  refine lv_aload_n hx hb dX1_depthIf_20 rfl (lv_at hl 3 rfl) ?_
  refine va_getN (D := (dC, dI)) (ci := 5) (v := .int 4) (C := RX0) (T := TX0) (N := 6) hx hb hts hi_X1_depthIf_X0 hown hK hP 0 rfl rfl 1 (by decide) (zn3 hZ) (fun _ h9 => h9) rfl dX1_depthIf_21 ?_
  refine lv_icmp_ge (tgt := 66) hx hb dX1_depthIf_24 (by decide) (fun c9 => ?_) (fun c9 => ?_)
  rotate_left
  · exact absurd (by decide) c9
  refine lv_iload hx hb dX1_depthIf_66 (lv_at hl 1 rfl) ?_
  have hP9 := hP.sub (ws' := [(y0, .inr (5, [.int 4, .int 4, .ref yw0, .ref yv0, .ref yh0, .int nb0])), (yw0, .inl (cI, 4, .inl gw0)), (yv0, .inl (cI, 4, .inl gv0)), (yh0, .inl (cR, 4, .inr (.inr (.inr (.inr gh0))))), (y1, .inr (5, [.int 4, .int 4, .ref yw1, .ref yv1, .ref yh1, .int nb1])), (yw1, .inl (cI, 4, .inl gw1)), (yv1, .inl (cI, 4, .inl gv1)), (yh1, .inl (cR, 4, .inr (.inr (.inr (.inr gh1))))), (tg, .inr (5, [.int 4, .int 4, .ref e1, .ref e2, .ref e3, .int e4]))]) [4, 5, 6, 7, 0, 1, 2, 3, 8] rfl
  have hD9 := hD.sub (ws' := [(y0, .inr (5, [.int 4, .int 4, .ref yw0, .ref yv0, .ref yh0, .int nb0])), (yw0, .inl (cI, 4, .inl gw0)), (yv0, .inl (cI, 4, .inl gv0)), (yh0, .inl (cR, 4, .inr (.inr (.inr (.inr gh0))))), (y1, .inr (5, [.int 4, .int 4, .ref yw1, .ref yv1, .ref yh1, .int nb1])), (yw1, .inl (cI, 4, .inl gw1)), (yv1, .inl (cI, 4, .inl gv1)), (yh1, .inl (cR, 4, .inr (.inr (.inr (.inr gh1))))), (tg, .inr (5, [.int 4, .int 4, .ref e1, .ref e2, .ref e3, .int e4]))]) [4, 5, 6, 7, 0, 1, 2, 3, 8] (by decide) rfl
  exact W.iret (v := 2) hx hb hr (fun t ht hW => ⟨⟨_, (), rfl, rfl, ⟨by rw [ht]; exact hP9, va_K.moved hW.alike hK, hD9, by rw [ht]; exact hz⟩⟩, hS.F ht⟩) hS.2.2 dX1_depthIf_68

set_option maxHeartbeats 4000000 in
set_option maxRecDepth 100000 in
theorem k_dIc2_4 (l : Launch) (dC : Nat → ClassId) (dI : Nat → Nat → Nat) (cI cB cR cO : ClassId) (zk : Nat → Nat) (y0 yw0 yv0 yh0 y1 yw1 yv1 yh1 y2 yw2 yv2 yh2 : Nat) (nb0 nb1 nb2 : Int32) (gw0 gv0 gw1 gv1 gw2 gv2 : Nat → Int32) (gh0 gh1 gh2 : Nat → Option Nat) (tg e1 e2 e3 : Nat) (e4 : Int32) (dd : Int32) (sz : Nat) (hgw0 : ∀ i, i < 4 → gw0 i = 0) (hgh0 : ∀ i, i < 4 → gh0 i = none) (hgh1 : ∀ i, i < 4 → gh1 i = some y0) (hgh2 : ∀ i, i < 4 → gh2 i = some y1) : Met l yX1_depthIf wsX1_depthIf ({ frames := 2, cells := 0, slots := 0, locals := 66 }) (va_Pc [.ref y2, .ref tg, .int dd, .int 4] (zPre (dC, dI) (zT cI cB cR cO) zk [] [(y0, .inr (5, [.int 4, .int 4, .ref yw0, .ref yv0, .ref yh0, .int nb0])), (yw0, .inl (cI, 4, .inl gw0)), (yv0, .inl (cI, 4, .inl gv0)), (yh0, .inl (cR, 4, .inr (.inr (.inr (.inr gh0))))), (y1, .inr (5, [.int 4, .int 4, .ref yw1, .ref yv1, .ref yh1, .int nb1])), (yw1, .inl (cI, 4, .inl gw1)), (yv1, .inl (cI, 4, .inl gv1)), (yh1, .inl (cR, 4, .inr (.inr (.inr (.inr gh1))))), (y2, .inr (5, [.int 4, .int 4, .ref yw2, .ref yv2, .ref yh2, .int nb2])), (yw2, .inl (cI, 4, .inl gw2)), (yv2, .inl (cI, 4, .inl gv2)), (yh2, .inl (cR, 4, .inr (.inr (.inr (.inr gh2))))), (tg, .inr (5, [.int 4, .int 4, .ref e1, .ref e2, .ref e3, .int e4]))] sz)) (va_Qi (fun r (_ : Unit) => r = 3) (fun _ t => zEnd (dC, dI) (zT cI cB cR cO) (va_A [(y0, .inr (5, [.int 4, .int 4, .ref yw0, .ref yv0, .ref yh0, .int nb0])), (yw0, .inl (cI, 4, .inl gw0)), (yv0, .inl (cI, 4, .inl gv0)), (yh0, .inl (cR, 4, .inr (.inr (.inr (.inr gh0))))), (y1, .inr (5, [.int 4, .int 4, .ref yw1, .ref yv1, .ref yh1, .int nb1])), (yw1, .inl (cI, 4, .inl gw1)), (yv1, .inl (cI, 4, .inl gv1)), (yh1, .inl (cR, 4, .inr (.inr (.inr (.inr gh1))))), (y2, .inr (5, [.int 4, .int 4, .ref yw2, .ref yv2, .ref yh2, .int nb2])), (yw2, .inl (cI, 4, .inl gw2)), (yv2, .inl (cI, 4, .inl gv2)), (yh2, .inl (cR, 4, .inr (.inr (.inr (.inr gh2))))), (tg, .inr (5, [.int 4, .int 4, .ref e1, .ref e2, .ref e3, .int e4]))] sz) [(y0, .inr (5, [.int 4, .int 4, .ref yw0, .ref yv0, .ref yh0, .int nb0])), (yw0, .inl (cI, 4, .inl gw0)), (yv0, .inl (cI, 4, .inl gv0)), (yh0, .inl (cR, 4, .inr (.inr (.inr (.inr gh0))))), (y1, .inr (5, [.int 4, .int 4, .ref yw1, .ref yv1, .ref yh1, .int nb1])), (yw1, .inl (cI, 4, .inl gw1)), (yv1, .inl (cI, 4, .inl gv1)), (yh1, .inl (cR, 4, .inr (.inr (.inr (.inr gh1))))), (y2, .inr (5, [.int 4, .int 4, .ref yw2, .ref yv2, .ref yh2, .int nb2])), (yw2, .inl (cI, 4, .inl gw2)), (yv2, .inl (cI, 4, .inl gv2)), (yh2, .inl (cR, 4, .inr (.inr (.inr (.inr gh2))))), (tg, .inr (5, [.int 4, .int 4, .ref e1, .ref e2, .ref e3, .int e4]))] sz 0 t) (va_A [(y0, .inr (5, [.int 4, .int 4, .ref yw0, .ref yv0, .ref yh0, .int nb0])), (yw0, .inl (cI, 4, .inl gw0)), (yv0, .inl (cI, 4, .inl gv0)), (yh0, .inl (cR, 4, .inr (.inr (.inr (.inr gh0))))), (y1, .inr (5, [.int 4, .int 4, .ref yw1, .ref yv1, .ref yh1, .int nb1])), (yw1, .inl (cI, 4, .inl gw1)), (yv1, .inl (cI, 4, .inl gv1)), (yh1, .inl (cR, 4, .inr (.inr (.inr (.inr gh1))))), (y2, .inr (5, [.int 4, .int 4, .ref yw2, .ref yv2, .ref yh2, .int nb2])), (yw2, .inl (cI, 4, .inl gw2)), (yv2, .inl (cI, 4, .inl gv2)), (yh2, .inl (cR, 4, .inr (.inr (.inr (.inr gh2))))), (tg, .inr (5, [.int 4, .int 4, .ref e1, .ref e2, .ref e3, .int e4]))] sz)) 0 0 (va_A [(y0, .inr (5, [.int 4, .int 4, .ref yw0, .ref yv0, .ref yh0, .int nb0])), (yw0, .inl (cI, 4, .inl gw0)), (yv0, .inl (cI, 4, .inl gv0)), (yh0, .inl (cR, 4, .inr (.inr (.inr (.inr gh0))))), (y1, .inr (5, [.int 4, .int 4, .ref yw1, .ref yv1, .ref yh1, .int nb1])), (yw1, .inl (cI, 4, .inl gw1)), (yv1, .inl (cI, 4, .inl gv1)), (yh1, .inl (cR, 4, .inr (.inr (.inr (.inr gh1))))), (y2, .inr (5, [.int 4, .int 4, .ref yw2, .ref yv2, .ref yh2, .int nb2])), (yw2, .inl (cI, 4, .inl gw2)), (yv2, .inl (cI, 4, .inl gv2)), (yh2, .inl (cR, 4, .inr (.inr (.inr (.inr gh2))))), (tg, .inr (5, [.int 4, .int 4, .ref e1, .ref e2, .ref e3, .int e4]))] sz) := by
  refine Met.ofW (cc := cX1_depthIf) (maxL := 7) (ret := (some .int)) (by decide) rfl ?_
  intro p e s mY args below meth c s₁ B hml hv
  obtain ⟨rfl, hsz, hP, hK, hD0, hZ⟩ := hv
  have hx := B.exec
  have hb := B.bytes
  have hr := B.returns
  have hts := atoms_spec (ws := wsX1_depthIf) B.pre
  have hown : s.vm.findClass RX1 = some mY.cls := findClass_of_methodNamed B.named
  have hlocks := B.notSynchronized
  subst hsz
  have hD := hD0.self (sz := s.heap.size)
  generalize hAe : va_A [(y0, .inr (5, [.int 4, .int 4, .ref yw0, .ref yv0, .ref yh0, .int nb0])), (yw0, .inl (cI, 4, .inl gw0)), (yv0, .inl (cI, 4, .inl gv0)), (yh0, .inl (cR, 4, .inr (.inr (.inr (.inr gh0))))), (y1, .inr (5, [.int 4, .int 4, .ref yw1, .ref yv1, .ref yh1, .int nb1])), (yw1, .inl (cI, 4, .inl gw1)), (yv1, .inl (cI, 4, .inl gv1)), (yh1, .inl (cR, 4, .inr (.inr (.inr (.inr gh1))))), (y2, .inr (5, [.int 4, .int 4, .ref yw2, .ref yv2, .ref yh2, .int nb2])), (yw2, .inl (cI, 4, .inl gw2)), (yv2, .inl (cI, 4, .inl gv2)), (yh2, .inl (cR, 4, .inr (.inr (.inr (.inr gh2))))), (tg, .inr (5, [.int 4, .int 4, .ref e1, .ref e2, .ref e3, .int e4]))] s.heap.size = A at hD hZ ⊢
  have hA : ∀ q : Nat, s.heap.size ≤ q → A q := fun q h => by rw [← hAe]; exact Or.inr h
  have hS : va_S A s.heap s.heap [] := va_S.rf
  have hz : s.heap.size + 0 ≤ s.heap.size := Nat.le_refl _
  have hl := lv_entry ([.ref y2, .ref tg, .int dd, .int 4]) (n := 7) (Nat.le_of_ble_eq_true rfl)
  rw [lg_entry_eq]
  generalize (lg_sl ([.ref y2, .ref tg, .int dd, .int 4]) ++ List.replicate (7 - (lg_sl ([.ref y2, .ref tg, .int dd, .int 4])).length) Slot.unset).toArray = ls at hl ⊢
  have hl : lv_has ls 7 [(0, .ref y2), (1, .ref tg), (2, .int dd), (3, .int 4)] := hl
  have hP : va_P (dC, dI) vwCl [(y0, .inr (5, [.int 4, .int 4, .ref yw0, .ref yv0, .ref yh0, .int nb0])), (yw0, .inl (cI, 4, .inl gw0)), (yv0, .inl (cI, 4, .inl gv0)), (yh0, .inl (cR, 4, .inr (.inr (.inr (.inr gh0))))), (y1, .inr (5, [.int 4, .int 4, .ref yw1, .ref yv1, .ref yh1, .int nb1])), (yw1, .inl (cI, 4, .inl gw1)), (yv1, .inl (cI, 4, .inl gv1)), (yh1, .inl (cR, 4, .inr (.inr (.inr (.inr gh1))))), (y2, .inr (5, [.int 4, .int 4, .ref yw2, .ref yv2, .ref yh2, .int nb2])), (yw2, .inl (cI, 4, .inl gw2)), (yv2, .inl (cI, 4, .inl gv2)), (yh2, .inl (cR, 4, .inr (.inr (.inr (.inr gh2))))), (tg, .inr (5, [.int 4, .int 4, .ref e1, .ref e2, .ref e3, .int e4]))] s.heap := hP
  have hD : va_D A [(y0, .inr (5, [.int 4, .int 4, .ref yw0, .ref yv0, .ref yh0, .int nb0])), (yw0, .inl (cI, 4, .inl gw0)), (yv0, .inl (cI, 4, .inl gv0)), (yh0, .inl (cR, 4, .inr (.inr (.inr (.inr gh0))))), (y1, .inr (5, [.int 4, .int 4, .ref yw1, .ref yv1, .ref yh1, .int nb1])), (yw1, .inl (cI, 4, .inl gw1)), (yv1, .inl (cI, 4, .inl gv1)), (yh1, .inl (cR, 4, .inr (.inr (.inr (.inr gh1))))), (y2, .inr (5, [.int 4, .int 4, .ref yw2, .ref yv2, .ref yh2, .int nb2])), (yw2, .inl (cI, 4, .inl gw2)), (yv2, .inl (cI, 4, .inl gv2)), (yh2, .inl (cR, 4, .inr (.inr (.inr (.inr gh2))))), (tg, .inr (5, [.int 4, .int 4, .ref e1, .ref e2, .ref e3, .int e4]))] := hD
  refine lv_aload_n hx hb dX1_depthIf_0 rfl (lv_at hl 0 rfl) ?_
  refine lv_aload_n hx hb dX1_depthIf_1 rfl (lv_at hl 1 rfl) ?_
  refine lv_acmp_ne (rx := (some y2)) (ry := (some tg)) (tgt := 7) hx hb dX1_depthIf_2 (by decide) (fun c9 => ?_) (fun c9 => ?_)
  rotate_left
  · exact absurd c9 (fun h9 => absurd (hD.1 8 12 _ _ rfl rfl (Option.some.inj h9)) (by decide))
  refine lv_iconst (v := 1) hx hb dX1_depthIf_7 (by decide) ?_
  refine lv_istore (lv' := [(4, .int 1), (0, .ref y2), (1, .ref tg), (2, .int dd), (3, .int 4)]) hx hb dX1_depthIf_8 hl (by decide) rfl (fun ls hl => ?_)
  refine lv_iconst (v := 0) hx hb dX1_depthIf_10 (by decide) ?_
  refine lv_istore (lv' := [(5, .int 0), (4, .int 1), (0, .ref y2), (1, .ref tg), (2, .int dd), (3, .int 4)]) hx hb dX1_depthIf_11 hl (by decide) rfl (fun ls hl => ?_)
  refine lv_iload_n hx hb dX1_depthIf_13 rfl (lv_at hl 5 rfl) ?_
  refine lv_iconst (v := 1) hx hb dX1_depthIf_14 (by decide) ?_
  refine lv_icmp_le (tgt := 66) hx hb dX1_depthIf_15 (by decide) (fun c9 => ?_) (fun c9 => ?_)
  · exact absurd c9 (by decide)
  refine lv_iload hx hb dX1_depthIf_18 (lv_at hl 0 rfl) ?_
  refine lv_aload_n hx hb dX1_depthIf_20 rfl (lv_at hl 2 rfl) ?_
  refine va_getN (D := (dC, dI)) (ci := 5) (v := .int 4) (C := RX0) (T := TX0) (N := 6) hx hb hts hi_X1_depthIf_X0 hown hK hP 8 rfl rfl 1 (by decide) (zn3 hZ) (fun _ h9 => h9) rfl dX1_depthIf_21 ?_
  refine lv_icmp_ge (tgt := 66) hx hb dX1_depthIf_24 (by decide) (fun c9 => ?_) (fun c9 => ?_)
  · exact absurd c9 (by decide)
  refine lv_aload_n hx hb dX1_depthIf_27 rfl (lv_at hl 2 rfl) ?_
  refine va_getN (D := (dC, dI)) (ci := 5) (v := .ref yh2) (C := RX0) (T := TX0) (N := 6) hx hb hts hi_X1_depthIf_X0 hown hK hP 8 rfl rfl 4 (by decide) (zn2 hZ) (fun _ h9 => h9) rfl dX1_depthIf_28 ?_
  refine lv_iload hx hb dX1_depthIf_31 (lv_at hl 0 rfl) ?_
  refine va_aldq (D := (dC, dI)) (cl := vwCl) hx hb hK hP 11 2 rfl rfl (by unfold vp_in; decide) dX1_depthIf_33 ?_
  rw [show (0 : Int32).toNatClampNeg = 0 from by decide, hgh2 0 (by decide)]
  refine W.eq (g2 := F0 mY 34 ls [.ref y1]) rfl ?_
  refine lv_astore (lv' := [(6, .ref y1), (5, .int 0), (4, .int 1), (0, .ref y2), (1, .ref tg), (2, .int dd), (3, .int 4)]) hx hb dX1_depthIf_34 hl (by decide) rfl (fun ls hl => ?_)
  refine lv_aload hx hb dX1_depthIf_36 (lv_at hl 0 rfl) ?_
  refine lv_ifnull hx hb dX1_depthIf_38 ?_
  refine lv_iload hx hb dX1_depthIf_41 (lv_at hl 2 rfl) ?_
  refine lv_iconst (v := 1) hx hb dX1_depthIf_43 (by decide) ?_
  refine lv_aload hx hb dX1_depthIf_44 (lv_at hl 0 rfl) ?_
  refine lv_aload_n hx hb dX1_depthIf_46 rfl (lv_at hl 4 rfl) ?_
  refine lv_iload_n hx hb dX1_depthIf_47 rfl (lv_at hl 5 rfl) ?_
  refine lv_iload_n hx hb dX1_depthIf_48 rfl (lv_at hl 6 rfl) ?_
  refine lv_iconst (v := 1) hx hb dX1_depthIf_49 (by decide) ?_
  refine lv_isub hx hb dX1_depthIf_50 ?_
  refine lv_topi (fun v1 ev1 => ?_)
  obtain rfl : v1 = 3 := ev1.trans (by decide)
  have hPc := hP.sub (ws' := [(y0, .inr (5, [.int 4, .int 4, .ref yw0, .ref yv0, .ref yh0, .int nb0])), (yw0, .inl (cI, 4, .inl gw0)), (yv0, .inl (cI, 4, .inl gv0)), (yh0, .inl (cR, 4, .inr (.inr (.inr (.inr gh0))))), (y1, .inr (5, [.int 4, .int 4, .ref yw1, .ref yv1, .ref yh1, .int nb1])), (yw1, .inl (cI, 4, .inl gw1)), (yv1, .inl (cI, 4, .inl gv1)), (yh1, .inl (cR, 4, .inr (.inr (.inr (.inr gh1))))), (tg, .inr (5, [.int 4, .int 4, .ref e1, .ref e2, .ref e3, .int e4]))]) [0, 1, 2, 3, 4, 5, 6, 7, 12] rfl
  have hDc := hD.sub (ws' := [(y0, .inr (5, [.int 4, .int 4, .ref yw0, .ref yv0, .ref yh0, .int nb0])), (yw0, .inl (cI, 4, .inl gw0)), (yv0, .inl (cI, 4, .inl gv0)), (yh0, .inl (cR, 4, .inr (.inr (.inr (.inr gh0))))), (y1, .inr (5, [.int 4, .int 4, .ref yw1, .ref yv1, .ref yh1, .int nb1])), (yw1, .inl (cI, 4, .inl gw1)), (yv1, .inl (cI, 4, .inl gv1)), (yh1, .inl (cR, 4, .inr (.inr (.inr (.inr gh1))))), (tg, .inr (5, [.int 4, .int 4, .ref e1, .ref e2, .ref e3, .int e4]))]) [0, 1, 2, 3, 4, 5, 6, 7, 12] (by decide) rfl
  have hFc := va_free (wc := [(y0, .inr (5, [.int 4, .int 4, .ref yw0, .ref yv0, .ref yh0, .int nb0])), (yw0, .inl (cI, 4, .inl gw0)), (yv0, .inl (cI, 4, .inl gv0)), (yh0, .inl (cR, 4, .inr (.inr (.inr (.inr gh0))))), (y1, .inr (5, [.int 4, .int 4, .ref yw1, .ref yv1, .ref yh1, .int nb1])), (yw1, .inl (cI, 4, .inl gw1)), (yv1, .inl (cI, 4, .inl gv1)), (yh1, .inl (cR, 4, .inr (.inr (.inr (.inr gh1))))), (tg, .inr (5, [.int 4, .int 4, .ref e1, .ref e2, .ref e3, .int e4]))]) hD hS hA [0, 1, 2, 3, 4, 5, 6, 7, 12] rfl
  have hDv := hDc.self (sz := s.heap.size)
  have hpre := zpre (xs' := []) (av := [.ref y1, .ref tg, .int dd, .int 3]) hPc hK (hDc.weaken (fun _ _ _ h => h)) hZ hS hFc (fun r hr => by cases hr)
  refine va_calli (va_runS (As := [.ref y1, .ref tg, .int dd, .int 3]) (rest := [.int 1, .int 1]) ⟨hx, hb, hml, hown, hts⟩ (k_dIc1_3 l dC dI cI cB cR cO zk y0 yw0 yv0 yh0 y1 yw1 yv1 yh1 nb0 nb1 gw0 gv0 gw1 gv1 gh0 gh1 tg e1 e2 e3 e4 dd s.heap.size hgw0 hgh0 hgh1) (va_cwS 4 hts gX1_depthIf_X1_depthIf rfl rfl rfl (by decide +kernel) ⟨Nat.le_of_ble_eq_true rfl, Nat.le_of_ble_eq_true rfl⟩) ⟨zblind, hpre⟩ rfl rfl hl.1 rfl (lv_room (Nat.le_of_ble_eq_true rfl)) dX1_depthIf_51 ⟨Nat.le_of_ble_eq_true rfl, Nat.le_of_ble_eq_true rfl⟩) hS (fun q _ h => hFc q h) hFc (fun r3 u t H2 locs ht hvm hw hB hz1 hk1 hS => ?_)
  obtain rfl : 2 = r3 := (show r3 = 2 from hw).symm
  obtain ⟨hP1, hK1, hD1, hz2⟩ := hB
  rw [ht] at hP1 hz2
  have hPD9 := va_join (wr := [(y2, .inr (5, [.int 4, .int 4, .ref yw2, .ref yv2, .ref yh2, .int nb2])), (yw2, .inl (cI, 4, .inl gw2)), (yv2, .inl (cI, 4, .inl gv2)), (yh2, .inl (cR, 4, .inr (.inr (.inr (.inr gh2)))))]) (w1 := [(y0, .inr (5, [.int 4, .int 4, .ref yw0, .ref yv0, .ref yh0, .int nb0])), (yw0, .inl (cI, 4, .inl gw0)), (yv0, .inl (cI, 4, .inl gv0)), (yh0, .inl (cR, 4, .inr (.inr (.inr (.inr gh0))))), (y1, .inr (5, [.int 4, .int 4, .ref yw1, .ref yv1, .ref yh1, .int nb1])), (yw1, .inl (cI, 4, .inl gw1)), (yv1, .inl (cI, 4, .inl gv1)), (yh1, .inl (cR, 4, .inr (.inr (.inr (.inr gh1))))), (tg, .inr (5, [.int 4, .int 4, .ref e1, .ref e2, .ref e3, .int e4]))]) hP hD [0, 1, 2, 3, 4, 5, 6, 7, 12] [8, 9, 10, 11] rfl rfl (by decide) (by decide) hk1 hFc hP1 hD1
  clear hPc hDc hFc hDv hpre hP hD hP1 hK1 hD1
  obtain ⟨hP, hD⟩ := hPD9
  replace hz : s.heap.size + 0 ≤ H2.size := by omega
  clear hz2
  replace hP : va_P (dC, dI) vwCl [(y2, .inr (5, [.int 4, .int 4, .ref yw2, .ref yv2, .ref yh2, .int nb2])), (yw2, .inl (cI, 4, .inl gw2)), (yv2, .inl (cI, 4, .inl gv2)), (yh2, .inl (cR, 4, .inr (.inr (.inr (.inr gh2))))), (y0, .inr (5, [.int 4, .int 4, .ref yw0, .ref yv0, .ref yh0, .int nb0])), (yw0, .inl (cI, 4, .inl gw0)), (yv0, .inl (cI, 4, .inl gv0)), (yh0, .inl (cR, 4, .inr (.inr (.inr (.inr gh0))))), (y1, .inr (5, [.int 4, .int 4, .ref yw1, .ref yv1, .ref yh1, .int nb1])), (yw1, .inl (cI, 4, .inl gw1)), (yv1, .inl (cI, 4, .inl gv1)), (yh1, .inl (cR, 4, .inr (.inr (.inr (.inr gh1))))), (tg, .inr (5, [.int 4, .int 4, .ref e1, .ref e2, .ref e3, .int e4]))] H2 := hP
  replace hD : va_D A [(y2, .inr (5, [.int 4, .int 4, .ref yw2, .ref yv2, .ref yh2, .int nb2])), (yw2, .inl (cI, 4, .inl gw2)), (yv2, .inl (cI, 4, .inl gv2)), (yh2, .inl (cR, 4, .inr (.inr (.inr (.inr gh2))))), (y0, .inr (5, [.int 4, .int 4, .ref yw0, .ref yv0, .ref yh0, .int nb0])), (yw0, .inl (cI, 4, .inl gw0)), (yv0, .inl (cI, 4, .inl gv0)), (yh0, .inl (cR, 4, .inr (.inr (.inr (.inr gh0))))), (y1, .inr (5, [.int 4, .int 4, .ref yw1, .ref yv1, .ref yh1, .int nb1])), (yw1, .inl (cI, 4, .inl gw1)), (yv1, .inl (cI, 4, .inl gv1)), (yh1, .inl (cR, 4, .inr (.inr (.inr (.inr gh1))))), (tg, .inr (5, [.int 4, .int 4, .ref e1, .ref e2, .ref e3, .int e4]))] := hD
  refine W.widen (k := 0) (n := 0) (by omega) (by omega) ?_
  refine lv_iadd hx hb dX1_depthIf_54 ?_
  refine lv_topi (fun v4 ev4 => ?_)
  obtain rfl : v4 = 3 := ev4.trans (by decide)
  refine va_mmax (x := 1) (y := 3) hx hb (hml.trans hl.1.symm) hown (hts (.methodLink RX1 126 Lib.Math.max.name) (List.mem_cons_of_mem _ zw_728)) (hts (.static Lib.Math.max.name) (List.mem_cons_of_mem _ zw_271)) (hts (.initialized "java/lang/Math") (List.mem_cons_of_mem _ zw_58)) (hts (.code Lib.Math.max.name Lib.Math.max.code 2 (some .int)) (List.mem_cons_of_mem _ zw_272)) (Nat.le_of_ble_eq_true rfl) (Nat.le_of_ble_eq_true rfl) (Nat.le_of_ble_eq_true rfl) (Nat.le_of_ble_eq_true rfl) dX1_depthIf_55 ?_
  refine lv_topi (fun v5 ev5 => ?_)
  obtain rfl : v5 = 3 := ev5.trans (by decide)
  refine lv_istore (lv' := [(4, .int 3), (6, .ref y1), (5, .int 0), (0, .ref y2), (1, .ref tg), (2, .int dd), (3, .int 4)]) hx hb dX1_depthIf_58 hl (by decide) rfl (fun ls hl => ?_)
  refine lv_iinc (v := 1) (lv' := [(5, .int 1), (4, .int 3), (6, .ref y1), (0, .ref y2), (1, .ref tg), (2, .int dd), (3, .int 4)]) hx hb dX1_depthIf_60 hl (k := 2) rfl (by decide) (by decide) rfl (fun ls hl => ?_)
  refine lv_goto (tgt := 13) hx hb dX1_depthIf_63 (by decide) ?_
  refine lv_iload_n hx hb dX1_depthIf_13 rfl (lv_at hl 6 rfl) ?_
  refine lv_iconst (v := 1) hx hb dX1_depthIf_14 (by decide) ?_
  refine lv_icmp_le (tgt := 66) hx hb dX1_depthIf_15 (by decide) (fun c9 => ?_) (fun c9 => ?_)
  · exact absurd c9 (by decide)
  refine lv_iload hx hb dX1_depthIf_18 (lv_at hl 0 rfl) ?_
  refine lv_aload_n hx hb dX1_depthIf_20 rfl (lv_at hl 3 rfl) ?_
  refine va_getN (D := (dC, dI)) (ci := 5) (v := .int 4) (C := RX0) (T := TX0) (N := 6) hx hb hts hi_X1_depthIf_X0 hown hK hP 0 rfl rfl 1 (by decide) (zn3 hZ) (fun _ h9 => h9) rfl dX1_depthIf_21 ?_
  refine lv_icmp_ge (tgt := 66) hx hb dX1_depthIf_24 (by decide) (fun c9 => ?_) (fun c9 => ?_)
  · exact absurd c9 (by decide)
  refine lv_aload_n hx hb dX1_depthIf_27 rfl (lv_at hl 3 rfl) ?_
  refine va_getN (D := (dC, dI)) (ci := 5) (v := .ref yh2) (C := RX0) (T := TX0) (N := 6) hx hb hts hi_X1_depthIf_X0 hown hK hP 0 rfl rfl 4 (by decide) (zn2 hZ) (fun _ h9 => h9) rfl dX1_depthIf_28 ?_
  refine lv_iload hx hb dX1_depthIf_31 (lv_at hl 0 rfl) ?_
  refine va_aldq (D := (dC, dI)) (cl := vwCl) hx hb hK hP 3 2 rfl rfl (by unfold vp_in; decide) dX1_depthIf_33 ?_
  rw [show (1 : Int32).toNatClampNeg = 1 from by decide, hgh2 1 (by decide)]
  refine W.eq (g2 := F0 mY 34 ls [.ref y1]) rfl ?_
  refine lv_astore (lv' := [(6, .ref y1), (5, .int 1), (4, .int 3), (0, .ref y2), (1, .ref tg), (2, .int dd), (3, .int 4)]) hx hb dX1_depthIf_34 hl (by decide) rfl (fun ls hl => ?_)
  refine lv_aload hx hb dX1_depthIf_36 (lv_at hl 0 rfl) ?_
  refine lv_ifnull hx hb dX1_depthIf_38 ?_
  refine lv_iload hx hb dX1_depthIf_41 (lv_at hl 2 rfl) ?_
  refine lv_iconst (v := 1) hx hb dX1_depthIf_43 (by decide) ?_
  refine lv_aload hx hb dX1_depthIf_44 (lv_at hl 0 rfl) ?_
  refine lv_aload_n hx hb dX1_depthIf_46 rfl (lv_at hl 4 rfl) ?_
  refine lv_iload_n hx hb dX1_depthIf_47 rfl (lv_at hl 5 rfl) ?_
  refine lv_iload_n hx hb dX1_depthIf_48 rfl (lv_at hl 6 rfl) ?_
  refine lv_iconst (v := 1) hx hb dX1_depthIf_49 (by decide) ?_
  refine lv_isub hx hb dX1_depthIf_50 ?_
  refine lv_topi (fun v6 ev6 => ?_)
  obtain rfl : v6 = 3 := ev6.trans (by decide)
  have hPc := hP.sub (ws' := [(y0, .inr (5, [.int 4, .int 4, .ref yw0, .ref yv0, .ref yh0, .int nb0])), (yw0, .inl (cI, 4, .inl gw0)), (yv0, .inl (cI, 4, .inl gv0)), (yh0, .inl (cR, 4, .inr (.inr (.inr (.inr gh0))))), (y1, .inr (5, [.int 4, .int 4, .ref yw1, .ref yv1, .ref yh1, .int nb1])), (yw1, .inl (cI, 4, .inl gw1)), (yv1, .inl (cI, 4, .inl gv1)), (yh1, .inl (cR, 4, .inr (.inr (.inr (.inr gh1))))), (tg, .inr (5, [.int 4, .int 4, .ref e1, .ref e2, .ref e3, .int e4]))]) [4, 5, 6, 7, 8, 9, 10, 11, 12] rfl
  have hDc := hD.sub (ws' := [(y0, .inr (5, [.int 4, .int 4, .ref yw0, .ref yv0, .ref yh0, .int nb0])), (yw0, .inl (cI, 4, .inl gw0)), (yv0, .inl (cI, 4, .inl gv0)), (yh0, .inl (cR, 4, .inr (.inr (.inr (.inr gh0))))), (y1, .inr (5, [.int 4, .int 4, .ref yw1, .ref yv1, .ref yh1, .int nb1])), (yw1, .inl (cI, 4, .inl gw1)), (yv1, .inl (cI, 4, .inl gv1)), (yh1, .inl (cR, 4, .inr (.inr (.inr (.inr gh1))))), (tg, .inr (5, [.int 4, .int 4, .ref e1, .ref e2, .ref e3, .int e4]))]) [4, 5, 6, 7, 8, 9, 10, 11, 12] (by decide) rfl
  have hFc := va_free (wc := [(y0, .inr (5, [.int 4, .int 4, .ref yw0, .ref yv0, .ref yh0, .int nb0])), (yw0, .inl (cI, 4, .inl gw0)), (yv0, .inl (cI, 4, .inl gv0)), (yh0, .inl (cR, 4, .inr (.inr (.inr (.inr gh0))))), (y1, .inr (5, [.int 4, .int 4, .ref yw1, .ref yv1, .ref yh1, .int nb1])), (yw1, .inl (cI, 4, .inl gw1)), (yv1, .inl (cI, 4, .inl gv1)), (yh1, .inl (cR, 4, .inr (.inr (.inr (.inr gh1))))), (tg, .inr (5, [.int 4, .int 4, .ref e1, .ref e2, .ref e3, .int e4]))]) hD hS hA [4, 5, 6, 7, 8, 9, 10, 11, 12] rfl
  have hDv := hDc.self (sz := H2.size)
  have hpre := zpre (xs' := []) (av := [.ref y1, .ref tg, .int dd, .int 3]) hPc hK (hDc.weaken (fun _ _ _ h => h)) hZ hS hFc (fun r hr => by cases hr)
  refine va_calli (va_runS (As := [.ref y1, .ref tg, .int dd, .int 3]) (rest := [.int 1, .int 3]) ⟨hx, hb, hml, hown, hts⟩ (k_dIc1_3 l dC dI cI cB cR cO zk y0 yw0 yv0 yh0 y1 yw1 yv1 yh1 nb0 nb1 gw0 gv0 gw1 gv1 gh0 gh1 tg e1 e2 e3 e4 dd H2.size hgw0 hgh0 hgh1) (va_cwS 4 hts gX1_depthIf_X1_depthIf rfl rfl rfl (by decide +kernel) ⟨Nat.le_of_ble_eq_true rfl, Nat.le_of_ble_eq_true rfl⟩) ⟨zblind, hpre⟩ rfl rfl hl.1 rfl (lv_room (Nat.le_of_ble_eq_true rfl)) dX1_depthIf_51 ⟨Nat.le_of_ble_eq_true rfl, Nat.le_of_ble_eq_true rfl⟩) hS (fun q _ h => hFc q h) hFc (fun r8 u t H7 locs ht hvm hw hB hz1 hk1 hS => ?_)
  obtain rfl : 2 = r8 := (show r8 = 2 from hw).symm
  obtain ⟨hP1, hK1, hD1, hz2⟩ := hB
  rw [ht] at hP1 hz2
  have hPD9 := va_join (wr := [(y2, .inr (5, [.int 4, .int 4, .ref yw2, .ref yv2, .ref yh2, .int nb2])), (yw2, .inl (cI, 4, .inl gw2)), (yv2, .inl (cI, 4, .inl gv2)), (yh2, .inl (cR, 4, .inr (.inr (.inr (.inr gh2)))))]) (w1 := [(y0, .inr (5, [.int 4, .int 4, .ref yw0, .ref yv0, .ref yh0, .int nb0])), (yw0, .inl (cI, 4, .inl gw0)), (yv0, .inl (cI, 4, .inl gv0)), (yh0, .inl (cR, 4, .inr (.inr (.inr (.inr gh0))))), (y1, .inr (5, [.int 4, .int 4, .ref yw1, .ref yv1, .ref yh1, .int nb1])), (yw1, .inl (cI, 4, .inl gw1)), (yv1, .inl (cI, 4, .inl gv1)), (yh1, .inl (cR, 4, .inr (.inr (.inr (.inr gh1))))), (tg, .inr (5, [.int 4, .int 4, .ref e1, .ref e2, .ref e3, .int e4]))]) hP hD [4, 5, 6, 7, 8, 9, 10, 11, 12] [0, 1, 2, 3] rfl rfl (by decide) (by decide) hk1 hFc hP1 hD1
  clear hPc hDc hFc hDv hpre hP hD hP1 hK1 hD1
  obtain ⟨hP, hD⟩ := hPD9
  replace hz : s.heap.size + 0 ≤ H7.size := by omega
  clear hz2
  replace hP : va_P (dC, dI) vwCl [(y2, .inr (5, [.int 4, .int 4, .ref yw2, .ref yv2, .ref yh2, .int nb2])), (yw2, .inl (cI, 4, .inl gw2)), (yv2, .inl (cI, 4, .inl gv2)), (yh2, .inl (cR, 4, .inr (.inr (.inr (.inr gh2))))), (y0, .inr (5, [.int 4, .int 4, .ref yw0, .ref yv0, .ref yh0, .int nb0])), (yw0, .inl (cI, 4, .inl gw0)), (yv0, .inl (cI, 4, .inl gv0)), (yh0, .inl (cR, 4, .inr (.inr (.inr (.inr gh0))))), (y1, .inr (5, [.int 4, .int 4, .ref yw1, .ref yv1, .ref yh1, .int nb1])), (yw1, .inl (cI, 4, .inl gw1)), (yv1, .inl (cI, 4, .inl gv1)), (yh1, .inl (cR, 4, .inr (.inr (.inr (.inr gh1))))), (tg, .inr (5, [.int 4, .int 4, .ref e1, .ref e2, .ref e3, .int e4]))] H7 := hP
  replace hD : va_D A [(y2, .inr (5, [.int 4, .int 4, .ref yw2, .ref yv2, .ref yh2, .int nb2])), (yw2, .inl (cI, 4, .inl gw2)), (yv2, .inl (cI, 4, .inl gv2)), (yh2, .inl (cR, 4, .inr (.inr (.inr (.inr gh2))))), (y0, .inr (5, [.int 4, .int 4, .ref yw0, .ref yv0, .ref yh0, .int nb0])), (yw0, .inl (cI, 4, .inl gw0)), (yv0, .inl (cI, 4, .inl gv0)), (yh0, .inl (cR, 4, .inr (.inr (.inr (.inr gh0))))), (y1, .inr (5, [.int 4, .int 4, .ref yw1, .ref yv1, .ref yh1, .int nb1])), (yw1, .inl (cI, 4, .inl gw1)), (yv1, .inl (cI, 4, .inl gv1)), (yh1, .inl (cR, 4, .inr (.inr (.inr (.inr gh1))))), (tg, .inr (5, [.int 4, .int 4, .ref e1, .ref e2, .ref e3, .int e4]))] := hD
  refine W.widen (k := 0) (n := 0) (by omega) (by omega) ?_
  refine lv_iadd hx hb dX1_depthIf_54 ?_
  refine lv_topi (fun v9 ev9 => ?_)
  obtain rfl : v9 = 3 := ev9.trans (by decide)
  refine va_mmax (x := 3) (y := 3) hx hb (hml.trans hl.1.symm) hown (hts (.methodLink RX1 126 Lib.Math.max.name) (List.mem_cons_of_mem _ zw_728)) (hts (.static Lib.Math.max.name) (List.mem_cons_of_mem _ zw_271)) (hts (.initialized "java/lang/Math") (List.mem_cons_of_mem _ zw_58)) (hts (.code Lib.Math.max.name Lib.Math.max.code 2 (some .int)) (List.mem_cons_of_mem _ zw_272)) (Nat.le_of_ble_eq_true rfl) (Nat.le_of_ble_eq_true rfl) (Nat.le_of_ble_eq_true rfl) (Nat.le_of_ble_eq_true rfl) dX1_depthIf_55 ?_
  refine lv_topi (fun v10 ev10 => ?_)
  obtain rfl : v10 = 3 := ev10.trans (by decide)
  refine lv_istore (lv' := [(4, .int 3), (6, .ref y1), (5, .int 1), (0, .ref y2), (1, .ref tg), (2, .int dd), (3, .int 4)]) hx hb dX1_depthIf_58 hl (by decide) rfl (fun ls hl => ?_)
  refine lv_iinc (v := 2) (lv' := [(5, .int 2), (4, .int 3), (6, .ref y1), (0, .ref y2), (1, .ref tg), (2, .int dd), (3, .int 4)]) hx hb dX1_depthIf_60 hl (k := 2) rfl (by decide) (by decide) rfl (fun ls hl => ?_)
  refine lv_goto (tgt := 13) hx hb dX1_depthIf_63 (by decide) ?_
  refine lv_iload_n hx hb dX1_depthIf_13 rfl (lv_at hl 6 rfl) ?_
  refine lv_iconst (v := 1) hx hb dX1_depthIf_14 (by decide) ?_
  refine lv_icmp_le (tgt := 66) hx hb dX1_depthIf_15 (by decide) (fun c9 => ?_) (fun c9 => ?_)
  · exact absurd c9 (by decide)
  refine lv_iload hx hb dX1_depthIf_18 (lv_at hl 0 rfl) ?_
  refine lv_aload_n hx hb dX1_depthIf_20 rfl (lv_at hl 3 rfl) ?_
  refine va_getN (D := (dC, dI)) (ci := 5) (v := .int 4) (C := RX0) (T := TX0) (N := 6) hx hb hts hi_X1_depthIf_X0 hown hK hP 0 rfl rfl 1 (by decide) (zn3 hZ) (fun _ h9 => h9) rfl dX1_depthIf_21 ?_
  refine lv_icmp_ge (tgt := 66) hx hb dX1_depthIf_24 (by decide) (fun c9 => ?_) (fun c9 => ?_)
  · exact absurd c9 (by decide)
  refine lv_aload_n hx hb dX1_depthIf_27 rfl (lv_at hl 3 rfl) ?_
  refine va_getN (D := (dC, dI)) (ci := 5) (v := .ref yh2) (C := RX0) (T := TX0) (N := 6) hx hb hts hi_X1_depthIf_X0 hown hK hP 0 rfl rfl 4 (by decide) (zn2 hZ) (fun _ h9 => h9) rfl dX1_depthIf_28 ?_
  refine lv_iload hx hb dX1_depthIf_31 (lv_at hl 0 rfl) ?_
  refine va_aldq (D := (dC, dI)) (cl := vwCl) hx hb hK hP 3 2 rfl rfl (by unfold vp_in; decide) dX1_depthIf_33 ?_
  rw [show (2 : Int32).toNatClampNeg = 2 from by decide, hgh2 2 (by decide)]
  refine W.eq (g2 := F0 mY 34 ls [.ref y1]) rfl ?_
  refine lv_astore (lv' := [(6, .ref y1), (5, .int 2), (4, .int 3), (0, .ref y2), (1, .ref tg), (2, .int dd), (3, .int 4)]) hx hb dX1_depthIf_34 hl (by decide) rfl (fun ls hl => ?_)
  refine lv_aload hx hb dX1_depthIf_36 (lv_at hl 0 rfl) ?_
  refine lv_ifnull hx hb dX1_depthIf_38 ?_
  refine lv_iload hx hb dX1_depthIf_41 (lv_at hl 2 rfl) ?_
  refine lv_iconst (v := 1) hx hb dX1_depthIf_43 (by decide) ?_
  refine lv_aload hx hb dX1_depthIf_44 (lv_at hl 0 rfl) ?_
  refine lv_aload_n hx hb dX1_depthIf_46 rfl (lv_at hl 4 rfl) ?_
  refine lv_iload_n hx hb dX1_depthIf_47 rfl (lv_at hl 5 rfl) ?_
  refine lv_iload_n hx hb dX1_depthIf_48 rfl (lv_at hl 6 rfl) ?_
  refine lv_iconst (v := 1) hx hb dX1_depthIf_49 (by decide) ?_
  refine lv_isub hx hb dX1_depthIf_50 ?_
  refine lv_topi (fun v11 ev11 => ?_)
  obtain rfl : v11 = 3 := ev11.trans (by decide)
  have hPc := hP.sub (ws' := [(y0, .inr (5, [.int 4, .int 4, .ref yw0, .ref yv0, .ref yh0, .int nb0])), (yw0, .inl (cI, 4, .inl gw0)), (yv0, .inl (cI, 4, .inl gv0)), (yh0, .inl (cR, 4, .inr (.inr (.inr (.inr gh0))))), (y1, .inr (5, [.int 4, .int 4, .ref yw1, .ref yv1, .ref yh1, .int nb1])), (yw1, .inl (cI, 4, .inl gw1)), (yv1, .inl (cI, 4, .inl gv1)), (yh1, .inl (cR, 4, .inr (.inr (.inr (.inr gh1))))), (tg, .inr (5, [.int 4, .int 4, .ref e1, .ref e2, .ref e3, .int e4]))]) [4, 5, 6, 7, 8, 9, 10, 11, 12] rfl
  have hDc := hD.sub (ws' := [(y0, .inr (5, [.int 4, .int 4, .ref yw0, .ref yv0, .ref yh0, .int nb0])), (yw0, .inl (cI, 4, .inl gw0)), (yv0, .inl (cI, 4, .inl gv0)), (yh0, .inl (cR, 4, .inr (.inr (.inr (.inr gh0))))), (y1, .inr (5, [.int 4, .int 4, .ref yw1, .ref yv1, .ref yh1, .int nb1])), (yw1, .inl (cI, 4, .inl gw1)), (yv1, .inl (cI, 4, .inl gv1)), (yh1, .inl (cR, 4, .inr (.inr (.inr (.inr gh1))))), (tg, .inr (5, [.int 4, .int 4, .ref e1, .ref e2, .ref e3, .int e4]))]) [4, 5, 6, 7, 8, 9, 10, 11, 12] (by decide) rfl
  have hFc := va_free (wc := [(y0, .inr (5, [.int 4, .int 4, .ref yw0, .ref yv0, .ref yh0, .int nb0])), (yw0, .inl (cI, 4, .inl gw0)), (yv0, .inl (cI, 4, .inl gv0)), (yh0, .inl (cR, 4, .inr (.inr (.inr (.inr gh0))))), (y1, .inr (5, [.int 4, .int 4, .ref yw1, .ref yv1, .ref yh1, .int nb1])), (yw1, .inl (cI, 4, .inl gw1)), (yv1, .inl (cI, 4, .inl gv1)), (yh1, .inl (cR, 4, .inr (.inr (.inr (.inr gh1))))), (tg, .inr (5, [.int 4, .int 4, .ref e1, .ref e2, .ref e3, .int e4]))]) hD hS hA [4, 5, 6, 7, 8, 9, 10, 11, 12] rfl
  have hDv := hDc.self (sz := H7.size)
  have hpre := zpre (xs' := []) (av := [.ref y1, .ref tg, .int dd, .int 3]) hPc hK (hDc.weaken (fun _ _ _ h => h)) hZ hS hFc (fun r hr => by cases hr)
  refine va_calli (va_runS (As := [.ref y1, .ref tg, .int dd, .int 3]) (rest := [.int 1, .int 3]) ⟨hx, hb, hml, hown, hts⟩ (k_dIc1_3 l dC dI cI cB cR cO zk y0 yw0 yv0 yh0 y1 yw1 yv1 yh1 nb0 nb1 gw0 gv0 gw1 gv1 gh0 gh1 tg e1 e2 e3 e4 dd H7.size hgw0 hgh0 hgh1) (va_cwS 4 hts gX1_depthIf_X1_depthIf rfl rfl rfl (by decide +kernel) ⟨Nat.le_of_ble_eq_true rfl, Nat.le_of_ble_eq_true rfl⟩) ⟨zblind, hpre⟩ rfl rfl hl.1 rfl (lv_room (Nat.le_of_ble_eq_true rfl)) dX1_depthIf_51 ⟨Nat.le_of_ble_eq_true rfl, Nat.le_of_ble_eq_true rfl⟩) hS (fun q _ h => hFc q h) hFc (fun r13 u t H12 locs ht hvm hw hB hz1 hk1 hS => ?_)
  obtain rfl : 2 = r13 := (show r13 = 2 from hw).symm
  obtain ⟨hP1, hK1, hD1, hz2⟩ := hB
  rw [ht] at hP1 hz2
  have hPD9 := va_join (wr := [(y2, .inr (5, [.int 4, .int 4, .ref yw2, .ref yv2, .ref yh2, .int nb2])), (yw2, .inl (cI, 4, .inl gw2)), (yv2, .inl (cI, 4, .inl gv2)), (yh2, .inl (cR, 4, .inr (.inr (.inr (.inr gh2)))))]) (w1 := [(y0, .inr (5, [.int 4, .int 4, .ref yw0, .ref yv0, .ref yh0, .int nb0])), (yw0, .inl (cI, 4, .inl gw0)), (yv0, .inl (cI, 4, .inl gv0)), (yh0, .inl (cR, 4, .inr (.inr (.inr (.inr gh0))))), (y1, .inr (5, [.int 4, .int 4, .ref yw1, .ref yv1, .ref yh1, .int nb1])), (yw1, .inl (cI, 4, .inl gw1)), (yv1, .inl (cI, 4, .inl gv1)), (yh1, .inl (cR, 4, .inr (.inr (.inr (.inr gh1))))), (tg, .inr (5, [.int 4, .int 4, .ref e1, .ref e2, .ref e3, .int e4]))]) hP hD [4, 5, 6, 7, 8, 9, 10, 11, 12] [0, 1, 2, 3] rfl rfl (by decide) (by decide) hk1 hFc hP1 hD1
  clear hPc hDc hFc hDv hpre hP hD hP1 hK1 hD1
  obtain ⟨hP, hD⟩ := hPD9
  replace hz : s.heap.size + 0 ≤ H12.size := by omega
  clear hz2
  replace hP : va_P (dC, dI) vwCl [(y2, .inr (5, [.int 4, .int 4, .ref yw2, .ref yv2, .ref yh2, .int nb2])), (yw2, .inl (cI, 4, .inl gw2)), (yv2, .inl (cI, 4, .inl gv2)), (yh2, .inl (cR, 4, .inr (.inr (.inr (.inr gh2))))), (y0, .inr (5, [.int 4, .int 4, .ref yw0, .ref yv0, .ref yh0, .int nb0])), (yw0, .inl (cI, 4, .inl gw0)), (yv0, .inl (cI, 4, .inl gv0)), (yh0, .inl (cR, 4, .inr (.inr (.inr (.inr gh0))))), (y1, .inr (5, [.int 4, .int 4, .ref yw1, .ref yv1, .ref yh1, .int nb1])), (yw1, .inl (cI, 4, .inl gw1)), (yv1, .inl (cI, 4, .inl gv1)), (yh1, .inl (cR, 4, .inr (.inr (.inr (.inr gh1))))), (tg, .inr (5, [.int 4, .int 4, .ref e1, .ref e2, .ref e3, .int e4]))] H12 := hP
  replace hD : va_D A [(y2, .inr (5, [.int 4, .int 4, .ref yw2, .ref yv2, .ref yh2, .int nb2])), (yw2, .inl (cI, 4, .inl gw2)), (yv2, .inl (cI, 4, .inl gv2)), (yh2, .inl (cR, 4, .inr (.inr (.inr (.inr gh2))))), (y0, .inr (5, [.int 4, .int 4, .ref yw0, .ref yv0, .ref yh0, .int nb0])), (yw0, .inl (cI, 4, .inl gw0)), (yv0, .inl (cI, 4, .inl gv0)), (yh0, .inl (cR, 4, .inr (.inr (.inr (.inr gh0))))), (y1, .inr (5, [.int 4, .int 4, .ref yw1, .ref yv1, .ref yh1, .int nb1])), (yw1, .inl (cI, 4, .inl gw1)), (yv1, .inl (cI, 4, .inl gv1)), (yh1, .inl (cR, 4, .inr (.inr (.inr (.inr gh1))))), (tg, .inr (5, [.int 4, .int 4, .ref e1, .ref e2, .ref e3, .int e4]))] := hD
  refine W.widen (k := 0) (n := 0) (by omega) (by omega) ?_
  refine lv_iadd hx hb dX1_depthIf_54 ?_
  refine lv_topi (fun v14 ev14 => ?_)
  obtain rfl : v14 = 3 := ev14.trans (by decide)
  refine va_mmax (x := 3) (y := 3) hx hb (hml.trans hl.1.symm) hown (hts (.methodLink RX1 126 Lib.Math.max.name) (List.mem_cons_of_mem _ zw_728)) (hts (.static Lib.Math.max.name) (List.mem_cons_of_mem _ zw_271)) (hts (.initialized "java/lang/Math") (List.mem_cons_of_mem _ zw_58)) (hts (.code Lib.Math.max.name Lib.Math.max.code 2 (some .int)) (List.mem_cons_of_mem _ zw_272)) (Nat.le_of_ble_eq_true rfl) (Nat.le_of_ble_eq_true rfl) (Nat.le_of_ble_eq_true rfl) (Nat.le_of_ble_eq_true rfl) dX1_depthIf_55 ?_
  refine lv_topi (fun v15 ev15 => ?_)
  obtain rfl : v15 = 3 := ev15.trans (by decide)
  refine lv_istore (lv' := [(4, .int 3), (6, .ref y1), (5, .int 2), (0, .ref y2), (1, .ref tg), (2, .int dd), (3, .int 4)]) hx hb dX1_depthIf_58 hl (by decide) rfl (fun ls hl => ?_)
  refine lv_iinc (v := 3) (lv' := [(5, .int 3), (4, .int 3), (6, .ref y1), (0, .ref y2), (1, .ref tg), (2, .int dd), (3, .int 4)]) hx hb dX1_depthIf_60 hl (k := 2) rfl (by decide) (by decide) rfl (fun ls hl => ?_)
  refine lv_goto (tgt := 13) hx hb dX1_depthIf_63 (by decide) ?_
  refine lv_iload_n hx hb dX1_depthIf_13 rfl (lv_at hl 6 rfl) ?_
  refine lv_iconst (v := 1) hx hb dX1_depthIf_14 (by decide) ?_
  refine lv_icmp_le (tgt := 66) hx hb dX1_depthIf_15 (by decide) (fun c9 => ?_) (fun c9 => ?_)
  · exact absurd c9 (by decide)
  refine lv_iload hx hb dX1_depthIf_18 (lv_at hl 0 rfl) ?_
  refine lv_aload_n hx hb dX1_depthIf_20 rfl (lv_at hl 3 rfl) ?_
  refine va_getN (D := (dC, dI)) (ci := 5) (v := .int 4) (C := RX0) (T := TX0) (N := 6) hx hb hts hi_X1_depthIf_X0 hown hK hP 0 rfl rfl 1 (by decide) (zn3 hZ) (fun _ h9 => h9) rfl dX1_depthIf_21 ?_
  refine lv_icmp_ge (tgt := 66) hx hb dX1_depthIf_24 (by decide) (fun c9 => ?_) (fun c9 => ?_)
  · exact absurd c9 (by decide)
  refine lv_aload_n hx hb dX1_depthIf_27 rfl (lv_at hl 3 rfl) ?_
  refine va_getN (D := (dC, dI)) (ci := 5) (v := .ref yh2) (C := RX0) (T := TX0) (N := 6) hx hb hts hi_X1_depthIf_X0 hown hK hP 0 rfl rfl 4 (by decide) (zn2 hZ) (fun _ h9 => h9) rfl dX1_depthIf_28 ?_
  refine lv_iload hx hb dX1_depthIf_31 (lv_at hl 0 rfl) ?_
  refine va_aldq (D := (dC, dI)) (cl := vwCl) hx hb hK hP 3 2 rfl rfl (by unfold vp_in; decide) dX1_depthIf_33 ?_
  rw [show (3 : Int32).toNatClampNeg = 3 from by decide, hgh2 3 (by decide)]
  refine W.eq (g2 := F0 mY 34 ls [.ref y1]) rfl ?_
  refine lv_astore (lv' := [(6, .ref y1), (5, .int 3), (4, .int 3), (0, .ref y2), (1, .ref tg), (2, .int dd), (3, .int 4)]) hx hb dX1_depthIf_34 hl (by decide) rfl (fun ls hl => ?_)
  refine lv_aload hx hb dX1_depthIf_36 (lv_at hl 0 rfl) ?_
  refine lv_ifnull hx hb dX1_depthIf_38 ?_
  refine lv_iload hx hb dX1_depthIf_41 (lv_at hl 2 rfl) ?_
  refine lv_iconst (v := 1) hx hb dX1_depthIf_43 (by decide) ?_
  refine lv_aload hx hb dX1_depthIf_44 (lv_at hl 0 rfl) ?_
  refine lv_aload_n hx hb dX1_depthIf_46 rfl (lv_at hl 4 rfl) ?_
  refine lv_iload_n hx hb dX1_depthIf_47 rfl (lv_at hl 5 rfl) ?_
  refine lv_iload_n hx hb dX1_depthIf_48 rfl (lv_at hl 6 rfl) ?_
  refine lv_iconst (v := 1) hx hb dX1_depthIf_49 (by decide) ?_
  refine lv_isub hx hb dX1_depthIf_50 ?_
  refine lv_topi (fun v16 ev16 => ?_)
  obtain rfl : v16 = 3 := ev16.trans (by decide)
  have hPc := hP.sub (ws' := [(y0, .inr (5, [.int 4, .int 4, .ref yw0, .ref yv0, .ref yh0, .int nb0])), (yw0, .inl (cI, 4, .inl gw0)), (yv0, .inl (cI, 4, .inl gv0)), (yh0, .inl (cR, 4, .inr (.inr (.inr (.inr gh0))))), (y1, .inr (5, [.int 4, .int 4, .ref yw1, .ref yv1, .ref yh1, .int nb1])), (yw1, .inl (cI, 4, .inl gw1)), (yv1, .inl (cI, 4, .inl gv1)), (yh1, .inl (cR, 4, .inr (.inr (.inr (.inr gh1))))), (tg, .inr (5, [.int 4, .int 4, .ref e1, .ref e2, .ref e3, .int e4]))]) [4, 5, 6, 7, 8, 9, 10, 11, 12] rfl
  have hDc := hD.sub (ws' := [(y0, .inr (5, [.int 4, .int 4, .ref yw0, .ref yv0, .ref yh0, .int nb0])), (yw0, .inl (cI, 4, .inl gw0)), (yv0, .inl (cI, 4, .inl gv0)), (yh0, .inl (cR, 4, .inr (.inr (.inr (.inr gh0))))), (y1, .inr (5, [.int 4, .int 4, .ref yw1, .ref yv1, .ref yh1, .int nb1])), (yw1, .inl (cI, 4, .inl gw1)), (yv1, .inl (cI, 4, .inl gv1)), (yh1, .inl (cR, 4, .inr (.inr (.inr (.inr gh1))))), (tg, .inr (5, [.int 4, .int 4, .ref e1, .ref e2, .ref e3, .int e4]))]) [4, 5, 6, 7, 8, 9, 10, 11, 12] (by decide) rfl
  have hFc := va_free (wc := [(y0, .inr (5, [.int 4, .int 4, .ref yw0, .ref yv0, .ref yh0, .int nb0])), (yw0, .inl (cI, 4, .inl gw0)), (yv0, .inl (cI, 4, .inl gv0)), (yh0, .inl (cR, 4, .inr (.inr (.inr (.inr gh0))))), (y1, .inr (5, [.int 4, .int 4, .ref yw1, .ref yv1, .ref yh1, .int nb1])), (yw1, .inl (cI, 4, .inl gw1)), (yv1, .inl (cI, 4, .inl gv1)), (yh1, .inl (cR, 4, .inr (.inr (.inr (.inr gh1))))), (tg, .inr (5, [.int 4, .int 4, .ref e1, .ref e2, .ref e3, .int e4]))]) hD hS hA [4, 5, 6, 7, 8, 9, 10, 11, 12] rfl
  have hDv := hDc.self (sz := H12.size)
  have hpre := zpre (xs' := []) (av := [.ref y1, .ref tg, .int dd, .int 3]) hPc hK (hDc.weaken (fun _ _ _ h => h)) hZ hS hFc (fun r hr => by cases hr)
  refine va_calli (va_runS (As := [.ref y1, .ref tg, .int dd, .int 3]) (rest := [.int 1, .int 3]) ⟨hx, hb, hml, hown, hts⟩ (k_dIc1_3 l dC dI cI cB cR cO zk y0 yw0 yv0 yh0 y1 yw1 yv1 yh1 nb0 nb1 gw0 gv0 gw1 gv1 gh0 gh1 tg e1 e2 e3 e4 dd H12.size hgw0 hgh0 hgh1) (va_cwS 4 hts gX1_depthIf_X1_depthIf rfl rfl rfl (by decide +kernel) ⟨Nat.le_of_ble_eq_true rfl, Nat.le_of_ble_eq_true rfl⟩) ⟨zblind, hpre⟩ rfl rfl hl.1 rfl (lv_room (Nat.le_of_ble_eq_true rfl)) dX1_depthIf_51 ⟨Nat.le_of_ble_eq_true rfl, Nat.le_of_ble_eq_true rfl⟩) hS (fun q _ h => hFc q h) hFc (fun r18 u t H17 locs ht hvm hw hB hz1 hk1 hS => ?_)
  obtain rfl : 2 = r18 := (show r18 = 2 from hw).symm
  obtain ⟨hP1, hK1, hD1, hz2⟩ := hB
  rw [ht] at hP1 hz2
  have hPD9 := va_join (wr := [(y2, .inr (5, [.int 4, .int 4, .ref yw2, .ref yv2, .ref yh2, .int nb2])), (yw2, .inl (cI, 4, .inl gw2)), (yv2, .inl (cI, 4, .inl gv2)), (yh2, .inl (cR, 4, .inr (.inr (.inr (.inr gh2)))))]) (w1 := [(y0, .inr (5, [.int 4, .int 4, .ref yw0, .ref yv0, .ref yh0, .int nb0])), (yw0, .inl (cI, 4, .inl gw0)), (yv0, .inl (cI, 4, .inl gv0)), (yh0, .inl (cR, 4, .inr (.inr (.inr (.inr gh0))))), (y1, .inr (5, [.int 4, .int 4, .ref yw1, .ref yv1, .ref yh1, .int nb1])), (yw1, .inl (cI, 4, .inl gw1)), (yv1, .inl (cI, 4, .inl gv1)), (yh1, .inl (cR, 4, .inr (.inr (.inr (.inr gh1))))), (tg, .inr (5, [.int 4, .int 4, .ref e1, .ref e2, .ref e3, .int e4]))]) hP hD [4, 5, 6, 7, 8, 9, 10, 11, 12] [0, 1, 2, 3] rfl rfl (by decide) (by decide) hk1 hFc hP1 hD1
  clear hPc hDc hFc hDv hpre hP hD hP1 hK1 hD1
  obtain ⟨hP, hD⟩ := hPD9
  replace hz : s.heap.size + 0 ≤ H17.size := by omega
  clear hz2
  replace hP : va_P (dC, dI) vwCl [(y2, .inr (5, [.int 4, .int 4, .ref yw2, .ref yv2, .ref yh2, .int nb2])), (yw2, .inl (cI, 4, .inl gw2)), (yv2, .inl (cI, 4, .inl gv2)), (yh2, .inl (cR, 4, .inr (.inr (.inr (.inr gh2))))), (y0, .inr (5, [.int 4, .int 4, .ref yw0, .ref yv0, .ref yh0, .int nb0])), (yw0, .inl (cI, 4, .inl gw0)), (yv0, .inl (cI, 4, .inl gv0)), (yh0, .inl (cR, 4, .inr (.inr (.inr (.inr gh0))))), (y1, .inr (5, [.int 4, .int 4, .ref yw1, .ref yv1, .ref yh1, .int nb1])), (yw1, .inl (cI, 4, .inl gw1)), (yv1, .inl (cI, 4, .inl gv1)), (yh1, .inl (cR, 4, .inr (.inr (.inr (.inr gh1))))), (tg, .inr (5, [.int 4, .int 4, .ref e1, .ref e2, .ref e3, .int e4]))] H17 := hP
  replace hD : va_D A [(y2, .inr (5, [.int 4, .int 4, .ref yw2, .ref yv2, .ref yh2, .int nb2])), (yw2, .inl (cI, 4, .inl gw2)), (yv2, .inl (cI, 4, .inl gv2)), (yh2, .inl (cR, 4, .inr (.inr (.inr (.inr gh2))))), (y0, .inr (5, [.int 4, .int 4, .ref yw0, .ref yv0, .ref yh0, .int nb0])), (yw0, .inl (cI, 4, .inl gw0)), (yv0, .inl (cI, 4, .inl gv0)), (yh0, .inl (cR, 4, .inr (.inr (.inr (.inr gh0))))), (y1, .inr (5, [.int 4, .int 4, .ref yw1, .ref yv1, .ref yh1, .int nb1])), (yw1, .inl (cI, 4, .inl gw1)), (yv1, .inl (cI, 4, .inl gv1)), (yh1, .inl (cR, 4, .inr (.inr (.inr (.inr gh1))))), (tg, .inr (5, [.int 4, .int 4, .ref e1, .ref e2, .ref e3, .int e4]))] := hD
  refine W.widen (k := 0) (n := 0) (by omega) (by omega) ?_
  refine lv_iadd hx hb dX1_depthIf_54 ?_
  refine lv_topi (fun v19 ev19 => ?_)
  obtain rfl : v19 = 3 := ev19.trans (by decide)
  refine va_mmax (x := 3) (y := 3) hx hb (hml.trans hl.1.symm) hown (hts (.methodLink RX1 126 Lib.Math.max.name) (List.mem_cons_of_mem _ zw_728)) (hts (.static Lib.Math.max.name) (List.mem_cons_of_mem _ zw_271)) (hts (.initialized "java/lang/Math") (List.mem_cons_of_mem _ zw_58)) (hts (.code Lib.Math.max.name Lib.Math.max.code 2 (some .int)) (List.mem_cons_of_mem _ zw_272)) (Nat.le_of_ble_eq_true rfl) (Nat.le_of_ble_eq_true rfl) (Nat.le_of_ble_eq_true rfl) (Nat.le_of_ble_eq_true rfl) dX1_depthIf_55 ?_
  refine lv_topi (fun v20 ev20 => ?_)
  obtain rfl : v20 = 3 := ev20.trans (by decide)
  refine lv_istore (lv' := [(4, .int 3), (6, .ref y1), (5, .int 3), (0, .ref y2), (1, .ref tg), (2, .int dd), (3, .int 4)]) hx hb dX1_depthIf_58 hl (by decide) rfl (fun ls hl => ?_)
  refine lv_iinc (v := 4) (lv' := [(5, .int 4), (4, .int 3), (6, .ref y1), (0, .ref y2), (1, .ref tg), (2, .int dd), (3, .int 4)]) hx hb dX1_depthIf_60 hl (k := 2) rfl (by decide) (by decide) rfl (fun ls hl => ?_)
  refine lv_goto (tgt := 13) hx hb dX1_depthIf_63 (by decide) ?_
  refine lv_iload_n hx hb dX1_depthIf_13 rfl (lv_at hl 6 rfl) ?_
  refine lv_iconst (v := 1) hx hb dX1_depthIf_14 (by decide) ?_
  refine lv_icmp_le (tgt := 66) hx hb dX1_depthIf_15 (by decide) (fun c9 => ?_) (fun c9 => ?_)
  · exact absurd c9 (by decide)
  refine lv_iload hx hb dX1_depthIf_18 (lv_at hl 0 rfl) ?_
  refine lv_aload_n hx hb dX1_depthIf_20 rfl (lv_at hl 3 rfl) ?_
  refine va_getN (D := (dC, dI)) (ci := 5) (v := .int 4) (C := RX0) (T := TX0) (N := 6) hx hb hts hi_X1_depthIf_X0 hown hK hP 0 rfl rfl 1 (by decide) (zn3 hZ) (fun _ h9 => h9) rfl dX1_depthIf_21 ?_
  refine lv_icmp_ge (tgt := 66) hx hb dX1_depthIf_24 (by decide) (fun c9 => ?_) (fun c9 => ?_)
  rotate_left
  · exact absurd (by decide) c9
  refine lv_iload hx hb dX1_depthIf_66 (lv_at hl 1 rfl) ?_
  have hP9 := hP.sub (ws' := [(y0, .inr (5, [.int 4, .int 4, .ref yw0, .ref yv0, .ref yh0, .int nb0])), (yw0, .inl (cI, 4, .inl gw0)), (yv0, .inl (cI, 4, .inl gv0)), (yh0, .inl (cR, 4, .inr (.inr (.inr (.inr gh0))))), (y1, .inr (5, [.int 4, .int 4, .ref yw1, .ref yv1, .ref yh1, .int nb1])), (yw1, .inl (cI, 4, .inl gw1)), (yv1, .inl (cI, 4, .inl gv1)), (yh1, .inl (cR, 4, .inr (.inr (.inr (.inr gh1))))), (y2, .inr (5, [.int 4, .int 4, .ref yw2, .ref yv2, .ref yh2, .int nb2])), (yw2, .inl (cI, 4, .inl gw2)), (yv2, .inl (cI, 4, .inl gv2)), (yh2, .inl (cR, 4, .inr (.inr (.inr (.inr gh2))))), (tg, .inr (5, [.int 4, .int 4, .ref e1, .ref e2, .ref e3, .int e4]))]) [4, 5, 6, 7, 8, 9, 10, 11, 0, 1, 2, 3, 12] rfl
  have hD9 := hD.sub (ws' := [(y0, .inr (5, [.int 4, .int 4, .ref yw0, .ref yv0, .ref yh0, .int nb0])), (yw0, .inl (cI, 4, .inl gw0)), (yv0, .inl (cI, 4, .inl gv0)), (yh0, .inl (cR, 4, .inr (.inr (.inr (.inr gh0))))), (y1, .inr (5, [.int 4, .int 4, .ref yw1, .ref yv1, .ref yh1, .int nb1])), (yw1, .inl (cI, 4, .inl gw1)), (yv1, .inl (cI, 4, .inl gv1)), (yh1, .inl (cR, 4, .inr (.inr (.inr (.inr gh1))))), (y2, .inr (5, [.int 4, .int 4, .ref yw2, .ref yv2, .ref yh2, .int nb2])), (yw2, .inl (cI, 4, .inl gw2)), (yv2, .inl (cI, 4, .inl gv2)), (yh2, .inl (cR, 4, .inr (.inr (.inr (.inr gh2))))), (tg, .inr (5, [.int 4, .int 4, .ref e1, .ref e2, .ref e3, .int e4]))]) [4, 5, 6, 7, 8, 9, 10, 11, 0, 1, 2, 3, 12] (by decide) rfl
  exact W.iret (v := 3) hx hb hr (fun t ht hW => ⟨⟨_, (), rfl, rfl, ⟨by rw [ht]; exact hP9, va_K.moved hW.alike hK, hD9, by rw [ht]; exact hz⟩⟩, hS.F ht⟩) hS.2.2 dX1_depthIf_68

set_option maxHeartbeats 4000000 in
set_option maxRecDepth 100000 in
theorem k_dIc0_3 (l : Launch) (dC : Nat → ClassId) (dI : Nat → Nat → Nat) (cI cB cR cO : ClassId) (zk : Nat → Nat) (y0 yw0 yv0 yh0 : Nat) (nb0 : Int32) (gw0 gv0 : Nat → Int32) (gh0 : Nat → Option Nat) (tg e1 e2 e3 : Nat) (e4 : Int32) (dd : Int32) (sz : Nat) (hgw0 : ∀ i, i < 4 → gw0 i = 0) (hgh0 : ∀ i, i < 4 → gh0 i = none) : Met l yX1_depthIf wsX1_depthIf ({ frames := 0, cells := 0, slots := 0, locals := 0 }) (va_Pc [.ref y0, .ref tg, .int dd, .int 3] (zPre (dC, dI) (zT cI cB cR cO) zk [] [(y0, .inr (5, [.int 4, .int 4, .ref yw0, .ref yv0, .ref yh0, .int nb0])), (yw0, .inl (cI, 4, .inl gw0)), (yv0, .inl (cI, 4, .inl gv0)), (yh0, .inl (cR, 4, .inr (.inr (.inr (.inr gh0))))), (tg, .inr (5, [.int 4, .int 4, .ref e1, .ref e2, .ref e3, .int e4]))] sz)) (va_Qi (fun r (_ : Unit) => r = 1) (fun _ t => zEnd (dC, dI) (zT cI cB cR cO) (va_A [(y0, .inr (5, [.int 4, .int 4, .ref yw0, .ref yv0, .ref yh0, .int nb0])), (yw0, .inl (cI, 4, .inl gw0)), (yv0, .inl (cI, 4, .inl gv0)), (yh0, .inl (cR, 4, .inr (.inr (.inr (.inr gh0))))), (tg, .inr (5, [.int 4, .int 4, .ref e1, .ref e2, .ref e3, .int e4]))] sz) [(y0, .inr (5, [.int 4, .int 4, .ref yw0, .ref yv0, .ref yh0, .int nb0])), (yw0, .inl (cI, 4, .inl gw0)), (yv0, .inl (cI, 4, .inl gv0)), (yh0, .inl (cR, 4, .inr (.inr (.inr (.inr gh0))))), (tg, .inr (5, [.int 4, .int 4, .ref e1, .ref e2, .ref e3, .int e4]))] sz 0 t) (va_A [(y0, .inr (5, [.int 4, .int 4, .ref yw0, .ref yv0, .ref yh0, .int nb0])), (yw0, .inl (cI, 4, .inl gw0)), (yv0, .inl (cI, 4, .inl gv0)), (yh0, .inl (cR, 4, .inr (.inr (.inr (.inr gh0))))), (tg, .inr (5, [.int 4, .int 4, .ref e1, .ref e2, .ref e3, .int e4]))] sz)) 0 0 (va_A [(y0, .inr (5, [.int 4, .int 4, .ref yw0, .ref yv0, .ref yh0, .int nb0])), (yw0, .inl (cI, 4, .inl gw0)), (yv0, .inl (cI, 4, .inl gv0)), (yh0, .inl (cR, 4, .inr (.inr (.inr (.inr gh0))))), (tg, .inr (5, [.int 4, .int 4, .ref e1, .ref e2, .ref e3, .int e4]))] sz) := by
  refine Met.ofW (cc := cX1_depthIf) (maxL := 7) (ret := (some .int)) (by decide) rfl ?_
  intro p e s mY args below meth c s₁ B hml hv
  obtain ⟨rfl, hsz, hP, hK, hD0, hZ⟩ := hv
  have hx := B.exec
  have hb := B.bytes
  have hr := B.returns
  have hts := atoms_spec (ws := wsX1_depthIf) B.pre
  have hown : s.vm.findClass RX1 = some mY.cls := findClass_of_methodNamed B.named
  have hlocks := B.notSynchronized
  subst hsz
  have hD := hD0.self (sz := s.heap.size)
  generalize hAe : va_A [(y0, .inr (5, [.int 4, .int 4, .ref yw0, .ref yv0, .ref yh0, .int nb0])), (yw0, .inl (cI, 4, .inl gw0)), (yv0, .inl (cI, 4, .inl gv0)), (yh0, .inl (cR, 4, .inr (.inr (.inr (.inr gh0))))), (tg, .inr (5, [.int 4, .int 4, .ref e1, .ref e2, .ref e3, .int e4]))] s.heap.size = A at hD hZ ⊢
  have hA : ∀ q : Nat, s.heap.size ≤ q → A q := fun q h => by rw [← hAe]; exact Or.inr h
  have hS : va_S A s.heap s.heap [] := va_S.rf
  have hz : s.heap.size + 0 ≤ s.heap.size := Nat.le_refl _
  have hl := lv_entry ([.ref y0, .ref tg, .int dd, .int 3]) (n := 7) (Nat.le_of_ble_eq_true rfl)
  rw [lg_entry_eq]
  generalize (lg_sl ([.ref y0, .ref tg, .int dd, .int 3]) ++ List.replicate (7 - (lg_sl ([.ref y0, .ref tg, .int dd, .int 3])).length) Slot.unset).toArray = ls at hl ⊢
  have hl : lv_has ls 7 [(0, .ref y0), (1, .ref tg), (2, .int dd), (3, .int 3)] := hl
  have hP : va_P (dC, dI) vwCl [(y0, .inr (5, [.int 4, .int 4, .ref yw0, .ref yv0, .ref yh0, .int nb0])), (yw0, .inl (cI, 4, .inl gw0)), (yv0, .inl (cI, 4, .inl gv0)), (yh0, .inl (cR, 4, .inr (.inr (.inr (.inr gh0))))), (tg, .inr (5, [.int 4, .int 4, .ref e1, .ref e2, .ref e3, .int e4]))] s.heap := hP
  have hD : va_D A [(y0, .inr (5, [.int 4, .int 4, .ref yw0, .ref yv0, .ref yh0, .int nb0])), (yw0, .inl (cI, 4, .inl gw0)), (yv0, .inl (cI, 4, .inl gv0)), (yh0, .inl (cR, 4, .inr (.inr (.inr (.inr gh0))))), (tg, .inr (5, [.int 4, .int 4, .ref e1, .ref e2, .ref e3, .int e4]))] := hD
  refine lv_aload_n hx hb dX1_depthIf_0 rfl (lv_at hl 0 rfl) ?_
  refine lv_aload_n hx hb dX1_depthIf_1 rfl (lv_at hl 1 rfl) ?_
  refine lv_acmp_ne (rx := (some y0)) (ry := (some tg)) (tgt := 7) hx hb dX1_depthIf_2 (by decide) (fun c9 => ?_) (fun c9 => ?_)
  rotate_left
  · exact absurd c9 (fun h9 => absurd (hD.1 0 4 _ _ rfl rfl (Option.some.inj h9)) (by decide))
  refine lv_iconst (v := 1) hx hb dX1_depthIf_7 (by decide) ?_
  refine lv_istore (lv' := [(4, .int 1), (0, .ref y0), (1, .ref tg), (2, .int dd), (3, .int 3)]) hx hb dX1_depthIf_8 hl (by decide) rfl (fun ls hl => ?_)
  refine lv_iconst (v := 0) hx hb dX1_depthIf_10 (by decide) ?_
  refine lv_istore (lv' := [(5, .int 0), (4, .int 1), (0, .ref y0), (1, .ref tg), (2, .int dd), (3, .int 3)]) hx hb dX1_depthIf_11 hl (by decide) rfl (fun ls hl => ?_)
  refine lv_iload_n hx hb dX1_depthIf_13 rfl (lv_at hl 5 rfl) ?_
  refine lv_iconst (v := 1) hx hb dX1_depthIf_14 (by decide) ?_
  refine lv_icmp_le (tgt := 66) hx hb dX1_depthIf_15 (by decide) (fun c9 => ?_) (fun c9 => ?_)
  · exact absurd c9 (by decide)
  refine lv_iload hx hb dX1_depthIf_18 (lv_at hl 0 rfl) ?_
  refine lv_aload_n hx hb dX1_depthIf_20 rfl (lv_at hl 2 rfl) ?_
  refine va_getN (D := (dC, dI)) (ci := 5) (v := .int 4) (C := RX0) (T := TX0) (N := 6) hx hb hts hi_X1_depthIf_X0 hown hK hP 0 rfl rfl 1 (by decide) (zn3 hZ) (fun _ h9 => h9) rfl dX1_depthIf_21 ?_
  refine lv_icmp_ge (tgt := 66) hx hb dX1_depthIf_24 (by decide) (fun c9 => ?_) (fun c9 => ?_)
  · exact absurd c9 (by decide)
  refine lv_aload_n hx hb dX1_depthIf_27 rfl (lv_at hl 2 rfl) ?_
  refine va_getN (D := (dC, dI)) (ci := 5) (v := .ref yh0) (C := RX0) (T := TX0) (N := 6) hx hb hts hi_X1_depthIf_X0 hown hK hP 0 rfl rfl 4 (by decide) (zn2 hZ) (fun _ h9 => h9) rfl dX1_depthIf_28 ?_
  refine lv_iload hx hb dX1_depthIf_31 (lv_at hl 0 rfl) ?_
  refine va_aldq (D := (dC, dI)) (cl := vwCl) hx hb hK hP 3 2 rfl rfl (by unfold vp_in; decide) dX1_depthIf_33 ?_
  rw [show (0 : Int32).toNatClampNeg = 0 from by decide, hgh0 0 (by decide)]
  refine W.eq (g2 := F0 mY 34 ls [.null]) rfl ?_
  refine lv_astoreN (lv' := [(6, .null), (5, .int 0), (4, .int 1), (0, .ref y0), (1, .ref tg), (2, .int dd), (3, .int 3)]) hx hb dX1_depthIf_34 hl (by decide) rfl (fun ls hl => ?_)
  refine lv_aloadN hx hb dX1_depthIf_36 (lv_at hl 0 rfl) ?_
  refine lv_ifnullN (tgt := 60) hx hb dX1_depthIf_38 (by decide) ?_
  refine lv_iinc (v := 1) (lv' := [(5, .int 1), (6, .null), (4, .int 1), (0, .ref y0), (1, .ref tg), (2, .int dd), (3, .int 3)]) hx hb dX1_depthIf_60 hl (k := 1) rfl (by decide) (by decide) rfl (fun ls hl => ?_)
  refine lv_goto (tgt := 13) hx hb dX1_depthIf_63 (by decide) ?_
  refine lv_iload_n hx hb dX1_depthIf_13 rfl (lv_at hl 6 rfl) ?_
  refine lv_iconst (v := 1) hx hb dX1_depthIf_14 (by decide) ?_
  refine lv_icmp_le (tgt := 66) hx hb dX1_depthIf_15 (by decide) (fun c9 => ?_) (fun c9 => ?_)
  · exact absurd c9 (by decide)
  refine lv_iload hx hb dX1_depthIf_18 (lv_at hl 0 rfl) ?_
  refine lv_aload_n hx hb dX1_depthIf_20 rfl (lv_at hl 3 rfl) ?_
  refine va_getN (D := (dC, dI)) (ci := 5) (v := .int 4) (C := RX0) (T := TX0) (N := 6) hx hb hts hi_X1_depthIf_X0 hown hK hP 0 rfl rfl 1 (by decide) (zn3 hZ) (fun _ h9 => h9) rfl dX1_depthIf_21 ?_
  refine lv_icmp_ge (tgt := 66) hx hb dX1_depthIf_24 (by decide) (fun c9 => ?_) (fun c9 => ?_)
  · exact absurd c9 (by decide)
  refine lv_aload_n hx hb dX1_depthIf_27 rfl (lv_at hl 3 rfl) ?_
  refine va_getN (D := (dC, dI)) (ci := 5) (v := .ref yh0) (C := RX0) (T := TX0) (N := 6) hx hb hts hi_X1_depthIf_X0 hown hK hP 0 rfl rfl 4 (by decide) (zn2 hZ) (fun _ h9 => h9) rfl dX1_depthIf_28 ?_
  refine lv_iload hx hb dX1_depthIf_31 (lv_at hl 0 rfl) ?_
  refine va_aldq (D := (dC, dI)) (cl := vwCl) hx hb hK hP 3 2 rfl rfl (by unfold vp_in; decide) dX1_depthIf_33 ?_
  rw [show (1 : Int32).toNatClampNeg = 1 from by decide, hgh0 1 (by decide)]
  refine W.eq (g2 := F0 mY 34 ls [.null]) rfl ?_
  refine lv_astoreN (lv' := [(6, .null), (5, .int 1), (4, .int 1), (0, .ref y0), (1, .ref tg), (2, .int dd), (3, .int 3)]) hx hb dX1_depthIf_34 hl (by decide) rfl (fun ls hl => ?_)
  refine lv_aloadN hx hb dX1_depthIf_36 (lv_at hl 0 rfl) ?_
  refine lv_ifnullN (tgt := 60) hx hb dX1_depthIf_38 (by decide) ?_
  refine lv_iinc (v := 2) (lv' := [(5, .int 2), (6, .null), (4, .int 1), (0, .ref y0), (1, .ref tg), (2, .int dd), (3, .int 3)]) hx hb dX1_depthIf_60 hl (k := 1) rfl (by decide) (by decide) rfl (fun ls hl => ?_)
  refine lv_goto (tgt := 13) hx hb dX1_depthIf_63 (by decide) ?_
  refine lv_iload_n hx hb dX1_depthIf_13 rfl (lv_at hl 6 rfl) ?_
  refine lv_iconst (v := 1) hx hb dX1_depthIf_14 (by decide) ?_
  refine lv_icmp_le (tgt := 66) hx hb dX1_depthIf_15 (by decide) (fun c9 => ?_) (fun c9 => ?_)
  · exact absurd c9 (by decide)
  refine lv_iload hx hb dX1_depthIf_18 (lv_at hl 0 rfl) ?_
  refine lv_aload_n hx hb dX1_depthIf_20 rfl (lv_at hl 3 rfl) ?_
  refine va_getN (D := (dC, dI)) (ci := 5) (v := .int 4) (C := RX0) (T := TX0) (N := 6) hx hb hts hi_X1_depthIf_X0 hown hK hP 0 rfl rfl 1 (by decide) (zn3 hZ) (fun _ h9 => h9) rfl dX1_depthIf_21 ?_
  refine lv_icmp_ge (tgt := 66) hx hb dX1_depthIf_24 (by decide) (fun c9 => ?_) (fun c9 => ?_)
  · exact absurd c9 (by decide)
  refine lv_aload_n hx hb dX1_depthIf_27 rfl (lv_at hl 3 rfl) ?_
  refine va_getN (D := (dC, dI)) (ci := 5) (v := .ref yh0) (C := RX0) (T := TX0) (N := 6) hx hb hts hi_X1_depthIf_X0 hown hK hP 0 rfl rfl 4 (by decide) (zn2 hZ) (fun _ h9 => h9) rfl dX1_depthIf_28 ?_
  refine lv_iload hx hb dX1_depthIf_31 (lv_at hl 0 rfl) ?_
  refine va_aldq (D := (dC, dI)) (cl := vwCl) hx hb hK hP 3 2 rfl rfl (by unfold vp_in; decide) dX1_depthIf_33 ?_
  rw [show (2 : Int32).toNatClampNeg = 2 from by decide, hgh0 2 (by decide)]
  refine W.eq (g2 := F0 mY 34 ls [.null]) rfl ?_
  refine lv_astoreN (lv' := [(6, .null), (5, .int 2), (4, .int 1), (0, .ref y0), (1, .ref tg), (2, .int dd), (3, .int 3)]) hx hb dX1_depthIf_34 hl (by decide) rfl (fun ls hl => ?_)
  refine lv_aloadN hx hb dX1_depthIf_36 (lv_at hl 0 rfl) ?_
  refine lv_ifnullN (tgt := 60) hx hb dX1_depthIf_38 (by decide) ?_
  refine lv_iinc (v := 3) (lv' := [(5, .int 3), (6, .null), (4, .int 1), (0, .ref y0), (1, .ref tg), (2, .int dd), (3, .int 3)]) hx hb dX1_depthIf_60 hl (k := 1) rfl (by decide) (by decide) rfl (fun ls hl => ?_)
  refine lv_goto (tgt := 13) hx hb dX1_depthIf_63 (by decide) ?_
  refine lv_iload_n hx hb dX1_depthIf_13 rfl (lv_at hl 6 rfl) ?_
  refine lv_iconst (v := 1) hx hb dX1_depthIf_14 (by decide) ?_
  refine lv_icmp_le (tgt := 66) hx hb dX1_depthIf_15 (by decide) (fun c9 => ?_) (fun c9 => ?_)
  · exact absurd c9 (by decide)
  refine lv_iload hx hb dX1_depthIf_18 (lv_at hl 0 rfl) ?_
  refine lv_aload_n hx hb dX1_depthIf_20 rfl (lv_at hl 3 rfl) ?_
  refine va_getN (D := (dC, dI)) (ci := 5) (v := .int 4) (C := RX0) (T := TX0) (N := 6) hx hb hts hi_X1_depthIf_X0 hown hK hP 0 rfl rfl 1 (by decide) (zn3 hZ) (fun _ h9 => h9) rfl dX1_depthIf_21 ?_
  refine lv_icmp_ge (tgt := 66) hx hb dX1_depthIf_24 (by decide) (fun c9 => ?_) (fun c9 => ?_)
  · exact absurd c9 (by decide)
  refine lv_aload_n hx hb dX1_depthIf_27 rfl (lv_at hl 3 rfl) ?_
  refine va_getN (D := (dC, dI)) (ci := 5) (v := .ref yh0) (C := RX0) (T := TX0) (N := 6) hx hb hts hi_X1_depthIf_X0 hown hK hP 0 rfl rfl 4 (by decide) (zn2 hZ) (fun _ h9 => h9) rfl dX1_depthIf_28 ?_
  refine lv_iload hx hb dX1_depthIf_31 (lv_at hl 0 rfl) ?_
  refine va_aldq (D := (dC, dI)) (cl := vwCl) hx hb hK hP 3 2 rfl rfl (by unfold vp_in; decide) dX1_depthIf_33 ?_
  rw [show (3 : Int32).toNatClampNeg = 3 from by decide, hgh0 3 (by decide)]
  refine W.eq (g2 := F0 mY 34 ls [.null]) rfl ?_
  refine lv_astoreN (lv' := [(6, .null), (5, .int 3), (4, .int 1), (0, .ref y0), (1, .ref tg), (2, .int dd), (3, .int 3)]) hx hb dX1_depthIf_34 hl (by decide) rfl (fun ls hl => ?_)
  refine lv_aloadN hx hb dX1_depthIf_36 (lv_at hl 0 rfl) ?_
  refine lv_ifnullN (tgt := 60) hx hb dX1_depthIf_38 (by decide) ?_
  refine lv_iinc (v := 4) (lv' := [(5, .int 4), (6, .null), (4, .int 1), (0, .ref y0), (1, .ref tg), (2, .int dd), (3, .int 3)]) hx hb dX1_depthIf_60 hl (k := 1) rfl (by decide) (by decide) rfl (fun ls hl => ?_)
  refine lv_goto (tgt := 13) hx hb dX1_depthIf_63 (by decide) ?_
  refine lv_iload_n hx hb dX1_depthIf_13 rfl (lv_at hl 6 rfl) ?_
  refine lv_iconst (v := 1) hx hb dX1_depthIf_14 (by decide) ?_
  refine lv_icmp_le (tgt := 66) hx hb dX1_depthIf_15 (by decide) (fun c9 => ?_) (fun c9 => ?_)
  · exact absurd c9 (by decide)
  refine lv_iload hx hb dX1_depthIf_18 (lv_at hl 0 rfl) ?_
  refine lv_aload_n hx hb dX1_depthIf_20 rfl (lv_at hl 3 rfl) ?_
  refine va_getN (D := (dC, dI)) (ci := 5) (v := .int 4) (C := RX0) (T := TX0) (N := 6) hx hb hts hi_X1_depthIf_X0 hown hK hP 0 rfl rfl 1 (by decide) (zn3 hZ) (fun _ h9 => h9) rfl dX1_depthIf_21 ?_
  refine lv_icmp_ge (tgt := 66) hx hb dX1_depthIf_24 (by decide) (fun c9 => ?_) (fun c9 => ?_)
  rotate_left
  · exact absurd (by decide) c9
  refine lv_iload hx hb dX1_depthIf_66 (lv_at hl 2 rfl) ?_
  have hP9 := hP.sub (ws' := [(y0, .inr (5, [.int 4, .int 4, .ref yw0, .ref yv0, .ref yh0, .int nb0])), (yw0, .inl (cI, 4, .inl gw0)), (yv0, .inl (cI, 4, .inl gv0)), (yh0, .inl (cR, 4, .inr (.inr (.inr (.inr gh0))))), (tg, .inr (5, [.int 4, .int 4, .ref e1, .ref e2, .ref e3, .int e4]))]) [0, 1, 2, 3, 4] rfl
  have hD9 := hD.sub (ws' := [(y0, .inr (5, [.int 4, .int 4, .ref yw0, .ref yv0, .ref yh0, .int nb0])), (yw0, .inl (cI, 4, .inl gw0)), (yv0, .inl (cI, 4, .inl gv0)), (yh0, .inl (cR, 4, .inr (.inr (.inr (.inr gh0))))), (tg, .inr (5, [.int 4, .int 4, .ref e1, .ref e2, .ref e3, .int e4]))]) [0, 1, 2, 3, 4] (by decide) rfl
  exact W.iret (v := 1) hx hb hr (fun t ht hW => ⟨⟨_, (), rfl, rfl, ⟨by rw [ht]; exact hP9, va_K.moved hW.alike hK, hD9, by rw [ht]; exact hz⟩⟩, hS.F ht⟩) hS.2.2 dX1_depthIf_68

set_option maxHeartbeats 4000000 in
set_option maxRecDepth 100000 in
theorem k_dIc1_4 (l : Launch) (dC : Nat → ClassId) (dI : Nat → Nat → Nat) (cI cB cR cO : ClassId) (zk : Nat → Nat) (y0 yw0 yv0 yh0 y1 yw1 yv1 yh1 : Nat) (nb0 nb1 : Int32) (gw0 gv0 gw1 gv1 : Nat → Int32) (gh0 gh1 : Nat → Option Nat) (tg e1 e2 e3 : Nat) (e4 : Int32) (dd : Int32) (sz : Nat) (hgw0 : ∀ i, i < 4 → gw0 i = 0) (hgh0 : ∀ i, i < 4 → gh0 i = none) (hgh1 : ∀ i, i < 4 → gh1 i = some y0) : Met l yX1_depthIf wsX1_depthIf ({ frames := 1, cells := 0, slots := 0, locals := 40 }) (va_Pc [.ref y1, .ref tg, .int dd, .int 4] (zPre (dC, dI) (zT cI cB cR cO) zk [] [(y0, .inr (5, [.int 4, .int 4, .ref yw0, .ref yv0, .ref yh0, .int nb0])), (yw0, .inl (cI, 4, .inl gw0)), (yv0, .inl (cI, 4, .inl gv0)), (yh0, .inl (cR, 4, .inr (.inr (.inr (.inr gh0))))), (y1, .inr (5, [.int 4, .int 4, .ref yw1, .ref yv1, .ref yh1, .int nb1])), (yw1, .inl (cI, 4, .inl gw1)), (yv1, .inl (cI, 4, .inl gv1)), (yh1, .inl (cR, 4, .inr (.inr (.inr (.inr gh1))))), (tg, .inr (5, [.int 4, .int 4, .ref e1, .ref e2, .ref e3, .int e4]))] sz)) (va_Qi (fun r (_ : Unit) => r = 2) (fun _ t => zEnd (dC, dI) (zT cI cB cR cO) (va_A [(y0, .inr (5, [.int 4, .int 4, .ref yw0, .ref yv0, .ref yh0, .int nb0])), (yw0, .inl (cI, 4, .inl gw0)), (yv0, .inl (cI, 4, .inl gv0)), (yh0, .inl (cR, 4, .inr (.inr (.inr (.inr gh0))))), (y1, .inr (5, [.int 4, .int 4, .ref yw1, .ref yv1, .ref yh1, .int nb1])), (yw1, .inl (cI, 4, .inl gw1)), (yv1, .inl (cI, 4, .inl gv1)), (yh1, .inl (cR, 4, .inr (.inr (.inr (.inr gh1))))), (tg, .inr (5, [.int 4, .int 4, .ref e1, .ref e2, .ref e3, .int e4]))] sz) [(y0, .inr (5, [.int 4, .int 4, .ref yw0, .ref yv0, .ref yh0, .int nb0])), (yw0, .inl (cI, 4, .inl gw0)), (yv0, .inl (cI, 4, .inl gv0)), (yh0, .inl (cR, 4, .inr (.inr (.inr (.inr gh0))))), (y1, .inr (5, [.int 4, .int 4, .ref yw1, .ref yv1, .ref yh1, .int nb1])), (yw1, .inl (cI, 4, .inl gw1)), (yv1, .inl (cI, 4, .inl gv1)), (yh1, .inl (cR, 4, .inr (.inr (.inr (.inr gh1))))), (tg, .inr (5, [.int 4, .int 4, .ref e1, .ref e2, .ref e3, .int e4]))] sz 0 t) (va_A [(y0, .inr (5, [.int 4, .int 4, .ref yw0, .ref yv0, .ref yh0, .int nb0])), (yw0, .inl (cI, 4, .inl gw0)), (yv0, .inl (cI, 4, .inl gv0)), (yh0, .inl (cR, 4, .inr (.inr (.inr (.inr gh0))))), (y1, .inr (5, [.int 4, .int 4, .ref yw1, .ref yv1, .ref yh1, .int nb1])), (yw1, .inl (cI, 4, .inl gw1)), (yv1, .inl (cI, 4, .inl gv1)), (yh1, .inl (cR, 4, .inr (.inr (.inr (.inr gh1))))), (tg, .inr (5, [.int 4, .int 4, .ref e1, .ref e2, .ref e3, .int e4]))] sz)) 0 0 (va_A [(y0, .inr (5, [.int 4, .int 4, .ref yw0, .ref yv0, .ref yh0, .int nb0])), (yw0, .inl (cI, 4, .inl gw0)), (yv0, .inl (cI, 4, .inl gv0)), (yh0, .inl (cR, 4, .inr (.inr (.inr (.inr gh0))))), (y1, .inr (5, [.int 4, .int 4, .ref yw1, .ref yv1, .ref yh1, .int nb1])), (yw1, .inl (cI, 4, .inl gw1)), (yv1, .inl (cI, 4, .inl gv1)), (yh1, .inl (cR, 4, .inr (.inr (.inr (.inr gh1))))), (tg, .inr (5, [.int 4, .int 4, .ref e1, .ref e2, .ref e3, .int e4]))] sz) := by
  refine Met.ofW (cc := cX1_depthIf) (maxL := 7) (ret := (some .int)) (by decide) rfl ?_
  intro p e s mY args below meth c s₁ B hml hv
  obtain ⟨rfl, hsz, hP, hK, hD0, hZ⟩ := hv
  have hx := B.exec
  have hb := B.bytes
  have hr := B.returns
  have hts := atoms_spec (ws := wsX1_depthIf) B.pre
  have hown : s.vm.findClass RX1 = some mY.cls := findClass_of_methodNamed B.named
  have hlocks := B.notSynchronized
  subst hsz
  have hD := hD0.self (sz := s.heap.size)
  generalize hAe : va_A [(y0, .inr (5, [.int 4, .int 4, .ref yw0, .ref yv0, .ref yh0, .int nb0])), (yw0, .inl (cI, 4, .inl gw0)), (yv0, .inl (cI, 4, .inl gv0)), (yh0, .inl (cR, 4, .inr (.inr (.inr (.inr gh0))))), (y1, .inr (5, [.int 4, .int 4, .ref yw1, .ref yv1, .ref yh1, .int nb1])), (yw1, .inl (cI, 4, .inl gw1)), (yv1, .inl (cI, 4, .inl gv1)), (yh1, .inl (cR, 4, .inr (.inr (.inr (.inr gh1))))), (tg, .inr (5, [.int 4, .int 4, .ref e1, .ref e2, .ref e3, .int e4]))] s.heap.size = A at hD hZ ⊢
  have hA : ∀ q : Nat, s.heap.size ≤ q → A q := fun q h => by rw [← hAe]; exact Or.inr h
  have hS : va_S A s.heap s.heap [] := va_S.rf
  have hz : s.heap.size + 0 ≤ s.heap.size := Nat.le_refl _
  have hl := lv_entry ([.ref y1, .ref tg, .int dd, .int 4]) (n := 7) (Nat.le_of_ble_eq_true rfl)
  rw [lg_entry_eq]
  generalize (lg_sl ([.ref y1, .ref tg, .int dd, .int 4]) ++ List.replicate (7 - (lg_sl ([.ref y1, .ref tg, .int dd, .int 4])).length) Slot.unset).toArray = ls at hl ⊢
  have hl : lv_has ls 7 [(0, .ref y1), (1, .ref tg), (2, .int dd), (3, .int 4)] := hl
  have hP : va_P (dC, dI) vwCl [(y0, .inr (5, [.int 4, .int 4, .ref yw0, .ref yv0, .ref yh0, .int nb0])), (yw0, .inl (cI, 4, .inl gw0)), (yv0, .inl (cI, 4, .inl gv0)), (yh0, .inl (cR, 4, .inr (.inr (.inr (.inr gh0))))), (y1, .inr (5, [.int 4, .int 4, .ref yw1, .ref yv1, .ref yh1, .int nb1])), (yw1, .inl (cI, 4, .inl gw1)), (yv1, .inl (cI, 4, .inl gv1)), (yh1, .inl (cR, 4, .inr (.inr (.inr (.inr gh1))))), (tg, .inr (5, [.int 4, .int 4, .ref e1, .ref e2, .ref e3, .int e4]))] s.heap := hP
  have hD : va_D A [(y0, .inr (5, [.int 4, .int 4, .ref yw0, .ref yv0, .ref yh0, .int nb0])), (yw0, .inl (cI, 4, .inl gw0)), (yv0, .inl (cI, 4, .inl gv0)), (yh0, .inl (cR, 4, .inr (.inr (.inr (.inr gh0))))), (y1, .inr (5, [.int 4, .int 4, .ref yw1, .ref yv1, .ref yh1, .int nb1])), (yw1, .inl (cI, 4, .inl gw1)), (yv1, .inl (cI, 4, .inl gv1)), (yh1, .inl (cR, 4, .inr (.inr (.inr (.inr gh1))))), (tg, .inr (5, [.int 4, .int 4, .ref e1, .ref e2, .ref e3, .int e4]))] := hD
  refine lv_aload_n hx hb dX1_depthIf_0 rfl (lv_at hl 0 rfl) ?_
  refine lv_aload_n hx hb dX1_depthIf_1 rfl (lv_at hl 1 rfl) ?_
  refine lv_acmp_ne (rx := (some y1)) (ry := (some tg)) (tgt := 7) hx hb dX1_depthIf_2 (by decide) (fun c9 => ?_) (fun c9 => ?_)
  rotate_left
  · exact absurd c9 (fun h9 => absurd (hD.1 4 8 _ _ rfl rfl (Option.some.inj h9)) (by decide))
  refine lv_iconst (v := 1) hx hb dX1_depthIf_7 (by decide) ?_
  refine lv_istore (lv' := [(4, .int 1), (0, .ref y1), (1, .ref tg), (2, .int dd), (3, .int 4)]) hx hb dX1_depthIf_8 hl (by decide) rfl (fun ls hl => ?_)
  refine lv_iconst (v := 0) hx hb dX1_depthIf_10 (by decide) ?_
  refine lv_istore (lv' := [(5, .int 0), (4, .int 1), (0, .ref y1), (1, .ref tg), (2, .int dd), (3, .int 4)]) hx hb dX1_depthIf_11 hl (by decide) rfl (fun ls hl => ?_)
  refine lv_iload_n hx hb dX1_depthIf_13 rfl (lv_at hl 5 rfl) ?_
  refine lv_iconst (v := 1) hx hb dX1_depthIf_14 (by decide) ?_
  refine lv_icmp_le (tgt := 66) hx hb dX1_depthIf_15 (by decide) (fun c9 => ?_) (fun c9 => ?_)
  · exact absurd c9 (by decide)
  refine lv_iload hx hb dX1_depthIf_18 (lv_at hl 0 rfl) ?_
  refine lv_aload_n hx hb dX1_depthIf_20 rfl (lv_at hl 2 rfl) ?_
  refine va_getN (D := (dC, dI)) (ci := 5) (v := .int 4) (C := RX0) (T := TX0) (N := 6) hx hb hts hi_X1_depthIf_X0 hown hK hP 4 rfl rfl 1 (by decide) (zn3 hZ) (fun _ h9 => h9) rfl dX1_depthIf_21 ?_
  refine lv_icmp_ge (tgt := 66) hx hb dX1_depthIf_24 (by decide) (fun c9 => ?_) (fun c9 => ?_)
  · exact absurd c9 (by decide)
  refine lv_aload_n hx hb dX1_depthIf_27 rfl (lv_at hl 2 rfl) ?_
  refine va_getN (D := (dC, dI)) (ci := 5) (v := .ref yh1) (C := RX0) (T := TX0) (N := 6) hx hb hts hi_X1_depthIf_X0 hown hK hP 4 rfl rfl 4 (by decide) (zn2 hZ) (fun _ h9 => h9) rfl dX1_depthIf_28 ?_
  refine lv_iload hx hb dX1_depthIf_31 (lv_at hl 0 rfl) ?_
  refine va_aldq (D := (dC, dI)) (cl := vwCl) hx hb hK hP 7 2 rfl rfl (by unfold vp_in; decide) dX1_depthIf_33 ?_
  rw [show (0 : Int32).toNatClampNeg = 0 from by decide, hgh1 0 (by decide)]
  refine W.eq (g2 := F0 mY 34 ls [.ref y0]) rfl ?_
  refine lv_astore (lv' := [(6, .ref y0), (5, .int 0), (4, .int 1), (0, .ref y1), (1, .ref tg), (2, .int dd), (3, .int 4)]) hx hb dX1_depthIf_34 hl (by decide) rfl (fun ls hl => ?_)
  refine lv_aload hx hb dX1_depthIf_36 (lv_at hl 0 rfl) ?_
  refine lv_ifnull hx hb dX1_depthIf_38 ?_
  refine lv_iload hx hb dX1_depthIf_41 (lv_at hl 2 rfl) ?_
  refine lv_iconst (v := 1) hx hb dX1_depthIf_43 (by decide) ?_
  refine lv_aload hx hb dX1_depthIf_44 (lv_at hl 0 rfl) ?_
  refine lv_aload_n hx hb dX1_depthIf_46 rfl (lv_at hl 4 rfl) ?_
  refine lv_iload_n hx hb dX1_depthIf_47 rfl (lv_at hl 5 rfl) ?_
  refine lv_iload_n hx hb dX1_depthIf_48 rfl (lv_at hl 6 rfl) ?_
  refine lv_iconst (v := 1) hx hb dX1_depthIf_49 (by decide) ?_
  refine lv_isub hx hb dX1_depthIf_50 ?_
  refine lv_topi (fun v1 ev1 => ?_)
  obtain rfl : v1 = 3 := ev1.trans (by decide)
  have hPc := hP.sub (ws' := [(y0, .inr (5, [.int 4, .int 4, .ref yw0, .ref yv0, .ref yh0, .int nb0])), (yw0, .inl (cI, 4, .inl gw0)), (yv0, .inl (cI, 4, .inl gv0)), (yh0, .inl (cR, 4, .inr (.inr (.inr (.inr gh0))))), (tg, .inr (5, [.int 4, .int 4, .ref e1, .ref e2, .ref e3, .int e4]))]) [0, 1, 2, 3, 8] rfl
  have hDc := hD.sub (ws' := [(y0, .inr (5, [.int 4, .int 4, .ref yw0, .ref yv0, .ref yh0, .int nb0])), (yw0, .inl (cI, 4, .inl gw0)), (yv0, .inl (cI, 4, .inl gv0)), (yh0, .inl (cR, 4, .inr (.inr (.inr (.inr gh0))))), (tg, .inr (5, [.int 4, .int 4, .ref e1, .ref e2, .ref e3, .int e4]))]) [0, 1, 2, 3, 8] (by decide) rfl
  have hFc := va_free (wc := [(y0, .inr (5, [.int 4, .int 4, .ref yw0, .ref yv0, .ref yh0, .int nb0])), (yw0, .inl (cI, 4, .inl gw0)), (yv0, .inl (cI, 4, .inl gv0)), (yh0, .inl (cR, 4, .inr (.inr (.inr (.inr gh0))))), (tg, .inr (5, [.int 4, .int 4, .ref e1, .ref e2, .ref e3, .int e4]))]) hD hS hA [0, 1, 2, 3, 8] rfl
  have hDv := hDc.self (sz := s.heap.size)
  have hpre := zpre (xs' := []) (av := [.ref y0, .ref tg, .int dd, .int 3]) hPc hK (hDc.weaken (fun _ _ _ h => h)) hZ hS hFc (fun r hr => by cases hr)
  refine va_calli (va_runS (As := [.ref y0, .ref tg, .int dd, .int 3]) (rest := [.int 1, .int 1]) ⟨hx, hb, hml, hown, hts⟩ (k_dIc0_3 l dC dI cI cB cR cO zk y0 yw0 yv0 yh0 nb0 gw0 gv0 gh0 tg e1 e2 e3 e4 dd s.heap.size hgw0 hgh0) (va_cwS 4 hts gX1_depthIf_X1_depthIf rfl rfl rfl (by decide +kernel) ⟨Nat.le_of_ble_eq_true rfl, Nat.le_of_ble_eq_true rfl⟩) ⟨zblind, hpre⟩ rfl rfl hl.1 rfl (lv_room (Nat.le_of_ble_eq_true rfl)) dX1_depthIf_51 ⟨Nat.le_of_ble_eq_true rfl, Nat.le_of_ble_eq_true rfl⟩) hS (fun q _ h => hFc q h) hFc (fun r3 u t H2 locs ht hvm hw hB hz1 hk1 hS => ?_)
  obtain rfl : 1 = r3 := (show r3 = 1 from hw).symm
  obtain ⟨hP1, hK1, hD1, hz2⟩ := hB
  rw [ht] at hP1 hz2
  have hPD9 := va_join (wr := [(y1, .inr (5, [.int 4, .int 4, .ref yw1, .ref yv1, .ref yh1, .int nb1])), (yw1, .inl (cI, 4, .inl gw1)), (yv1, .inl (cI, 4, .inl gv1)), (yh1, .inl (cR, 4, .inr (.inr (.inr (.inr gh1)))))]) (w1 := [(y0, .inr (5, [.int 4, .int 4, .ref yw0, .ref yv0, .ref yh0, .int nb0])), (yw0, .inl (cI, 4, .inl gw0)), (yv0, .inl (cI, 4, .inl gv0)), (yh0, .inl (cR, 4, .inr (.inr (.inr (.inr gh0))))), (tg, .inr (5, [.int 4, .int 4, .ref e1, .ref e2, .ref e3, .int e4]))]) hP hD [0, 1, 2, 3, 8] [4, 5, 6, 7] rfl rfl (by decide) (by decide) hk1 hFc hP1 hD1
  clear hPc hDc hFc hDv hpre hP hD hP1 hK1 hD1
  obtain ⟨hP, hD⟩ := hPD9
  replace hz : s.heap.size + 0 ≤ H2.size := by omega
  clear hz2
  replace hP : va_P (dC, dI) vwCl [(y1, .inr (5, [.int 4, .int 4, .ref yw1, .ref yv1, .ref yh1, .int nb1])), (yw1, .inl (cI, 4, .inl gw1)), (yv1, .inl (cI, 4, .inl gv1)), (yh1, .inl (cR, 4, .inr (.inr (.inr (.inr gh1))))), (y0, .inr (5, [.int 4, .int 4, .ref yw0, .ref yv0, .ref yh0, .int nb0])), (yw0, .inl (cI, 4, .inl gw0)), (yv0, .inl (cI, 4, .inl gv0)), (yh0, .inl (cR, 4, .inr (.inr (.inr (.inr gh0))))), (tg, .inr (5, [.int 4, .int 4, .ref e1, .ref e2, .ref e3, .int e4]))] H2 := hP
  replace hD : va_D A [(y1, .inr (5, [.int 4, .int 4, .ref yw1, .ref yv1, .ref yh1, .int nb1])), (yw1, .inl (cI, 4, .inl gw1)), (yv1, .inl (cI, 4, .inl gv1)), (yh1, .inl (cR, 4, .inr (.inr (.inr (.inr gh1))))), (y0, .inr (5, [.int 4, .int 4, .ref yw0, .ref yv0, .ref yh0, .int nb0])), (yw0, .inl (cI, 4, .inl gw0)), (yv0, .inl (cI, 4, .inl gv0)), (yh0, .inl (cR, 4, .inr (.inr (.inr (.inr gh0))))), (tg, .inr (5, [.int 4, .int 4, .ref e1, .ref e2, .ref e3, .int e4]))] := hD
  refine W.widen (k := 0) (n := 0) (by omega) (by omega) ?_
  refine lv_iadd hx hb dX1_depthIf_54 ?_
  refine lv_topi (fun v4 ev4 => ?_)
  obtain rfl : v4 = 2 := ev4.trans (by decide)
  refine va_mmax (x := 1) (y := 2) hx hb (hml.trans hl.1.symm) hown (hts (.methodLink RX1 126 Lib.Math.max.name) (List.mem_cons_of_mem _ zw_728)) (hts (.static Lib.Math.max.name) (List.mem_cons_of_mem _ zw_271)) (hts (.initialized "java/lang/Math") (List.mem_cons_of_mem _ zw_58)) (hts (.code Lib.Math.max.name Lib.Math.max.code 2 (some .int)) (List.mem_cons_of_mem _ zw_272)) (Nat.le_of_ble_eq_true rfl) (Nat.le_of_ble_eq_true rfl) (Nat.le_of_ble_eq_true rfl) (Nat.le_of_ble_eq_true rfl) dX1_depthIf_55 ?_
  refine lv_topi (fun v5 ev5 => ?_)
  obtain rfl : v5 = 2 := ev5.trans (by decide)
  refine lv_istore (lv' := [(4, .int 2), (6, .ref y0), (5, .int 0), (0, .ref y1), (1, .ref tg), (2, .int dd), (3, .int 4)]) hx hb dX1_depthIf_58 hl (by decide) rfl (fun ls hl => ?_)
  refine lv_iinc (v := 1) (lv' := [(5, .int 1), (4, .int 2), (6, .ref y0), (0, .ref y1), (1, .ref tg), (2, .int dd), (3, .int 4)]) hx hb dX1_depthIf_60 hl (k := 2) rfl (by decide) (by decide) rfl (fun ls hl => ?_)
  refine lv_goto (tgt := 13) hx hb dX1_depthIf_63 (by decide) ?_
  refine lv_iload_n hx hb dX1_depthIf_13 rfl (lv_at hl 6 rfl) ?_
  refine lv_iconst (v := 1) hx hb dX1_depthIf_14 (by decide) ?_
  refine lv_icmp_le (tgt := 66) hx hb dX1_depthIf_15 (by decide) (fun c9 => ?_) (fun c9 => ?_)
  · exact absurd c9 (by decide)
  refine lv_iload hx hb dX1_depthIf_18 (lv_at hl 0 rfl) ?_
  refine lv_aload_n hx hb dX1_depthIf_20 rfl (lv_at hl 3 rfl) ?_
  refine va_getN (D := (dC, dI)) (ci := 5) (v := .int 4) (C := RX0) (T := TX0) (N := 6) hx hb hts hi_X1_depthIf_X0 hown hK hP 0 rfl rfl 1 (by decide) (zn3 hZ) (fun _ h9 => h9) rfl dX1_depthIf_21 ?_
  refine lv_icmp_ge (tgt := 66) hx hb dX1_depthIf_24 (by decide) (fun c9 => ?_) (fun c9 => ?_)
  · exact absurd c9 (by decide)
  refine lv_aload_n hx hb dX1_depthIf_27 rfl (lv_at hl 3 rfl) ?_
  refine va_getN (D := (dC, dI)) (ci := 5) (v := .ref yh1) (C := RX0) (T := TX0) (N := 6) hx hb hts hi_X1_depthIf_X0 hown hK hP 0 rfl rfl 4 (by decide) (zn2 hZ) (fun _ h9 => h9) rfl dX1_depthIf_28 ?_
  refine lv_iload hx hb dX1_depthIf_31 (lv_at hl 0 rfl) ?_
  refine va_aldq (D := (dC, dI)) (cl := vwCl) hx hb hK hP 3 2 rfl rfl (by unfold vp_in; decide) dX1_depthIf_33 ?_
  rw [show (1 : Int32).toNatClampNeg = 1 from by decide, hgh1 1 (by decide)]
  refine W.eq (g2 := F0 mY 34 ls [.ref y0]) rfl ?_
  refine lv_astore (lv' := [(6, .ref y0), (5, .int 1), (4, .int 2), (0, .ref y1), (1, .ref tg), (2, .int dd), (3, .int 4)]) hx hb dX1_depthIf_34 hl (by decide) rfl (fun ls hl => ?_)
  refine lv_aload hx hb dX1_depthIf_36 (lv_at hl 0 rfl) ?_
  refine lv_ifnull hx hb dX1_depthIf_38 ?_
  refine lv_iload hx hb dX1_depthIf_41 (lv_at hl 2 rfl) ?_
  refine lv_iconst (v := 1) hx hb dX1_depthIf_43 (by decide) ?_
  refine lv_aload hx hb dX1_depthIf_44 (lv_at hl 0 rfl) ?_
  refine lv_aload_n hx hb dX1_depthIf_46 rfl (lv_at hl 4 rfl) ?_
  refine lv_iload_n hx hb dX1_depthIf_47 rfl (lv_at hl 5 rfl) ?_
  refine lv_iload_n hx hb dX1_depthIf_48 rfl (lv_at hl 6 rfl) ?_
  refine lv_iconst (v := 1) hx hb dX1_depthIf_49 (by decide) ?_
  refine lv_isub hx hb dX1_depthIf_50 ?_
  refine lv_topi (fun v6 ev6 => ?_)
  obtain rfl : v6 = 3 := ev6.trans (by decide)
  have hPc := hP.sub (ws' := [(y0, .inr (5, [.int 4, .int 4, .ref yw0, .ref yv0, .ref yh0, .int nb0])), (yw0, .inl (cI, 4, .inl gw0)), (yv0, .inl (cI, 4, .inl gv0)), (yh0, .inl (cR, 4, .inr (.inr (.inr (.inr gh0))))), (tg, .inr (5, [.int 4, .int 4, .ref e1, .ref e2, .ref e3, .int e4]))]) [4, 5, 6, 7, 8] rfl
  have hDc := hD.sub (ws' := [(y0, .inr (5, [.int 4, .int 4, .ref yw0, .ref yv0, .ref yh0, .int nb0])), (yw0, .inl (cI, 4, .inl gw0)), (yv0, .inl (cI, 4, .inl gv0)), (yh0, .inl (cR, 4, .inr (.inr (.inr (.inr gh0))))), (tg, .inr (5, [.int 4, .int 4, .ref e1, .ref e2, .ref e3, .int e4]))]) [4, 5, 6, 7, 8] (by decide) rfl
  have hFc := va_free (wc := [(y0, .inr (5, [.int 4, .int 4, .ref yw0, .ref yv0, .ref yh0, .int nb0])), (yw0, .inl (cI, 4, .inl gw0)), (yv0, .inl (cI, 4, .inl gv0)), (yh0, .inl (cR, 4, .inr (.inr (.inr (.inr gh0))))), (tg, .inr (5, [.int 4, .int 4, .ref e1, .ref e2, .ref e3, .int e4]))]) hD hS hA [4, 5, 6, 7, 8] rfl
  have hDv := hDc.self (sz := H2.size)
  have hpre := zpre (xs' := []) (av := [.ref y0, .ref tg, .int dd, .int 3]) hPc hK (hDc.weaken (fun _ _ _ h => h)) hZ hS hFc (fun r hr => by cases hr)
  refine va_calli (va_runS (As := [.ref y0, .ref tg, .int dd, .int 3]) (rest := [.int 1, .int 2]) ⟨hx, hb, hml, hown, hts⟩ (k_dIc0_3 l dC dI cI cB cR cO zk y0 yw0 yv0 yh0 nb0 gw0 gv0 gh0 tg e1 e2 e3 e4 dd H2.size hgw0 hgh0) (va_cwS 4 hts gX1_depthIf_X1_depthIf rfl rfl rfl (by decide +kernel) ⟨Nat.le_of_ble_eq_true rfl, Nat.le_of_ble_eq_true rfl⟩) ⟨zblind, hpre⟩ rfl rfl hl.1 rfl (lv_room (Nat.le_of_ble_eq_true rfl)) dX1_depthIf_51 ⟨Nat.le_of_ble_eq_true rfl, Nat.le_of_ble_eq_true rfl⟩) hS (fun q _ h => hFc q h) hFc (fun r8 u t H7 locs ht hvm hw hB hz1 hk1 hS => ?_)
  obtain rfl : 1 = r8 := (show r8 = 1 from hw).symm
  obtain ⟨hP1, hK1, hD1, hz2⟩ := hB
  rw [ht] at hP1 hz2
  have hPD9 := va_join (wr := [(y1, .inr (5, [.int 4, .int 4, .ref yw1, .ref yv1, .ref yh1, .int nb1])), (yw1, .inl (cI, 4, .inl gw1)), (yv1, .inl (cI, 4, .inl gv1)), (yh1, .inl (cR, 4, .inr (.inr (.inr (.inr gh1)))))]) (w1 := [(y0, .inr (5, [.int 4, .int 4, .ref yw0, .ref yv0, .ref yh0, .int nb0])), (yw0, .inl (cI, 4, .inl gw0)), (yv0, .inl (cI, 4, .inl gv0)), (yh0, .inl (cR, 4, .inr (.inr (.inr (.inr gh0))))), (tg, .inr (5, [.int 4, .int 4, .ref e1, .ref e2, .ref e3, .int e4]))]) hP hD [4, 5, 6, 7, 8] [0, 1, 2, 3] rfl rfl (by decide) (by decide) hk1 hFc hP1 hD1
  clear hPc hDc hFc hDv hpre hP hD hP1 hK1 hD1
  obtain ⟨hP, hD⟩ := hPD9
  replace hz : s.heap.size + 0 ≤ H7.size := by omega
  clear hz2
  replace hP : va_P (dC, dI) vwCl [(y1, .inr (5, [.int 4, .int 4, .ref yw1, .ref yv1, .ref yh1, .int nb1])), (yw1, .inl (cI, 4, .inl gw1)), (yv1, .inl (cI, 4, .inl gv1)), (yh1, .inl (cR, 4, .inr (.inr (.inr (.inr gh1))))), (y0, .inr (5, [.int 4, .int 4, .ref yw0, .ref yv0, .ref yh0, .int nb0])), (yw0, .inl (cI, 4, .inl gw0)), (yv0, .inl (cI, 4, .inl gv0)), (yh0, .inl (cR, 4, .inr (.inr (.inr (.inr gh0))))), (tg, .inr (5, [.int 4, .int 4, .ref e1, .ref e2, .ref e3, .int e4]))] H7 := hP
  replace hD : va_D A [(y1, .inr (5, [.int 4, .int 4, .ref yw1, .ref yv1, .ref yh1, .int nb1])), (yw1, .inl (cI, 4, .inl gw1)), (yv1, .inl (cI, 4, .inl gv1)), (yh1, .inl (cR, 4, .inr (.inr (.inr (.inr gh1))))), (y0, .inr (5, [.int 4, .int 4, .ref yw0, .ref yv0, .ref yh0, .int nb0])), (yw0, .inl (cI, 4, .inl gw0)), (yv0, .inl (cI, 4, .inl gv0)), (yh0, .inl (cR, 4, .inr (.inr (.inr (.inr gh0))))), (tg, .inr (5, [.int 4, .int 4, .ref e1, .ref e2, .ref e3, .int e4]))] := hD
  refine W.widen (k := 0) (n := 0) (by omega) (by omega) ?_
  refine lv_iadd hx hb dX1_depthIf_54 ?_
  refine lv_topi (fun v9 ev9 => ?_)
  obtain rfl : v9 = 2 := ev9.trans (by decide)
  refine va_mmax (x := 2) (y := 2) hx hb (hml.trans hl.1.symm) hown (hts (.methodLink RX1 126 Lib.Math.max.name) (List.mem_cons_of_mem _ zw_728)) (hts (.static Lib.Math.max.name) (List.mem_cons_of_mem _ zw_271)) (hts (.initialized "java/lang/Math") (List.mem_cons_of_mem _ zw_58)) (hts (.code Lib.Math.max.name Lib.Math.max.code 2 (some .int)) (List.mem_cons_of_mem _ zw_272)) (Nat.le_of_ble_eq_true rfl) (Nat.le_of_ble_eq_true rfl) (Nat.le_of_ble_eq_true rfl) (Nat.le_of_ble_eq_true rfl) dX1_depthIf_55 ?_
  refine lv_topi (fun v10 ev10 => ?_)
  obtain rfl : v10 = 2 := ev10.trans (by decide)
  refine lv_istore (lv' := [(4, .int 2), (6, .ref y0), (5, .int 1), (0, .ref y1), (1, .ref tg), (2, .int dd), (3, .int 4)]) hx hb dX1_depthIf_58 hl (by decide) rfl (fun ls hl => ?_)
  refine lv_iinc (v := 2) (lv' := [(5, .int 2), (4, .int 2), (6, .ref y0), (0, .ref y1), (1, .ref tg), (2, .int dd), (3, .int 4)]) hx hb dX1_depthIf_60 hl (k := 2) rfl (by decide) (by decide) rfl (fun ls hl => ?_)
  refine lv_goto (tgt := 13) hx hb dX1_depthIf_63 (by decide) ?_
  refine lv_iload_n hx hb dX1_depthIf_13 rfl (lv_at hl 6 rfl) ?_
  refine lv_iconst (v := 1) hx hb dX1_depthIf_14 (by decide) ?_
  refine lv_icmp_le (tgt := 66) hx hb dX1_depthIf_15 (by decide) (fun c9 => ?_) (fun c9 => ?_)
  · exact absurd c9 (by decide)
  refine lv_iload hx hb dX1_depthIf_18 (lv_at hl 0 rfl) ?_
  refine lv_aload_n hx hb dX1_depthIf_20 rfl (lv_at hl 3 rfl) ?_
  refine va_getN (D := (dC, dI)) (ci := 5) (v := .int 4) (C := RX0) (T := TX0) (N := 6) hx hb hts hi_X1_depthIf_X0 hown hK hP 0 rfl rfl 1 (by decide) (zn3 hZ) (fun _ h9 => h9) rfl dX1_depthIf_21 ?_
  refine lv_icmp_ge (tgt := 66) hx hb dX1_depthIf_24 (by decide) (fun c9 => ?_) (fun c9 => ?_)
  · exact absurd c9 (by decide)
  refine lv_aload_n hx hb dX1_depthIf_27 rfl (lv_at hl 3 rfl) ?_
  refine va_getN (D := (dC, dI)) (ci := 5) (v := .ref yh1) (C := RX0) (T := TX0) (N := 6) hx hb hts hi_X1_depthIf_X0 hown hK hP 0 rfl rfl 4 (by decide) (zn2 hZ) (fun _ h9 => h9) rfl dX1_depthIf_28 ?_
  refine lv_iload hx hb dX1_depthIf_31 (lv_at hl 0 rfl) ?_
  refine va_aldq (D := (dC, dI)) (cl := vwCl) hx hb hK hP 3 2 rfl rfl (by unfold vp_in; decide) dX1_depthIf_33 ?_
  rw [show (2 : Int32).toNatClampNeg = 2 from by decide, hgh1 2 (by decide)]
  refine W.eq (g2 := F0 mY 34 ls [.ref y0]) rfl ?_
  refine lv_astore (lv' := [(6, .ref y0), (5, .int 2), (4, .int 2), (0, .ref y1), (1, .ref tg), (2, .int dd), (3, .int 4)]) hx hb dX1_depthIf_34 hl (by decide) rfl (fun ls hl => ?_)
  refine lv_aload hx hb dX1_depthIf_36 (lv_at hl 0 rfl) ?_
  refine lv_ifnull hx hb dX1_depthIf_38 ?_
  refine lv_iload hx hb dX1_depthIf_41 (lv_at hl 2 rfl) ?_
  refine lv_iconst (v := 1) hx hb dX1_depthIf_43 (by decide) ?_
  refine lv_aload hx hb dX1_depthIf_44 (lv_at hl 0 rfl) ?_
  refine lv_aload_n hx hb dX1_depthIf_46 rfl (lv_at hl 4 rfl) ?_
  refine lv_iload_n hx hb dX1_depthIf_47 rfl (lv_at hl 5 rfl) ?_
  refine lv_iload_n hx hb dX1_depthIf_48 rfl (lv_at hl 6 rfl) ?_
  refine lv_iconst (v := 1) hx hb dX1_depthIf_49 (by decide) ?_
  refine lv_isub hx hb dX1_depthIf_50 ?_
  refine lv_topi (fun v11 ev11 => ?_)
  obtain rfl : v11 = 3 := ev11.trans (by decide)
  have hPc := hP.sub (ws' := [(y0, .inr (5, [.int 4, .int 4, .ref yw0, .ref yv0, .ref yh0, .int nb0])), (yw0, .inl (cI, 4, .inl gw0)), (yv0, .inl (cI, 4, .inl gv0)), (yh0, .inl (cR, 4, .inr (.inr (.inr (.inr gh0))))), (tg, .inr (5, [.int 4, .int 4, .ref e1, .ref e2, .ref e3, .int e4]))]) [4, 5, 6, 7, 8] rfl
  have hDc := hD.sub (ws' := [(y0, .inr (5, [.int 4, .int 4, .ref yw0, .ref yv0, .ref yh0, .int nb0])), (yw0, .inl (cI, 4, .inl gw0)), (yv0, .inl (cI, 4, .inl gv0)), (yh0, .inl (cR, 4, .inr (.inr (.inr (.inr gh0))))), (tg, .inr (5, [.int 4, .int 4, .ref e1, .ref e2, .ref e3, .int e4]))]) [4, 5, 6, 7, 8] (by decide) rfl
  have hFc := va_free (wc := [(y0, .inr (5, [.int 4, .int 4, .ref yw0, .ref yv0, .ref yh0, .int nb0])), (yw0, .inl (cI, 4, .inl gw0)), (yv0, .inl (cI, 4, .inl gv0)), (yh0, .inl (cR, 4, .inr (.inr (.inr (.inr gh0))))), (tg, .inr (5, [.int 4, .int 4, .ref e1, .ref e2, .ref e3, .int e4]))]) hD hS hA [4, 5, 6, 7, 8] rfl
  have hDv := hDc.self (sz := H7.size)
  have hpre := zpre (xs' := []) (av := [.ref y0, .ref tg, .int dd, .int 3]) hPc hK (hDc.weaken (fun _ _ _ h => h)) hZ hS hFc (fun r hr => by cases hr)
  refine va_calli (va_runS (As := [.ref y0, .ref tg, .int dd, .int 3]) (rest := [.int 1, .int 2]) ⟨hx, hb, hml, hown, hts⟩ (k_dIc0_3 l dC dI cI cB cR cO zk y0 yw0 yv0 yh0 nb0 gw0 gv0 gh0 tg e1 e2 e3 e4 dd H7.size hgw0 hgh0) (va_cwS 4 hts gX1_depthIf_X1_depthIf rfl rfl rfl (by decide +kernel) ⟨Nat.le_of_ble_eq_true rfl, Nat.le_of_ble_eq_true rfl⟩) ⟨zblind, hpre⟩ rfl rfl hl.1 rfl (lv_room (Nat.le_of_ble_eq_true rfl)) dX1_depthIf_51 ⟨Nat.le_of_ble_eq_true rfl, Nat.le_of_ble_eq_true rfl⟩) hS (fun q _ h => hFc q h) hFc (fun r13 u t H12 locs ht hvm hw hB hz1 hk1 hS => ?_)
  obtain rfl : 1 = r13 := (show r13 = 1 from hw).symm
  obtain ⟨hP1, hK1, hD1, hz2⟩ := hB
  rw [ht] at hP1 hz2
  have hPD9 := va_join (wr := [(y1, .inr (5, [.int 4, .int 4, .ref yw1, .ref yv1, .ref yh1, .int nb1])), (yw1, .inl (cI, 4, .inl gw1)), (yv1, .inl (cI, 4, .inl gv1)), (yh1, .inl (cR, 4, .inr (.inr (.inr (.inr gh1)))))]) (w1 := [(y0, .inr (5, [.int 4, .int 4, .ref yw0, .ref yv0, .ref yh0, .int nb0])), (yw0, .inl (cI, 4, .inl gw0)), (yv0, .inl (cI, 4, .inl gv0)), (yh0, .inl (cR, 4, .inr (.inr (.inr (.inr gh0))))), (tg, .inr (5, [.int 4, .int 4, .ref e1, .ref e2, .ref e3, .int e4]))]) hP hD [4, 5, 6, 7, 8] [0, 1, 2, 3] rfl rfl (by decide) (by decide) hk1 hFc hP1 hD1
  clear hPc hDc hFc hDv hpre hP hD hP1 hK1 hD1
  obtain ⟨hP, hD⟩ := hPD9
  replace hz : s.heap.size + 0 ≤ H12.size := by omega
  clear hz2
  replace hP : va_P (dC, dI) vwCl [(y1, .inr (5, [.int 4, .int 4, .ref yw1, .ref yv1, .ref yh1, .int nb1])), (yw1, .inl (cI, 4, .inl gw1)), (yv1, .inl (cI, 4, .inl gv1)), (yh1, .inl (cR, 4, .inr (.inr (.inr (.inr gh1))))), (y0, .inr (5, [.int 4, .int 4, .ref yw0, .ref yv0, .ref yh0, .int nb0])), (yw0, .inl (cI, 4, .inl gw0)), (yv0, .inl (cI, 4, .inl gv0)), (yh0, .inl (cR, 4, .inr (.inr (.inr (.inr gh0))))), (tg, .inr (5, [.int 4, .int 4, .ref e1, .ref e2, .ref e3, .int e4]))] H12 := hP
  replace hD : va_D A [(y1, .inr (5, [.int 4, .int 4, .ref yw1, .ref yv1, .ref yh1, .int nb1])), (yw1, .inl (cI, 4, .inl gw1)), (yv1, .inl (cI, 4, .inl gv1)), (yh1, .inl (cR, 4, .inr (.inr (.inr (.inr gh1))))), (y0, .inr (5, [.int 4, .int 4, .ref yw0, .ref yv0, .ref yh0, .int nb0])), (yw0, .inl (cI, 4, .inl gw0)), (yv0, .inl (cI, 4, .inl gv0)), (yh0, .inl (cR, 4, .inr (.inr (.inr (.inr gh0))))), (tg, .inr (5, [.int 4, .int 4, .ref e1, .ref e2, .ref e3, .int e4]))] := hD
  refine W.widen (k := 0) (n := 0) (by omega) (by omega) ?_
  refine lv_iadd hx hb dX1_depthIf_54 ?_
  refine lv_topi (fun v14 ev14 => ?_)
  obtain rfl : v14 = 2 := ev14.trans (by decide)
  refine va_mmax (x := 2) (y := 2) hx hb (hml.trans hl.1.symm) hown (hts (.methodLink RX1 126 Lib.Math.max.name) (List.mem_cons_of_mem _ zw_728)) (hts (.static Lib.Math.max.name) (List.mem_cons_of_mem _ zw_271)) (hts (.initialized "java/lang/Math") (List.mem_cons_of_mem _ zw_58)) (hts (.code Lib.Math.max.name Lib.Math.max.code 2 (some .int)) (List.mem_cons_of_mem _ zw_272)) (Nat.le_of_ble_eq_true rfl) (Nat.le_of_ble_eq_true rfl) (Nat.le_of_ble_eq_true rfl) (Nat.le_of_ble_eq_true rfl) dX1_depthIf_55 ?_
  refine lv_topi (fun v15 ev15 => ?_)
  obtain rfl : v15 = 2 := ev15.trans (by decide)
  refine lv_istore (lv' := [(4, .int 2), (6, .ref y0), (5, .int 2), (0, .ref y1), (1, .ref tg), (2, .int dd), (3, .int 4)]) hx hb dX1_depthIf_58 hl (by decide) rfl (fun ls hl => ?_)
  refine lv_iinc (v := 3) (lv' := [(5, .int 3), (4, .int 2), (6, .ref y0), (0, .ref y1), (1, .ref tg), (2, .int dd), (3, .int 4)]) hx hb dX1_depthIf_60 hl (k := 2) rfl (by decide) (by decide) rfl (fun ls hl => ?_)
  refine lv_goto (tgt := 13) hx hb dX1_depthIf_63 (by decide) ?_
  refine lv_iload_n hx hb dX1_depthIf_13 rfl (lv_at hl 6 rfl) ?_
  refine lv_iconst (v := 1) hx hb dX1_depthIf_14 (by decide) ?_
  refine lv_icmp_le (tgt := 66) hx hb dX1_depthIf_15 (by decide) (fun c9 => ?_) (fun c9 => ?_)
  · exact absurd c9 (by decide)
  refine lv_iload hx hb dX1_depthIf_18 (lv_at hl 0 rfl) ?_
  refine lv_aload_n hx hb dX1_depthIf_20 rfl (lv_at hl 3 rfl) ?_
  refine va_getN (D := (dC, dI)) (ci := 5) (v := .int 4) (C := RX0) (T := TX0) (N := 6) hx hb hts hi_X1_depthIf_X0 hown hK hP 0 rfl rfl 1 (by decide) (zn3 hZ) (fun _ h9 => h9) rfl dX1_depthIf_21 ?_
  refine lv_icmp_ge (tgt := 66) hx hb dX1_depthIf_24 (by decide) (fun c9 => ?_) (fun c9 => ?_)
  · exact absurd c9 (by decide)
  refine lv_aload_n hx hb dX1_depthIf_27 rfl (lv_at hl 3 rfl) ?_
  refine va_getN (D := (dC, dI)) (ci := 5) (v := .ref yh1) (C := RX0) (T := TX0) (N := 6) hx hb hts hi_X1_depthIf_X0 hown hK hP 0 rfl rfl 4 (by decide) (zn2 hZ) (fun _ h9 => h9) rfl dX1_depthIf_28 ?_
  refine lv_iload hx hb dX1_depthIf_31 (lv_at hl 0 rfl) ?_
  refine va_aldq (D := (dC, dI)) (cl := vwCl) hx hb hK hP 3 2 rfl rfl (by unfold vp_in; decide) dX1_depthIf_33 ?_
  rw [show (3 : Int32).toNatClampNeg = 3 from by decide, hgh1 3 (by decide)]
  refine W.eq (g2 := F0 mY 34 ls [.ref y0]) rfl ?_
  refine lv_astore (lv' := [(6, .ref y0), (5, .int 3), (4, .int 2), (0, .ref y1), (1, .ref tg), (2, .int dd), (3, .int 4)]) hx hb dX1_depthIf_34 hl (by decide) rfl (fun ls hl => ?_)
  refine lv_aload hx hb dX1_depthIf_36 (lv_at hl 0 rfl) ?_
  refine lv_ifnull hx hb dX1_depthIf_38 ?_
  refine lv_iload hx hb dX1_depthIf_41 (lv_at hl 2 rfl) ?_
  refine lv_iconst (v := 1) hx hb dX1_depthIf_43 (by decide) ?_
  refine lv_aload hx hb dX1_depthIf_44 (lv_at hl 0 rfl) ?_
  refine lv_aload_n hx hb dX1_depthIf_46 rfl (lv_at hl 4 rfl) ?_
  refine lv_iload_n hx hb dX1_depthIf_47 rfl (lv_at hl 5 rfl) ?_
  refine lv_iload_n hx hb dX1_depthIf_48 rfl (lv_at hl 6 rfl) ?_
  refine lv_iconst (v := 1) hx hb dX1_depthIf_49 (by decide) ?_
  refine lv_isub hx hb dX1_depthIf_50 ?_
  refine lv_topi (fun v16 ev16 => ?_)
  obtain rfl : v16 = 3 := ev16.trans (by decide)
  have hPc := hP.sub (ws' := [(y0, .inr (5, [.int 4, .int 4, .ref yw0, .ref yv0, .ref yh0, .int nb0])), (yw0, .inl (cI, 4, .inl gw0)), (yv0, .inl (cI, 4, .inl gv0)), (yh0, .inl (cR, 4, .inr (.inr (.inr (.inr gh0))))), (tg, .inr (5, [.int 4, .int 4, .ref e1, .ref e2, .ref e3, .int e4]))]) [4, 5, 6, 7, 8] rfl
  have hDc := hD.sub (ws' := [(y0, .inr (5, [.int 4, .int 4, .ref yw0, .ref yv0, .ref yh0, .int nb0])), (yw0, .inl (cI, 4, .inl gw0)), (yv0, .inl (cI, 4, .inl gv0)), (yh0, .inl (cR, 4, .inr (.inr (.inr (.inr gh0))))), (tg, .inr (5, [.int 4, .int 4, .ref e1, .ref e2, .ref e3, .int e4]))]) [4, 5, 6, 7, 8] (by decide) rfl
  have hFc := va_free (wc := [(y0, .inr (5, [.int 4, .int 4, .ref yw0, .ref yv0, .ref yh0, .int nb0])), (yw0, .inl (cI, 4, .inl gw0)), (yv0, .inl (cI, 4, .inl gv0)), (yh0, .inl (cR, 4, .inr (.inr (.inr (.inr gh0))))), (tg, .inr (5, [.int 4, .int 4, .ref e1, .ref e2, .ref e3, .int e4]))]) hD hS hA [4, 5, 6, 7, 8] rfl
  have hDv := hDc.self (sz := H12.size)
  have hpre := zpre (xs' := []) (av := [.ref y0, .ref tg, .int dd, .int 3]) hPc hK (hDc.weaken (fun _ _ _ h => h)) hZ hS hFc (fun r hr => by cases hr)
  refine va_calli (va_runS (As := [.ref y0, .ref tg, .int dd, .int 3]) (rest := [.int 1, .int 2]) ⟨hx, hb, hml, hown, hts⟩ (k_dIc0_3 l dC dI cI cB cR cO zk y0 yw0 yv0 yh0 nb0 gw0 gv0 gh0 tg e1 e2 e3 e4 dd H12.size hgw0 hgh0) (va_cwS 4 hts gX1_depthIf_X1_depthIf rfl rfl rfl (by decide +kernel) ⟨Nat.le_of_ble_eq_true rfl, Nat.le_of_ble_eq_true rfl⟩) ⟨zblind, hpre⟩ rfl rfl hl.1 rfl (lv_room (Nat.le_of_ble_eq_true rfl)) dX1_depthIf_51 ⟨Nat.le_of_ble_eq_true rfl, Nat.le_of_ble_eq_true rfl⟩) hS (fun q _ h => hFc q h) hFc (fun r18 u t H17 locs ht hvm hw hB hz1 hk1 hS => ?_)
  obtain rfl : 1 = r18 := (show r18 = 1 from hw).symm
  obtain ⟨hP1, hK1, hD1, hz2⟩ := hB
  rw [ht] at hP1 hz2
  have hPD9 := va_join (wr := [(y1, .inr (5, [.int 4, .int 4, .ref yw1, .ref yv1, .ref yh1, .int nb1])), (yw1, .inl (cI, 4, .inl gw1)), (yv1, .inl (cI, 4, .inl gv1)), (yh1, .inl (cR, 4, .inr (.inr (.inr (.inr gh1)))))]) (w1 := [(y0, .inr (5, [.int 4, .int 4, .ref yw0, .ref yv0, .ref yh0, .int nb0])), (yw0, .inl (cI, 4, .inl gw0)), (yv0, .inl (cI, 4, .inl gv0)), (yh0, .inl (cR, 4, .inr (.inr (.inr (.inr gh0))))), (tg, .inr (5, [.int 4, .int 4, .ref e1, .ref e2, .ref e3, .int e4]))]) hP hD [4, 5, 6, 7, 8] [0, 1, 2, 3] rfl rfl (by decide) (by decide) hk1 hFc hP1 hD1
  clear hPc hDc hFc hDv hpre hP hD hP1 hK1 hD1
  obtain ⟨hP, hD⟩ := hPD9
  replace hz : s.heap.size + 0 ≤ H17.size := by omega
  clear hz2
  replace hP : va_P (dC, dI) vwCl [(y1, .inr (5, [.int 4, .int 4, .ref yw1, .ref yv1, .ref yh1, .int nb1])), (yw1, .inl (cI, 4, .inl gw1)), (yv1, .inl (cI, 4, .inl gv1)), (yh1, .inl (cR, 4, .inr (.inr (.inr (.inr gh1))))), (y0, .inr (5, [.int 4, .int 4, .ref yw0, .ref yv0, .ref yh0, .int nb0])), (yw0, .inl (cI, 4, .inl gw0)), (yv0, .inl (cI, 4, .inl gv0)), (yh0, .inl (cR, 4, .inr (.inr (.inr (.inr gh0))))), (tg, .inr (5, [.int 4, .int 4, .ref e1, .ref e2, .ref e3, .int e4]))] H17 := hP
  replace hD : va_D A [(y1, .inr (5, [.int 4, .int 4, .ref yw1, .ref yv1, .ref yh1, .int nb1])), (yw1, .inl (cI, 4, .inl gw1)), (yv1, .inl (cI, 4, .inl gv1)), (yh1, .inl (cR, 4, .inr (.inr (.inr (.inr gh1))))), (y0, .inr (5, [.int 4, .int 4, .ref yw0, .ref yv0, .ref yh0, .int nb0])), (yw0, .inl (cI, 4, .inl gw0)), (yv0, .inl (cI, 4, .inl gv0)), (yh0, .inl (cR, 4, .inr (.inr (.inr (.inr gh0))))), (tg, .inr (5, [.int 4, .int 4, .ref e1, .ref e2, .ref e3, .int e4]))] := hD
  refine W.widen (k := 0) (n := 0) (by omega) (by omega) ?_
  refine lv_iadd hx hb dX1_depthIf_54 ?_
  refine lv_topi (fun v19 ev19 => ?_)
  obtain rfl : v19 = 2 := ev19.trans (by decide)
  refine va_mmax (x := 2) (y := 2) hx hb (hml.trans hl.1.symm) hown (hts (.methodLink RX1 126 Lib.Math.max.name) (List.mem_cons_of_mem _ zw_728)) (hts (.static Lib.Math.max.name) (List.mem_cons_of_mem _ zw_271)) (hts (.initialized "java/lang/Math") (List.mem_cons_of_mem _ zw_58)) (hts (.code Lib.Math.max.name Lib.Math.max.code 2 (some .int)) (List.mem_cons_of_mem _ zw_272)) (Nat.le_of_ble_eq_true rfl) (Nat.le_of_ble_eq_true rfl) (Nat.le_of_ble_eq_true rfl) (Nat.le_of_ble_eq_true rfl) dX1_depthIf_55 ?_
  refine lv_topi (fun v20 ev20 => ?_)
  obtain rfl : v20 = 2 := ev20.trans (by decide)
  refine lv_istore (lv' := [(4, .int 2), (6, .ref y0), (5, .int 3), (0, .ref y1), (1, .ref tg), (2, .int dd), (3, .int 4)]) hx hb dX1_depthIf_58 hl (by decide) rfl (fun ls hl => ?_)
  refine lv_iinc (v := 4) (lv' := [(5, .int 4), (4, .int 2), (6, .ref y0), (0, .ref y1), (1, .ref tg), (2, .int dd), (3, .int 4)]) hx hb dX1_depthIf_60 hl (k := 2) rfl (by decide) (by decide) rfl (fun ls hl => ?_)
  refine lv_goto (tgt := 13) hx hb dX1_depthIf_63 (by decide) ?_
  refine lv_iload_n hx hb dX1_depthIf_13 rfl (lv_at hl 6 rfl) ?_
  refine lv_iconst (v := 1) hx hb dX1_depthIf_14 (by decide) ?_
  refine lv_icmp_le (tgt := 66) hx hb dX1_depthIf_15 (by decide) (fun c9 => ?_) (fun c9 => ?_)
  · exact absurd c9 (by decide)
  refine lv_iload hx hb dX1_depthIf_18 (lv_at hl 0 rfl) ?_
  refine lv_aload_n hx hb dX1_depthIf_20 rfl (lv_at hl 3 rfl) ?_
  refine va_getN (D := (dC, dI)) (ci := 5) (v := .int 4) (C := RX0) (T := TX0) (N := 6) hx hb hts hi_X1_depthIf_X0 hown hK hP 0 rfl rfl 1 (by decide) (zn3 hZ) (fun _ h9 => h9) rfl dX1_depthIf_21 ?_
  refine lv_icmp_ge (tgt := 66) hx hb dX1_depthIf_24 (by decide) (fun c9 => ?_) (fun c9 => ?_)
  rotate_left
  · exact absurd (by decide) c9
  refine lv_iload hx hb dX1_depthIf_66 (lv_at hl 1 rfl) ?_
  have hP9 := hP.sub (ws' := [(y0, .inr (5, [.int 4, .int 4, .ref yw0, .ref yv0, .ref yh0, .int nb0])), (yw0, .inl (cI, 4, .inl gw0)), (yv0, .inl (cI, 4, .inl gv0)), (yh0, .inl (cR, 4, .inr (.inr (.inr (.inr gh0))))), (y1, .inr (5, [.int 4, .int 4, .ref yw1, .ref yv1, .ref yh1, .int nb1])), (yw1, .inl (cI, 4, .inl gw1)), (yv1, .inl (cI, 4, .inl gv1)), (yh1, .inl (cR, 4, .inr (.inr (.inr (.inr gh1))))), (tg, .inr (5, [.int 4, .int 4, .ref e1, .ref e2, .ref e3, .int e4]))]) [4, 5, 6, 7, 0, 1, 2, 3, 8] rfl
  have hD9 := hD.sub (ws' := [(y0, .inr (5, [.int 4, .int 4, .ref yw0, .ref yv0, .ref yh0, .int nb0])), (yw0, .inl (cI, 4, .inl gw0)), (yv0, .inl (cI, 4, .inl gv0)), (yh0, .inl (cR, 4, .inr (.inr (.inr (.inr gh0))))), (y1, .inr (5, [.int 4, .int 4, .ref yw1, .ref yv1, .ref yh1, .int nb1])), (yw1, .inl (cI, 4, .inl gw1)), (yv1, .inl (cI, 4, .inl gv1)), (yh1, .inl (cR, 4, .inr (.inr (.inr (.inr gh1))))), (tg, .inr (5, [.int 4, .int 4, .ref e1, .ref e2, .ref e3, .int e4]))]) [4, 5, 6, 7, 0, 1, 2, 3, 8] (by decide) rfl
  exact W.iret (v := 2) hx hb hr (fun t ht hW => ⟨⟨_, (), rfl, rfl, ⟨by rw [ht]; exact hP9, va_K.moved hW.alike hK, hD9, by rw [ht]; exact hz⟩⟩, hS.F ht⟩) hS.2.2 dX1_depthIf_68

set_option maxHeartbeats 4000000 in
set_option maxRecDepth 100000 in
theorem k_dIc0_4 (l : Launch) (dC : Nat → ClassId) (dI : Nat → Nat → Nat) (cI cB cR cO : ClassId) (zk : Nat → Nat) (y0 yw0 yv0 yh0 : Nat) (nb0 : Int32) (gw0 gv0 : Nat → Int32) (gh0 : Nat → Option Nat) (tg e1 e2 e3 : Nat) (e4 : Int32) (dd : Int32) (sz : Nat) (hgw0 : ∀ i, i < 4 → gw0 i = 0) (hgh0 : ∀ i, i < 4 → gh0 i = none) : Met l yX1_depthIf wsX1_depthIf ({ frames := 0, cells := 0, slots := 0, locals := 0 }) (va_Pc [.ref y0, .ref tg, .int dd, .int 4] (zPre (dC, dI) (zT cI cB cR cO) zk [] [(y0, .inr (5, [.int 4, .int 4, .ref yw0, .ref yv0, .ref yh0, .int nb0])), (yw0, .inl (cI, 4, .inl gw0)), (yv0, .inl (cI, 4, .inl gv0)), (yh0, .inl (cR, 4, .inr (.inr (.inr (.inr gh0))))), (tg, .inr (5, [.int 4, .int 4, .ref e1, .ref e2, .ref e3, .int e4]))] sz)) (va_Qi (fun r (_ : Unit) => r = 1) (fun _ t => zEnd (dC, dI) (zT cI cB cR cO) (va_A [(y0, .inr (5, [.int 4, .int 4, .ref yw0, .ref yv0, .ref yh0, .int nb0])), (yw0, .inl (cI, 4, .inl gw0)), (yv0, .inl (cI, 4, .inl gv0)), (yh0, .inl (cR, 4, .inr (.inr (.inr (.inr gh0))))), (tg, .inr (5, [.int 4, .int 4, .ref e1, .ref e2, .ref e3, .int e4]))] sz) [(y0, .inr (5, [.int 4, .int 4, .ref yw0, .ref yv0, .ref yh0, .int nb0])), (yw0, .inl (cI, 4, .inl gw0)), (yv0, .inl (cI, 4, .inl gv0)), (yh0, .inl (cR, 4, .inr (.inr (.inr (.inr gh0))))), (tg, .inr (5, [.int 4, .int 4, .ref e1, .ref e2, .ref e3, .int e4]))] sz 0 t) (va_A [(y0, .inr (5, [.int 4, .int 4, .ref yw0, .ref yv0, .ref yh0, .int nb0])), (yw0, .inl (cI, 4, .inl gw0)), (yv0, .inl (cI, 4, .inl gv0)), (yh0, .inl (cR, 4, .inr (.inr (.inr (.inr gh0))))), (tg, .inr (5, [.int 4, .int 4, .ref e1, .ref e2, .ref e3, .int e4]))] sz)) 0 0 (va_A [(y0, .inr (5, [.int 4, .int 4, .ref yw0, .ref yv0, .ref yh0, .int nb0])), (yw0, .inl (cI, 4, .inl gw0)), (yv0, .inl (cI, 4, .inl gv0)), (yh0, .inl (cR, 4, .inr (.inr (.inr (.inr gh0))))), (tg, .inr (5, [.int 4, .int 4, .ref e1, .ref e2, .ref e3, .int e4]))] sz) := by
  refine Met.ofW (cc := cX1_depthIf) (maxL := 7) (ret := (some .int)) (by decide) rfl ?_
  intro p e s mY args below meth c s₁ B hml hv
  obtain ⟨rfl, hsz, hP, hK, hD0, hZ⟩ := hv
  have hx := B.exec
  have hb := B.bytes
  have hr := B.returns
  have hts := atoms_spec (ws := wsX1_depthIf) B.pre
  have hown : s.vm.findClass RX1 = some mY.cls := findClass_of_methodNamed B.named
  have hlocks := B.notSynchronized
  subst hsz
  have hD := hD0.self (sz := s.heap.size)
  generalize hAe : va_A [(y0, .inr (5, [.int 4, .int 4, .ref yw0, .ref yv0, .ref yh0, .int nb0])), (yw0, .inl (cI, 4, .inl gw0)), (yv0, .inl (cI, 4, .inl gv0)), (yh0, .inl (cR, 4, .inr (.inr (.inr (.inr gh0))))), (tg, .inr (5, [.int 4, .int 4, .ref e1, .ref e2, .ref e3, .int e4]))] s.heap.size = A at hD hZ ⊢
  have hA : ∀ q : Nat, s.heap.size ≤ q → A q := fun q h => by rw [← hAe]; exact Or.inr h
  have hS : va_S A s.heap s.heap [] := va_S.rf
  have hz : s.heap.size + 0 ≤ s.heap.size := Nat.le_refl _
  have hl := lv_entry ([.ref y0, .ref tg, .int dd, .int 4]) (n := 7) (Nat.le_of_ble_eq_true rfl)
  rw [lg_entry_eq]
  generalize (lg_sl ([.ref y0, .ref tg, .int dd, .int 4]) ++ List.replicate (7 - (lg_sl ([.ref y0, .ref tg, .int dd, .int 4])).length) Slot.unset).toArray = ls at hl ⊢
  have hl : lv_has ls 7 [(0, .ref y0), (1, .ref tg), (2, .int dd), (3, .int 4)] := hl
  have hP : va_P (dC, dI) vwCl [(y0, .inr (5, [.int 4, .int 4, .ref yw0, .ref yv0, .ref yh0, .int nb0])), (yw0, .inl (cI, 4, .inl gw0)), (yv0, .inl (cI, 4, .inl gv0)), (yh0, .inl (cR, 4, .inr (.inr (.inr (.inr gh0))))), (tg, .inr (5, [.int 4, .int 4, .ref e1, .ref e2, .ref e3, .int e4]))] s.heap := hP
  have hD : va_D A [(y0, .inr (5, [.int 4, .int 4, .ref yw0, .ref yv0, .ref yh0, .int nb0])), (yw0, .inl (cI, 4, .inl gw0)), (yv0, .inl (cI, 4, .inl gv0)), (yh0, .inl (cR, 4, .inr (.inr (.inr (.inr gh0))))), (tg, .inr (5, [.int 4, .int 4, .ref e1, .ref e2, .ref e3, .int e4]))] := hD
  refine lv_aload_n hx hb dX1_depthIf_0 rfl (lv_at hl 0 rfl) ?_
  refine lv_aload_n hx hb dX1_depthIf_1 rfl (lv_at hl 1 rfl) ?_
  refine lv_acmp_ne (rx := (some y0)) (ry := (some tg)) (tgt := 7) hx hb dX1_depthIf_2 (by decide) (fun c9 => ?_) (fun c9 => ?_)
  rotate_left
  · exact absurd c9 (fun h9 => absurd (hD.1 0 4 _ _ rfl rfl (Option.some.inj h9)) (by decide))
  refine lv_iconst (v := 1) hx hb dX1_depthIf_7 (by decide) ?_
  refine lv_istore (lv' := [(4, .int 1), (0, .ref y0), (1, .ref tg), (2, .int dd), (3, .int 4)]) hx hb dX1_depthIf_8 hl (by decide) rfl (fun ls hl => ?_)
  refine lv_iconst (v := 0) hx hb dX1_depthIf_10 (by decide) ?_
  refine lv_istore (lv' := [(5, .int 0), (4, .int 1), (0, .ref y0), (1, .ref tg), (2, .int dd), (3, .int 4)]) hx hb dX1_depthIf_11 hl (by decide) rfl (fun ls hl => ?_)
  refine lv_iload_n hx hb dX1_depthIf_13 rfl (lv_at hl 5 rfl) ?_
  refine lv_iconst (v := 1) hx hb dX1_depthIf_14 (by decide) ?_
  refine lv_icmp_le (tgt := 66) hx hb dX1_depthIf_15 (by decide) (fun c9 => ?_) (fun c9 => ?_)
  · exact absurd c9 (by decide)
  refine lv_iload hx hb dX1_depthIf_18 (lv_at hl 0 rfl) ?_
  refine lv_aload_n hx hb dX1_depthIf_20 rfl (lv_at hl 2 rfl) ?_
  refine va_getN (D := (dC, dI)) (ci := 5) (v := .int 4) (C := RX0) (T := TX0) (N := 6) hx hb hts hi_X1_depthIf_X0 hown hK hP 0 rfl rfl 1 (by decide) (zn3 hZ) (fun _ h9 => h9) rfl dX1_depthIf_21 ?_
  refine lv_icmp_ge (tgt := 66) hx hb dX1_depthIf_24 (by decide) (fun c9 => ?_) (fun c9 => ?_)
  · exact absurd c9 (by decide)
  refine lv_aload_n hx hb dX1_depthIf_27 rfl (lv_at hl 2 rfl) ?_
  refine va_getN (D := (dC, dI)) (ci := 5) (v := .ref yh0) (C := RX0) (T := TX0) (N := 6) hx hb hts hi_X1_depthIf_X0 hown hK hP 0 rfl rfl 4 (by decide) (zn2 hZ) (fun _ h9 => h9) rfl dX1_depthIf_28 ?_
  refine lv_iload hx hb dX1_depthIf_31 (lv_at hl 0 rfl) ?_
  refine va_aldq (D := (dC, dI)) (cl := vwCl) hx hb hK hP 3 2 rfl rfl (by unfold vp_in; decide) dX1_depthIf_33 ?_
  rw [show (0 : Int32).toNatClampNeg = 0 from by decide, hgh0 0 (by decide)]
  refine W.eq (g2 := F0 mY 34 ls [.null]) rfl ?_
  refine lv_astoreN (lv' := [(6, .null), (5, .int 0), (4, .int 1), (0, .ref y0), (1, .ref tg), (2, .int dd), (3, .int 4)]) hx hb dX1_depthIf_34 hl (by decide) rfl (fun ls hl => ?_)
  refine lv_aloadN hx hb dX1_depthIf_36 (lv_at hl 0 rfl) ?_
  refine lv_ifnullN (tgt := 60) hx hb dX1_depthIf_38 (by decide) ?_
  refine lv_iinc (v := 1) (lv' := [(5, .int 1), (6, .null), (4, .int 1), (0, .ref y0), (1, .ref tg), (2, .int dd), (3, .int 4)]) hx hb dX1_depthIf_60 hl (k := 1) rfl (by decide) (by decide) rfl (fun ls hl => ?_)
  refine lv_goto (tgt := 13) hx hb dX1_depthIf_63 (by decide) ?_
  refine lv_iload_n hx hb dX1_depthIf_13 rfl (lv_at hl 6 rfl) ?_
  refine lv_iconst (v := 1) hx hb dX1_depthIf_14 (by decide) ?_
  refine lv_icmp_le (tgt := 66) hx hb dX1_depthIf_15 (by decide) (fun c9 => ?_) (fun c9 => ?_)
  · exact absurd c9 (by decide)
  refine lv_iload hx hb dX1_depthIf_18 (lv_at hl 0 rfl) ?_
  refine lv_aload_n hx hb dX1_depthIf_20 rfl (lv_at hl 3 rfl) ?_
  refine va_getN (D := (dC, dI)) (ci := 5) (v := .int 4) (C := RX0) (T := TX0) (N := 6) hx hb hts hi_X1_depthIf_X0 hown hK hP 0 rfl rfl 1 (by decide) (zn3 hZ) (fun _ h9 => h9) rfl dX1_depthIf_21 ?_
  refine lv_icmp_ge (tgt := 66) hx hb dX1_depthIf_24 (by decide) (fun c9 => ?_) (fun c9 => ?_)
  · exact absurd c9 (by decide)
  refine lv_aload_n hx hb dX1_depthIf_27 rfl (lv_at hl 3 rfl) ?_
  refine va_getN (D := (dC, dI)) (ci := 5) (v := .ref yh0) (C := RX0) (T := TX0) (N := 6) hx hb hts hi_X1_depthIf_X0 hown hK hP 0 rfl rfl 4 (by decide) (zn2 hZ) (fun _ h9 => h9) rfl dX1_depthIf_28 ?_
  refine lv_iload hx hb dX1_depthIf_31 (lv_at hl 0 rfl) ?_
  refine va_aldq (D := (dC, dI)) (cl := vwCl) hx hb hK hP 3 2 rfl rfl (by unfold vp_in; decide) dX1_depthIf_33 ?_
  rw [show (1 : Int32).toNatClampNeg = 1 from by decide, hgh0 1 (by decide)]
  refine W.eq (g2 := F0 mY 34 ls [.null]) rfl ?_
  refine lv_astoreN (lv' := [(6, .null), (5, .int 1), (4, .int 1), (0, .ref y0), (1, .ref tg), (2, .int dd), (3, .int 4)]) hx hb dX1_depthIf_34 hl (by decide) rfl (fun ls hl => ?_)
  refine lv_aloadN hx hb dX1_depthIf_36 (lv_at hl 0 rfl) ?_
  refine lv_ifnullN (tgt := 60) hx hb dX1_depthIf_38 (by decide) ?_
  refine lv_iinc (v := 2) (lv' := [(5, .int 2), (6, .null), (4, .int 1), (0, .ref y0), (1, .ref tg), (2, .int dd), (3, .int 4)]) hx hb dX1_depthIf_60 hl (k := 1) rfl (by decide) (by decide) rfl (fun ls hl => ?_)
  refine lv_goto (tgt := 13) hx hb dX1_depthIf_63 (by decide) ?_
  refine lv_iload_n hx hb dX1_depthIf_13 rfl (lv_at hl 6 rfl) ?_
  refine lv_iconst (v := 1) hx hb dX1_depthIf_14 (by decide) ?_
  refine lv_icmp_le (tgt := 66) hx hb dX1_depthIf_15 (by decide) (fun c9 => ?_) (fun c9 => ?_)
  · exact absurd c9 (by decide)
  refine lv_iload hx hb dX1_depthIf_18 (lv_at hl 0 rfl) ?_
  refine lv_aload_n hx hb dX1_depthIf_20 rfl (lv_at hl 3 rfl) ?_
  refine va_getN (D := (dC, dI)) (ci := 5) (v := .int 4) (C := RX0) (T := TX0) (N := 6) hx hb hts hi_X1_depthIf_X0 hown hK hP 0 rfl rfl 1 (by decide) (zn3 hZ) (fun _ h9 => h9) rfl dX1_depthIf_21 ?_
  refine lv_icmp_ge (tgt := 66) hx hb dX1_depthIf_24 (by decide) (fun c9 => ?_) (fun c9 => ?_)
  · exact absurd c9 (by decide)
  refine lv_aload_n hx hb dX1_depthIf_27 rfl (lv_at hl 3 rfl) ?_
  refine va_getN (D := (dC, dI)) (ci := 5) (v := .ref yh0) (C := RX0) (T := TX0) (N := 6) hx hb hts hi_X1_depthIf_X0 hown hK hP 0 rfl rfl 4 (by decide) (zn2 hZ) (fun _ h9 => h9) rfl dX1_depthIf_28 ?_
  refine lv_iload hx hb dX1_depthIf_31 (lv_at hl 0 rfl) ?_
  refine va_aldq (D := (dC, dI)) (cl := vwCl) hx hb hK hP 3 2 rfl rfl (by unfold vp_in; decide) dX1_depthIf_33 ?_
  rw [show (2 : Int32).toNatClampNeg = 2 from by decide, hgh0 2 (by decide)]
  refine W.eq (g2 := F0 mY 34 ls [.null]) rfl ?_
  refine lv_astoreN (lv' := [(6, .null), (5, .int 2), (4, .int 1), (0, .ref y0), (1, .ref tg), (2, .int dd), (3, .int 4)]) hx hb dX1_depthIf_34 hl (by decide) rfl (fun ls hl => ?_)
  refine lv_aloadN hx hb dX1_depthIf_36 (lv_at hl 0 rfl) ?_
  refine lv_ifnullN (tgt := 60) hx hb dX1_depthIf_38 (by decide) ?_
  refine lv_iinc (v := 3) (lv' := [(5, .int 3), (6, .null), (4, .int 1), (0, .ref y0), (1, .ref tg), (2, .int dd), (3, .int 4)]) hx hb dX1_depthIf_60 hl (k := 1) rfl (by decide) (by decide) rfl (fun ls hl => ?_)
  refine lv_goto (tgt := 13) hx hb dX1_depthIf_63 (by decide) ?_
  refine lv_iload_n hx hb dX1_depthIf_13 rfl (lv_at hl 6 rfl) ?_
  refine lv_iconst (v := 1) hx hb dX1_depthIf_14 (by decide) ?_
  refine lv_icmp_le (tgt := 66) hx hb dX1_depthIf_15 (by decide) (fun c9 => ?_) (fun c9 => ?_)
  · exact absurd c9 (by decide)
  refine lv_iload hx hb dX1_depthIf_18 (lv_at hl 0 rfl) ?_
  refine lv_aload_n hx hb dX1_depthIf_20 rfl (lv_at hl 3 rfl) ?_
  refine va_getN (D := (dC, dI)) (ci := 5) (v := .int 4) (C := RX0) (T := TX0) (N := 6) hx hb hts hi_X1_depthIf_X0 hown hK hP 0 rfl rfl 1 (by decide) (zn3 hZ) (fun _ h9 => h9) rfl dX1_depthIf_21 ?_
  refine lv_icmp_ge (tgt := 66) hx hb dX1_depthIf_24 (by decide) (fun c9 => ?_) (fun c9 => ?_)
  · exact absurd c9 (by decide)
  refine lv_aload_n hx hb dX1_depthIf_27 rfl (lv_at hl 3 rfl) ?_
  refine va_getN (D := (dC, dI)) (ci := 5) (v := .ref yh0) (C := RX0) (T := TX0) (N := 6) hx hb hts hi_X1_depthIf_X0 hown hK hP 0 rfl rfl 4 (by decide) (zn2 hZ) (fun _ h9 => h9) rfl dX1_depthIf_28 ?_
  refine lv_iload hx hb dX1_depthIf_31 (lv_at hl 0 rfl) ?_
  refine va_aldq (D := (dC, dI)) (cl := vwCl) hx hb hK hP 3 2 rfl rfl (by unfold vp_in; decide) dX1_depthIf_33 ?_
  rw [show (3 : Int32).toNatClampNeg = 3 from by decide, hgh0 3 (by decide)]
  refine W.eq (g2 := F0 mY 34 ls [.null]) rfl ?_
  refine lv_astoreN (lv' := [(6, .null), (5, .int 3), (4, .int 1), (0, .ref y0), (1, .ref tg), (2, .int dd), (3, .int 4)]) hx hb dX1_depthIf_34 hl (by decide) rfl (fun ls hl => ?_)
  refine lv_aloadN hx hb dX1_depthIf_36 (lv_at hl 0 rfl) ?_
  refine lv_ifnullN (tgt := 60) hx hb dX1_depthIf_38 (by decide) ?_
  refine lv_iinc (v := 4) (lv' := [(5, .int 4), (6, .null), (4, .int 1), (0, .ref y0), (1, .ref tg), (2, .int dd), (3, .int 4)]) hx hb dX1_depthIf_60 hl (k := 1) rfl (by decide) (by decide) rfl (fun ls hl => ?_)
  refine lv_goto (tgt := 13) hx hb dX1_depthIf_63 (by decide) ?_
  refine lv_iload_n hx hb dX1_depthIf_13 rfl (lv_at hl 6 rfl) ?_
  refine lv_iconst (v := 1) hx hb dX1_depthIf_14 (by decide) ?_
  refine lv_icmp_le (tgt := 66) hx hb dX1_depthIf_15 (by decide) (fun c9 => ?_) (fun c9 => ?_)
  · exact absurd c9 (by decide)
  refine lv_iload hx hb dX1_depthIf_18 (lv_at hl 0 rfl) ?_
  refine lv_aload_n hx hb dX1_depthIf_20 rfl (lv_at hl 3 rfl) ?_
  refine va_getN (D := (dC, dI)) (ci := 5) (v := .int 4) (C := RX0) (T := TX0) (N := 6) hx hb hts hi_X1_depthIf_X0 hown hK hP 0 rfl rfl 1 (by decide) (zn3 hZ) (fun _ h9 => h9) rfl dX1_depthIf_21 ?_
  refine lv_icmp_ge (tgt := 66) hx hb dX1_depthIf_24 (by decide) (fun c9 => ?_) (fun c9 => ?_)
  rotate_left
  · exact absurd (by decide) c9
  refine lv_iload hx hb dX1_depthIf_66 (lv_at hl 2 rfl) ?_
  have hP9 := hP.sub (ws' := [(y0, .inr (5, [.int 4, .int 4, .ref yw0, .ref yv0, .ref yh0, .int nb0])), (yw0, .inl (cI, 4, .inl gw0)), (yv0, .inl (cI, 4, .inl gv0)), (yh0, .inl (cR, 4, .inr (.inr (.inr (.inr gh0))))), (tg, .inr (5, [.int 4, .int 4, .ref e1, .ref e2, .ref e3, .int e4]))]) [0, 1, 2, 3, 4] rfl
  have hD9 := hD.sub (ws' := [(y0, .inr (5, [.int 4, .int 4, .ref yw0, .ref yv0, .ref yh0, .int nb0])), (yw0, .inl (cI, 4, .inl gw0)), (yv0, .inl (cI, 4, .inl gv0)), (yh0, .inl (cR, 4, .inr (.inr (.inr (.inr gh0))))), (tg, .inr (5, [.int 4, .int 4, .ref e1, .ref e2, .ref e3, .int e4]))]) [0, 1, 2, 3, 4] (by decide) rfl
  exact W.iret (v := 1) hx hb hr (fun t ht hW => ⟨⟨_, (), rfl, rfl, ⟨by rw [ht]; exact hP9, va_K.moved hW.alike hK, hD9, by rw [ht]; exact hz⟩⟩, hS.F ht⟩) hS.2.2 dX1_depthIf_68

set_option maxHeartbeats 4000000 in
set_option maxRecDepth 100000 in
theorem k_dIs (l : Launch) (dC : Nat → ClassId) (dI : Nat → Nat → Nat) (cI cB cR cO : ClassId) (zk : Nat → Nat) (tg e1 e2 e3 : Nat) (e4 : Int32) (dd : Int32) (sz : Nat)  : Met l yX1_depthIf wsX1_depthIf ({ frames := 0, cells := 0, slots := 0, locals := 0 }) (va_Pc [.ref tg, .ref tg, .int dd, .int 4] (zPre (dC, dI) (zT cI cB cR cO) zk [] [(tg, .inr (5, [.int 4, .int 4, .ref e1, .ref e2, .ref e3, .int e4]))] sz)) (va_Qi (fun r (_ : Unit) => r = dd) (fun _ t => zEnd (dC, dI) (zT cI cB cR cO) (va_A [(tg, .inr (5, [.int 4, .int 4, .ref e1, .ref e2, .ref e3, .int e4]))] sz) [(tg, .inr (5, [.int 4, .int 4, .ref e1, .ref e2, .ref e3, .int e4]))] sz 0 t) (va_A [(tg, .inr (5, [.int 4, .int 4, .ref e1, .ref e2, .ref e3, .int e4]))] sz)) 0 0 (va_A [(tg, .inr (5, [.int 4, .int 4, .ref e1, .ref e2, .ref e3, .int e4]))] sz) := by
  refine Met.ofW (cc := cX1_depthIf) (maxL := 7) (ret := (some .int)) (by decide) rfl ?_
  intro p e s mY args below meth c s₁ B hml hv
  obtain ⟨rfl, hsz, hP, hK, hD0, hZ⟩ := hv
  have hx := B.exec
  have hb := B.bytes
  have hr := B.returns
  have hts := atoms_spec (ws := wsX1_depthIf) B.pre
  have hown : s.vm.findClass RX1 = some mY.cls := findClass_of_methodNamed B.named
  have hlocks := B.notSynchronized
  subst hsz
  have hD := hD0.self (sz := s.heap.size)
  generalize hAe : va_A [(tg, .inr (5, [.int 4, .int 4, .ref e1, .ref e2, .ref e3, .int e4]))] s.heap.size = A at hD hZ ⊢
  have hA : ∀ q : Nat, s.heap.size ≤ q → A q := fun q h => by rw [← hAe]; exact Or.inr h
  have hS : va_S A s.heap s.heap [] := va_S.rf
  have hz : s.heap.size + 0 ≤ s.heap.size := Nat.le_refl _
  have hl := lv_entry ([.ref tg, .ref tg, .int dd, .int 4]) (n := 7) (Nat.le_of_ble_eq_true rfl)
  rw [lg_entry_eq]
  generalize (lg_sl ([.ref tg, .ref tg, .int dd, .int 4]) ++ List.replicate (7 - (lg_sl ([.ref tg, .ref tg, .int dd, .int 4])).length) Slot.unset).toArray = ls at hl ⊢
  have hl : lv_has ls 7 [(0, .ref tg), (1, .ref tg), (2, .int dd), (3, .int 4)] := hl
  have hP : va_P (dC, dI) vwCl [(tg, .inr (5, [.int 4, .int 4, .ref e1, .ref e2, .ref e3, .int e4]))] s.heap := hP
  have hD : va_D A [(tg, .inr (5, [.int 4, .int 4, .ref e1, .ref e2, .ref e3, .int e4]))] := hD
  refine lv_aload_n hx hb dX1_depthIf_0 rfl (lv_at hl 0 rfl) ?_
  refine lv_aload_n hx hb dX1_depthIf_1 rfl (lv_at hl 1 rfl) ?_
  refine lv_acmp_ne (rx := (some tg)) (ry := (some tg)) (tgt := 7) hx hb dX1_depthIf_2 (by decide) (fun c9 => ?_) (fun c9 => ?_)
  · exact absurd (rfl) c9
  refine lv_iload_n hx hb dX1_depthIf_5 rfl (lv_at hl 2 rfl) ?_
  have hP9 := hP.sub (ws' := [(tg, .inr (5, [.int 4, .int 4, .ref e1, .ref e2, .ref e3, .int e4]))]) [0] rfl
  have hD9 := hD.sub (ws' := [(tg, .inr (5, [.int 4, .int 4, .ref e1, .ref e2, .ref e3, .int e4]))]) [0] (by decide) rfl
  exact W.iret (v := dd) hx hb hr (fun t ht hW => ⟨⟨_, (), rfl, rfl, ⟨by rw [ht]; exact hP9, va_K.moved hW.alike hK, hD9, by rw [ht]; exact hz⟩⟩, hS.F ht⟩) hS.2.2 dX1_depthIf_6

set_option maxHeartbeats 4000000 in
set_option maxRecDepth 100000 in
theorem k_dOf0 (l : Launch) (dC : Nat → ClassId) (dI : Nat → Nat → Nat) (cI cB cR cO : ClassId) (zk : Nat → Nat) (y0 yw0 yv0 yh0 : Nat) (nb0 : Int32) (gw0 gv0 : Nat → Int32) (gh0 : Nat → Option Nat) (sz : Nat) (hgw0 : ∀ i, i < 4 → gw0 i = 0) (hgh0 : ∀ i, i < 4 → gh0 i = none) : Met l yX1_depthOf wsX1_depthOf ({ frames := 1, cells := 0, slots := 0, locals := 26 }) (va_Pc [.ref y0] (zPre (dC, dI) (zT cI cB cR cO) zk [] [(y0, .inr (5, [.int 4, .int 4, .ref yw0, .ref yv0, .ref yh0, .int nb0])), (yw0, .inl (cI, 4, .inl gw0)), (yv0, .inl (cI, 4, .inl gv0)), (yh0, .inl (cR, 4, .inr (.inr (.inr (.inr gh0)))))] sz)) (va_Qi (fun r (_ : Unit) => r = 1) (fun _ t => zEnd (dC, dI) (zT cI cB cR cO) (va_A [(y0, .inr (5, [.int 4, .int 4, .ref yw0, .ref yv0, .ref yh0, .int nb0])), (yw0, .inl (cI, 4, .inl gw0)), (yv0, .inl (cI, 4, .inl gv0)), (yh0, .inl (cR, 4, .inr (.inr (.inr (.inr gh0)))))] sz) [(y0, .inr (5, [.int 4, .int 4, .ref yw0, .ref yv0, .ref yh0, .int nb0])), (yw0, .inl (cI, 4, .inl gw0)), (yv0, .inl (cI, 4, .inl gv0)), (yh0, .inl (cR, 4, .inr (.inr (.inr (.inr gh0)))))] sz 0 t) (va_A [(y0, .inr (5, [.int 4, .int 4, .ref yw0, .ref yv0, .ref yh0, .int nb0])), (yw0, .inl (cI, 4, .inl gw0)), (yv0, .inl (cI, 4, .inl gv0)), (yh0, .inl (cR, 4, .inr (.inr (.inr (.inr gh0)))))] sz)) 0 0 (va_A [(y0, .inr (5, [.int 4, .int 4, .ref yw0, .ref yv0, .ref yh0, .int nb0])), (yw0, .inl (cI, 4, .inl gw0)), (yv0, .inl (cI, 4, .inl gv0)), (yh0, .inl (cR, 4, .inr (.inr (.inr (.inr gh0)))))] sz) := by
  refine Met.ofW (cc := cX1_depthOf) (maxL := 1) (ret := (some .int)) (by decide) rfl ?_
  intro p e s mY args below meth c s₁ B hml hv
  obtain ⟨rfl, hsz, hP, hK, hD0, hZ⟩ := hv
  have hx := B.exec
  have hb := B.bytes
  have hr := B.returns
  have hts := atoms_spec (ws := wsX1_depthOf) B.pre
  have hown : s.vm.findClass RX1 = some mY.cls := findClass_of_methodNamed B.named
  have hlocks := B.notSynchronized
  subst hsz
  have hD := hD0.self (sz := s.heap.size)
  generalize hAe : va_A [(y0, .inr (5, [.int 4, .int 4, .ref yw0, .ref yv0, .ref yh0, .int nb0])), (yw0, .inl (cI, 4, .inl gw0)), (yv0, .inl (cI, 4, .inl gv0)), (yh0, .inl (cR, 4, .inr (.inr (.inr (.inr gh0)))))] s.heap.size = A at hD hZ ⊢
  have hA : ∀ q : Nat, s.heap.size ≤ q → A q := fun q h => by rw [← hAe]; exact Or.inr h
  have hS : va_S A s.heap s.heap [] := va_S.rf
  have hz : s.heap.size + 0 ≤ s.heap.size := Nat.le_refl _
  have hl := lv_entry ([.ref y0]) (n := 1) (Nat.le_of_ble_eq_true rfl)
  rw [lg_entry_eq]
  generalize (lg_sl ([.ref y0]) ++ List.replicate (1 - (lg_sl ([.ref y0])).length) Slot.unset).toArray = ls at hl ⊢
  have hl : lv_has ls 1 [(0, .ref y0)] := hl
  have hP : va_P (dC, dI) vwCl [(y0, .inr (5, [.int 4, .int 4, .ref yw0, .ref yv0, .ref yh0, .int nb0])), (yw0, .inl (cI, 4, .inl gw0)), (yv0, .inl (cI, 4, .inl gv0)), (yh0, .inl (cR, 4, .inr (.inr (.inr (.inr gh0)))))] s.heap := hP
  have hD : va_D A [(y0, .inr (5, [.int 4, .int 4, .ref yw0, .ref yv0, .ref yh0, .int nb0])), (yw0, .inl (cI, 4, .inl gw0)), (yv0, .inl (cI, 4, .inl gv0)), (yh0, .inl (cR, 4, .inr (.inr (.inr (.inr gh0)))))] := hD
  refine lv_aload_n hx hb dX1_depthOf_0 rfl (lv_at hl 0 rfl) ?_
  refine lv_null hx hb dX1_depthOf_1 ?_
  refine lv_iconst (v := 0) hx hb dX1_depthOf_2 (by decide) ?_
  refine lv_iconst (v := 4) hx hb dX1_depthOf_3 (by decide) ?_
  have hPc := hP.sub (ws' := [(y0, .inr (5, [.int 4, .int 4, .ref yw0, .ref yv0, .ref yh0, .int nb0])), (yw0, .inl (cI, 4, .inl gw0)), (yv0, .inl (cI, 4, .inl gv0)), (yh0, .inl (cR, 4, .inr (.inr (.inr (.inr gh0)))))]) [0, 1, 2, 3] rfl
  have hDc := hD.sub (ws' := [(y0, .inr (5, [.int 4, .int 4, .ref yw0, .ref yv0, .ref yh0, .int nb0])), (yw0, .inl (cI, 4, .inl gw0)), (yv0, .inl (cI, 4, .inl gv0)), (yh0, .inl (cR, 4, .inr (.inr (.inr (.inr gh0)))))]) [0, 1, 2, 3] (by decide) rfl
  have hFc := va_free (wc := [(y0, .inr (5, [.int 4, .int 4, .ref yw0, .ref yv0, .ref yh0, .int nb0])), (yw0, .inl (cI, 4, .inl gw0)), (yv0, .inl (cI, 4, .inl gv0)), (yh0, .inl (cR, 4, .inr (.inr (.inr (.inr gh0)))))]) hD hS hA [0, 1, 2, 3] rfl
  have hDv := hDc.self (sz := s.heap.size)
  have hpre := zpre (xs' := []) (av := [.ref y0, .null, .int 0, .int 4]) hPc hK (hDc.weaken (fun _ _ _ h => h)) hZ hS hFc (fun r hr => by cases hr)
  refine va_calli (va_runS (As := [.ref y0, .null, .int 0, .int 4]) (rest := []) ⟨hx, hb, hml, hown, hts⟩ (k_dIn0_4 l dC dI cI cB cR cO zk y0 yw0 yv0 yh0 nb0 gw0 gv0 gh0 s.heap.size hgw0 hgh0) (va_cwS 4 hts gX1_depthOf_X1_depthIf rfl rfl rfl (by decide +kernel) ⟨Nat.le_of_ble_eq_true rfl, Nat.le_of_ble_eq_true rfl⟩) ⟨zblind, hpre⟩ rfl rfl hl.1 rfl (lv_room (Nat.le_of_ble_eq_true rfl)) dX1_depthOf_4 ⟨Nat.le_of_ble_eq_true rfl, Nat.le_of_ble_eq_true rfl⟩) hS (fun q _ h => hFc q h) hFc (fun r2 u t H1 locs ht hvm hw hB hz1 hk1 hS => ?_)
  obtain rfl : 1 = r2 := (show r2 = 1 from hw).symm
  obtain ⟨hP1, hK1, hD1, hz2⟩ := hB
  rw [ht] at hP1 hz2
  have hPD9 := va_join (wr := []) (w1 := [(y0, .inr (5, [.int 4, .int 4, .ref yw0, .ref yv0, .ref yh0, .int nb0])), (yw0, .inl (cI, 4, .inl gw0)), (yv0, .inl (cI, 4, .inl gv0)), (yh0, .inl (cR, 4, .inr (.inr (.inr (.inr gh0)))))]) hP hD [0, 1, 2, 3] [] rfl rfl (by decide) (by decide) hk1 hFc hP1 hD1
  clear hPc hDc hFc hDv hpre hP hD hP1 hK1 hD1
  obtain ⟨hP, hD⟩ := hPD9
  replace hz : s.heap.size + 0 ≤ H1.size := by omega
  clear hz2
  replace hP : va_P (dC, dI) vwCl [(y0, .inr (5, [.int 4, .int 4, .ref yw0, .ref yv0, .ref yh0, .int nb0])), (yw0, .inl (cI, 4, .inl gw0)), (yv0, .inl (cI, 4, .inl gv0)), (yh0, .inl (cR, 4, .inr (.inr (.inr (.inr gh0)))))] H1 := hP
  replace hD : va_D A [(y0, .inr (5, [.int 4, .int 4, .ref yw0, .ref yv0, .ref yh0, .int nb0])), (yw0, .inl (cI, 4, .inl gw0)), (yv0, .inl (cI, 4, .inl gv0)), (yh0, .inl (cR, 4, .inr (.inr (.inr (.inr gh0)))))] := hD
  refine W.widen (k := 0) (n := 0) (by omega) (by omega) ?_
  have hP9 := hP.sub (ws' := [(y0, .inr (5, [.int 4, .int 4, .ref yw0, .ref yv0, .ref yh0, .int nb0])), (yw0, .inl (cI, 4, .inl gw0)), (yv0, .inl (cI, 4, .inl gv0)), (yh0, .inl (cR, 4, .inr (.inr (.inr (.inr gh0)))))]) [0, 1, 2, 3] rfl
  have hD9 := hD.sub (ws' := [(y0, .inr (5, [.int 4, .int 4, .ref yw0, .ref yv0, .ref yh0, .int nb0])), (yw0, .inl (cI, 4, .inl gw0)), (yv0, .inl (cI, 4, .inl gv0)), (yh0, .inl (cR, 4, .inr (.inr (.inr (.inr gh0)))))]) [0, 1, 2, 3] (by decide) rfl
  exact W.iret (v := 1) hx hb hr (fun t ht hW => ⟨⟨_, (), rfl, rfl, ⟨by rw [ht]; exact hP9, va_K.moved hW.alike hK, hD9, by rw [ht]; exact hz⟩⟩, hS.F ht⟩) hS.2.2 dX1_depthOf_7

set_option maxHeartbeats 4000000 in
set_option maxRecDepth 100000 in
theorem k_dOf1 (l : Launch) (dC : Nat → ClassId) (dI : Nat → Nat → Nat) (cI cB cR cO : ClassId) (zk : Nat → Nat) (y0 yw0 yv0 yh0 y1 yw1 yv1 yh1 : Nat) (nb0 nb1 : Int32) (gw0 gv0 gw1 gv1 : Nat → Int32) (gh0 gh1 : Nat → Option Nat) (sz : Nat) (hgw0 : ∀ i, i < 4 → gw0 i = 0) (hgh0 : ∀ i, i < 4 → gh0 i = none) (hgh1 : ∀ i, i < 4 → gh1 i = some y0) : Met l yX1_depthOf wsX1_depthOf ({ frames := 2, cells := 0, slots := 0, locals := 66 }) (va_Pc [.ref y1] (zPre (dC, dI) (zT cI cB cR cO) zk [] [(y0, .inr (5, [.int 4, .int 4, .ref yw0, .ref yv0, .ref yh0, .int nb0])), (yw0, .inl (cI, 4, .inl gw0)), (yv0, .inl (cI, 4, .inl gv0)), (yh0, .inl (cR, 4, .inr (.inr (.inr (.inr gh0))))), (y1, .inr (5, [.int 4, .int 4, .ref yw1, .ref yv1, .ref yh1, .int nb1])), (yw1, .inl (cI, 4, .inl gw1)), (yv1, .inl (cI, 4, .inl gv1)), (yh1, .inl (cR, 4, .inr (.inr (.inr (.inr gh1)))))] sz)) (va_Qi (fun r (_ : Unit) => r = 2) (fun _ t => zEnd (dC, dI) (zT cI cB cR cO) (va_A [(y0, .inr (5, [.int 4, .int 4, .ref yw0, .ref yv0, .ref yh0, .int nb0])), (yw0, .inl (cI, 4, .inl gw0)), (yv0, .inl (cI, 4, .inl gv0)), (yh0, .inl (cR, 4, .inr (.inr (.inr (.inr gh0))))), (y1, .inr (5, [.int 4, .int 4, .ref yw1, .ref yv1, .ref yh1, .int nb1])), (yw1, .inl (cI, 4, .inl gw1)), (yv1, .inl (cI, 4, .inl gv1)), (yh1, .inl (cR, 4, .inr (.inr (.inr (.inr gh1)))))] sz) [(y0, .inr (5, [.int 4, .int 4, .ref yw0, .ref yv0, .ref yh0, .int nb0])), (yw0, .inl (cI, 4, .inl gw0)), (yv0, .inl (cI, 4, .inl gv0)), (yh0, .inl (cR, 4, .inr (.inr (.inr (.inr gh0))))), (y1, .inr (5, [.int 4, .int 4, .ref yw1, .ref yv1, .ref yh1, .int nb1])), (yw1, .inl (cI, 4, .inl gw1)), (yv1, .inl (cI, 4, .inl gv1)), (yh1, .inl (cR, 4, .inr (.inr (.inr (.inr gh1)))))] sz 0 t) (va_A [(y0, .inr (5, [.int 4, .int 4, .ref yw0, .ref yv0, .ref yh0, .int nb0])), (yw0, .inl (cI, 4, .inl gw0)), (yv0, .inl (cI, 4, .inl gv0)), (yh0, .inl (cR, 4, .inr (.inr (.inr (.inr gh0))))), (y1, .inr (5, [.int 4, .int 4, .ref yw1, .ref yv1, .ref yh1, .int nb1])), (yw1, .inl (cI, 4, .inl gw1)), (yv1, .inl (cI, 4, .inl gv1)), (yh1, .inl (cR, 4, .inr (.inr (.inr (.inr gh1)))))] sz)) 0 0 (va_A [(y0, .inr (5, [.int 4, .int 4, .ref yw0, .ref yv0, .ref yh0, .int nb0])), (yw0, .inl (cI, 4, .inl gw0)), (yv0, .inl (cI, 4, .inl gv0)), (yh0, .inl (cR, 4, .inr (.inr (.inr (.inr gh0))))), (y1, .inr (5, [.int 4, .int 4, .ref yw1, .ref yv1, .ref yh1, .int nb1])), (yw1, .inl (cI, 4, .inl gw1)), (yv1, .inl (cI, 4, .inl gv1)), (yh1, .inl (cR, 4, .inr (.inr (.inr (.inr gh1)))))] sz) := by
  refine Met.ofW (cc := cX1_depthOf) (maxL := 1) (ret := (some .int)) (by decide) rfl ?_
  intro p e s mY args below meth c s₁ B hml hv
  obtain ⟨rfl, hsz, hP, hK, hD0, hZ⟩ := hv
  have hx := B.exec
  have hb := B.bytes
  have hr := B.returns
  have hts := atoms_spec (ws := wsX1_depthOf) B.pre
  have hown : s.vm.findClass RX1 = some mY.cls := findClass_of_methodNamed B.named
  have hlocks := B.notSynchronized
  subst hsz
  have hD := hD0.self (sz := s.heap.size)
  generalize hAe : va_A [(y0, .inr (5, [.int 4, .int 4, .ref yw0, .ref yv0, .ref yh0, .int nb0])), (yw0, .inl (cI, 4, .inl gw0)), (yv0, .inl (cI, 4, .inl gv0)), (yh0, .inl (cR, 4, .inr (.inr (.inr (.inr gh0))))), (y1, .inr (5, [.int 4, .int 4, .ref yw1, .ref yv1, .ref yh1, .int nb1])), (yw1, .inl (cI, 4, .inl gw1)), (yv1, .inl (cI, 4, .inl gv1)), (yh1, .inl (cR, 4, .inr (.inr (.inr (.inr gh1)))))] s.heap.size = A at hD hZ ⊢
  have hA : ∀ q : Nat, s.heap.size ≤ q → A q := fun q h => by rw [← hAe]; exact Or.inr h
  have hS : va_S A s.heap s.heap [] := va_S.rf
  have hz : s.heap.size + 0 ≤ s.heap.size := Nat.le_refl _
  have hl := lv_entry ([.ref y1]) (n := 1) (Nat.le_of_ble_eq_true rfl)
  rw [lg_entry_eq]
  generalize (lg_sl ([.ref y1]) ++ List.replicate (1 - (lg_sl ([.ref y1])).length) Slot.unset).toArray = ls at hl ⊢
  have hl : lv_has ls 1 [(0, .ref y1)] := hl
  have hP : va_P (dC, dI) vwCl [(y0, .inr (5, [.int 4, .int 4, .ref yw0, .ref yv0, .ref yh0, .int nb0])), (yw0, .inl (cI, 4, .inl gw0)), (yv0, .inl (cI, 4, .inl gv0)), (yh0, .inl (cR, 4, .inr (.inr (.inr (.inr gh0))))), (y1, .inr (5, [.int 4, .int 4, .ref yw1, .ref yv1, .ref yh1, .int nb1])), (yw1, .inl (cI, 4, .inl gw1)), (yv1, .inl (cI, 4, .inl gv1)), (yh1, .inl (cR, 4, .inr (.inr (.inr (.inr gh1)))))] s.heap := hP
  have hD : va_D A [(y0, .inr (5, [.int 4, .int 4, .ref yw0, .ref yv0, .ref yh0, .int nb0])), (yw0, .inl (cI, 4, .inl gw0)), (yv0, .inl (cI, 4, .inl gv0)), (yh0, .inl (cR, 4, .inr (.inr (.inr (.inr gh0))))), (y1, .inr (5, [.int 4, .int 4, .ref yw1, .ref yv1, .ref yh1, .int nb1])), (yw1, .inl (cI, 4, .inl gw1)), (yv1, .inl (cI, 4, .inl gv1)), (yh1, .inl (cR, 4, .inr (.inr (.inr (.inr gh1)))))] := hD
  refine lv_aload_n hx hb dX1_depthOf_0 rfl (lv_at hl 0 rfl) ?_
  refine lv_null hx hb dX1_depthOf_1 ?_
  refine lv_iconst (v := 0) hx hb dX1_depthOf_2 (by decide) ?_
  refine lv_iconst (v := 4) hx hb dX1_depthOf_3 (by decide) ?_
  have hPc := hP.sub (ws' := [(y0, .inr (5, [.int 4, .int 4, .ref yw0, .ref yv0, .ref yh0, .int nb0])), (yw0, .inl (cI, 4, .inl gw0)), (yv0, .inl (cI, 4, .inl gv0)), (yh0, .inl (cR, 4, .inr (.inr (.inr (.inr gh0))))), (y1, .inr (5, [.int 4, .int 4, .ref yw1, .ref yv1, .ref yh1, .int nb1])), (yw1, .inl (cI, 4, .inl gw1)), (yv1, .inl (cI, 4, .inl gv1)), (yh1, .inl (cR, 4, .inr (.inr (.inr (.inr gh1)))))]) [0, 1, 2, 3, 4, 5, 6, 7] rfl
  have hDc := hD.sub (ws' := [(y0, .inr (5, [.int 4, .int 4, .ref yw0, .ref yv0, .ref yh0, .int nb0])), (yw0, .inl (cI, 4, .inl gw0)), (yv0, .inl (cI, 4, .inl gv0)), (yh0, .inl (cR, 4, .inr (.inr (.inr (.inr gh0))))), (y1, .inr (5, [.int 4, .int 4, .ref yw1, .ref yv1, .ref yh1, .int nb1])), (yw1, .inl (cI, 4, .inl gw1)), (yv1, .inl (cI, 4, .inl gv1)), (yh1, .inl (cR, 4, .inr (.inr (.inr (.inr gh1)))))]) [0, 1, 2, 3, 4, 5, 6, 7] (by decide) rfl
  have hFc := va_free (wc := [(y0, .inr (5, [.int 4, .int 4, .ref yw0, .ref yv0, .ref yh0, .int nb0])), (yw0, .inl (cI, 4, .inl gw0)), (yv0, .inl (cI, 4, .inl gv0)), (yh0, .inl (cR, 4, .inr (.inr (.inr (.inr gh0))))), (y1, .inr (5, [.int 4, .int 4, .ref yw1, .ref yv1, .ref yh1, .int nb1])), (yw1, .inl (cI, 4, .inl gw1)), (yv1, .inl (cI, 4, .inl gv1)), (yh1, .inl (cR, 4, .inr (.inr (.inr (.inr gh1)))))]) hD hS hA [0, 1, 2, 3, 4, 5, 6, 7] rfl
  have hDv := hDc.self (sz := s.heap.size)
  have hpre := zpre (xs' := []) (av := [.ref y1, .null, .int 0, .int 4]) hPc hK (hDc.weaken (fun _ _ _ h => h)) hZ hS hFc (fun r hr => by cases hr)
  refine va_calli (va_runS (As := [.ref y1, .null, .int 0, .int 4]) (rest := []) ⟨hx, hb, hml, hown, hts⟩ (k_dIn1_4 l dC dI cI cB cR cO zk y0 yw0 yv0 yh0 y1 yw1 yv1 yh1 nb0 nb1 gw0 gv0 gw1 gv1 gh0 gh1 s.heap.size hgw0 hgh0 hgh1) (va_cwS 4 hts gX1_depthOf_X1_depthIf rfl rfl rfl (by decide +kernel) ⟨Nat.le_of_ble_eq_true rfl, Nat.le_of_ble_eq_true rfl⟩) ⟨zblind, hpre⟩ rfl rfl hl.1 rfl (lv_room (Nat.le_of_ble_eq_true rfl)) dX1_depthOf_4 ⟨Nat.le_of_ble_eq_true rfl, Nat.le_of_ble_eq_true rfl⟩) hS (fun q _ h => hFc q h) hFc (fun r2 u t H1 locs ht hvm hw hB hz1 hk1 hS => ?_)
  obtain rfl : 2 = r2 := (show r2 = 2 from hw).symm
  obtain ⟨hP1, hK1, hD1, hz2⟩ := hB
  rw [ht] at hP1 hz2
  have hPD9 := va_join (wr := []) (w1 := [(y0, .inr (5, [.int 4, .int 4, .ref yw0, .ref yv0, .ref yh0, .int nb0])), (yw0, .inl (cI, 4, .inl gw0)), (yv0, .inl (cI, 4, .inl gv0)), (yh0, .inl (cR, 4, .inr (.inr (.inr (.inr gh0))))), (y1, .inr (5, [.int 4, .int 4, .ref yw1, .ref yv1, .ref yh1, .int nb1])), (yw1, .inl (cI, 4, .inl gw1)), (yv1, .inl (cI, 4, .inl gv1)), (yh1, .inl (cR, 4, .inr (.inr (.inr (.inr gh1)))))]) hP hD [0, 1, 2, 3, 4, 5, 6, 7] [] rfl rfl (by decide) (by decide) hk1 hFc hP1 hD1
  clear hPc hDc hFc hDv hpre hP hD hP1 hK1 hD1
  obtain ⟨hP, hD⟩ := hPD9
  replace hz : s.heap.size + 0 ≤ H1.size := by omega
  clear hz2
  replace hP : va_P (dC, dI) vwCl [(y0, .inr (5, [.int 4, .int 4, .ref yw0, .ref yv0, .ref yh0, .int nb0])), (yw0, .inl (cI, 4, .inl gw0)), (yv0, .inl (cI, 4, .inl gv0)), (yh0, .inl (cR, 4, .inr (.inr (.inr (.inr gh0))))), (y1, .inr (5, [.int 4, .int 4, .ref yw1, .ref yv1, .ref yh1, .int nb1])), (yw1, .inl (cI, 4, .inl gw1)), (yv1, .inl (cI, 4, .inl gv1)), (yh1, .inl (cR, 4, .inr (.inr (.inr (.inr gh1)))))] H1 := hP
  replace hD : va_D A [(y0, .inr (5, [.int 4, .int 4, .ref yw0, .ref yv0, .ref yh0, .int nb0])), (yw0, .inl (cI, 4, .inl gw0)), (yv0, .inl (cI, 4, .inl gv0)), (yh0, .inl (cR, 4, .inr (.inr (.inr (.inr gh0))))), (y1, .inr (5, [.int 4, .int 4, .ref yw1, .ref yv1, .ref yh1, .int nb1])), (yw1, .inl (cI, 4, .inl gw1)), (yv1, .inl (cI, 4, .inl gv1)), (yh1, .inl (cR, 4, .inr (.inr (.inr (.inr gh1)))))] := hD
  refine W.widen (k := 0) (n := 0) (by omega) (by omega) ?_
  have hP9 := hP.sub (ws' := [(y0, .inr (5, [.int 4, .int 4, .ref yw0, .ref yv0, .ref yh0, .int nb0])), (yw0, .inl (cI, 4, .inl gw0)), (yv0, .inl (cI, 4, .inl gv0)), (yh0, .inl (cR, 4, .inr (.inr (.inr (.inr gh0))))), (y1, .inr (5, [.int 4, .int 4, .ref yw1, .ref yv1, .ref yh1, .int nb1])), (yw1, .inl (cI, 4, .inl gw1)), (yv1, .inl (cI, 4, .inl gv1)), (yh1, .inl (cR, 4, .inr (.inr (.inr (.inr gh1)))))]) [0, 1, 2, 3, 4, 5, 6, 7] rfl
  have hD9 := hD.sub (ws' := [(y0, .inr (5, [.int 4, .int 4, .ref yw0, .ref yv0, .ref yh0, .int nb0])), (yw0, .inl (cI, 4, .inl gw0)), (yv0, .inl (cI, 4, .inl gv0)), (yh0, .inl (cR, 4, .inr (.inr (.inr (.inr gh0))))), (y1, .inr (5, [.int 4, .int 4, .ref yw1, .ref yv1, .ref yh1, .int nb1])), (yw1, .inl (cI, 4, .inl gw1)), (yv1, .inl (cI, 4, .inl gv1)), (yh1, .inl (cR, 4, .inr (.inr (.inr (.inr gh1)))))]) [0, 1, 2, 3, 4, 5, 6, 7] (by decide) rfl
  exact W.iret (v := 2) hx hb hr (fun t ht hW => ⟨⟨_, (), rfl, rfl, ⟨by rw [ht]; exact hP9, va_K.moved hW.alike hK, hD9, by rw [ht]; exact hz⟩⟩, hS.F ht⟩) hS.2.2 dX1_depthOf_7

set_option maxHeartbeats 4000000 in
set_option maxRecDepth 100000 in
theorem k_dOf2 (l : Launch) (dC : Nat → ClassId) (dI : Nat → Nat → Nat) (cI cB cR cO : ClassId) (zk : Nat → Nat) (y0 yw0 yv0 yh0 y1 yw1 yv1 yh1 y2 yw2 yv2 yh2 : Nat) (nb0 nb1 nb2 : Int32) (gw0 gv0 gw1 gv1 gw2 gv2 : Nat → Int32) (gh0 gh1 gh2 : Nat → Option Nat) (sz : Nat) (hgw0 : ∀ i, i < 4 → gw0 i = 0) (hgh0 : ∀ i, i < 4 → gh0 i = none) (hgh1 : ∀ i, i < 4 → gh1 i = some y0) (hgh2 : ∀ i, i < 4 → gh2 i = some y1) : Met l yX1_depthOf wsX1_depthOf ({ frames := 3, cells := 0, slots := 0, locals := 92 }) (va_Pc [.ref y2] (zPre (dC, dI) (zT cI cB cR cO) zk [] [(y0, .inr (5, [.int 4, .int 4, .ref yw0, .ref yv0, .ref yh0, .int nb0])), (yw0, .inl (cI, 4, .inl gw0)), (yv0, .inl (cI, 4, .inl gv0)), (yh0, .inl (cR, 4, .inr (.inr (.inr (.inr gh0))))), (y1, .inr (5, [.int 4, .int 4, .ref yw1, .ref yv1, .ref yh1, .int nb1])), (yw1, .inl (cI, 4, .inl gw1)), (yv1, .inl (cI, 4, .inl gv1)), (yh1, .inl (cR, 4, .inr (.inr (.inr (.inr gh1))))), (y2, .inr (5, [.int 4, .int 4, .ref yw2, .ref yv2, .ref yh2, .int nb2])), (yw2, .inl (cI, 4, .inl gw2)), (yv2, .inl (cI, 4, .inl gv2)), (yh2, .inl (cR, 4, .inr (.inr (.inr (.inr gh2)))))] sz)) (va_Qi (fun r (_ : Unit) => r = 3) (fun _ t => zEnd (dC, dI) (zT cI cB cR cO) (va_A [(y0, .inr (5, [.int 4, .int 4, .ref yw0, .ref yv0, .ref yh0, .int nb0])), (yw0, .inl (cI, 4, .inl gw0)), (yv0, .inl (cI, 4, .inl gv0)), (yh0, .inl (cR, 4, .inr (.inr (.inr (.inr gh0))))), (y1, .inr (5, [.int 4, .int 4, .ref yw1, .ref yv1, .ref yh1, .int nb1])), (yw1, .inl (cI, 4, .inl gw1)), (yv1, .inl (cI, 4, .inl gv1)), (yh1, .inl (cR, 4, .inr (.inr (.inr (.inr gh1))))), (y2, .inr (5, [.int 4, .int 4, .ref yw2, .ref yv2, .ref yh2, .int nb2])), (yw2, .inl (cI, 4, .inl gw2)), (yv2, .inl (cI, 4, .inl gv2)), (yh2, .inl (cR, 4, .inr (.inr (.inr (.inr gh2)))))] sz) [(y0, .inr (5, [.int 4, .int 4, .ref yw0, .ref yv0, .ref yh0, .int nb0])), (yw0, .inl (cI, 4, .inl gw0)), (yv0, .inl (cI, 4, .inl gv0)), (yh0, .inl (cR, 4, .inr (.inr (.inr (.inr gh0))))), (y1, .inr (5, [.int 4, .int 4, .ref yw1, .ref yv1, .ref yh1, .int nb1])), (yw1, .inl (cI, 4, .inl gw1)), (yv1, .inl (cI, 4, .inl gv1)), (yh1, .inl (cR, 4, .inr (.inr (.inr (.inr gh1))))), (y2, .inr (5, [.int 4, .int 4, .ref yw2, .ref yv2, .ref yh2, .int nb2])), (yw2, .inl (cI, 4, .inl gw2)), (yv2, .inl (cI, 4, .inl gv2)), (yh2, .inl (cR, 4, .inr (.inr (.inr (.inr gh2)))))] sz 0 t) (va_A [(y0, .inr (5, [.int 4, .int 4, .ref yw0, .ref yv0, .ref yh0, .int nb0])), (yw0, .inl (cI, 4, .inl gw0)), (yv0, .inl (cI, 4, .inl gv0)), (yh0, .inl (cR, 4, .inr (.inr (.inr (.inr gh0))))), (y1, .inr (5, [.int 4, .int 4, .ref yw1, .ref yv1, .ref yh1, .int nb1])), (yw1, .inl (cI, 4, .inl gw1)), (yv1, .inl (cI, 4, .inl gv1)), (yh1, .inl (cR, 4, .inr (.inr (.inr (.inr gh1))))), (y2, .inr (5, [.int 4, .int 4, .ref yw2, .ref yv2, .ref yh2, .int nb2])), (yw2, .inl (cI, 4, .inl gw2)), (yv2, .inl (cI, 4, .inl gv2)), (yh2, .inl (cR, 4, .inr (.inr (.inr (.inr gh2)))))] sz)) 0 0 (va_A [(y0, .inr (5, [.int 4, .int 4, .ref yw0, .ref yv0, .ref yh0, .int nb0])), (yw0, .inl (cI, 4, .inl gw0)), (yv0, .inl (cI, 4, .inl gv0)), (yh0, .inl (cR, 4, .inr (.inr (.inr (.inr gh0))))), (y1, .inr (5, [.int 4, .int 4, .ref yw1, .ref yv1, .ref yh1, .int nb1])), (yw1, .inl (cI, 4, .inl gw1)), (yv1, .inl (cI, 4, .inl gv1)), (yh1, .inl (cR, 4, .inr (.inr (.inr (.inr gh1))))), (y2, .inr (5, [.int 4, .int 4, .ref yw2, .ref yv2, .ref yh2, .int nb2])), (yw2, .inl (cI, 4, .inl gw2)), (yv2, .inl (cI, 4, .inl gv2)), (yh2, .inl (cR, 4, .inr (.inr (.inr (.inr gh2)))))] sz) := by
  refine Met.ofW (cc := cX1_depthOf) (maxL := 1) (ret := (some .int)) (by decide) rfl ?_
  intro p e s mY args below meth c s₁ B hml hv
  obtain ⟨rfl, hsz, hP, hK, hD0, hZ⟩ := hv
  have hx := B.exec
  have hb := B.bytes
  have hr := B.returns
  have hts := atoms_spec (ws := wsX1_depthOf) B.pre
  have hown : s.vm.findClass RX1 = some mY.cls := findClass_of_methodNamed B.named
  have hlocks := B.notSynchronized
  subst hsz
  have hD := hD0.self (sz := s.heap.size)
  generalize hAe : va_A [(y0, .inr (5, [.int 4, .int 4, .ref yw0, .ref yv0, .ref yh0, .int nb0])), (yw0, .inl (cI, 4, .inl gw0)), (yv0, .inl (cI, 4, .inl gv0)), (yh0, .inl (cR, 4, .inr (.inr (.inr (.inr gh0))))), (y1, .inr (5, [.int 4, .int 4, .ref yw1, .ref yv1, .ref yh1, .int nb1])), (yw1, .inl (cI, 4, .inl gw1)), (yv1, .inl (cI, 4, .inl gv1)), (yh1, .inl (cR, 4, .inr (.inr (.inr (.inr gh1))))), (y2, .inr (5, [.int 4, .int 4, .ref yw2, .ref yv2, .ref yh2, .int nb2])), (yw2, .inl (cI, 4, .inl gw2)), (yv2, .inl (cI, 4, .inl gv2)), (yh2, .inl (cR, 4, .inr (.inr (.inr (.inr gh2)))))] s.heap.size = A at hD hZ ⊢
  have hA : ∀ q : Nat, s.heap.size ≤ q → A q := fun q h => by rw [← hAe]; exact Or.inr h
  have hS : va_S A s.heap s.heap [] := va_S.rf
  have hz : s.heap.size + 0 ≤ s.heap.size := Nat.le_refl _
  have hl := lv_entry ([.ref y2]) (n := 1) (Nat.le_of_ble_eq_true rfl)
  rw [lg_entry_eq]
  generalize (lg_sl ([.ref y2]) ++ List.replicate (1 - (lg_sl ([.ref y2])).length) Slot.unset).toArray = ls at hl ⊢
  have hl : lv_has ls 1 [(0, .ref y2)] := hl
  have hP : va_P (dC, dI) vwCl [(y0, .inr (5, [.int 4, .int 4, .ref yw0, .ref yv0, .ref yh0, .int nb0])), (yw0, .inl (cI, 4, .inl gw0)), (yv0, .inl (cI, 4, .inl gv0)), (yh0, .inl (cR, 4, .inr (.inr (.inr (.inr gh0))))), (y1, .inr (5, [.int 4, .int 4, .ref yw1, .ref yv1, .ref yh1, .int nb1])), (yw1, .inl (cI, 4, .inl gw1)), (yv1, .inl (cI, 4, .inl gv1)), (yh1, .inl (cR, 4, .inr (.inr (.inr (.inr gh1))))), (y2, .inr (5, [.int 4, .int 4, .ref yw2, .ref yv2, .ref yh2, .int nb2])), (yw2, .inl (cI, 4, .inl gw2)), (yv2, .inl (cI, 4, .inl gv2)), (yh2, .inl (cR, 4, .inr (.inr (.inr (.inr gh2)))))] s.heap := hP
  have hD : va_D A [(y0, .inr (5, [.int 4, .int 4, .ref yw0, .ref yv0, .ref yh0, .int nb0])), (yw0, .inl (cI, 4, .inl gw0)), (yv0, .inl (cI, 4, .inl gv0)), (yh0, .inl (cR, 4, .inr (.inr (.inr (.inr gh0))))), (y1, .inr (5, [.int 4, .int 4, .ref yw1, .ref yv1, .ref yh1, .int nb1])), (yw1, .inl (cI, 4, .inl gw1)), (yv1, .inl (cI, 4, .inl gv1)), (yh1, .inl (cR, 4, .inr (.inr (.inr (.inr gh1))))), (y2, .inr (5, [.int 4, .int 4, .ref yw2, .ref yv2, .ref yh2, .int nb2])), (yw2, .inl (cI, 4, .inl gw2)), (yv2, .inl (cI, 4, .inl gv2)), (yh2, .inl (cR, 4, .inr (.inr (.inr (.inr gh2)))))] := hD
  refine lv_aload_n hx hb dX1_depthOf_0 rfl (lv_at hl 0 rfl) ?_
  refine lv_null hx hb dX1_depthOf_1 ?_
  refine lv_iconst (v := 0) hx hb dX1_depthOf_2 (by decide) ?_
  refine lv_iconst (v := 4) hx hb dX1_depthOf_3 (by decide) ?_
  have hPc := hP.sub (ws' := [(y0, .inr (5, [.int 4, .int 4, .ref yw0, .ref yv0, .ref yh0, .int nb0])), (yw0, .inl (cI, 4, .inl gw0)), (yv0, .inl (cI, 4, .inl gv0)), (yh0, .inl (cR, 4, .inr (.inr (.inr (.inr gh0))))), (y1, .inr (5, [.int 4, .int 4, .ref yw1, .ref yv1, .ref yh1, .int nb1])), (yw1, .inl (cI, 4, .inl gw1)), (yv1, .inl (cI, 4, .inl gv1)), (yh1, .inl (cR, 4, .inr (.inr (.inr (.inr gh1))))), (y2, .inr (5, [.int 4, .int 4, .ref yw2, .ref yv2, .ref yh2, .int nb2])), (yw2, .inl (cI, 4, .inl gw2)), (yv2, .inl (cI, 4, .inl gv2)), (yh2, .inl (cR, 4, .inr (.inr (.inr (.inr gh2)))))]) [0, 1, 2, 3, 4, 5, 6, 7, 8, 9, 10, 11] rfl
  have hDc := hD.sub (ws' := [(y0, .inr (5, [.int 4, .int 4, .ref yw0, .ref yv0, .ref yh0, .int nb0])), (yw0, .inl (cI, 4, .inl gw0)), (yv0, .inl (cI, 4, .inl gv0)), (yh0, .inl (cR, 4, .inr (.inr (.inr (.inr gh0))))), (y1, .inr (5, [.int 4, .int 4, .ref yw1, .ref yv1, .ref yh1, .int nb1])), (yw1, .inl (cI, 4, .inl gw1)), (yv1, .inl (cI, 4, .inl gv1)), (yh1, .inl (cR, 4, .inr (.inr (.inr (.inr gh1))))), (y2, .inr (5, [.int 4, .int 4, .ref yw2, .ref yv2, .ref yh2, .int nb2])), (yw2, .inl (cI, 4, .inl gw2)), (yv2, .inl (cI, 4, .inl gv2)), (yh2, .inl (cR, 4, .inr (.inr (.inr (.inr gh2)))))]) [0, 1, 2, 3, 4, 5, 6, 7, 8, 9, 10, 11] (by decide) rfl
  have hFc := va_free (wc := [(y0, .inr (5, [.int 4, .int 4, .ref yw0, .ref yv0, .ref yh0, .int nb0])), (yw0, .inl (cI, 4, .inl gw0)), (yv0, .inl (cI, 4, .inl gv0)), (yh0, .inl (cR, 4, .inr (.inr (.inr (.inr gh0))))), (y1, .inr (5, [.int 4, .int 4, .ref yw1, .ref yv1, .ref yh1, .int nb1])), (yw1, .inl (cI, 4, .inl gw1)), (yv1, .inl (cI, 4, .inl gv1)), (yh1, .inl (cR, 4, .inr (.inr (.inr (.inr gh1))))), (y2, .inr (5, [.int 4, .int 4, .ref yw2, .ref yv2, .ref yh2, .int nb2])), (yw2, .inl (cI, 4, .inl gw2)), (yv2, .inl (cI, 4, .inl gv2)), (yh2, .inl (cR, 4, .inr (.inr (.inr (.inr gh2)))))]) hD hS hA [0, 1, 2, 3, 4, 5, 6, 7, 8, 9, 10, 11] rfl
  have hDv := hDc.self (sz := s.heap.size)
  have hpre := zpre (xs' := []) (av := [.ref y2, .null, .int 0, .int 4]) hPc hK (hDc.weaken (fun _ _ _ h => h)) hZ hS hFc (fun r hr => by cases hr)
  refine va_calli (va_runS (As := [.ref y2, .null, .int 0, .int 4]) (rest := []) ⟨hx, hb, hml, hown, hts⟩ (k_dIn2_4 l dC dI cI cB cR cO zk y0 yw0 yv0 yh0 y1 yw1 yv1 yh1 y2 yw2 yv2 yh2 nb0 nb1 nb2 gw0 gv0 gw1 gv1 gw2 gv2 gh0 gh1 gh2 s.heap.size hgw0 hgh0 hgh1 hgh2) (va_cwS 4 hts gX1_depthOf_X1_depthIf rfl rfl rfl (by decide +kernel) ⟨Nat.le_of_ble_eq_true rfl, Nat.le_of_ble_eq_true rfl⟩) ⟨zblind, hpre⟩ rfl rfl hl.1 rfl (lv_room (Nat.le_of_ble_eq_true rfl)) dX1_depthOf_4 ⟨Nat.le_of_ble_eq_true rfl, Nat.le_of_ble_eq_true rfl⟩) hS (fun q _ h => hFc q h) hFc (fun r2 u t H1 locs ht hvm hw hB hz1 hk1 hS => ?_)
  obtain rfl : 3 = r2 := (show r2 = 3 from hw).symm
  obtain ⟨hP1, hK1, hD1, hz2⟩ := hB
  rw [ht] at hP1 hz2
  have hPD9 := va_join (wr := []) (w1 := [(y0, .inr (5, [.int 4, .int 4, .ref yw0, .ref yv0, .ref yh0, .int nb0])), (yw0, .inl (cI, 4, .inl gw0)), (yv0, .inl (cI, 4, .inl gv0)), (yh0, .inl (cR, 4, .inr (.inr (.inr (.inr gh0))))), (y1, .inr (5, [.int 4, .int 4, .ref yw1, .ref yv1, .ref yh1, .int nb1])), (yw1, .inl (cI, 4, .inl gw1)), (yv1, .inl (cI, 4, .inl gv1)), (yh1, .inl (cR, 4, .inr (.inr (.inr (.inr gh1))))), (y2, .inr (5, [.int 4, .int 4, .ref yw2, .ref yv2, .ref yh2, .int nb2])), (yw2, .inl (cI, 4, .inl gw2)), (yv2, .inl (cI, 4, .inl gv2)), (yh2, .inl (cR, 4, .inr (.inr (.inr (.inr gh2)))))]) hP hD [0, 1, 2, 3, 4, 5, 6, 7, 8, 9, 10, 11] [] rfl rfl (by decide) (by decide) hk1 hFc hP1 hD1
  clear hPc hDc hFc hDv hpre hP hD hP1 hK1 hD1
  obtain ⟨hP, hD⟩ := hPD9
  replace hz : s.heap.size + 0 ≤ H1.size := by omega
  clear hz2
  replace hP : va_P (dC, dI) vwCl [(y0, .inr (5, [.int 4, .int 4, .ref yw0, .ref yv0, .ref yh0, .int nb0])), (yw0, .inl (cI, 4, .inl gw0)), (yv0, .inl (cI, 4, .inl gv0)), (yh0, .inl (cR, 4, .inr (.inr (.inr (.inr gh0))))), (y1, .inr (5, [.int 4, .int 4, .ref yw1, .ref yv1, .ref yh1, .int nb1])), (yw1, .inl (cI, 4, .inl gw1)), (yv1, .inl (cI, 4, .inl gv1)), (yh1, .inl (cR, 4, .inr (.inr (.inr (.inr gh1))))), (y2, .inr (5, [.int 4, .int 4, .ref yw2, .ref yv2, .ref yh2, .int nb2])), (yw2, .inl (cI, 4, .inl gw2)), (yv2, .inl (cI, 4, .inl gv2)), (yh2, .inl (cR, 4, .inr (.inr (.inr (.inr gh2)))))] H1 := hP
  replace hD : va_D A [(y0, .inr (5, [.int 4, .int 4, .ref yw0, .ref yv0, .ref yh0, .int nb0])), (yw0, .inl (cI, 4, .inl gw0)), (yv0, .inl (cI, 4, .inl gv0)), (yh0, .inl (cR, 4, .inr (.inr (.inr (.inr gh0))))), (y1, .inr (5, [.int 4, .int 4, .ref yw1, .ref yv1, .ref yh1, .int nb1])), (yw1, .inl (cI, 4, .inl gw1)), (yv1, .inl (cI, 4, .inl gv1)), (yh1, .inl (cR, 4, .inr (.inr (.inr (.inr gh1))))), (y2, .inr (5, [.int 4, .int 4, .ref yw2, .ref yv2, .ref yh2, .int nb2])), (yw2, .inl (cI, 4, .inl gw2)), (yv2, .inl (cI, 4, .inl gv2)), (yh2, .inl (cR, 4, .inr (.inr (.inr (.inr gh2)))))] := hD
  refine W.widen (k := 0) (n := 0) (by omega) (by omega) ?_
  have hP9 := hP.sub (ws' := [(y0, .inr (5, [.int 4, .int 4, .ref yw0, .ref yv0, .ref yh0, .int nb0])), (yw0, .inl (cI, 4, .inl gw0)), (yv0, .inl (cI, 4, .inl gv0)), (yh0, .inl (cR, 4, .inr (.inr (.inr (.inr gh0))))), (y1, .inr (5, [.int 4, .int 4, .ref yw1, .ref yv1, .ref yh1, .int nb1])), (yw1, .inl (cI, 4, .inl gw1)), (yv1, .inl (cI, 4, .inl gv1)), (yh1, .inl (cR, 4, .inr (.inr (.inr (.inr gh1))))), (y2, .inr (5, [.int 4, .int 4, .ref yw2, .ref yv2, .ref yh2, .int nb2])), (yw2, .inl (cI, 4, .inl gw2)), (yv2, .inl (cI, 4, .inl gv2)), (yh2, .inl (cR, 4, .inr (.inr (.inr (.inr gh2)))))]) [0, 1, 2, 3, 4, 5, 6, 7, 8, 9, 10, 11] rfl
  have hD9 := hD.sub (ws' := [(y0, .inr (5, [.int 4, .int 4, .ref yw0, .ref yv0, .ref yh0, .int nb0])), (yw0, .inl (cI, 4, .inl gw0)), (yv0, .inl (cI, 4, .inl gv0)), (yh0, .inl (cR, 4, .inr (.inr (.inr (.inr gh0))))), (y1, .inr (5, [.int 4, .int 4, .ref yw1, .ref yv1, .ref yh1, .int nb1])), (yw1, .inl (cI, 4, .inl gw1)), (yv1, .inl (cI, 4, .inl gv1)), (yh1, .inl (cR, 4, .inr (.inr (.inr (.inr gh1))))), (y2, .inr (5, [.int 4, .int 4, .ref yw2, .ref yv2, .ref yh2, .int nb2])), (yw2, .inl (cI, 4, .inl gw2)), (yv2, .inl (cI, 4, .inl gv2)), (yh2, .inl (cR, 4, .inr (.inr (.inr (.inr gh2)))))]) [0, 1, 2, 3, 4, 5, 6, 7, 8, 9, 10, 11] (by decide) rfl
  exact W.iret (v := 3) hx hb hr (fun t ht hW => ⟨⟨_, (), rfl, rfl, ⟨by rw [ht]; exact hP9, va_K.moved hW.alike hK, hD9, by rw [ht]; exact hz⟩⟩, hS.F ht⟩) hS.2.2 dX1_depthOf_7

theorem hi_X1_requireThings_X0 : ∀ w ∈ u_ws RX0 TX0 6, w ∈ wsX1_requireThings := fun w h => List.mem_cons_of_mem _ (zhi_X0 w h)
set_option maxHeartbeats 4000000 in
set_option maxRecDepth 100000 in
theorem k_rqT (l : Launch) (dC : Nat → ClassId) (dI : Nat → Nat → Nat) (cI cB cR cO : ClassId) (zk : Nat → Nat) (tg e1 e2 e3 : Nat) (e4 : Int32) (sz : Nat)  : Met l yX1_requireThings wsX1_requireThings ({ frames := 0, cells := 0, slots := 0, locals := 0 }) (va_Pc [.ref tg] (zPre (dC, dI) (zT cI cB cR cO) zk [] [(tg, .inr (5, [.int 4, .int 4, .ref e1, .ref e2, .ref e3, .int e4]))] sz)) (va_Qv (fun _ : Unit => True) (fun _ t => zEnd (dC, dI) (zT cI cB cR cO) (va_A [(tg, .inr (5, [.int 4, .int 4, .ref e1, .ref e2, .ref e3, .int e4]))] sz) [(tg, .inr (5, [.int 4, .int 4, .ref e1, .ref e2, .ref e3, .int e4]))] sz 0 t) (va_A [(tg, .inr (5, [.int 4, .int 4, .ref e1, .ref e2, .ref e3, .int e4]))] sz)) 0 0 (va_A [(tg, .inr (5, [.int 4, .int 4, .ref e1, .ref e2, .ref e3, .int e4]))] sz) := by
  refine Met.ofW (cc := cX1_requireThings) (maxL := 1) (ret := none) (by decide) rfl ?_
  intro p e s mY args below meth c s₁ B hml hv
  obtain ⟨rfl, hsz, hP, hK, hD0, hZ⟩ := hv
  have hx := B.exec
  have hb := B.bytes
  have hr := B.returns
  have hts := atoms_spec (ws := wsX1_requireThings) B.pre
  have hown : s.vm.findClass RX1 = some mY.cls := findClass_of_methodNamed B.named
  have hlocks := B.notSynchronized
  subst hsz
  have hD := hD0.self (sz := s.heap.size)
  generalize hAe : va_A [(tg, .inr (5, [.int 4, .int 4, .ref e1, .ref e2, .ref e3, .int e4]))] s.heap.size = A at hD hZ ⊢
  have hA : ∀ q : Nat, s.heap.size ≤ q → A q := fun q h => by rw [← hAe]; exact Or.inr h
  have hS : va_S A s.heap s.heap [] := va_S.rf
  have hz : s.heap.size + 0 ≤ s.heap.size := Nat.le_refl _
  have hl := lv_entry ([.ref tg]) (n := 1) (Nat.le_of_ble_eq_true rfl)
  rw [lg_entry_eq]
  generalize (lg_sl ([.ref tg]) ++ List.replicate (1 - (lg_sl ([.ref tg])).length) Slot.unset).toArray = ls at hl ⊢
  have hl : lv_has ls 1 [(0, .ref tg)] := hl
  have hP : va_P (dC, dI) vwCl [(tg, .inr (5, [.int 4, .int 4, .ref e1, .ref e2, .ref e3, .int e4]))] s.heap := hP
  have hD : va_D A [(tg, .inr (5, [.int 4, .int 4, .ref e1, .ref e2, .ref e3, .int e4]))] := hD
  refine lv_aload_n hx hb dX1_requireThings_0 rfl (lv_at hl 0 rfl) ?_
  refine va_getN (D := (dC, dI)) (ci := 5) (v := .int 4) (C := RX0) (T := TX0) (N := 6) hx hb hts hi_X1_requireThings_X0 hown hK hP 0 rfl rfl 0 (by decide) (zn4 hZ) (fun _ h9 => h9) rfl dX1_requireThings_1 ?_
  refine lv_iconst (v := 4) hx hb dX1_requireThings_4 (by decide) ?_
  refine lv_icmp_eq (tgt := 19) hx hb dX1_requireThings_5 (by decide) (fun c9 => ?_) (fun c9 => ?_)
  rotate_left
  · exact absurd (by decide) c9
  have hP9 := hP.sub (ws' := [(tg, .inr (5, [.int 4, .int 4, .ref e1, .ref e2, .ref e3, .int e4]))]) [0] rfl
  have hD9 := hD.sub (ws' := [(tg, .inr (5, [.int 4, .int 4, .ref e1, .ref e2, .ref e3, .int e4]))]) [0] (by decide) rfl
  exact W.vret hx hb hr (fun t ht hW => ⟨⟨(), rfl, trivial, ⟨by rw [ht]; exact hP9, va_K.moved hW.alike hK, hD9, by rw [ht]; exact hz⟩⟩, hS.F ht⟩) hS.2.2 dX1_requireThings_19

set_option maxHeartbeats 4000000 in
set_option maxRecDepth 100000 in
theorem k_rqLs1 (l : Launch) (dC : Nat → ClassId) (dI : Nat → Nat → Nat) (cI cB cR cO : ClassId) (zk : Nat → Nat)  (sz : Nat)  : Met l yX1_requireLess wsX1_requireLess ({ frames := 0, cells := 0, slots := 0, locals := 0 }) (va_Pc [.int 0, .int 1] (zPre (dC, dI) (zT cI cB cR cO) zk [] [] sz)) (va_Qv (fun _ : Unit => True) (fun _ t => zEnd (dC, dI) (zT cI cB cR cO) (va_A [] sz) [] sz 0 t) (va_A [] sz)) 0 0 (va_A [] sz) := by
  refine Met.ofW (cc := cX1_requireLess) (maxL := 2) (ret := none) (by decide) rfl ?_
  intro p e s mY args below meth c s₁ B hml hv
  obtain ⟨rfl, hsz, hP, hK, hD0, hZ⟩ := hv
  have hx := B.exec
  have hb := B.bytes
  have hr := B.returns
  have hts := atoms_spec (ws := wsX1_requireLess) B.pre
  have hown : s.vm.findClass RX1 = some mY.cls := findClass_of_methodNamed B.named
  have hlocks := B.notSynchronized
  subst hsz
  have hD := hD0.self (sz := s.heap.size)
  generalize hAe : va_A [] s.heap.size = A at hD hZ ⊢
  have hA : ∀ q : Nat, s.heap.size ≤ q → A q := fun q h => by rw [← hAe]; exact Or.inr h
  have hS : va_S A s.heap s.heap [] := va_S.rf
  have hz : s.heap.size + 0 ≤ s.heap.size := Nat.le_refl _
  have hl := lv_entry ([.int 0, .int 1]) (n := 2) (Nat.le_of_ble_eq_true rfl)
  rw [lg_entry_eq]
  generalize (lg_sl ([.int 0, .int 1]) ++ List.replicate (2 - (lg_sl ([.int 0, .int 1])).length) Slot.unset).toArray = ls at hl ⊢
  have hl : lv_has ls 2 [(0, .int 0), (1, .int 1)] := hl
  have hP : va_P (dC, dI) vwCl [] s.heap := hP
  have hD : va_D A [] := hD
  refine lv_iload_n hx hb dX1_requireLess_0 rfl (lv_at hl 0 rfl) ?_
  refine lv_iload_n hx hb dX1_requireLess_1 rfl (lv_at hl 1 rfl) ?_
  refine lv_icmp_lt (tgt := 16) hx hb dX1_requireLess_2 (by decide) (fun c9 => ?_) (fun c9 => ?_)
  rotate_left
  · exact absurd (by decide) c9
  have hP9 := hP.sub (ws' := []) [] rfl
  have hD9 := hD.sub (ws' := []) [] (by decide) rfl
  exact W.vret hx hb hr (fun t ht hW => ⟨⟨(), rfl, trivial, ⟨by rw [ht]; exact hP9, va_K.moved hW.alike hK, hD9, by rw [ht]; exact hz⟩⟩, hS.F ht⟩) hS.2.2 dX1_requireLess_16

set_option maxHeartbeats 4000000 in
set_option maxRecDepth 100000 in
theorem k_rqLs2 (l : Launch) (dC : Nat → ClassId) (dI : Nat → Nat → Nat) (cI cB cR cO : ClassId) (zk : Nat → Nat)  (sz : Nat)  : Met l yX1_requireLess wsX1_requireLess ({ frames := 0, cells := 0, slots := 0, locals := 0 }) (va_Pc [.int 1, .int 2] (zPre (dC, dI) (zT cI cB cR cO) zk [] [] sz)) (va_Qv (fun _ : Unit => True) (fun _ t => zEnd (dC, dI) (zT cI cB cR cO) (va_A [] sz) [] sz 0 t) (va_A [] sz)) 0 0 (va_A [] sz) := by
  refine Met.ofW (cc := cX1_requireLess) (maxL := 2) (ret := none) (by decide) rfl ?_
  intro p e s mY args below meth c s₁ B hml hv
  obtain ⟨rfl, hsz, hP, hK, hD0, hZ⟩ := hv
  have hx := B.exec
  have hb := B.bytes
  have hr := B.returns
  have hts := atoms_spec (ws := wsX1_requireLess) B.pre
  have hown : s.vm.findClass RX1 = some mY.cls := findClass_of_methodNamed B.named
  have hlocks := B.notSynchronized
  subst hsz
  have hD := hD0.self (sz := s.heap.size)
  generalize hAe : va_A [] s.heap.size = A at hD hZ ⊢
  have hA : ∀ q : Nat, s.heap.size ≤ q → A q := fun q h => by rw [← hAe]; exact Or.inr h
  have hS : va_S A s.heap s.heap [] := va_S.rf
  have hz : s.heap.size + 0 ≤ s.heap.size := Nat.le_refl _
  have hl := lv_entry ([.int 1, .int 2]) (n := 2) (Nat.le_of_ble_eq_true rfl)
  rw [lg_entry_eq]
  generalize (lg_sl ([.int 1, .int 2]) ++ List.replicate (2 - (lg_sl ([.int 1, .int 2])).length) Slot.unset).toArray = ls at hl ⊢
  have hl : lv_has ls 2 [(0, .int 1), (1, .int 2)] := hl
  have hP : va_P (dC, dI) vwCl [] s.heap := hP
  have hD : va_D A [] := hD
  refine lv_iload_n hx hb dX1_requireLess_0 rfl (lv_at hl 0 rfl) ?_
  refine lv_iload_n hx hb dX1_requireLess_1 rfl (lv_at hl 1 rfl) ?_
  refine lv_icmp_lt (tgt := 16) hx hb dX1_requireLess_2 (by decide) (fun c9 => ?_) (fun c9 => ?_)
  rotate_left
  · exact absurd (by decide) c9
  have hP9 := hP.sub (ws' := []) [] rfl
  have hD9 := hD.sub (ws' := []) [] (by decide) rfl
  exact W.vret hx hb hr (fun t ht hW => ⟨⟨(), rfl, trivial, ⟨by rw [ht]; exact hP9, va_K.moved hW.alike hK, hD9, by rw [ht]; exact hz⟩⟩, hS.F ht⟩) hS.2.2 dX1_requireLess_16

set_option maxHeartbeats 4000000 in
set_option maxRecDepth 100000 in
theorem k_rqLs3 (l : Launch) (dC : Nat → ClassId) (dI : Nat → Nat → Nat) (cI cB cR cO : ClassId) (zk : Nat → Nat)  (sz : Nat)  : Met l yX1_requireLess wsX1_requireLess ({ frames := 0, cells := 0, slots := 0, locals := 0 }) (va_Pc [.int 2, .int 3] (zPre (dC, dI) (zT cI cB cR cO) zk [] [] sz)) (va_Qv (fun _ : Unit => True) (fun _ t => zEnd (dC, dI) (zT cI cB cR cO) (va_A [] sz) [] sz 0 t) (va_A [] sz)) 0 0 (va_A [] sz) := by
  refine Met.ofW (cc := cX1_requireLess) (maxL := 2) (ret := none) (by decide) rfl ?_
  intro p e s mY args below meth c s₁ B hml hv
  obtain ⟨rfl, hsz, hP, hK, hD0, hZ⟩ := hv
  have hx := B.exec
  have hb := B.bytes
  have hr := B.returns
  have hts := atoms_spec (ws := wsX1_requireLess) B.pre
  have hown : s.vm.findClass RX1 = some mY.cls := findClass_of_methodNamed B.named
  have hlocks := B.notSynchronized
  subst hsz
  have hD := hD0.self (sz := s.heap.size)
  generalize hAe : va_A [] s.heap.size = A at hD hZ ⊢
  have hA : ∀ q : Nat, s.heap.size ≤ q → A q := fun q h => by rw [← hAe]; exact Or.inr h
  have hS : va_S A s.heap s.heap [] := va_S.rf
  have hz : s.heap.size + 0 ≤ s.heap.size := Nat.le_refl _
  have hl := lv_entry ([.int 2, .int 3]) (n := 2) (Nat.le_of_ble_eq_true rfl)
  rw [lg_entry_eq]
  generalize (lg_sl ([.int 2, .int 3]) ++ List.replicate (2 - (lg_sl ([.int 2, .int 3])).length) Slot.unset).toArray = ls at hl ⊢
  have hl : lv_has ls 2 [(0, .int 2), (1, .int 3)] := hl
  have hP : va_P (dC, dI) vwCl [] s.heap := hP
  have hD : va_D A [] := hD
  refine lv_iload_n hx hb dX1_requireLess_0 rfl (lv_at hl 0 rfl) ?_
  refine lv_iload_n hx hb dX1_requireLess_1 rfl (lv_at hl 1 rfl) ?_
  refine lv_icmp_lt (tgt := 16) hx hb dX1_requireLess_2 (by decide) (fun c9 => ?_) (fun c9 => ?_)
  rotate_left
  · exact absurd (by decide) c9
  have hP9 := hP.sub (ws' := []) [] rfl
  have hD9 := hD.sub (ws' := []) [] (by decide) rfl
  exact W.vret hx hb hr (fun t ht hW => ⟨⟨(), rfl, trivial, ⟨by rw [ht]; exact hP9, va_K.moved hW.alike hK, hD9, by rw [ht]; exact hz⟩⟩, hS.F ht⟩) hS.2.2 dX1_requireLess_16
