theorem hi_X0_init_X0 : ∀ w ∈ u_ws RX0 TX0 6, w ∈ wsX0_init := fun w h => List.mem_cons_of_mem _ (zhi_X0 w h)
set_option maxHeartbeats 4000000 in
set_option maxRecDepth 100000 in
theorem k_rin4 (l : Launch) (dC : Nat → ClassId) (dI : Nat → Nat → Nat) (cI cB cR cO : ClassId) (zk : Nat → Nat) (a0 : Nat) (sz : Nat)  : Met l yX0_init wsX0_init ({ frames := 1, cells := 3, slots := 12, locals := 60 }) (va_Pc [.ref a0, .int 4, .int 4] (zPre (dC, dI) (zT cI cB cR cO) zk [] [(a0, .inr (5, [.int 0, .int 0, .null, .null, .null, .int 0]))] sz)) (va_Qv (fun _ : Unit => True) (fun _ t => ∃ w1, ∃ v1, ∃ h1, ∃ (gw : Nat → Int32), ∃ (gv : Nat → Int32), ∃ (gh : Nat → Option Nat), zEnd (dC, dI) (zT cI cB cR cO) (va_A [(a0, .inr (5, [.int 0, .int 0, .null, .null, .null, .int 0]))] sz) [(a0, .inr (5, [.int 4, .int 4, .ref w1, .ref v1, .ref h1, .int 0])), (w1, .inl (cI, 4, .inl gw)), (v1, .inl (cI, 4, .inl gv)), (h1, .inl (cR, 4, .inr (.inr (.inr (.inr gh)))))] sz 3 t ∧ (∀ i, i < 4 → gw i = 0) ∧ (∀ i, i < 4 → gh i = none)) (va_A [(a0, .inr (5, [.int 0, .int 0, .null, .null, .null, .int 0]))] sz)) 3 12 (va_A [(a0, .inr (5, [.int 0, .int 0, .null, .null, .null, .int 0]))] sz) := by
  refine Met.ofW (cc := cX0_init) (maxL := 4) (ret := none) (by decide) rfl ?_
  intro p e s mY args below meth c s₁ B hml hv
  obtain ⟨rfl, hsz, hP, hK, hD0, hZ⟩ := hv
  have hx := B.exec
  have hb := B.bytes
  have hr := B.returns
  have hts := atoms_spec (ws := wsX0_init) B.pre
  have hown : s.vm.findClass RX0 = some mY.cls := findClass_of_methodNamed B.named
  have hlocks := B.notSynchronized
  have hin : meth.name = "<init>" := (name_of_methodNamed B.named B.method).1
  subst hsz
  have hD := hD0.self (sz := s.heap.size)
  generalize hAe : va_A [(a0, .inr (5, [.int 0, .int 0, .null, .null, .null, .int 0]))] s.heap.size = A at hD hZ ⊢
  have hA : ∀ q : Nat, s.heap.size ≤ q → A q := fun q h => by rw [← hAe]; exact Or.inr h
  have hS : va_S A s.heap s.heap [] := va_S.rf
  have hz : s.heap.size + 0 ≤ s.heap.size := Nat.le_refl _
  have hl := lv_entry ([.ref a0, .int 4, .int 4]) (n := 4) (Nat.le_of_ble_eq_true rfl)
  rw [lg_entry_eq]
  generalize (lg_sl ([.ref a0, .int 4, .int 4]) ++ List.replicate (4 - (lg_sl ([.ref a0, .int 4, .int 4])).length) Slot.unset).toArray = ls at hl ⊢
  have hl : lv_has ls 4 [(0, .ref a0), (1, .int 4), (2, .int 4)] := hl
  have hP : va_P (dC, dI) vwCl [(a0, .inr (5, [.int 0, .int 0, .null, .null, .null, .int 0]))] s.heap := hP
  have hD : va_D A [(a0, .inr (5, [.int 0, .int 0, .null, .null, .null, .int 0]))] := hD
  refine lv_aload_n hx hb dX0_init_0 rfl (lv_at hl 0 rfl) ?_
  refine W.objInit hx hb hown (hts (.methodLink RX0 3 objectInit) (List.mem_cons_of_mem _ zw_110)) (hts (.instanceMethod objectInit) (List.mem_cons_of_mem _ zw_77)) (hts (.code objectInit ⟨#[0xb1]⟩ 1 none) (List.mem_cons_of_mem _ zw_78)) rfl (by rw [hml]; exact hl.1) rfl dX0_init_1 (Nat.le_of_ble_eq_true rfl) (Nat.le_of_ble_eq_true rfl) ?_
  refine W.eq (g2 := F0 mY 4 ls []) rfl ?_
  refine lv_aload_n hx hb dX0_init_4 rfl (lv_at hl 0 rfl) ?_
  refine lv_iload_n hx hb dX0_init_5 rfl (lv_at hl 1 rfl) ?_
  refine va_putF (D := (dC, dI)) (ci := 5) (v := .int 4) (ty := .int) (C := RX0) (T := TX0) (N := 6) hx hb hts hi_X0_init_X0 tyX0 tyX0_ok nmX0 hown hK hP hD (zS0 hS) 0 rfl rfl 0 (by decide) (hts (.fieldLink RX0 9 "Deeprows$Row" "kind" "I") (List.mem_cons_of_mem _ zw_113)) (fun _ h9 => h9) rfl hin rfl (by decide +kernel) rfl rfl (Nat.le_of_ble_eq_true rfl) dX0_init_6 (fun H1 locs hP hD hS1 => ?_)
  have hz : s.heap.size + 0 ≤ H1.size := Nat.le_trans hz hS1.1
  have hS := zSS hS hS1
  replace hP : va_P (dC, dI) vwCl [(a0, .inr (5, [.int 4, .int 0, .null, .null, .null, .int 0]))] H1 := hP
  replace hD : va_D A [(a0, .inr (5, [.int 4, .int 0, .null, .null, .null, .int 0]))] := hD
  refine lv_aload_n hx hb dX0_init_9 rfl (lv_at hl 0 rfl) ?_
  refine lv_iload_n hx hb dX0_init_10 rfl (lv_at hl 2 rfl) ?_
  refine va_putF (D := (dC, dI)) (ci := 5) (v := .int 4) (ty := .int) (C := RX0) (T := TX0) (N := 6) hx hb hts hi_X0_init_X0 tyX0 tyX0_ok nmX0 hown hK hP hD (zS0 hS) 0 rfl rfl 1 (by decide) (hts (.fieldLink RX0 15 "Deeprows$Row" "length" "I") (List.mem_cons_of_mem _ zw_115)) (fun _ h9 => h9) rfl hin rfl (by decide +kernel) rfl rfl (Nat.le_of_ble_eq_true rfl) dX0_init_11 (fun H2 locs hP hD hS1 => ?_)
  have hz : s.heap.size + 0 ≤ H2.size := Nat.le_trans hz hS1.1
  have hS := zSS hS hS1
  replace hP : va_P (dC, dI) vwCl [(a0, .inr (5, [.int 4, .int 4, .null, .null, .null, .int 0]))] H2 := hP
  replace hD : va_D A [(a0, .inr (5, [.int 4, .int 4, .null, .null, .null, .int 0]))] := hD
  refine lv_aload_n hx hb dX0_init_14 rfl (lv_at hl 0 rfl) ?_
  refine lv_iload_n hx hb dX0_init_15 rfl (lv_at hl 2 rfl) ?_
  refine zw_newa (atype := .int) (ty := .int) (N' := 4) hx hb (hts (.arrayClass .int) (List.mem_cons_of_mem _ zw_137)) rfl (by first | exact Or.inl rfl | exact Or.inr rfl) hK hP hD hS hA 0 rfl (by decide) (by decide) (Nat.le_of_ble_eq_true rfl) (Nat.le_of_ble_eq_true rfl) (Nat.le_of_ble_eq_true rfl) dX0_init_16 hz (fun q3 H4 hP hD hS hz => ?_)
  replace hP : va_P (dC, dI) vwCl [(a0, .inr (5, [.int 4, .int 4, .null, .null, .null, .int 0])), (q3, .inl (cI, 4, .inl (fun _ => 0)))] H4 := hP
  replace hD : va_D A [(a0, .inr (5, [.int 4, .int 4, .null, .null, .null, .int 0])), (q3, .inl (cI, 4, .inl (fun _ => 0)))] := hD
  refine W.widen (k := 1) (n := 4) (by omega) (by omega) ?_
  refine va_putF (D := (dC, dI)) (ci := 5) (v := .ref q3) (ty := .array .int) (C := RX0) (T := TX0) (N := 6) hx hb hts hi_X0_init_X0 tyX0 tyX0_ok nmX0 hown hK hP hD (zS0 hS) 0 rfl rfl 2 (by decide) (hts (.fieldLink RX0 18 "Deeprows$Row" "whats" "[I") (List.mem_cons_of_mem _ zw_117)) (fun _ h9 => h9) rfl hin rfl (by decide +kernel) rfl rfl (Nat.le_of_ble_eq_true rfl) dX0_init_18 (fun H5 locs hP hD hS1 => ?_)
  have hz : s.heap.size + 1 ≤ H5.size := Nat.le_trans hz hS1.1
  have hS := zSS hS hS1
  replace hP : va_P (dC, dI) vwCl [(a0, .inr (5, [.int 4, .int 4, .ref q3, .null, .null, .int 0])), (q3, .inl (cI, 4, .inl (fun _ => 0)))] H5 := hP
  replace hD : va_D A [(a0, .inr (5, [.int 4, .int 4, .ref q3, .null, .null, .int 0])), (q3, .inl (cI, 4, .inl (fun _ => 0)))] := hD
  refine lv_aload_n hx hb dX0_init_21 rfl (lv_at hl 0 rfl) ?_
  refine lv_iload_n hx hb dX0_init_22 rfl (lv_at hl 2 rfl) ?_
  refine zw_newa (atype := .int) (ty := .int) (N' := 4) hx hb (hts (.arrayClass .int) (List.mem_cons_of_mem _ zw_137)) rfl (by first | exact Or.inl rfl | exact Or.inr rfl) hK hP hD hS hA 0 rfl (by decide) (by decide) (Nat.le_of_ble_eq_true rfl) (Nat.le_of_ble_eq_true rfl) (Nat.le_of_ble_eq_true rfl) dX0_init_23 hz (fun q6 H7 hP hD hS hz => ?_)
  replace hP : va_P (dC, dI) vwCl [(a0, .inr (5, [.int 4, .int 4, .ref q3, .null, .null, .int 0])), (q3, .inl (cI, 4, .inl (fun _ => 0))), (q6, .inl (cI, 4, .inl (fun _ => 0)))] H7 := hP
  replace hD : va_D A [(a0, .inr (5, [.int 4, .int 4, .ref q3, .null, .null, .int 0])), (q3, .inl (cI, 4, .inl (fun _ => 0))), (q6, .inl (cI, 4, .inl (fun _ => 0)))] := hD
  refine W.widen (k := 2) (n := 8) (by omega) (by omega) ?_
  refine va_putF (D := (dC, dI)) (ci := 5) (v := .ref q6) (ty := .array .int) (C := RX0) (T := TX0) (N := 6) hx hb hts hi_X0_init_X0 tyX0 tyX0_ok nmX0 hown hK hP hD (zS0 hS) 0 rfl rfl 3 (by decide) (hts (.fieldLink RX0 22 "Deeprows$Row" "values" "[I") (List.mem_cons_of_mem _ zw_119)) (fun _ h9 => h9) rfl hin rfl (by decide +kernel) rfl rfl (Nat.le_of_ble_eq_true rfl) dX0_init_25 (fun H8 locs hP hD hS1 => ?_)
  have hz : s.heap.size + 2 ≤ H8.size := Nat.le_trans hz hS1.1
  have hS := zSS hS hS1
  replace hP : va_P (dC, dI) vwCl [(a0, .inr (5, [.int 4, .int 4, .ref q3, .ref q6, .null, .int 0])), (q3, .inl (cI, 4, .inl (fun _ => 0))), (q6, .inl (cI, 4, .inl (fun _ => 0)))] H8 := hP
  replace hD : va_D A [(a0, .inr (5, [.int 4, .int 4, .ref q3, .ref q6, .null, .int 0])), (q3, .inl (cI, 4, .inl (fun _ => 0))), (q6, .inl (cI, 4, .inl (fun _ => 0)))] := hD
  refine lv_aload_n hx hb dX0_init_28 rfl (lv_at hl 0 rfl) ?_
  refine lv_iload_n hx hb dX0_init_29 rfl (lv_at hl 2 rfl) ?_
  refine zw_newq (C := "Deeprows$Row") (N' := 4) hx hb hown (hts (.classLink RX0 10 RX0) (List.mem_cons_of_mem _ zw_111)) (za0 hZ) hK hP hD hS hA 2 rfl (by decide) (by decide) (by decide) (Nat.le_of_ble_eq_true rfl) (Nat.le_of_ble_eq_true rfl) dX0_init_30 hz (fun q9 H10 hP hD hS hz => ?_)
  replace hP : va_P (dC, dI) vwCl [(a0, .inr (5, [.int 4, .int 4, .ref q3, .ref q6, .null, .int 0])), (q3, .inl (cI, 4, .inl (fun _ => 0))), (q6, .inl (cI, 4, .inl (fun _ => 0))), (q9, .inl (cR, 4, .inr (.inr (.inr (.inr (fun _ => none))))))] H10 := hP
  replace hD : va_D A [(a0, .inr (5, [.int 4, .int 4, .ref q3, .ref q6, .null, .int 0])), (q3, .inl (cI, 4, .inl (fun _ => 0))), (q6, .inl (cI, 4, .inl (fun _ => 0))), (q9, .inl (cR, 4, .inr (.inr (.inr (.inr (fun _ => none))))))] := hD
  refine W.widen (k := 3) (n := 12) (by omega) (by omega) ?_
  refine va_putF (D := (dC, dI)) (ci := 5) (v := .ref q9) (ty := .array (.object "Deeprows$Row")) (C := RX0) (T := TX0) (N := 6) hx hb hts hi_X0_init_X0 tyX0 tyX0_ok nmX0 hown hK hP hD (zS0 hS) 0 rfl rfl 4 (by decide) (hts (.fieldLink RX0 25 "Deeprows$Row" "hung" "[LDeeprows$Row;") (List.mem_cons_of_mem _ zw_121)) (fun _ h9 => h9) rfl hin rfl (by decide +kernel) rfl rfl (Nat.le_of_ble_eq_true rfl) dX0_init_33 (fun H11 locs hP hD hS1 => ?_)
  have hz : s.heap.size + 3 ≤ H11.size := Nat.le_trans hz hS1.1
  have hS := zSS hS hS1
  replace hP : va_P (dC, dI) vwCl [(a0, .inr (5, [.int 4, .int 4, .ref q3, .ref q6, .ref q9, .int 0])), (q3, .inl (cI, 4, .inl (fun _ => 0))), (q6, .inl (cI, 4, .inl (fun _ => 0))), (q9, .inl (cR, 4, .inr (.inr (.inr (.inr (fun _ => none))))))] H11 := hP
  replace hD : va_D A [(a0, .inr (5, [.int 4, .int 4, .ref q3, .ref q6, .ref q9, .int 0])), (q3, .inl (cI, 4, .inl (fun _ => 0))), (q6, .inl (cI, 4, .inl (fun _ => 0))), (q9, .inl (cR, 4, .inr (.inr (.inr (.inr (fun _ => none))))))] := hD
  refine lv_iconst (v := 0) hx hb dX0_init_36 (by decide) ?_
  refine lv_istore_n (lv' := [(3, .int 0), (0, .ref a0), (1, .int 4), (2, .int 4)]) hx hb dX0_init_37 rfl hl (by decide) rfl (fun ls hl => ?_)
  refine lv_iload_n hx hb dX0_init_38 rfl (lv_at hl 0 rfl) ?_
  refine lv_iload_n hx hb dX0_init_39 rfl (lv_at hl 3 rfl) ?_
  refine lv_icmp_ge (tgt := 81) hx hb dX0_init_40 (by decide) (fun c9 => ?_) (fun c9 => ?_)
  · exact absurd c9 (by decide)
  refine lv_aload_n hx hb dX0_init_43 rfl (lv_at hl 1 rfl) ?_
  refine va_get (D := (dC, dI)) (ci := 5) (v := .ref q3) (C := RX0) (T := TX0) (N := 6) hx hb hts hi_X0_init_X0 hown hK hP 0 rfl rfl 2 (by decide) (hts (.fieldLink RX0 18 "Deeprows$Row" "whats" "[I") (List.mem_cons_of_mem _ zw_117)) (fun _ h9 => h9) rfl dX0_init_44 ?_
  refine lv_iload_n hx hb dX0_init_47 rfl (lv_at hl 0 rfl) ?_
  refine lv_iload_n hx hb dX0_init_48 rfl (lv_at hl 2 rfl) ?_
  refine lv_iconst (v := 4) hx hb dX0_init_49 (by decide) ?_
  refine lv_icmp_ne (tgt := 57) hx hb dX0_init_50 (by decide) (fun c9 => ?_) (fun c9 => ?_)
  · exact absurd (by decide) c9
  refine lv_iconst (v := 0) hx hb dX0_init_53 (by decide) ?_
  refine lv_goto (tgt := 58) hx hb dX0_init_54 (by decide) ?_
  refine va_iast (D := (dC, dI)) (cl := vwCl) hx hb hK hP hD (zS0 hS) 1 0 rfl rfl (by unfold vp_in; decide) dX0_init_58 (fun H12 locs hP hD hS1 => ?_)
  have hz : s.heap.size + 3 ≤ H12.size := Nat.le_trans hz hS1.1
  have hS := zSS hS hS1
  replace hP : va_P (dC, dI) vwCl [(a0, .inr (5, [.int 4, .int 4, .ref q3, .ref q6, .ref q9, .int 0])), (q3, .inl (cI, 4, .inl (upd (fun _ => 0) 0 0))), (q6, .inl (cI, 4, .inl (fun _ => 0))), (q9, .inl (cR, 4, .inr (.inr (.inr (.inr (fun _ => none))))))] H12 := hP
  replace hD : va_D A [(a0, .inr (5, [.int 4, .int 4, .ref q3, .ref q6, .ref q9, .int 0])), (q3, .inl (cI, 4, .inl (upd (fun _ => 0) 0 0))), (q6, .inl (cI, 4, .inl (fun _ => 0))), (q9, .inl (cR, 4, .inr (.inr (.inr (.inr (fun _ => none))))))] := hD
  refine lv_aload_n hx hb dX0_init_59 rfl (lv_at hl 1 rfl) ?_
  refine va_get (D := (dC, dI)) (ci := 5) (v := .ref q6) (C := RX0) (T := TX0) (N := 6) hx hb hts hi_X0_init_X0 hown hK hP 0 rfl rfl 3 (by decide) (hts (.fieldLink RX0 22 "Deeprows$Row" "values" "[I") (List.mem_cons_of_mem _ zw_119)) (fun _ h9 => h9) rfl dX0_init_60 ?_
  refine lv_iload_n hx hb dX0_init_63 rfl (lv_at hl 0 rfl) ?_
  refine lv_iload_n hx hb dX0_init_64 rfl (lv_at hl 2 rfl) ?_
  refine lv_iconst (v := 4) hx hb dX0_init_65 (by decide) ?_
  refine lv_icmp_ne (tgt := 73) hx hb dX0_init_66 (by decide) (fun c9 => ?_) (fun c9 => ?_)
  · exact absurd (by decide) c9
  refine lv_iconst (v := (-1)) hx hb dX0_init_69 (by decide) ?_
  refine lv_goto (tgt := 74) hx hb dX0_init_70 (by decide) ?_
  refine va_iast (D := (dC, dI)) (cl := vwCl) hx hb hK hP hD (zS0 hS) 2 0 rfl rfl (by unfold vp_in; decide) dX0_init_74 (fun H13 locs hP hD hS1 => ?_)
  have hz : s.heap.size + 3 ≤ H13.size := Nat.le_trans hz hS1.1
  have hS := zSS hS hS1
  replace hP : va_P (dC, dI) vwCl [(a0, .inr (5, [.int 4, .int 4, .ref q3, .ref q6, .ref q9, .int 0])), (q3, .inl (cI, 4, .inl (upd (fun _ => 0) 0 0))), (q6, .inl (cI, 4, .inl (upd (fun _ => 0) 0 (-1)))), (q9, .inl (cR, 4, .inr (.inr (.inr (.inr (fun _ => none))))))] H13 := hP
  replace hD : va_D A [(a0, .inr (5, [.int 4, .int 4, .ref q3, .ref q6, .ref q9, .int 0])), (q3, .inl (cI, 4, .inl (upd (fun _ => 0) 0 0))), (q6, .inl (cI, 4, .inl (upd (fun _ => 0) 0 (-1)))), (q9, .inl (cR, 4, .inr (.inr (.inr (.inr (fun _ => none))))))] := hD
  refine lv_iinc (v := 1) (lv' := [(3, .int 1), (0, .ref a0), (1, .int 4), (2, .int 4)]) hx hb dX0_init_75 hl (k := 0) rfl (by decide) (by decide) rfl (fun ls hl => ?_)
  refine lv_goto (tgt := 38) hx hb dX0_init_78 (by decide) ?_
  refine lv_iload_n hx hb dX0_init_38 rfl (lv_at hl 0 rfl) ?_
  refine lv_iload_n hx hb dX0_init_39 rfl (lv_at hl 3 rfl) ?_
  refine lv_icmp_ge (tgt := 81) hx hb dX0_init_40 (by decide) (fun c9 => ?_) (fun c9 => ?_)
  · exact absurd c9 (by decide)
  refine lv_aload_n hx hb dX0_init_43 rfl (lv_at hl 1 rfl) ?_
  refine va_get (D := (dC, dI)) (ci := 5) (v := .ref q3) (C := RX0) (T := TX0) (N := 6) hx hb hts hi_X0_init_X0 hown hK hP 0 rfl rfl 2 (by decide) (hts (.fieldLink RX0 18 "Deeprows$Row" "whats" "[I") (List.mem_cons_of_mem _ zw_117)) (fun _ h9 => h9) rfl dX0_init_44 ?_
  refine lv_iload_n hx hb dX0_init_47 rfl (lv_at hl 0 rfl) ?_
  refine lv_iload_n hx hb dX0_init_48 rfl (lv_at hl 2 rfl) ?_
  refine lv_iconst (v := 4) hx hb dX0_init_49 (by decide) ?_
  refine lv_icmp_ne (tgt := 57) hx hb dX0_init_50 (by decide) (fun c9 => ?_) (fun c9 => ?_)
  · exact absurd (by decide) c9
  refine lv_iconst (v := 0) hx hb dX0_init_53 (by decide) ?_
  refine lv_goto (tgt := 58) hx hb dX0_init_54 (by decide) ?_
  refine va_iast (D := (dC, dI)) (cl := vwCl) hx hb hK hP hD (zS0 hS) 1 0 rfl rfl (by unfold vp_in; decide) dX0_init_58 (fun H14 locs hP hD hS1 => ?_)
  have hz : s.heap.size + 3 ≤ H14.size := Nat.le_trans hz hS1.1
  have hS := zSS hS hS1
  replace hP : va_P (dC, dI) vwCl [(a0, .inr (5, [.int 4, .int 4, .ref q3, .ref q6, .ref q9, .int 0])), (q3, .inl (cI, 4, .inl (upd (upd (fun _ => 0) 0 0) 1 0))), (q6, .inl (cI, 4, .inl (upd (fun _ => 0) 0 (-1)))), (q9, .inl (cR, 4, .inr (.inr (.inr (.inr (fun _ => none))))))] H14 := hP
  replace hD : va_D A [(a0, .inr (5, [.int 4, .int 4, .ref q3, .ref q6, .ref q9, .int 0])), (q3, .inl (cI, 4, .inl (upd (upd (fun _ => 0) 0 0) 1 0))), (q6, .inl (cI, 4, .inl (upd (fun _ => 0) 0 (-1)))), (q9, .inl (cR, 4, .inr (.inr (.inr (.inr (fun _ => none))))))] := hD
  refine lv_aload_n hx hb dX0_init_59 rfl (lv_at hl 1 rfl) ?_
  refine va_get (D := (dC, dI)) (ci := 5) (v := .ref q6) (C := RX0) (T := TX0) (N := 6) hx hb hts hi_X0_init_X0 hown hK hP 0 rfl rfl 3 (by decide) (hts (.fieldLink RX0 22 "Deeprows$Row" "values" "[I") (List.mem_cons_of_mem _ zw_119)) (fun _ h9 => h9) rfl dX0_init_60 ?_
  refine lv_iload_n hx hb dX0_init_63 rfl (lv_at hl 0 rfl) ?_
  refine lv_iload_n hx hb dX0_init_64 rfl (lv_at hl 2 rfl) ?_
  refine lv_iconst (v := 4) hx hb dX0_init_65 (by decide) ?_
  refine lv_icmp_ne (tgt := 73) hx hb dX0_init_66 (by decide) (fun c9 => ?_) (fun c9 => ?_)
  · exact absurd (by decide) c9
  refine lv_iconst (v := (-1)) hx hb dX0_init_69 (by decide) ?_
  refine lv_goto (tgt := 74) hx hb dX0_init_70 (by decide) ?_
  refine va_iast (D := (dC, dI)) (cl := vwCl) hx hb hK hP hD (zS0 hS) 2 0 rfl rfl (by unfold vp_in; decide) dX0_init_74 (fun H15 locs hP hD hS1 => ?_)
  have hz : s.heap.size + 3 ≤ H15.size := Nat.le_trans hz hS1.1
  have hS := zSS hS hS1
  replace hP : va_P (dC, dI) vwCl [(a0, .inr (5, [.int 4, .int 4, .ref q3, .ref q6, .ref q9, .int 0])), (q3, .inl (cI, 4, .inl (upd (upd (fun _ => 0) 0 0) 1 0))), (q6, .inl (cI, 4, .inl (upd (upd (fun _ => 0) 0 (-1)) 1 (-1)))), (q9, .inl (cR, 4, .inr (.inr (.inr (.inr (fun _ => none))))))] H15 := hP
  replace hD : va_D A [(a0, .inr (5, [.int 4, .int 4, .ref q3, .ref q6, .ref q9, .int 0])), (q3, .inl (cI, 4, .inl (upd (upd (fun _ => 0) 0 0) 1 0))), (q6, .inl (cI, 4, .inl (upd (upd (fun _ => 0) 0 (-1)) 1 (-1)))), (q9, .inl (cR, 4, .inr (.inr (.inr (.inr (fun _ => none))))))] := hD
  refine lv_iinc (v := 2) (lv' := [(3, .int 2), (0, .ref a0), (1, .int 4), (2, .int 4)]) hx hb dX0_init_75 hl (k := 0) rfl (by decide) (by decide) rfl (fun ls hl => ?_)
  refine lv_goto (tgt := 38) hx hb dX0_init_78 (by decide) ?_
  refine lv_iload_n hx hb dX0_init_38 rfl (lv_at hl 0 rfl) ?_
  refine lv_iload_n hx hb dX0_init_39 rfl (lv_at hl 3 rfl) ?_
  refine lv_icmp_ge (tgt := 81) hx hb dX0_init_40 (by decide) (fun c9 => ?_) (fun c9 => ?_)
  · exact absurd c9 (by decide)
  refine lv_aload_n hx hb dX0_init_43 rfl (lv_at hl 1 rfl) ?_
  refine va_get (D := (dC, dI)) (ci := 5) (v := .ref q3) (C := RX0) (T := TX0) (N := 6) hx hb hts hi_X0_init_X0 hown hK hP 0 rfl rfl 2 (by decide) (hts (.fieldLink RX0 18 "Deeprows$Row" "whats" "[I") (List.mem_cons_of_mem _ zw_117)) (fun _ h9 => h9) rfl dX0_init_44 ?_
  refine lv_iload_n hx hb dX0_init_47 rfl (lv_at hl 0 rfl) ?_
  refine lv_iload_n hx hb dX0_init_48 rfl (lv_at hl 2 rfl) ?_
  refine lv_iconst (v := 4) hx hb dX0_init_49 (by decide) ?_
  refine lv_icmp_ne (tgt := 57) hx hb dX0_init_50 (by decide) (fun c9 => ?_) (fun c9 => ?_)
  · exact absurd (by decide) c9
  refine lv_iconst (v := 0) hx hb dX0_init_53 (by decide) ?_
  refine lv_goto (tgt := 58) hx hb dX0_init_54 (by decide) ?_
  refine va_iast (D := (dC, dI)) (cl := vwCl) hx hb hK hP hD (zS0 hS) 1 0 rfl rfl (by unfold vp_in; decide) dX0_init_58 (fun H16 locs hP hD hS1 => ?_)
  have hz : s.heap.size + 3 ≤ H16.size := Nat.le_trans hz hS1.1
  have hS := zSS hS hS1
  replace hP : va_P (dC, dI) vwCl [(a0, .inr (5, [.int 4, .int 4, .ref q3, .ref q6, .ref q9, .int 0])), (q3, .inl (cI, 4, .inl (upd (upd (upd (fun _ => 0) 0 0) 1 0) 2 0))), (q6, .inl (cI, 4, .inl (upd (upd (fun _ => 0) 0 (-1)) 1 (-1)))), (q9, .inl (cR, 4, .inr (.inr (.inr (.inr (fun _ => none))))))] H16 := hP
  replace hD : va_D A [(a0, .inr (5, [.int 4, .int 4, .ref q3, .ref q6, .ref q9, .int 0])), (q3, .inl (cI, 4, .inl (upd (upd (upd (fun _ => 0) 0 0) 1 0) 2 0))), (q6, .inl (cI, 4, .inl (upd (upd (fun _ => 0) 0 (-1)) 1 (-1)))), (q9, .inl (cR, 4, .inr (.inr (.inr (.inr (fun _ => none))))))] := hD
  refine lv_aload_n hx hb dX0_init_59 rfl (lv_at hl 1 rfl) ?_
  refine va_get (D := (dC, dI)) (ci := 5) (v := .ref q6) (C := RX0) (T := TX0) (N := 6) hx hb hts hi_X0_init_X0 hown hK hP 0 rfl rfl 3 (by decide) (hts (.fieldLink RX0 22 "Deeprows$Row" "values" "[I") (List.mem_cons_of_mem _ zw_119)) (fun _ h9 => h9) rfl dX0_init_60 ?_
  refine lv_iload_n hx hb dX0_init_63 rfl (lv_at hl 0 rfl) ?_
  refine lv_iload_n hx hb dX0_init_64 rfl (lv_at hl 2 rfl) ?_
  refine lv_iconst (v := 4) hx hb dX0_init_65 (by decide) ?_
  refine lv_icmp_ne (tgt := 73) hx hb dX0_init_66 (by decide) (fun c9 => ?_) (fun c9 => ?_)
  · exact absurd (by decide) c9
  refine lv_iconst (v := (-1)) hx hb dX0_init_69 (by decide) ?_
  refine lv_goto (tgt := 74) hx hb dX0_init_70 (by decide) ?_
  refine va_iast (D := (dC, dI)) (cl := vwCl) hx hb hK hP hD (zS0 hS) 2 0 rfl rfl (by unfold vp_in; decide) dX0_init_74 (fun H17 locs hP hD hS1 => ?_)
  have hz : s.heap.size + 3 ≤ H17.size := Nat.le_trans hz hS1.1
  have hS := zSS hS hS1
  replace hP : va_P (dC, dI) vwCl [(a0, .inr (5, [.int 4, .int 4, .ref q3, .ref q6, .ref q9, .int 0])), (q3, .inl (cI, 4, .inl (upd (upd (upd (fun _ => 0) 0 0) 1 0) 2 0))), (q6, .inl (cI, 4, .inl (upd (upd (upd (fun _ => 0) 0 (-1)) 1 (-1)) 2 (-1)))), (q9, .inl (cR, 4, .inr (.inr (.inr (.inr (fun _ => none))))))] H17 := hP
  replace hD : va_D A [(a0, .inr (5, [.int 4, .int 4, .ref q3, .ref q6, .ref q9, .int 0])), (q3, .inl (cI, 4, .inl (upd (upd (upd (fun _ => 0) 0 0) 1 0) 2 0))), (q6, .inl (cI, 4, .inl (upd (upd (upd (fun _ => 0) 0 (-1)) 1 (-1)) 2 (-1)))), (q9, .inl (cR, 4, .inr (.inr (.inr (.inr (fun _ => none))))))] := hD
  refine lv_iinc (v := 3) (lv' := [(3, .int 3), (0, .ref a0), (1, .int 4), (2, .int 4)]) hx hb dX0_init_75 hl (k := 0) rfl (by decide) (by decide) rfl (fun ls hl => ?_)
  refine lv_goto (tgt := 38) hx hb dX0_init_78 (by decide) ?_
  refine lv_iload_n hx hb dX0_init_38 rfl (lv_at hl 0 rfl) ?_
  refine lv_iload_n hx hb dX0_init_39 rfl (lv_at hl 3 rfl) ?_
  refine lv_icmp_ge (tgt := 81) hx hb dX0_init_40 (by decide) (fun c9 => ?_) (fun c9 => ?_)
  · exact absurd c9 (by decide)
  refine lv_aload_n hx hb dX0_init_43 rfl (lv_at hl 1 rfl) ?_
  refine va_get (D := (dC, dI)) (ci := 5) (v := .ref q3) (C := RX0) (T := TX0) (N := 6) hx hb hts hi_X0_init_X0 hown hK hP 0 rfl rfl 2 (by decide) (hts (.fieldLink RX0 18 "Deeprows$Row" "whats" "[I") (List.mem_cons_of_mem _ zw_117)) (fun _ h9 => h9) rfl dX0_init_44 ?_
  refine lv_iload_n hx hb dX0_init_47 rfl (lv_at hl 0 rfl) ?_
  refine lv_iload_n hx hb dX0_init_48 rfl (lv_at hl 2 rfl) ?_
  refine lv_iconst (v := 4) hx hb dX0_init_49 (by decide) ?_
  refine lv_icmp_ne (tgt := 57) hx hb dX0_init_50 (by decide) (fun c9 => ?_) (fun c9 => ?_)
  · exact absurd (by decide) c9
  refine lv_iconst (v := 0) hx hb dX0_init_53 (by decide) ?_
  refine lv_goto (tgt := 58) hx hb dX0_init_54 (by decide) ?_
  refine va_iast (D := (dC, dI)) (cl := vwCl) hx hb hK hP hD (zS0 hS) 1 0 rfl rfl (by unfold vp_in; decide) dX0_init_58 (fun H18 locs hP hD hS1 => ?_)
  have hz : s.heap.size + 3 ≤ H18.size := Nat.le_trans hz hS1.1
  have hS := zSS hS hS1
  replace hP : va_P (dC, dI) vwCl [(a0, .inr (5, [.int 4, .int 4, .ref q3, .ref q6, .ref q9, .int 0])), (q3, .inl (cI, 4, .inl (upd (upd (upd (upd (fun _ => 0) 0 0) 1 0) 2 0) 3 0))), (q6, .inl (cI, 4, .inl (upd (upd (upd (fun _ => 0) 0 (-1)) 1 (-1)) 2 (-1)))), (q9, .inl (cR, 4, .inr (.inr (.inr (.inr (fun _ => none))))))] H18 := hP
  replace hD : va_D A [(a0, .inr (5, [.int 4, .int 4, .ref q3, .ref q6, .ref q9, .int 0])), (q3, .inl (cI, 4, .inl (upd (upd (upd (upd (fun _ => 0) 0 0) 1 0) 2 0) 3 0))), (q6, .inl (cI, 4, .inl (upd (upd (upd (fun _ => 0) 0 (-1)) 1 (-1)) 2 (-1)))), (q9, .inl (cR, 4, .inr (.inr (.inr (.inr (fun _ => none))))))] := hD
  refine lv_aload_n hx hb dX0_init_59 rfl (lv_at hl 1 rfl) ?_
  refine va_get (D := (dC, dI)) (ci := 5) (v := .ref q6) (C := RX0) (T := TX0) (N := 6) hx hb hts hi_X0_init_X0 hown hK hP 0 rfl rfl 3 (by decide) (hts (.fieldLink RX0 22 "Deeprows$Row" "values" "[I") (List.mem_cons_of_mem _ zw_119)) (fun _ h9 => h9) rfl dX0_init_60 ?_
  refine lv_iload_n hx hb dX0_init_63 rfl (lv_at hl 0 rfl) ?_
  refine lv_iload_n hx hb dX0_init_64 rfl (lv_at hl 2 rfl) ?_
  refine lv_iconst (v := 4) hx hb dX0_init_65 (by decide) ?_
  refine lv_icmp_ne (tgt := 73) hx hb dX0_init_66 (by decide) (fun c9 => ?_) (fun c9 => ?_)
  · exact absurd (by decide) c9
  refine lv_iconst (v := (-1)) hx hb dX0_init_69 (by decide) ?_
  refine lv_goto (tgt := 74) hx hb dX0_init_70 (by decide) ?_
  refine va_iast (D := (dC, dI)) (cl := vwCl) hx hb hK hP hD (zS0 hS) 2 0 rfl rfl (by unfold vp_in; decide) dX0_init_74 (fun H19 locs hP hD hS1 => ?_)
  have hz : s.heap.size + 3 ≤ H19.size := Nat.le_trans hz hS1.1
  have hS := zSS hS hS1
  replace hP : va_P (dC, dI) vwCl [(a0, .inr (5, [.int 4, .int 4, .ref q3, .ref q6, .ref q9, .int 0])), (q3, .inl (cI, 4, .inl (upd (upd (upd (upd (fun _ => 0) 0 0) 1 0) 2 0) 3 0))), (q6, .inl (cI, 4, .inl (upd (upd (upd (upd (fun _ => 0) 0 (-1)) 1 (-1)) 2 (-1)) 3 (-1)))), (q9, .inl (cR, 4, .inr (.inr (.inr (.inr (fun _ => none))))))] H19 := hP
  replace hD : va_D A [(a0, .inr (5, [.int 4, .int 4, .ref q3, .ref q6, .ref q9, .int 0])), (q3, .inl (cI, 4, .inl (upd (upd (upd (upd (fun _ => 0) 0 0) 1 0) 2 0) 3 0))), (q6, .inl (cI, 4, .inl (upd (upd (upd (upd (fun _ => 0) 0 (-1)) 1 (-1)) 2 (-1)) 3 (-1)))), (q9, .inl (cR, 4, .inr (.inr (.inr (.inr (fun _ => none))))))] := hD
  refine lv_iinc (v := 4) (lv' := [(3, .int 4), (0, .ref a0), (1, .int 4), (2, .int 4)]) hx hb dX0_init_75 hl (k := 0) rfl (by decide) (by decide) rfl (fun ls hl => ?_)
  refine lv_goto (tgt := 38) hx hb dX0_init_78 (by decide) ?_
  refine lv_iload_n hx hb dX0_init_38 rfl (lv_at hl 0 rfl) ?_
  refine lv_iload_n hx hb dX0_init_39 rfl (lv_at hl 3 rfl) ?_
  refine lv_icmp_ge (tgt := 81) hx hb dX0_init_40 (by decide) (fun c9 => ?_) (fun c9 => ?_)
  rotate_left
  · exact absurd (by decide) c9
  have hP9 := hP.sub (ws' := [(a0, .inr (5, [.int 4, .int 4, .ref q3, .ref q6, .ref q9, .int 0])), (q3, .inl (cI, 4, .inl (upd (upd (upd (upd (fun _ => 0) 0 0) 1 0) 2 0) 3 0))), (q6, .inl (cI, 4, .inl (upd (upd (upd (upd (fun _ => 0) 0 (-1)) 1 (-1)) 2 (-1)) 3 (-1)))), (q9, .inl (cR, 4, .inr (.inr (.inr (.inr (fun _ => none))))))]) [0, 1, 2, 3] rfl
  have hD9 := hD.sub (ws' := [(a0, .inr (5, [.int 4, .int 4, .ref q3, .ref q6, .ref q9, .int 0])), (q3, .inl (cI, 4, .inl (upd (upd (upd (upd (fun _ => 0) 0 0) 1 0) 2 0) 3 0))), (q6, .inl (cI, 4, .inl (upd (upd (upd (upd (fun _ => 0) 0 (-1)) 1 (-1)) 2 (-1)) 3 (-1)))), (q9, .inl (cR, 4, .inr (.inr (.inr (.inr (fun _ => none))))))]) [0, 1, 2, 3] (by decide) rfl
  exact W.vret hx hb hr (fun t ht hW => ⟨⟨(), rfl, trivial, ⟨_, _, _, _, _, _, ⟨by rw [ht]; exact hP9, va_K.moved hW.alike hK, hD9, by rw [ht]; exact hz⟩, fun i hi => by rcases (show i = 0 ∨ i = 1 ∨ i = 2 ∨ i = 3 by omega) with rfl | rfl | rfl | rfl <;> rfl, fun i hi => rfl⟩⟩, hS.F ht⟩) hS.2.2 dX0_init_81

set_option maxHeartbeats 4000000 in
set_option maxRecDepth 100000 in
theorem k_rin1 (l : Launch) (dC : Nat → ClassId) (dI : Nat → Nat → Nat) (cI cB cR cO : ClassId) (zk : Nat → Nat) (a0 : Nat) (sz : Nat)  : Met l yX0_init wsX0_init ({ frames := 1, cells := 3, slots := 3, locals := 60 }) (va_Pc [.ref a0, .int 4, .int 1] (zPre (dC, dI) (zT cI cB cR cO) zk [] [(a0, .inr (5, [.int 0, .int 0, .null, .null, .null, .int 0]))] sz)) (va_Qv (fun _ : Unit => True) (fun _ t => ∃ w1, ∃ v1, ∃ h1, ∃ (gw : Nat → Int32), ∃ (gv : Nat → Int32), ∃ (gh : Nat → Option Nat), zEnd (dC, dI) (zT cI cB cR cO) (va_A [(a0, .inr (5, [.int 0, .int 0, .null, .null, .null, .int 0]))] sz) [(a0, .inr (5, [.int 4, .int 1, .ref w1, .ref v1, .ref h1, .int 0])), (w1, .inl (cI, 1, .inl gw)), (v1, .inl (cI, 1, .inl gv)), (h1, .inl (cR, 1, .inr (.inr (.inr (.inr gh)))))] sz 3 t ∧ (∀ i, i < 1 → gw i = 0) ∧ (∀ i, i < 1 → gh i = none)) (va_A [(a0, .inr (5, [.int 0, .int 0, .null, .null, .null, .int 0]))] sz)) 3 3 (va_A [(a0, .inr (5, [.int 0, .int 0, .null, .null, .null, .int 0]))] sz) := by
  refine Met.ofW (cc := cX0_init) (maxL := 4) (ret := none) (by decide) rfl ?_
  intro p e s mY args below meth c s₁ B hml hv
  obtain ⟨rfl, hsz, hP, hK, hD0, hZ⟩ := hv
  have hx := B.exec
  have hb := B.bytes
  have hr := B.returns
  have hts := atoms_spec (ws := wsX0_init) B.pre
  have hown : s.vm.findClass RX0 = some mY.cls := findClass_of_methodNamed B.named
  have hlocks := B.notSynchronized
  have hin : meth.name = "<init>" := (name_of_methodNamed B.named B.method).1
  subst hsz
  have hD := hD0.self (sz := s.heap.size)
  generalize hAe : va_A [(a0, .inr (5, [.int 0, .int 0, .null, .null, .null, .int 0]))] s.heap.size = A at hD hZ ⊢
  have hA : ∀ q : Nat, s.heap.size ≤ q → A q := fun q h => by rw [← hAe]; exact Or.inr h
  have hS : va_S A s.heap s.heap [] := va_S.rf
  have hz : s.heap.size + 0 ≤ s.heap.size := Nat.le_refl _
  have hl := lv_entry ([.ref a0, .int 4, .int 1]) (n := 4) (Nat.le_of_ble_eq_true rfl)
  rw [lg_entry_eq]
  generalize (lg_sl ([.ref a0, .int 4, .int 1]) ++ List.replicate (4 - (lg_sl ([.ref a0, .int 4, .int 1])).length) Slot.unset).toArray = ls at hl ⊢
  have hl : lv_has ls 4 [(0, .ref a0), (1, .int 4), (2, .int 1)] := hl
  have hP : va_P (dC, dI) vwCl [(a0, .inr (5, [.int 0, .int 0, .null, .null, .null, .int 0]))] s.heap := hP
  have hD : va_D A [(a0, .inr (5, [.int 0, .int 0, .null, .null, .null, .int 0]))] := hD
  refine lv_aload_n hx hb dX0_init_0 rfl (lv_at hl 0 rfl) ?_
  refine W.objInit hx hb hown (hts (.methodLink RX0 3 objectInit) (List.mem_cons_of_mem _ zw_110)) (hts (.instanceMethod objectInit) (List.mem_cons_of_mem _ zw_77)) (hts (.code objectInit ⟨#[0xb1]⟩ 1 none) (List.mem_cons_of_mem _ zw_78)) rfl (by rw [hml]; exact hl.1) rfl dX0_init_1 (Nat.le_of_ble_eq_true rfl) (Nat.le_of_ble_eq_true rfl) ?_
  refine W.eq (g2 := F0 mY 4 ls []) rfl ?_
  refine lv_aload_n hx hb dX0_init_4 rfl (lv_at hl 0 rfl) ?_
  refine lv_iload_n hx hb dX0_init_5 rfl (lv_at hl 1 rfl) ?_
  refine va_putF (D := (dC, dI)) (ci := 5) (v := .int 4) (ty := .int) (C := RX0) (T := TX0) (N := 6) hx hb hts hi_X0_init_X0 tyX0 tyX0_ok nmX0 hown hK hP hD (zS0 hS) 0 rfl rfl 0 (by decide) (hts (.fieldLink RX0 9 "Deeprows$Row" "kind" "I") (List.mem_cons_of_mem _ zw_113)) (fun _ h9 => h9) rfl hin rfl (by decide +kernel) rfl rfl (Nat.le_of_ble_eq_true rfl) dX0_init_6 (fun H1 locs hP hD hS1 => ?_)
  have hz : s.heap.size + 0 ≤ H1.size := Nat.le_trans hz hS1.1
  have hS := zSS hS hS1
  replace hP : va_P (dC, dI) vwCl [(a0, .inr (5, [.int 4, .int 0, .null, .null, .null, .int 0]))] H1 := hP
  replace hD : va_D A [(a0, .inr (5, [.int 4, .int 0, .null, .null, .null, .int 0]))] := hD
  refine lv_aload_n hx hb dX0_init_9 rfl (lv_at hl 0 rfl) ?_
  refine lv_iload_n hx hb dX0_init_10 rfl (lv_at hl 2 rfl) ?_
  refine va_putF (D := (dC, dI)) (ci := 5) (v := .int 1) (ty := .int) (C := RX0) (T := TX0) (N := 6) hx hb hts hi_X0_init_X0 tyX0 tyX0_ok nmX0 hown hK hP hD (zS0 hS) 0 rfl rfl 1 (by decide) (hts (.fieldLink RX0 15 "Deeprows$Row" "length" "I") (List.mem_cons_of_mem _ zw_115)) (fun _ h9 => h9) rfl hin rfl (by decide +kernel) rfl rfl (Nat.le_of_ble_eq_true rfl) dX0_init_11 (fun H2 locs hP hD hS1 => ?_)
  have hz : s.heap.size + 0 ≤ H2.size := Nat.le_trans hz hS1.1
  have hS := zSS hS hS1
  replace hP : va_P (dC, dI) vwCl [(a0, .inr (5, [.int 4, .int 1, .null, .null, .null, .int 0]))] H2 := hP
  replace hD : va_D A [(a0, .inr (5, [.int 4, .int 1, .null, .null, .null, .int 0]))] := hD
  refine lv_aload_n hx hb dX0_init_14 rfl (lv_at hl 0 rfl) ?_
  refine lv_iload_n hx hb dX0_init_15 rfl (lv_at hl 2 rfl) ?_
  refine zw_newa (atype := .int) (ty := .int) (N' := 1) hx hb (hts (.arrayClass .int) (List.mem_cons_of_mem _ zw_137)) rfl (by first | exact Or.inl rfl | exact Or.inr rfl) hK hP hD hS hA 0 rfl (by decide) (by decide) (Nat.le_of_ble_eq_true rfl) (Nat.le_of_ble_eq_true rfl) (Nat.le_of_ble_eq_true rfl) dX0_init_16 hz (fun q3 H4 hP hD hS hz => ?_)
  replace hP : va_P (dC, dI) vwCl [(a0, .inr (5, [.int 4, .int 1, .null, .null, .null, .int 0])), (q3, .inl (cI, 1, .inl (fun _ => 0)))] H4 := hP
  replace hD : va_D A [(a0, .inr (5, [.int 4, .int 1, .null, .null, .null, .int 0])), (q3, .inl (cI, 1, .inl (fun _ => 0)))] := hD
  refine W.widen (k := 1) (n := 1) (by omega) (by omega) ?_
  refine va_putF (D := (dC, dI)) (ci := 5) (v := .ref q3) (ty := .array .int) (C := RX0) (T := TX0) (N := 6) hx hb hts hi_X0_init_X0 tyX0 tyX0_ok nmX0 hown hK hP hD (zS0 hS) 0 rfl rfl 2 (by decide) (hts (.fieldLink RX0 18 "Deeprows$Row" "whats" "[I") (List.mem_cons_of_mem _ zw_117)) (fun _ h9 => h9) rfl hin rfl (by decide +kernel) rfl rfl (Nat.le_of_ble_eq_true rfl) dX0_init_18 (fun H5 locs hP hD hS1 => ?_)
  have hz : s.heap.size + 1 ≤ H5.size := Nat.le_trans hz hS1.1
  have hS := zSS hS hS1
  replace hP : va_P (dC, dI) vwCl [(a0, .inr (5, [.int 4, .int 1, .ref q3, .null, .null, .int 0])), (q3, .inl (cI, 1, .inl (fun _ => 0)))] H5 := hP
  replace hD : va_D A [(a0, .inr (5, [.int 4, .int 1, .ref q3, .null, .null, .int 0])), (q3, .inl (cI, 1, .inl (fun _ => 0)))] := hD
  refine lv_aload_n hx hb dX0_init_21 rfl (lv_at hl 0 rfl) ?_
  refine lv_iload_n hx hb dX0_init_22 rfl (lv_at hl 2 rfl) ?_
  refine zw_newa (atype := .int) (ty := .int) (N' := 1) hx hb (hts (.arrayClass .int) (List.mem_cons_of_mem _ zw_137)) rfl (by first | exact Or.inl rfl | exact Or.inr rfl) hK hP hD hS hA 0 rfl (by decide) (by decide) (Nat.le_of_ble_eq_true rfl) (Nat.le_of_ble_eq_true rfl) (Nat.le_of_ble_eq_true rfl) dX0_init_23 hz (fun q6 H7 hP hD hS hz => ?_)
  replace hP : va_P (dC, dI) vwCl [(a0, .inr (5, [.int 4, .int 1, .ref q3, .null, .null, .int 0])), (q3, .inl (cI, 1, .inl (fun _ => 0))), (q6, .inl (cI, 1, .inl (fun _ => 0)))] H7 := hP
  replace hD : va_D A [(a0, .inr (5, [.int 4, .int 1, .ref q3, .null, .null, .int 0])), (q3, .inl (cI, 1, .inl (fun _ => 0))), (q6, .inl (cI, 1, .inl (fun _ => 0)))] := hD
  refine W.widen (k := 2) (n := 2) (by omega) (by omega) ?_
  refine va_putF (D := (dC, dI)) (ci := 5) (v := .ref q6) (ty := .array .int) (C := RX0) (T := TX0) (N := 6) hx hb hts hi_X0_init_X0 tyX0 tyX0_ok nmX0 hown hK hP hD (zS0 hS) 0 rfl rfl 3 (by decide) (hts (.fieldLink RX0 22 "Deeprows$Row" "values" "[I") (List.mem_cons_of_mem _ zw_119)) (fun _ h9 => h9) rfl hin rfl (by decide +kernel) rfl rfl (Nat.le_of_ble_eq_true rfl) dX0_init_25 (fun H8 locs hP hD hS1 => ?_)
  have hz : s.heap.size + 2 ≤ H8.size := Nat.le_trans hz hS1.1
  have hS := zSS hS hS1
  replace hP : va_P (dC, dI) vwCl [(a0, .inr (5, [.int 4, .int 1, .ref q3, .ref q6, .null, .int 0])), (q3, .inl (cI, 1, .inl (fun _ => 0))), (q6, .inl (cI, 1, .inl (fun _ => 0)))] H8 := hP
  replace hD : va_D A [(a0, .inr (5, [.int 4, .int 1, .ref q3, .ref q6, .null, .int 0])), (q3, .inl (cI, 1, .inl (fun _ => 0))), (q6, .inl (cI, 1, .inl (fun _ => 0)))] := hD
  refine lv_aload_n hx hb dX0_init_28 rfl (lv_at hl 0 rfl) ?_
  refine lv_iload_n hx hb dX0_init_29 rfl (lv_at hl 2 rfl) ?_
  refine zw_newq (C := "Deeprows$Row") (N' := 1) hx hb hown (hts (.classLink RX0 10 RX0) (List.mem_cons_of_mem _ zw_111)) (za0 hZ) hK hP hD hS hA 2 rfl (by decide) (by decide) (by decide) (Nat.le_of_ble_eq_true rfl) (Nat.le_of_ble_eq_true rfl) dX0_init_30 hz (fun q9 H10 hP hD hS hz => ?_)
  replace hP : va_P (dC, dI) vwCl [(a0, .inr (5, [.int 4, .int 1, .ref q3, .ref q6, .null, .int 0])), (q3, .inl (cI, 1, .inl (fun _ => 0))), (q6, .inl (cI, 1, .inl (fun _ => 0))), (q9, .inl (cR, 1, .inr (.inr (.inr (.inr (fun _ => none))))))] H10 := hP
  replace hD : va_D A [(a0, .inr (5, [.int 4, .int 1, .ref q3, .ref q6, .null, .int 0])), (q3, .inl (cI, 1, .inl (fun _ => 0))), (q6, .inl (cI, 1, .inl (fun _ => 0))), (q9, .inl (cR, 1, .inr (.inr (.inr (.inr (fun _ => none))))))] := hD
  refine W.widen (k := 3) (n := 3) (by omega) (by omega) ?_
  refine va_putF (D := (dC, dI)) (ci := 5) (v := .ref q9) (ty := .array (.object "Deeprows$Row")) (C := RX0) (T := TX0) (N := 6) hx hb hts hi_X0_init_X0 tyX0 tyX0_ok nmX0 hown hK hP hD (zS0 hS) 0 rfl rfl 4 (by decide) (hts (.fieldLink RX0 25 "Deeprows$Row" "hung" "[LDeeprows$Row;") (List.mem_cons_of_mem _ zw_121)) (fun _ h9 => h9) rfl hin rfl (by decide +kernel) rfl rfl (Nat.le_of_ble_eq_true rfl) dX0_init_33 (fun H11 locs hP hD hS1 => ?_)
  have hz : s.heap.size + 3 ≤ H11.size := Nat.le_trans hz hS1.1
  have hS := zSS hS hS1
  replace hP : va_P (dC, dI) vwCl [(a0, .inr (5, [.int 4, .int 1, .ref q3, .ref q6, .ref q9, .int 0])), (q3, .inl (cI, 1, .inl (fun _ => 0))), (q6, .inl (cI, 1, .inl (fun _ => 0))), (q9, .inl (cR, 1, .inr (.inr (.inr (.inr (fun _ => none))))))] H11 := hP
  replace hD : va_D A [(a0, .inr (5, [.int 4, .int 1, .ref q3, .ref q6, .ref q9, .int 0])), (q3, .inl (cI, 1, .inl (fun _ => 0))), (q6, .inl (cI, 1, .inl (fun _ => 0))), (q9, .inl (cR, 1, .inr (.inr (.inr (.inr (fun _ => none))))))] := hD
  refine lv_iconst (v := 0) hx hb dX0_init_36 (by decide) ?_
  refine lv_istore_n (lv' := [(3, .int 0), (0, .ref a0), (1, .int 4), (2, .int 1)]) hx hb dX0_init_37 rfl hl (by decide) rfl (fun ls hl => ?_)
  refine lv_iload_n hx hb dX0_init_38 rfl (lv_at hl 0 rfl) ?_
  refine lv_iload_n hx hb dX0_init_39 rfl (lv_at hl 3 rfl) ?_
  refine lv_icmp_ge (tgt := 81) hx hb dX0_init_40 (by decide) (fun c9 => ?_) (fun c9 => ?_)
  · exact absurd c9 (by decide)
  refine lv_aload_n hx hb dX0_init_43 rfl (lv_at hl 1 rfl) ?_
  refine va_get (D := (dC, dI)) (ci := 5) (v := .ref q3) (C := RX0) (T := TX0) (N := 6) hx hb hts hi_X0_init_X0 hown hK hP 0 rfl rfl 2 (by decide) (hts (.fieldLink RX0 18 "Deeprows$Row" "whats" "[I") (List.mem_cons_of_mem _ zw_117)) (fun _ h9 => h9) rfl dX0_init_44 ?_
  refine lv_iload_n hx hb dX0_init_47 rfl (lv_at hl 0 rfl) ?_
  refine lv_iload_n hx hb dX0_init_48 rfl (lv_at hl 2 rfl) ?_
  refine lv_iconst (v := 4) hx hb dX0_init_49 (by decide) ?_
  refine lv_icmp_ne (tgt := 57) hx hb dX0_init_50 (by decide) (fun c9 => ?_) (fun c9 => ?_)
  · exact absurd (by decide) c9
  refine lv_iconst (v := 0) hx hb dX0_init_53 (by decide) ?_
  refine lv_goto (tgt := 58) hx hb dX0_init_54 (by decide) ?_
  refine va_iast (D := (dC, dI)) (cl := vwCl) hx hb hK hP hD (zS0 hS) 1 0 rfl rfl (by unfold vp_in; decide) dX0_init_58 (fun H12 locs hP hD hS1 => ?_)
  have hz : s.heap.size + 3 ≤ H12.size := Nat.le_trans hz hS1.1
  have hS := zSS hS hS1
  replace hP : va_P (dC, dI) vwCl [(a0, .inr (5, [.int 4, .int 1, .ref q3, .ref q6, .ref q9, .int 0])), (q3, .inl (cI, 1, .inl (upd (fun _ => 0) 0 0))), (q6, .inl (cI, 1, .inl (fun _ => 0))), (q9, .inl (cR, 1, .inr (.inr (.inr (.inr (fun _ => none))))))] H12 := hP
  replace hD : va_D A [(a0, .inr (5, [.int 4, .int 1, .ref q3, .ref q6, .ref q9, .int 0])), (q3, .inl (cI, 1, .inl (upd (fun _ => 0) 0 0))), (q6, .inl (cI, 1, .inl (fun _ => 0))), (q9, .inl (cR, 1, .inr (.inr (.inr (.inr (fun _ => none))))))] := hD
  refine lv_aload_n hx hb dX0_init_59 rfl (lv_at hl 1 rfl) ?_
  refine va_get (D := (dC, dI)) (ci := 5) (v := .ref q6) (C := RX0) (T := TX0) (N := 6) hx hb hts hi_X0_init_X0 hown hK hP 0 rfl rfl 3 (by decide) (hts (.fieldLink RX0 22 "Deeprows$Row" "values" "[I") (List.mem_cons_of_mem _ zw_119)) (fun _ h9 => h9) rfl dX0_init_60 ?_
  refine lv_iload_n hx hb dX0_init_63 rfl (lv_at hl 0 rfl) ?_
  refine lv_iload_n hx hb dX0_init_64 rfl (lv_at hl 2 rfl) ?_
  refine lv_iconst (v := 4) hx hb dX0_init_65 (by decide) ?_
  refine lv_icmp_ne (tgt := 73) hx hb dX0_init_66 (by decide) (fun c9 => ?_) (fun c9 => ?_)
  · exact absurd (by decide) c9
  refine lv_iconst (v := (-1)) hx hb dX0_init_69 (by decide) ?_
  refine lv_goto (tgt := 74) hx hb dX0_init_70 (by decide) ?_
  refine va_iast (D := (dC, dI)) (cl := vwCl) hx hb hK hP hD (zS0 hS) 2 0 rfl rfl (by unfold vp_in; decide) dX0_init_74 (fun H13 locs hP hD hS1 => ?_)
  have hz : s.heap.size + 3 ≤ H13.size := Nat.le_trans hz hS1.1
  have hS := zSS hS hS1
  replace hP : va_P (dC, dI) vwCl [(a0, .inr (5, [.int 4, .int 1, .ref q3, .ref q6, .ref q9, .int 0])), (q3, .inl (cI, 1, .inl (upd (fun _ => 0) 0 0))), (q6, .inl (cI, 1, .inl (upd (fun _ => 0) 0 (-1)))), (q9, .inl (cR, 1, .inr (.inr (.inr (.inr (fun _ => none))))))] H13 := hP
  replace hD : va_D A [(a0, .inr (5, [.int 4, .int 1, .ref q3, .ref q6, .ref q9, .int 0])), (q3, .inl (cI, 1, .inl (upd (fun _ => 0) 0 0))), (q6, .inl (cI, 1, .inl (upd (fun _ => 0) 0 (-1)))), (q9, .inl (cR, 1, .inr (.inr (.inr (.inr (fun _ => none))))))] := hD
  refine lv_iinc (v := 1) (lv' := [(3, .int 1), (0, .ref a0), (1, .int 4), (2, .int 1)]) hx hb dX0_init_75 hl (k := 0) rfl (by decide) (by decide) rfl (fun ls hl => ?_)
  refine lv_goto (tgt := 38) hx hb dX0_init_78 (by decide) ?_
  refine lv_iload_n hx hb dX0_init_38 rfl (lv_at hl 0 rfl) ?_
  refine lv_iload_n hx hb dX0_init_39 rfl (lv_at hl 3 rfl) ?_
  refine lv_icmp_ge (tgt := 81) hx hb dX0_init_40 (by decide) (fun c9 => ?_) (fun c9 => ?_)
  rotate_left
  · exact absurd (by decide) c9
  have hP9 := hP.sub (ws' := [(a0, .inr (5, [.int 4, .int 1, .ref q3, .ref q6, .ref q9, .int 0])), (q3, .inl (cI, 1, .inl (upd (fun _ => 0) 0 0))), (q6, .inl (cI, 1, .inl (upd (fun _ => 0) 0 (-1)))), (q9, .inl (cR, 1, .inr (.inr (.inr (.inr (fun _ => none))))))]) [0, 1, 2, 3] rfl
  have hD9 := hD.sub (ws' := [(a0, .inr (5, [.int 4, .int 1, .ref q3, .ref q6, .ref q9, .int 0])), (q3, .inl (cI, 1, .inl (upd (fun _ => 0) 0 0))), (q6, .inl (cI, 1, .inl (upd (fun _ => 0) 0 (-1)))), (q9, .inl (cR, 1, .inr (.inr (.inr (.inr (fun _ => none))))))]) [0, 1, 2, 3] (by decide) rfl
  exact W.vret hx hb hr (fun t ht hW => ⟨⟨(), rfl, trivial, ⟨_, _, _, _, _, _, ⟨by rw [ht]; exact hP9, va_K.moved hW.alike hK, hD9, by rw [ht]; exact hz⟩, fun i hi => by rw [show i = 0 by omega]; rfl, fun i hi => rfl⟩⟩, hS.F ht⟩) hS.2.2 dX0_init_81

set_option maxHeartbeats 4000000 in
set_option maxRecDepth 100000 in
theorem k_ac (l : Launch) (dC : Nat → ClassId) (dI : Nat → Nat → Nat) (cI cB cR cO : ClassId) (zk : Nat → Nat) (al : Nat) (sz : Nat)  : Met l yJxa1e45_init_da8c8 wsJxa1e45_init_da8c8 ({ frames := 1, cells := 0, slots := 0, locals := 60 }) (va_Pc [.ref al] (zPre (dC, dI) (zT cI cB cR cO) zk [] [(al, .inr (4, [.int 0, .null, .int 0]))] sz)) (va_Qv (fun _ : Unit => True) (fun _ t => zEnd (dC, dI) (zT cI cB cR cO) (va_A [(al, .inr (4, [.int 0, .null, .int 0]))] sz) [(al, .inr (4, [.int 0, .null, .int 0]))] sz 0 t) (va_A [(al, .inr (4, [.int 0, .null, .int 0]))] sz)) 0 0 (va_A [(al, .inr (4, [.int 0, .null, .int 0]))] sz) := by
  refine Met.ofW (cc := cJxa1e45_init_da8c8) (maxL := 1) (ret := none) (by decide) rfl ?_
  intro p e s mY args below meth c s₁ B hml hv
  obtain ⟨rfl, hsz, hP, hK, hD0, hZ⟩ := hv
  have hx := B.exec
  have hb := B.bytes
  have hr := B.returns
  have hts := atoms_spec (ws := wsJxa1e45_init_da8c8) B.pre
  have hown : s.vm.findClass RJxa1e45 = some mY.cls := findClass_of_methodNamed B.named
  have hlocks := B.notSynchronized
  have hin : meth.name = "<init>" := (name_of_methodNamed B.named B.method).1
  subst hsz
  have hD := hD0.self (sz := s.heap.size)
  generalize hAe : va_A [(al, .inr (4, [.int 0, .null, .int 0]))] s.heap.size = A at hD hZ ⊢
  have hA : ∀ q : Nat, s.heap.size ≤ q → A q := fun q h => by rw [← hAe]; exact Or.inr h
  have hS : va_S A s.heap s.heap [] := va_S.rf
  have hz : s.heap.size + 0 ≤ s.heap.size := Nat.le_refl _
  have hl := lv_entry ([.ref al]) (n := 1) (Nat.le_of_ble_eq_true rfl)
  rw [lg_entry_eq]
  generalize (lg_sl ([.ref al]) ++ List.replicate (1 - (lg_sl ([.ref al])).length) Slot.unset).toArray = ls at hl ⊢
  have hl : lv_has ls 1 [(0, .ref al)] := hl
  have hP : va_P (dC, dI) vwCl [(al, .inr (4, [.int 0, .null, .int 0]))] s.heap := hP
  have hD : va_D A [(al, .inr (4, [.int 0, .null, .int 0]))] := hD
  refine lv_aload_n hx hb dJxa1e45_init_da8c8_0 rfl (lv_at hl 0 rfl) ?_
  refine W.objInit hx hb hown (hts (.methodLink RJxa1e45 1 objectInit) (List.mem_cons_of_mem _ zw_90)) (hts (.instanceMethod objectInit) (List.mem_cons_of_mem _ zw_77)) (hts (.code objectInit ⟨#[0xb1]⟩ 1 none) (List.mem_cons_of_mem _ zw_78)) rfl (by rw [hml]; exact hl.1) rfl dJxa1e45_init_da8c8_1 (Nat.le_of_ble_eq_true rfl) (Nat.le_of_ble_eq_true rfl) ?_
  refine W.eq (g2 := F0 mY 4 ls []) rfl ?_
  have hP9 := hP.sub (ws' := [(al, .inr (4, [.int 0, .null, .int 0]))]) [0] rfl
  have hD9 := hD.sub (ws' := [(al, .inr (4, [.int 0, .null, .int 0]))]) [0] (by decide) rfl
  exact W.vret hx hb hr (fun t ht hW => ⟨⟨(), rfl, trivial, ⟨by rw [ht]; exact hP9, va_K.moved hW.alike hK, hD9, by rw [ht]; exact hz⟩⟩, hS.F ht⟩) hS.2.2 dJxa1e45_init_da8c8_4

theorem hi_Jxc12de_init_da8c8_Jx4a65c : ∀ w ∈ u_ws RJx4a65c TJx4a65c 3, w ∈ wsJxc12de_init_da8c8 := fun w h => List.mem_cons_of_mem _ (zhi_Jx4a65c w h)
set_option maxHeartbeats 4000000 in
set_option maxRecDepth 100000 in
theorem k_abl (l : Launch) (dC : Nat → ClassId) (dI : Nat → Nat → Nat) (cI cB cR cO : ClassId) (zk : Nat → Nat) (al : Nat) (sz : Nat)  : Met l yJxc12de_init_da8c8 wsJxc12de_init_da8c8 ({ frames := 2, cells := 0, slots := 0, locals := 80 }) (va_Pc [.ref al] (zPre (dC, dI) (zT cI cB cR cO) zk [] [(al, .inr (4, [.int 0, .null, .int 0]))] sz)) (va_Qv (fun _ : Unit => True) (fun _ t => zEnd (dC, dI) (zT cI cB cR cO) (va_A [(al, .inr (4, [.int 0, .null, .int 0]))] sz) [(al, .inr (4, [.int 0, .null, .int 0]))] sz 0 t) (va_A [(al, .inr (4, [.int 0, .null, .int 0]))] sz)) 0 0 (va_A [(al, .inr (4, [.int 0, .null, .int 0]))] sz) := by
  refine Met.ofW (cc := cJxc12de_init_da8c8) (maxL := 1) (ret := none) (by decide) rfl ?_
  intro p e s mY args below meth c s₁ B hml hv
  obtain ⟨rfl, hsz, hP, hK, hD0, hZ⟩ := hv
  have hx := B.exec
  have hb := B.bytes
  have hr := B.returns
  have hts := atoms_spec (ws := wsJxc12de_init_da8c8) B.pre
  have hown : s.vm.findClass RJxc12de = some mY.cls := findClass_of_methodNamed B.named
  have hlocks := B.notSynchronized
  have hin : meth.name = "<init>" := (name_of_methodNamed B.named B.method).1
  subst hsz
  have hD := hD0.self (sz := s.heap.size)
  generalize hAe : va_A [(al, .inr (4, [.int 0, .null, .int 0]))] s.heap.size = A at hD hZ ⊢
  have hA : ∀ q : Nat, s.heap.size ≤ q → A q := fun q h => by rw [← hAe]; exact Or.inr h
  have hS : va_S A s.heap s.heap [] := va_S.rf
  have hz : s.heap.size + 0 ≤ s.heap.size := Nat.le_refl _
  have hl := lv_entry ([.ref al]) (n := 1) (Nat.le_of_ble_eq_true rfl)
  rw [lg_entry_eq]
  generalize (lg_sl ([.ref al]) ++ List.replicate (1 - (lg_sl ([.ref al])).length) Slot.unset).toArray = ls at hl ⊢
  have hl : lv_has ls 1 [(0, .ref al)] := hl
  have hP : va_P (dC, dI) vwCl [(al, .inr (4, [.int 0, .null, .int 0]))] s.heap := hP
  have hD : va_D A [(al, .inr (4, [.int 0, .null, .int 0]))] := hD
  refine lv_aload_n hx hb dJxc12de_init_da8c8_0 rfl (lv_at hl 0 rfl) ?_
  have hPc := hP.sub (ws' := [(al, .inr (4, [.int 0, .null, .int 0]))]) [0] rfl
  have hDc := hD.sub (ws' := [(al, .inr (4, [.int 0, .null, .int 0]))]) [0] (by decide) rfl
  have hFc := va_free (wc := [(al, .inr (4, [.int 0, .null, .int 0]))]) hD hS hA [0] rfl
  have hDv := hDc.self (sz := s.heap.size)
  have hpre := zpre (xs' := []) (av := [.ref al]) hPc hK (hDc.weaken (fun _ _ _ h => h)) hZ hS hFc (fun r hr => by cases hr)
  refine va_callv (va_runI (As := []) (rest := []) ⟨hx, hb, hml, hown, hts⟩ (k_ac l dC dI cI cB cR cO zk al s.heap.size ) (cwI 0 hts gJxc12de_init_da8c8_Jxa1e45_init_da8c8 rfl rfl rfl (hts (.initialized RJxa1e45) (List.mem_cons_of_mem _ zw_42)) (hts (.methodLink RJxc12de 1 yJxa1e45_init_da8c8) (List.mem_cons_of_mem _ zw_87)) (hts (.instanceMethod yJxa1e45_init_da8c8) (List.mem_cons_of_mem _ zw_88)) rfl (by decide +kernel) ⟨Nat.le_of_ble_eq_true rfl, Nat.le_of_ble_eq_true rfl⟩) ⟨zblind, hpre⟩ rfl rfl hl.1 rfl (lv_room (Nat.le_of_ble_eq_true rfl)) dJxc12de_init_da8c8_1 ⟨Nat.le_of_ble_eq_true rfl, Nat.le_of_ble_eq_true rfl⟩) hS (fun q _ h => hFc q h) hFc (fun u t H1 locs ht hvm hw hB hz1 hk1 hS => ?_)
  obtain ⟨hP1, hK1, hD1, hz2⟩ := hB
  rw [ht] at hP1 hz2
  have hPD9 := va_join (wr := []) (w1 := [(al, .inr (4, [.int 0, .null, .int 0]))]) hP hD [0] [] rfl rfl (by decide) (by decide) hk1 hFc hP1 hD1
  clear hPc hDc hFc hDv hpre hP hD hP1 hK1 hD1
  obtain ⟨hP, hD⟩ := hPD9
  replace hz : s.heap.size + 0 ≤ H1.size := by omega
  clear hz2
  replace hP : va_P (dC, dI) vwCl [(al, .inr (4, [.int 0, .null, .int 0]))] H1 := hP
  replace hD : va_D A [(al, .inr (4, [.int 0, .null, .int 0]))] := hD
  refine W.widen (k := 0) (n := 0) (by omega) (by omega) ?_
  refine lv_aload_n hx hb dJxc12de_init_da8c8_4 rfl (lv_at hl 0 rfl) ?_
  refine lv_iconst (v := 0) hx hb dJxc12de_init_da8c8_5 (by decide) ?_
  refine va_put (D := (dC, dI)) (ci := 4) (v := .int 0) (ty := .int) (C := RJx4a65c) (T := TJx4a65c) (N := 3) hx hb hts hi_Jxc12de_init_da8c8_Jx4a65c tyJx4a65c tyJx4a65c_ok nmJx4a65c hown hK hP hD (zS0 hS) 0 rfl rfl 0 (by decide) (hts (.fieldLink RJxc12de 7 "java/util/AbstractList" "modCount" "I") (List.mem_cons_of_mem _ zw_95)) (fun _ h9 => h9) rfl (by decide +kernel) rfl rfl (Nat.le_of_ble_eq_true rfl) dJxc12de_init_da8c8_6 (fun H3 locs hP hD hS1 => ?_)
  have hz : s.heap.size + 0 ≤ H3.size := Nat.le_trans hz hS1.1
  have hS := zSS hS hS1
  replace hP : va_P (dC, dI) vwCl [(al, .inr (4, [.int 0, .null, .int 0]))] H3 := hP
  replace hD : va_D A [(al, .inr (4, [.int 0, .null, .int 0]))] := hD
  have hP9 := hP.sub (ws' := [(al, .inr (4, [.int 0, .null, .int 0]))]) [0] rfl
  have hD9 := hD.sub (ws' := [(al, .inr (4, [.int 0, .null, .int 0]))]) [0] (by decide) rfl
  exact W.vret hx hb hr (fun t ht hW => ⟨⟨(), rfl, trivial, ⟨by rw [ht]; exact hP9, va_K.moved hW.alike hK, hD9, by rw [ht]; exact hz⟩⟩, hS.F ht⟩) hS.2.2 dJxc12de_init_da8c8_9

theorem hi_Jx4a65c_init_da8c8_Jx4a65c : ∀ w ∈ u_ws RJx4a65c TJx4a65c 3, w ∈ wsJx4a65c_init_da8c8 := fun w h => List.mem_cons_of_mem _ (zhi_Jx4a65c w h)
set_option maxHeartbeats 4000000 in
set_option maxRecDepth 100000 in
theorem k_alin (l : Launch) (dC : Nat → ClassId) (dI : Nat → Nat → Nat) (cI cB cR cO : ClassId) (zk : Nat → Nat) (al : Nat) (sz : Nat)  : Met l yJx4a65c_init_da8c8 wsJx4a65c_init_da8c8 ({ frames := 3, cells := 0, slots := 0, locals := 100 }) (va_Pc [.ref al] (zPre (dC, dI) (zT cI cB cR cO) zk [] [(al, .inr (4, [.int 0, .null, .int 0]))] sz)) (va_Qv (fun _ : Unit => True) (fun _ t => zEnd (dC, dI) (zT cI cB cR cO) (va_A [(al, .inr (4, [.int 0, .null, .int 0]))] sz) [(al, .inr (4, [.int 0, .ref (zk 0), .int 0]))] sz 0 t) (va_A [(al, .inr (4, [.int 0, .null, .int 0]))] sz)) 0 0 (va_A [(al, .inr (4, [.int 0, .null, .int 0]))] sz) := by
  refine Met.ofW (cc := cJx4a65c_init_da8c8) (maxL := 1) (ret := none) (by decide) rfl ?_
  intro p e s mY args below meth c s₁ B hml hv
  obtain ⟨rfl, hsz, hP, hK, hD0, hZ⟩ := hv
  have hx := B.exec
  have hb := B.bytes
  have hr := B.returns
  have hts := atoms_spec (ws := wsJx4a65c_init_da8c8) B.pre
  have hown : s.vm.findClass RJx4a65c = some mY.cls := findClass_of_methodNamed B.named
  have hlocks := B.notSynchronized
  have hin : meth.name = "<init>" := (name_of_methodNamed B.named B.method).1
  subst hsz
  have hD := hD0.self (sz := s.heap.size)
  generalize hAe : va_A [(al, .inr (4, [.int 0, .null, .int 0]))] s.heap.size = A at hD hZ ⊢
  have hA : ∀ q : Nat, s.heap.size ≤ q → A q := fun q h => by rw [← hAe]; exact Or.inr h
  have hS : va_S A s.heap s.heap [] := va_S.rf
  have hz : s.heap.size + 0 ≤ s.heap.size := Nat.le_refl _
  have hl := lv_entry ([.ref al]) (n := 1) (Nat.le_of_ble_eq_true rfl)
  rw [lg_entry_eq]
  generalize (lg_sl ([.ref al]) ++ List.replicate (1 - (lg_sl ([.ref al])).length) Slot.unset).toArray = ls at hl ⊢
  have hl : lv_has ls 1 [(0, .ref al)] := hl
  have hP : va_P (dC, dI) vwCl [(al, .inr (4, [.int 0, .null, .int 0]))] s.heap := hP
  have hD : va_D A [(al, .inr (4, [.int 0, .null, .int 0]))] := hD
  refine lv_aload_n hx hb dJx4a65c_init_da8c8_0 rfl (lv_at hl 0 rfl) ?_
  have hPc := hP.sub (ws' := [(al, .inr (4, [.int 0, .null, .int 0]))]) [0] rfl
  have hDc := hD.sub (ws' := [(al, .inr (4, [.int 0, .null, .int 0]))]) [0] (by decide) rfl
  have hFc := va_free (wc := [(al, .inr (4, [.int 0, .null, .int 0]))]) hD hS hA [0] rfl
  have hDv := hDc.self (sz := s.heap.size)
  have hpre := zpre (xs' := []) (av := [.ref al]) hPc hK (hDc.weaken (fun _ _ _ h => h)) hZ hS hFc (fun r hr => by cases hr)
  refine va_callv (va_runI (As := []) (rest := []) ⟨hx, hb, hml, hown, hts⟩ (k_abl l dC dI cI cB cR cO zk al s.heap.size ) (cwI 0 hts gJx4a65c_init_da8c8_Jxc12de_init_da8c8 rfl rfl rfl (hts (.initialized RJxc12de) (List.mem_cons_of_mem _ zw_43)) (hts (.methodLink RJx4a65c 1 yJxc12de_init_da8c8) (List.mem_cons_of_mem _ zw_84)) (hts (.instanceMethod yJxc12de_init_da8c8) (List.mem_cons_of_mem _ zw_85)) rfl (by decide +kernel) ⟨Nat.le_of_ble_eq_true rfl, Nat.le_of_ble_eq_true rfl⟩) ⟨zblind, hpre⟩ rfl rfl hl.1 rfl (lv_room (Nat.le_of_ble_eq_true rfl)) dJx4a65c_init_da8c8_1 ⟨Nat.le_of_ble_eq_true rfl, Nat.le_of_ble_eq_true rfl⟩) hS (fun q _ h => hFc q h) hFc (fun u t H1 locs ht hvm hw hB hz1 hk1 hS => ?_)
  obtain ⟨hP1, hK1, hD1, hz2⟩ := hB
  rw [ht] at hP1 hz2
  have hPD9 := va_join (wr := []) (w1 := [(al, .inr (4, [.int 0, .null, .int 0]))]) hP hD [0] [] rfl rfl (by decide) (by decide) hk1 hFc hP1 hD1
  clear hPc hDc hFc hDv hpre hP hD hP1 hK1 hD1
  obtain ⟨hP, hD⟩ := hPD9
  replace hz : s.heap.size + 0 ≤ H1.size := by omega
  clear hz2
  replace hP : va_P (dC, dI) vwCl [(al, .inr (4, [.int 0, .null, .int 0]))] H1 := hP
  replace hD : va_D A [(al, .inr (4, [.int 0, .null, .int 0]))] := hD
  refine W.widen (k := 0) (n := 0) (by omega) (by omega) ?_
  refine lv_aload_n hx hb dJx4a65c_init_da8c8_4 rfl (lv_at hl 0 rfl) ?_
  refine va_gets hx hb hZ.1.2.2.1 hS hown (hts (.fieldLink RJx4a65c 39 "java/util/ArrayList" "DEFAULTCAPACITY_EMPTY_ELEMENTDATA" "[Ljava/lang/Object;") (List.mem_cons_of_mem _ zw_91)) (fun _ h9 => h9) dJx4a65c_init_da8c8_5 ?_
  refine va_put (D := (dC, dI)) (ci := 4) (v := .ref (zk 0)) (ty := .array (.object "java/lang/Object")) (C := RJx4a65c) (T := TJx4a65c) (N := 3) hx hb hts hi_Jx4a65c_init_da8c8_Jx4a65c tyJx4a65c tyJx4a65c_ok nmJx4a65c hown hK hP hD (zS0 hS) 0 rfl rfl 1 (by decide) (hts (.fieldLink RJx4a65c 9 "java/util/ArrayList" "elementData" "[Ljava/lang/Object;") (List.mem_cons_of_mem _ zw_93)) (fun _ h9 => h9) rfl (by decide +kernel) rfl rfl (Nat.le_of_ble_eq_true rfl) dJx4a65c_init_da8c8_8 (fun H3 locs hP hD hS1 => ?_)
  have hz : s.heap.size + 0 ≤ H3.size := Nat.le_trans hz hS1.1
  have hS := zSS hS hS1
  replace hP : va_P (dC, dI) vwCl [(al, .inr (4, [.int 0, .ref (zk 0), .int 0]))] H3 := hP
  replace hD : va_D A [(al, .inr (4, [.int 0, .ref (zk 0), .int 0]))] := hD
  have hP9 := hP.sub (ws' := [(al, .inr (4, [.int 0, .ref (zk 0), .int 0]))]) [0] rfl
  have hD9 := hD.sub (ws' := [(al, .inr (4, [.int 0, .ref (zk 0), .int 0]))]) [0] (by decide) rfl
  exact W.vret hx hb hr (fun t ht hW => ⟨⟨(), rfl, trivial, ⟨by rw [ht]; exact hP9, va_K.moved hW.alike hK, hD9, by rw [ht]; exact hz⟩⟩, hS.F ht⟩) hS.2.2 dJx4a65c_init_da8c8_11

theorem hi_X1_init_Jx4a65c : ∀ w ∈ u_ws RJx4a65c TJx4a65c 3, w ∈ wsX1_init := fun w h => List.mem_cons_of_mem _ (zhi_Jx4a65c w h)
theorem hi_X1_init_X1 : ∀ w ∈ u_ws RX1 TX1 8, w ∈ wsX1_init := fun w h => List.mem_cons_of_mem _ (zhi_X1 w h)
theorem hi_X1_init_X0 : ∀ w ∈ u_ws RX0 TX0 6, w ∈ wsX1_init := fun w h => List.mem_cons_of_mem _ (zhi_X0 w h)
theorem hi_X1_init_J4 : ∀ w ∈ u_ws RJ4 TJ4 4, w ∈ wsX1_init := fun w h => List.mem_cons_of_mem _ (zhi_J4 w h)
set_option maxHeartbeats 4000000 in
set_option maxRecDepth 100000 in
theorem k_xin (l : Launch) (dC : Nat → ClassId) (dI : Nat → Nat → Nat) (cI cB cR cO : ClassId) (zk : Nat → Nat) (xo : Nat) (sz : Nat)  : Met l yX1_init wsX1_init ({ frames := 4, cells := 13, slots := 61, locals := 120 }) (va_Pc [.ref xo] (zPre (dC, dI) (zT cI cB cR cO) zk [] [(xo, .inr (6, [.null, .int 0, .int 0, .int 0, .null, .null, .null, .null]))] sz)) (va_Qv (fun _ : Unit => True) (fun _ t => ∃ al, ∃ s1, ∃ s2, ∃ b1, ∃ b2, ∃ v1, zEnd (dC, dI) (zT cI cB cR cO) (va_A [(xo, .inr (6, [.null, .int 0, .int 0, .int 0, .null, .null, .null, .null]))] sz) [(xo, .inr (6, [.ref al, .int 0, .int 0, .int 0, .ref s1, .ref s2, .ref b1, .ref b2])), (al, .inr (4, [.int 0, .ref (zk 0), .int 0])), (b1, .inr (1, [.ref v1, .int 0, .int 0, .int 0])), (v1, .inl (cB, 16, .inl (fun _ => 0)))] sz 13 t) (va_A [(xo, .inr (6, [.null, .int 0, .int 0, .int 0, .null, .null, .null, .null]))] sz)) 13 61 (va_A [(xo, .inr (6, [.null, .int 0, .int 0, .int 0, .null, .null, .null, .null]))] sz) := by
  refine Met.ofW (cc := cX1_init) (maxL := 1) (ret := none) (by decide) rfl ?_
  intro p e s mY args below meth c s₁ B hml hv
  obtain ⟨rfl, hsz, hP, hK, hD0, hZ⟩ := hv
  have hx := B.exec
  have hb := B.bytes
  have hr := B.returns
  have hts := atoms_spec (ws := wsX1_init) B.pre
  have hown : s.vm.findClass RX1 = some mY.cls := findClass_of_methodNamed B.named
  have hlocks := B.notSynchronized
  have hin : meth.name = "<init>" := (name_of_methodNamed B.named B.method).1
  subst hsz
  have hD := hD0.self (sz := s.heap.size)
  generalize hAe : va_A [(xo, .inr (6, [.null, .int 0, .int 0, .int 0, .null, .null, .null, .null]))] s.heap.size = A at hD hZ ⊢
  have hA : ∀ q : Nat, s.heap.size ≤ q → A q := fun q h => by rw [← hAe]; exact Or.inr h
  have hS : va_S A s.heap s.heap [] := va_S.rf
  have hz : s.heap.size + 0 ≤ s.heap.size := Nat.le_refl _
  have hl := lv_entry ([.ref xo]) (n := 1) (Nat.le_of_ble_eq_true rfl)
  rw [lg_entry_eq]
  generalize (lg_sl ([.ref xo]) ++ List.replicate (1 - (lg_sl ([.ref xo])).length) Slot.unset).toArray = ls at hl ⊢
  have hl : lv_has ls 1 [(0, .ref xo)] := hl
  have hP : va_P (dC, dI) vwCl [(xo, .inr (6, [.null, .int 0, .int 0, .int 0, .null, .null, .null, .null]))] s.heap := hP
  have hD : va_D A [(xo, .inr (6, [.null, .int 0, .int 0, .int 0, .null, .null, .null, .null]))] := hD
  refine lv_aload_n hx hb dX1_init_0 rfl (lv_at hl 0 rfl) ?_
  refine W.objInit hx hb hown (hts (.methodLink RX1 3 objectInit) (List.mem_cons_of_mem _ zw_76)) (hts (.instanceMethod objectInit) (List.mem_cons_of_mem _ zw_77)) (hts (.code objectInit ⟨#[0xb1]⟩ 1 none) (List.mem_cons_of_mem _ zw_78)) rfl (by rw [hml]; exact hl.1) rfl dX1_init_1 (Nat.le_of_ble_eq_true rfl) (Nat.le_of_ble_eq_true rfl) ?_
  refine W.eq (g2 := F0 mY 4 ls []) rfl ?_
  refine lv_aload_n hx hb dX1_init_4 rfl (lv_at hl 0 rfl) ?_
  refine zw_new (ci := 4) (fs := [.int 0, .null, .int 0]) (C := RJx4a65c) (T := TJx4a65c) (N := 3) hx hb hts hi_X1_init_Jx4a65c tyJx4a65c tyJx4a65c_ok hown (hts (.classLink RX1 9 RJx4a65c) (List.mem_cons_of_mem _ zw_79)) (hts (.instantiable RJx4a65c 3) (List.mem_cons_of_mem _ zw_80)) (hts (.initialized RJx4a65c) (List.mem_cons_of_mem _ zw_44)) hK hP hD hS hA rfl (fun j hj => by rcases (show j = 0 ∨ j = 1 ∨ j = 2 by omega) with rfl | rfl | rfl <;> rfl) (Nat.le_of_ble_eq_true rfl) (Nat.le_of_ble_eq_true rfl) dX1_init_5 hz (fun q1 H2 hP hD hS hz => ?_)
  replace hP : va_P (dC, dI) vwCl [(xo, .inr (6, [.null, .int 0, .int 0, .int 0, .null, .null, .null, .null])), (q1, .inr (4, [.int 0, .null, .int 0]))] H2 := hP
  replace hD : va_D A [(xo, .inr (6, [.null, .int 0, .int 0, .int 0, .null, .null, .null, .null])), (q1, .inr (4, [.int 0, .null, .int 0]))] := hD
  refine W.widen (k := 1) (n := 3) (by omega) (by omega) ?_
  refine lv_dup hx hb dX1_init_8 rfl ?_
  have hPc := hP.sub (ws' := [(q1, .inr (4, [.int 0, .null, .int 0]))]) [1] rfl
  have hDc := hD.sub (ws' := [(q1, .inr (4, [.int 0, .null, .int 0]))]) [1] (by decide) rfl
  have hFc := va_free (wc := [(q1, .inr (4, [.int 0, .null, .int 0]))]) hD hS hA [1] rfl
  have hDv := hDc.self (sz := H2.size)
  have hpre := zpre (xs' := []) (av := [.ref q1]) hPc hK (hDc.weaken (fun _ _ _ h => h)) hZ hS hFc (fun r hr => by cases hr)
  refine va_callv (va_runI (As := []) (rest := [.ref q1, .ref xo]) ⟨hx, hb, hml, hown, hts⟩ (k_alin l dC dI cI cB cR cO zk q1 H2.size ) (cwI 0 hts gX1_init_Jx4a65c_init_da8c8 rfl rfl rfl (hts (.initialized RJx4a65c) (List.mem_cons_of_mem _ zw_44)) (hts (.methodLink RX1 11 yJx4a65c_init_da8c8) (List.mem_cons_of_mem _ zw_81)) (hts (.instanceMethod yJx4a65c_init_da8c8) (List.mem_cons_of_mem _ zw_82)) rfl (by decide +kernel) ⟨Nat.le_of_ble_eq_true rfl, Nat.le_of_ble_eq_true rfl⟩) ⟨zblind, hpre⟩ rfl rfl hl.1 rfl (lv_room (Nat.le_of_ble_eq_true rfl)) dX1_init_9 ⟨Nat.le_of_ble_eq_true rfl, Nat.le_of_ble_eq_true rfl⟩) hS (fun q _ h => hFc q h) hFc (fun u t H3 locs ht hvm hw hB hz1 hk1 hS => ?_)
  obtain ⟨hP1, hK1, hD1, hz2⟩ := hB
  rw [ht] at hP1 hz2
  have hPD9 := va_join (wr := [(xo, .inr (6, [.null, .int 0, .int 0, .int 0, .null, .null, .null, .null]))]) (w1 := [(q1, .inr (4, [.int 0, .ref (zk 0), .int 0]))]) hP hD [1] [0] rfl rfl (by decide) (by decide) hk1 hFc hP1 hD1
  clear hPc hDc hFc hDv hpre hP hD hP1 hK1 hD1
  obtain ⟨hP, hD⟩ := hPD9
  replace hz : s.heap.size + 1 ≤ H3.size := by omega
  clear hz2
  replace hP : va_P (dC, dI) vwCl [(xo, .inr (6, [.null, .int 0, .int 0, .int 0, .null, .null, .null, .null])), (q1, .inr (4, [.int 0, .ref (zk 0), .int 0]))] H3 := hP
  replace hD : va_D A [(xo, .inr (6, [.null, .int 0, .int 0, .int 0, .null, .null, .null, .null])), (q1, .inr (4, [.int 0, .ref (zk 0), .int 0]))] := hD
  refine W.widen (k := 1) (n := 3) (by omega) (by omega) ?_
  refine va_putF (D := (dC, dI)) (ci := 6) (v := .ref q1) (ty := .object "java/util/ArrayList") (C := RX1) (T := TX1) (N := 8) hx hb hts hi_X1_init_X1 tyX1 tyX1_ok nmX1 hown hK hP hD (zS0 hS) 0 rfl rfl 0 (by decide) (hts (.fieldLink RX1 12 "Deeprows" "rows" "Ljava/util/ArrayList;") (List.mem_cons_of_mem _ zw_171)) (fun _ h9 => h9) rfl hin rfl (by decide +kernel) rfl rfl (Nat.le_of_ble_eq_true rfl) dX1_init_12 (fun H5 locs hP hD hS1 => ?_)
  have hz : s.heap.size + 1 ≤ H5.size := Nat.le_trans hz hS1.1
  have hS := zSS hS hS1
  replace hP : va_P (dC, dI) vwCl [(xo, .inr (6, [.ref q1, .int 0, .int 0, .int 0, .null, .null, .null, .null])), (q1, .inr (4, [.int 0, .ref (zk 0), .int 0]))] H5 := hP
  replace hD : va_D A [(xo, .inr (6, [.ref q1, .int 0, .int 0, .int 0, .null, .null, .null, .null])), (q1, .inr (4, [.int 0, .ref (zk 0), .int 0]))] := hD
  refine lv_aload_n hx hb dX1_init_15 rfl (lv_at hl 0 rfl) ?_
  refine lv_iconst (v := 0) hx hb dX1_init_16 (by decide) ?_
  refine va_put (D := (dC, dI)) (ci := 6) (v := .int 0) (ty := .int) (C := RX1) (T := TX1) (N := 8) hx hb hts hi_X1_init_X1 tyX1 tyX1_ok nmX1 hown hK hP hD (zS0 hS) 0 rfl rfl 1 (by decide) (hts (.fieldLink RX1 16 "Deeprows" "makerMade" "I") (List.mem_cons_of_mem _ zw_172)) (fun _ h9 => h9) rfl (by decide +kernel) rfl rfl (Nat.le_of_ble_eq_true rfl) dX1_init_17 (fun H6 locs hP hD hS1 => ?_)
  have hz : s.heap.size + 1 ≤ H6.size := Nat.le_trans hz hS1.1
  have hS := zSS hS hS1
  replace hP : va_P (dC, dI) vwCl [(xo, .inr (6, [.ref q1, .int 0, .int 0, .int 0, .null, .null, .null, .null])), (q1, .inr (4, [.int 0, .ref (zk 0), .int 0]))] H6 := hP
  replace hD : va_D A [(xo, .inr (6, [.ref q1, .int 0, .int 0, .int 0, .null, .null, .null, .null])), (q1, .inr (4, [.int 0, .ref (zk 0), .int 0]))] := hD
  refine lv_aload_n hx hb dX1_init_20 rfl (lv_at hl 0 rfl) ?_
  refine lv_iconst (v := 0) hx hb dX1_init_21 (by decide) ?_
  refine va_put (D := (dC, dI)) (ci := 6) (v := .int 0) (ty := .int) (C := RX1) (T := TX1) (N := 8) hx hb hts hi_X1_init_X1 tyX1 tyX1_ok nmX1 hown hK hP hD (zS0 hS) 0 rfl rfl 2 (by decide) (hts (.fieldLink RX1 20 "Deeprows" "makerRefused" "I") (List.mem_cons_of_mem _ zw_173)) (fun _ h9 => h9) rfl (by decide +kernel) rfl rfl (Nat.le_of_ble_eq_true rfl) dX1_init_22 (fun H7 locs hP hD hS1 => ?_)
  have hz : s.heap.size + 1 ≤ H7.size := Nat.le_trans hz hS1.1
  have hS := zSS hS hS1
  replace hP : va_P (dC, dI) vwCl [(xo, .inr (6, [.ref q1, .int 0, .int 0, .int 0, .null, .null, .null, .null])), (q1, .inr (4, [.int 0, .ref (zk 0), .int 0]))] H7 := hP
  replace hD : va_D A [(xo, .inr (6, [.ref q1, .int 0, .int 0, .int 0, .null, .null, .null, .null])), (q1, .inr (4, [.int 0, .ref (zk 0), .int 0]))] := hD
  refine lv_aload_n hx hb dX1_init_25 rfl (lv_at hl 0 rfl) ?_
  refine lv_iconst (v := 0) hx hb dX1_init_26 (by decide) ?_
  refine va_put (D := (dC, dI)) (ci := 6) (v := .int 0) (ty := .int) (C := RX1) (T := TX1) (N := 8) hx hb hts hi_X1_init_X1 tyX1 tyX1_ok nmX1 hown hK hP hD (zS0 hS) 0 rfl rfl 3 (by decide) (hts (.fieldLink RX1 23 "Deeprows" "knocks" "I") (List.mem_cons_of_mem _ zw_174)) (fun _ h9 => h9) rfl (by decide +kernel) rfl rfl (Nat.le_of_ble_eq_true rfl) dX1_init_27 (fun H8 locs hP hD hS1 => ?_)
  have hz : s.heap.size + 1 ≤ H8.size := Nat.le_trans hz hS1.1
  have hS := zSS hS hS1
  replace hP : va_P (dC, dI) vwCl [(xo, .inr (6, [.ref q1, .int 0, .int 0, .int 0, .null, .null, .null, .null])), (q1, .inr (4, [.int 0, .ref (zk 0), .int 0]))] H8 := hP
  replace hD : va_D A [(xo, .inr (6, [.ref q1, .int 0, .int 0, .int 0, .null, .null, .null, .null])), (q1, .inr (4, [.int 0, .ref (zk 0), .int 0]))] := hD
  refine lv_aload_n hx hb dX1_init_30 rfl (lv_at hl 0 rfl) ?_
  refine zw_new (ci := 5) (fs := [.int 0, .int 0, .null, .null, .null, .int 0]) (C := RX0) (T := TX0) (N := 6) hx hb hts hi_X1_init_X0 tyX0 tyX0_ok hown (hts (.classLink RX1 26 "Deeprows$Row") (List.mem_cons_of_mem _ zw_105)) (hts (.instantiable RX0 6) (List.mem_cons_of_mem _ zw_106)) (hts (.initialized RX0) (List.mem_cons_of_mem _ zw_45)) hK hP hD hS hA rfl (fun j hj => by rcases (show j = 0 ∨ j = 1 ∨ j = 2 ∨ j = 3 ∨ j = 4 ∨ j = 5 by omega) with rfl | rfl | rfl | rfl | rfl | rfl <;> rfl) (Nat.le_of_ble_eq_true rfl) (Nat.le_of_ble_eq_true rfl) dX1_init_31 hz (fun q9 H10 hP hD hS hz => ?_)
  replace hP : va_P (dC, dI) vwCl [(xo, .inr (6, [.ref q1, .int 0, .int 0, .int 0, .null, .null, .null, .null])), (q1, .inr (4, [.int 0, .ref (zk 0), .int 0])), (q9, .inr (5, [.int 0, .int 0, .null, .null, .null, .int 0]))] H10 := hP
  replace hD : va_D A [(xo, .inr (6, [.ref q1, .int 0, .int 0, .int 0, .null, .null, .null, .null])), (q1, .inr (4, [.int 0, .ref (zk 0), .int 0])), (q9, .inr (5, [.int 0, .int 0, .null, .null, .null, .int 0]))] := hD
  refine W.widen (k := 2) (n := 9) (by omega) (by omega) ?_
  refine lv_dup hx hb dX1_init_34 rfl ?_
  refine lv_iconst (v := 4) hx hb dX1_init_35 (by decide) ?_
  refine lv_iconst (v := 1) hx hb dX1_init_36 (by decide) ?_
  have hPc := hP.sub (ws' := [(q9, .inr (5, [.int 0, .int 0, .null, .null, .null, .int 0]))]) [2] rfl
  have hDc := hD.sub (ws' := [(q9, .inr (5, [.int 0, .int 0, .null, .null, .null, .int 0]))]) [2] (by decide) rfl
  have hFc := va_free (wc := [(q9, .inr (5, [.int 0, .int 0, .null, .null, .null, .int 0]))]) hD hS hA [2] rfl
  have hDv := hDc.self (sz := H10.size)
  have hpre := zpre (xs' := []) (av := [.ref q9, .int 4, .int 1]) hPc hK (hDc.weaken (fun _ _ _ h => h)) hZ hS hFc (fun r hr => by cases hr)
  refine va_callv (va_runI (As := [.int 4, .int 1]) (rest := [.ref q9, .ref xo]) ⟨hx, hb, hml, hown, hts⟩ (k_rin1 l dC dI cI cB cR cO zk q9 H10.size ) (cwI 2 hts gX1_init_X0_init rfl rfl rfl (hts (.initialized RX0) (List.mem_cons_of_mem _ zw_45)) (hts (.methodLink RX1 28 yX0_init) (List.mem_cons_of_mem _ zw_107)) (hts (.instanceMethod yX0_init) (List.mem_cons_of_mem _ zw_108)) rfl (by decide +kernel) ⟨Nat.le_of_ble_eq_true rfl, Nat.le_of_ble_eq_true rfl⟩) ⟨zblind, hpre⟩ rfl rfl hl.1 rfl (lv_room (Nat.le_of_ble_eq_true rfl)) dX1_init_37 ⟨Nat.le_of_ble_eq_true rfl, Nat.le_of_ble_eq_true rfl⟩) hS (fun q _ h => hFc q h) hFc (fun u t H11 locs ht hvm hw hB hz1 hk1 hS => ?_)
  obtain ⟨w13, v14, h15, gw16, gv17, gh18, ⟨hP1, hK1, hD1, hz2⟩, hwgw16, hhgh18⟩ := hB
  rw [ht] at hP1 hz2
  have hPD9 := va_join (wr := [(xo, .inr (6, [.ref q1, .int 0, .int 0, .int 0, .null, .null, .null, .null])), (q1, .inr (4, [.int 0, .ref (zk 0), .int 0]))]) (w1 := [(q9, .inr (5, [.int 4, .int 1, .ref w13, .ref v14, .ref h15, .int 0])), (w13, .inl (cI, 1, .inl gw16)), (v14, .inl (cI, 1, .inl gv17)), (h15, .inl (cR, 1, .inr (.inr (.inr (.inr gh18)))))]) hP hD [2] [0, 1] rfl rfl (by decide) (by decide) hk1 hFc hP1 hD1
  clear hPc hDc hFc hDv hpre hP hD hP1 hK1 hD1
  obtain ⟨hP, hD⟩ := hPD9
  replace hz : s.heap.size + 5 ≤ H11.size := by omega
  clear hz2
  replace hP : va_P (dC, dI) vwCl [(xo, .inr (6, [.ref q1, .int 0, .int 0, .int 0, .null, .null, .null, .null])), (q1, .inr (4, [.int 0, .ref (zk 0), .int 0])), (q9, .inr (5, [.int 4, .int 1, .ref w13, .ref v14, .ref h15, .int 0])), (w13, .inl (cI, 1, .inl gw16)), (v14, .inl (cI, 1, .inl gv17)), (h15, .inl (cR, 1, .inr (.inr (.inr (.inr gh18)))))] H11 := hP
  replace hD : va_D A [(xo, .inr (6, [.ref q1, .int 0, .int 0, .int 0, .null, .null, .null, .null])), (q1, .inr (4, [.int 0, .ref (zk 0), .int 0])), (q9, .inr (5, [.int 4, .int 1, .ref w13, .ref v14, .ref h15, .int 0])), (w13, .inl (cI, 1, .inl gw16)), (v14, .inl (cI, 1, .inl gv17)), (h15, .inl (cR, 1, .inr (.inr (.inr (.inr gh18)))))] := hD
  refine W.widen (k := 5) (n := 12) (by omega) (by omega) ?_
  refine va_putF (D := (dC, dI)) (ci := 6) (v := .ref q9) (ty := .object "Deeprows$Row") (C := RX1) (T := TX1) (N := 8) hx hb hts hi_X1_init_X1 tyX1 tyX1_ok nmX1 hown hK hP hD (zS0 hS) 0 rfl rfl 4 (by decide) (hts (.fieldLink RX1 31 "Deeprows" "shell" "LDeeprows$Row;") (List.mem_cons_of_mem _ zw_175)) (fun _ h9 => h9) rfl hin rfl (by decide +kernel) rfl rfl (Nat.le_of_ble_eq_true rfl) dX1_init_40 (fun H19 locs hP hD hS1 => ?_)
  have hz : s.heap.size + 5 ≤ H19.size := Nat.le_trans hz hS1.1
  have hS := zSS hS hS1
  replace hP : va_P (dC, dI) vwCl [(xo, .inr (6, [.ref q1, .int 0, .int 0, .int 0, .ref q9, .null, .null, .null])), (q1, .inr (4, [.int 0, .ref (zk 0), .int 0])), (q9, .inr (5, [.int 4, .int 1, .ref w13, .ref v14, .ref h15, .int 0])), (w13, .inl (cI, 1, .inl gw16)), (v14, .inl (cI, 1, .inl gv17)), (h15, .inl (cR, 1, .inr (.inr (.inr (.inr gh18)))))] H19 := hP
  replace hD : va_D A [(xo, .inr (6, [.ref q1, .int 0, .int 0, .int 0, .ref q9, .null, .null, .null])), (q1, .inr (4, [.int 0, .ref (zk 0), .int 0])), (q9, .inr (5, [.int 4, .int 1, .ref w13, .ref v14, .ref h15, .int 0])), (w13, .inl (cI, 1, .inl gw16)), (v14, .inl (cI, 1, .inl gv17)), (h15, .inl (cR, 1, .inr (.inr (.inr (.inr gh18)))))] := hD
  refine lv_aload_n hx hb dX1_init_43 rfl (lv_at hl 0 rfl) ?_
  refine zw_new (ci := 5) (fs := [.int 0, .int 0, .null, .null, .null, .int 0]) (C := RX0) (T := TX0) (N := 6) hx hb hts hi_X1_init_X0 tyX0 tyX0_ok hown (hts (.classLink RX1 26 "Deeprows$Row") (List.mem_cons_of_mem _ zw_105)) (hts (.instantiable RX0 6) (List.mem_cons_of_mem _ zw_106)) (hts (.initialized RX0) (List.mem_cons_of_mem _ zw_45)) hK hP hD hS hA rfl (fun j hj => by rcases (show j = 0 ∨ j = 1 ∨ j = 2 ∨ j = 3 ∨ j = 4 ∨ j = 5 by omega) with rfl | rfl | rfl | rfl | rfl | rfl <;> rfl) (Nat.le_of_ble_eq_true rfl) (Nat.le_of_ble_eq_true rfl) dX1_init_44 hz (fun q20 H21 hP hD hS hz => ?_)
  replace hP : va_P (dC, dI) vwCl [(xo, .inr (6, [.ref q1, .int 0, .int 0, .int 0, .ref q9, .null, .null, .null])), (q1, .inr (4, [.int 0, .ref (zk 0), .int 0])), (q9, .inr (5, [.int 4, .int 1, .ref w13, .ref v14, .ref h15, .int 0])), (w13, .inl (cI, 1, .inl gw16)), (v14, .inl (cI, 1, .inl gv17)), (h15, .inl (cR, 1, .inr (.inr (.inr (.inr gh18))))), (q20, .inr (5, [.int 0, .int 0, .null, .null, .null, .int 0]))] H21 := hP
  replace hD : va_D A [(xo, .inr (6, [.ref q1, .int 0, .int 0, .int 0, .ref q9, .null, .null, .null])), (q1, .inr (4, [.int 0, .ref (zk 0), .int 0])), (q9, .inr (5, [.int 4, .int 1, .ref w13, .ref v14, .ref h15, .int 0])), (w13, .inl (cI, 1, .inl gw16)), (v14, .inl (cI, 1, .inl gv17)), (h15, .inl (cR, 1, .inr (.inr (.inr (.inr gh18))))), (q20, .inr (5, [.int 0, .int 0, .null, .null, .null, .int 0]))] := hD
  refine W.widen (k := 6) (n := 18) (by omega) (by omega) ?_
  refine lv_dup hx hb dX1_init_47 rfl ?_
  refine lv_iconst (v := 4) hx hb dX1_init_48 (by decide) ?_
  refine lv_iconst (v := 1) hx hb dX1_init_49 (by decide) ?_
  have hPc := hP.sub (ws' := [(q20, .inr (5, [.int 0, .int 0, .null, .null, .null, .int 0]))]) [6] rfl
  have hDc := hD.sub (ws' := [(q20, .inr (5, [.int 0, .int 0, .null, .null, .null, .int 0]))]) [6] (by decide) rfl
  have hFc := va_free (wc := [(q20, .inr (5, [.int 0, .int 0, .null, .null, .null, .int 0]))]) hD hS hA [6] rfl
  have hDv := hDc.self (sz := H21.size)
  have hpre := zpre (xs' := []) (av := [.ref q20, .int 4, .int 1]) hPc hK (hDc.weaken (fun _ _ _ h => h)) hZ hS hFc (fun r hr => by cases hr)
  refine va_callv (va_runI (As := [.int 4, .int 1]) (rest := [.ref q20, .ref xo]) ⟨hx, hb, hml, hown, hts⟩ (k_rin1 l dC dI cI cB cR cO zk q20 H21.size ) (cwI 2 hts gX1_init_X0_init rfl rfl rfl (hts (.initialized RX0) (List.mem_cons_of_mem _ zw_45)) (hts (.methodLink RX1 28 yX0_init) (List.mem_cons_of_mem _ zw_107)) (hts (.instanceMethod yX0_init) (List.mem_cons_of_mem _ zw_108)) rfl (by decide +kernel) ⟨Nat.le_of_ble_eq_true rfl, Nat.le_of_ble_eq_true rfl⟩) ⟨zblind, hpre⟩ rfl rfl hl.1 rfl (lv_room (Nat.le_of_ble_eq_true rfl)) dX1_init_50 ⟨Nat.le_of_ble_eq_true rfl, Nat.le_of_ble_eq_true rfl⟩) hS (fun q _ h => hFc q h) hFc (fun u t H22 locs ht hvm hw hB hz1 hk1 hS => ?_)
  obtain ⟨w24, v25, h26, gw27, gv28, gh29, ⟨hP1, hK1, hD1, hz2⟩, hwgw27, hhgh29⟩ := hB
  rw [ht] at hP1 hz2
  have hPD9 := va_join (wr := [(xo, .inr (6, [.ref q1, .int 0, .int 0, .int 0, .ref q9, .null, .null, .null])), (q1, .inr (4, [.int 0, .ref (zk 0), .int 0])), (q9, .inr (5, [.int 4, .int 1, .ref w13, .ref v14, .ref h15, .int 0])), (w13, .inl (cI, 1, .inl gw16)), (v14, .inl (cI, 1, .inl gv17)), (h15, .inl (cR, 1, .inr (.inr (.inr (.inr gh18)))))]) (w1 := [(q20, .inr (5, [.int 4, .int 1, .ref w24, .ref v25, .ref h26, .int 0])), (w24, .inl (cI, 1, .inl gw27)), (v25, .inl (cI, 1, .inl gv28)), (h26, .inl (cR, 1, .inr (.inr (.inr (.inr gh29)))))]) hP hD [6] [0, 1, 2, 3, 4, 5] rfl rfl (by decide) (by decide) hk1 hFc hP1 hD1
  clear hPc hDc hFc hDv hpre hP hD hP1 hK1 hD1
  obtain ⟨hP, hD⟩ := hPD9
  replace hz : s.heap.size + 9 ≤ H22.size := by omega
  clear hz2
  replace hP : va_P (dC, dI) vwCl [(xo, .inr (6, [.ref q1, .int 0, .int 0, .int 0, .ref q9, .null, .null, .null])), (q1, .inr (4, [.int 0, .ref (zk 0), .int 0])), (q9, .inr (5, [.int 4, .int 1, .ref w13, .ref v14, .ref h15, .int 0])), (w13, .inl (cI, 1, .inl gw16)), (v14, .inl (cI, 1, .inl gv17)), (h15, .inl (cR, 1, .inr (.inr (.inr (.inr gh18))))), (q20, .inr (5, [.int 4, .int 1, .ref w24, .ref v25, .ref h26, .int 0])), (w24, .inl (cI, 1, .inl gw27)), (v25, .inl (cI, 1, .inl gv28)), (h26, .inl (cR, 1, .inr (.inr (.inr (.inr gh29)))))] H22 := hP
  replace hD : va_D A [(xo, .inr (6, [.ref q1, .int 0, .int 0, .int 0, .ref q9, .null, .null, .null])), (q1, .inr (4, [.int 0, .ref (zk 0), .int 0])), (q9, .inr (5, [.int 4, .int 1, .ref w13, .ref v14, .ref h15, .int 0])), (w13, .inl (cI, 1, .inl gw16)), (v14, .inl (cI, 1, .inl gv17)), (h15, .inl (cR, 1, .inr (.inr (.inr (.inr gh18))))), (q20, .inr (5, [.int 4, .int 1, .ref w24, .ref v25, .ref h26, .int 0])), (w24, .inl (cI, 1, .inl gw27)), (v25, .inl (cI, 1, .inl gv28)), (h26, .inl (cR, 1, .inr (.inr (.inr (.inr gh29)))))] := hD
  refine W.widen (k := 9) (n := 21) (by omega) (by omega) ?_
  refine va_putF (D := (dC, dI)) (ci := 6) (v := .ref q20) (ty := .object "Deeprows$Row") (C := RX1) (T := TX1) (N := 8) hx hb hts hi_X1_init_X1 tyX1 tyX1_ok nmX1 hown hK hP hD (zS0 hS) 0 rfl rfl 5 (by decide) (hts (.fieldLink RX1 35 "Deeprows" "otherShell" "LDeeprows$Row;") (List.mem_cons_of_mem _ zw_176)) (fun _ h9 => h9) rfl hin rfl (by decide +kernel) rfl rfl (Nat.le_of_ble_eq_true rfl) dX1_init_53 (fun H30 locs hP hD hS1 => ?_)
  have hz : s.heap.size + 9 ≤ H30.size := Nat.le_trans hz hS1.1
  have hS := zSS hS hS1
  replace hP : va_P (dC, dI) vwCl [(xo, .inr (6, [.ref q1, .int 0, .int 0, .int 0, .ref q9, .ref q20, .null, .null])), (q1, .inr (4, [.int 0, .ref (zk 0), .int 0])), (q9, .inr (5, [.int 4, .int 1, .ref w13, .ref v14, .ref h15, .int 0])), (w13, .inl (cI, 1, .inl gw16)), (v14, .inl (cI, 1, .inl gv17)), (h15, .inl (cR, 1, .inr (.inr (.inr (.inr gh18))))), (q20, .inr (5, [.int 4, .int 1, .ref w24, .ref v25, .ref h26, .int 0])), (w24, .inl (cI, 1, .inl gw27)), (v25, .inl (cI, 1, .inl gv28)), (h26, .inl (cR, 1, .inr (.inr (.inr (.inr gh29)))))] H30 := hP
  replace hD : va_D A [(xo, .inr (6, [.ref q1, .int 0, .int 0, .int 0, .ref q9, .ref q20, .null, .null])), (q1, .inr (4, [.int 0, .ref (zk 0), .int 0])), (q9, .inr (5, [.int 4, .int 1, .ref w13, .ref v14, .ref h15, .int 0])), (w13, .inl (cI, 1, .inl gw16)), (v14, .inl (cI, 1, .inl gv17)), (h15, .inl (cR, 1, .inr (.inr (.inr (.inr gh18))))), (q20, .inr (5, [.int 4, .int 1, .ref w24, .ref v25, .ref h26, .int 0])), (w24, .inl (cI, 1, .inl gw27)), (v25, .inl (cI, 1, .inl gv28)), (h26, .inl (cR, 1, .inr (.inr (.inr (.inr gh29)))))] := hD
  refine lv_aload_n hx hb dX1_init_56 rfl (lv_at hl 0 rfl) ?_
  refine zw_new (ci := 1) (fs := [.null, .int 0, .int 0, .int 0]) (C := RJ4) (T := TJ4) (N := 4) hx hb hts hi_X1_init_J4 tyJ4 tyJ4_ok hown (hts (.classLink RX1 38 RJ4) (List.mem_cons_of_mem _ zw_138)) (hts (.instantiable RJ4 4) (List.mem_cons_of_mem _ zw_139)) (hts (.initialized RJ4) (List.mem_cons_of_mem _ zw_47)) hK hP hD hS hA rfl (fun j hj => by rcases (show j = 0 ∨ j = 1 ∨ j = 2 ∨ j = 3 by omega) with rfl | rfl | rfl | rfl <;> rfl) (Nat.le_of_ble_eq_true rfl) (Nat.le_of_ble_eq_true rfl) dX1_init_57 hz (fun q31 H32 hP hD hS hz => ?_)
  replace hP : va_P (dC, dI) vwCl [(xo, .inr (6, [.ref q1, .int 0, .int 0, .int 0, .ref q9, .ref q20, .null, .null])), (q1, .inr (4, [.int 0, .ref (zk 0), .int 0])), (q9, .inr (5, [.int 4, .int 1, .ref w13, .ref v14, .ref h15, .int 0])), (w13, .inl (cI, 1, .inl gw16)), (v14, .inl (cI, 1, .inl gv17)), (h15, .inl (cR, 1, .inr (.inr (.inr (.inr gh18))))), (q20, .inr (5, [.int 4, .int 1, .ref w24, .ref v25, .ref h26, .int 0])), (w24, .inl (cI, 1, .inl gw27)), (v25, .inl (cI, 1, .inl gv28)), (h26, .inl (cR, 1, .inr (.inr (.inr (.inr gh29))))), (q31, .inr (1, [.null, .int 0, .int 0, .int 0]))] H32 := hP
  replace hD : va_D A [(xo, .inr (6, [.ref q1, .int 0, .int 0, .int 0, .ref q9, .ref q20, .null, .null])), (q1, .inr (4, [.int 0, .ref (zk 0), .int 0])), (q9, .inr (5, [.int 4, .int 1, .ref w13, .ref v14, .ref h15, .int 0])), (w13, .inl (cI, 1, .inl gw16)), (v14, .inl (cI, 1, .inl gv17)), (h15, .inl (cR, 1, .inr (.inr (.inr (.inr gh18))))), (q20, .inr (5, [.int 4, .int 1, .ref w24, .ref v25, .ref h26, .int 0])), (w24, .inl (cI, 1, .inl gw27)), (v25, .inl (cI, 1, .inl gv28)), (h26, .inl (cR, 1, .inr (.inr (.inr (.inr gh29))))), (q31, .inr (1, [.null, .int 0, .int 0, .int 0]))] := hD
  refine W.widen (k := 10) (n := 25) (by omega) (by omega) ?_
  refine lv_dup hx hb dX1_init_60 rfl ?_
  have hPc := hP.sub (ws' := [(q31, .inr (1, [.null, .int 0, .int 0, .int 0]))]) [10] rfl
  have hDc := hD.sub (ws' := [(q31, .inr (1, [.null, .int 0, .int 0, .int 0]))]) [10] (by decide) rfl
  have hFc := va_free (wc := [(q31, .inr (1, [.null, .int 0, .int 0, .int 0]))]) hD hS hA [10] rfl
  have hDv := hDc.self (sz := H32.size)
  have hpre := zpre (xs' := []) (av := [.ref q31]) hPc hK (hDc.weaken (fun _ _ _ h => h)) hZ hS hFc (fun r hr => by cases hr)
  refine va_callv (va_runI (As := []) (rest := [.ref q31, .ref xo]) ⟨hx, hb, hml, hown, hts⟩ (k_init4 l dC dI cI cB cR cO zk q31 H32.size ) (cwI 0 hts gX1_init_J4_init_da8c8 rfl rfl rfl (hts (.initialized RJ4) (List.mem_cons_of_mem _ zw_47)) (hts (.methodLink RX1 40 yJ4_init_da8c8) (List.mem_cons_of_mem _ zw_140)) (hts (.instanceMethod yJ4_init_da8c8) (List.mem_cons_of_mem _ zw_141)) rfl (by decide +kernel) ⟨Nat.le_of_ble_eq_true rfl, Nat.le_of_ble_eq_true rfl⟩) ⟨zblind, hpre⟩ rfl rfl hl.1 rfl (lv_room (Nat.le_of_ble_eq_true rfl)) dX1_init_61 ⟨Nat.le_of_ble_eq_true rfl, Nat.le_of_ble_eq_true rfl⟩) hS (fun q _ h => hFc q h) hFc (fun u t H33 locs ht hvm hw hB hz1 hk1 hS => ?_)
  obtain ⟨w35, ⟨hP1, hK1, hD1, hz2⟩⟩ := hB
  rw [ht] at hP1 hz2
  have hPD9 := va_join (wr := [(xo, .inr (6, [.ref q1, .int 0, .int 0, .int 0, .ref q9, .ref q20, .null, .null])), (q1, .inr (4, [.int 0, .ref (zk 0), .int 0])), (q9, .inr (5, [.int 4, .int 1, .ref w13, .ref v14, .ref h15, .int 0])), (w13, .inl (cI, 1, .inl gw16)), (v14, .inl (cI, 1, .inl gv17)), (h15, .inl (cR, 1, .inr (.inr (.inr (.inr gh18))))), (q20, .inr (5, [.int 4, .int 1, .ref w24, .ref v25, .ref h26, .int 0])), (w24, .inl (cI, 1, .inl gw27)), (v25, .inl (cI, 1, .inl gv28)), (h26, .inl (cR, 1, .inr (.inr (.inr (.inr gh29)))))]) (w1 := [(q31, .inr (1, [.ref w35, .int 0, .int 0, .int 0])), (w35, .inl (cB, 16, .inl (fun _ => 0)))]) hP hD [10] [0, 1, 2, 3, 4, 5, 6, 7, 8, 9] rfl rfl (by decide) (by decide) hk1 hFc hP1 hD1
  clear hPc hDc hFc hDv hpre hP hD hP1 hK1 hD1
  obtain ⟨hP, hD⟩ := hPD9
  replace hz : s.heap.size + 11 ≤ H33.size := by omega
  clear hz2
  replace hP : va_P (dC, dI) vwCl [(xo, .inr (6, [.ref q1, .int 0, .int 0, .int 0, .ref q9, .ref q20, .null, .null])), (q1, .inr (4, [.int 0, .ref (zk 0), .int 0])), (q9, .inr (5, [.int 4, .int 1, .ref w13, .ref v14, .ref h15, .int 0])), (w13, .inl (cI, 1, .inl gw16)), (v14, .inl (cI, 1, .inl gv17)), (h15, .inl (cR, 1, .inr (.inr (.inr (.inr gh18))))), (q20, .inr (5, [.int 4, .int 1, .ref w24, .ref v25, .ref h26, .int 0])), (w24, .inl (cI, 1, .inl gw27)), (v25, .inl (cI, 1, .inl gv28)), (h26, .inl (cR, 1, .inr (.inr (.inr (.inr gh29))))), (q31, .inr (1, [.ref w35, .int 0, .int 0, .int 0])), (w35, .inl (cB, 16, .inl (fun _ => 0)))] H33 := hP
  replace hD : va_D A [(xo, .inr (6, [.ref q1, .int 0, .int 0, .int 0, .ref q9, .ref q20, .null, .null])), (q1, .inr (4, [.int 0, .ref (zk 0), .int 0])), (q9, .inr (5, [.int 4, .int 1, .ref w13, .ref v14, .ref h15, .int 0])), (w13, .inl (cI, 1, .inl gw16)), (v14, .inl (cI, 1, .inl gv17)), (h15, .inl (cR, 1, .inr (.inr (.inr (.inr gh18))))), (q20, .inr (5, [.int 4, .int 1, .ref w24, .ref v25, .ref h26, .int 0])), (w24, .inl (cI, 1, .inl gw27)), (v25, .inl (cI, 1, .inl gv28)), (h26, .inl (cR, 1, .inr (.inr (.inr (.inr gh29))))), (q31, .inr (1, [.ref w35, .int 0, .int 0, .int 0])), (w35, .inl (cB, 16, .inl (fun _ => 0)))] := hD
  refine W.widen (k := 11) (n := 41) (by omega) (by omega) ?_
  refine va_putF (D := (dC, dI)) (ci := 6) (v := .ref q31) (ty := .object "java/lang/StringBuilder") (C := RX1) (T := TX1) (N := 8) hx hb hts hi_X1_init_X1 tyX1 tyX1_ok nmX1 hown hK hP hD (zS0 hS) 0 rfl rfl 6 (by decide) (hts (.fieldLink RX1 41 "Deeprows" "words" "Ljava/lang/StringBuilder;") (List.mem_cons_of_mem _ zw_177)) (fun _ h9 => h9) rfl hin rfl (by decide +kernel) rfl rfl (Nat.le_of_ble_eq_true rfl) dX1_init_64 (fun H36 locs hP hD hS1 => ?_)
  have hz : s.heap.size + 11 ≤ H36.size := Nat.le_trans hz hS1.1
  have hS := zSS hS hS1
  replace hP : va_P (dC, dI) vwCl [(xo, .inr (6, [.ref q1, .int 0, .int 0, .int 0, .ref q9, .ref q20, .ref q31, .null])), (q1, .inr (4, [.int 0, .ref (zk 0), .int 0])), (q9, .inr (5, [.int 4, .int 1, .ref w13, .ref v14, .ref h15, .int 0])), (w13, .inl (cI, 1, .inl gw16)), (v14, .inl (cI, 1, .inl gv17)), (h15, .inl (cR, 1, .inr (.inr (.inr (.inr gh18))))), (q20, .inr (5, [.int 4, .int 1, .ref w24, .ref v25, .ref h26, .int 0])), (w24, .inl (cI, 1, .inl gw27)), (v25, .inl (cI, 1, .inl gv28)), (h26, .inl (cR, 1, .inr (.inr (.inr (.inr gh29))))), (q31, .inr (1, [.ref w35, .int 0, .int 0, .int 0])), (w35, .inl (cB, 16, .inl (fun _ => 0)))] H36 := hP
  replace hD : va_D A [(xo, .inr (6, [.ref q1, .int 0, .int 0, .int 0, .ref q9, .ref q20, .ref q31, .null])), (q1, .inr (4, [.int 0, .ref (zk 0), .int 0])), (q9, .inr (5, [.int 4, .int 1, .ref w13, .ref v14, .ref h15, .int 0])), (w13, .inl (cI, 1, .inl gw16)), (v14, .inl (cI, 1, .inl gv17)), (h15, .inl (cR, 1, .inr (.inr (.inr (.inr gh18))))), (q20, .inr (5, [.int 4, .int 1, .ref w24, .ref v25, .ref h26, .int 0])), (w24, .inl (cI, 1, .inl gw27)), (v25, .inl (cI, 1, .inl gv28)), (h26, .inl (cR, 1, .inr (.inr (.inr (.inr gh29))))), (q31, .inr (1, [.ref w35, .int 0, .int 0, .int 0])), (w35, .inl (cB, 16, .inl (fun _ => 0)))] := hD
  refine lv_aload_n hx hb dX1_init_67 rfl (lv_at hl 0 rfl) ?_
  refine zw_new (ci := 1) (fs := [.null, .int 0, .int 0, .int 0]) (C := RJ4) (T := TJ4) (N := 4) hx hb hts hi_X1_init_J4 tyJ4 tyJ4_ok hown (hts (.classLink RX1 38 RJ4) (List.mem_cons_of_mem _ zw_138)) (hts (.instantiable RJ4 4) (List.mem_cons_of_mem _ zw_139)) (hts (.initialized RJ4) (List.mem_cons_of_mem _ zw_47)) hK hP hD hS hA rfl (fun j hj => by rcases (show j = 0 ∨ j = 1 ∨ j = 2 ∨ j = 3 by omega) with rfl | rfl | rfl | rfl <;> rfl) (Nat.le_of_ble_eq_true rfl) (Nat.le_of_ble_eq_true rfl) dX1_init_68 hz (fun q37 H38 hP hD hS hz => ?_)
  replace hP : va_P (dC, dI) vwCl [(xo, .inr (6, [.ref q1, .int 0, .int 0, .int 0, .ref q9, .ref q20, .ref q31, .null])), (q1, .inr (4, [.int 0, .ref (zk 0), .int 0])), (q9, .inr (5, [.int 4, .int 1, .ref w13, .ref v14, .ref h15, .int 0])), (w13, .inl (cI, 1, .inl gw16)), (v14, .inl (cI, 1, .inl gv17)), (h15, .inl (cR, 1, .inr (.inr (.inr (.inr gh18))))), (q20, .inr (5, [.int 4, .int 1, .ref w24, .ref v25, .ref h26, .int 0])), (w24, .inl (cI, 1, .inl gw27)), (v25, .inl (cI, 1, .inl gv28)), (h26, .inl (cR, 1, .inr (.inr (.inr (.inr gh29))))), (q31, .inr (1, [.ref w35, .int 0, .int 0, .int 0])), (w35, .inl (cB, 16, .inl (fun _ => 0))), (q37, .inr (1, [.null, .int 0, .int 0, .int 0]))] H38 := hP
  replace hD : va_D A [(xo, .inr (6, [.ref q1, .int 0, .int 0, .int 0, .ref q9, .ref q20, .ref q31, .null])), (q1, .inr (4, [.int 0, .ref (zk 0), .int 0])), (q9, .inr (5, [.int 4, .int 1, .ref w13, .ref v14, .ref h15, .int 0])), (w13, .inl (cI, 1, .inl gw16)), (v14, .inl (cI, 1, .inl gv17)), (h15, .inl (cR, 1, .inr (.inr (.inr (.inr gh18))))), (q20, .inr (5, [.int 4, .int 1, .ref w24, .ref v25, .ref h26, .int 0])), (w24, .inl (cI, 1, .inl gw27)), (v25, .inl (cI, 1, .inl gv28)), (h26, .inl (cR, 1, .inr (.inr (.inr (.inr gh29))))), (q31, .inr (1, [.ref w35, .int 0, .int 0, .int 0])), (w35, .inl (cB, 16, .inl (fun _ => 0))), (q37, .inr (1, [.null, .int 0, .int 0, .int 0]))] := hD
  refine W.widen (k := 12) (n := 45) (by omega) (by omega) ?_
  refine lv_dup hx hb dX1_init_71 rfl ?_
  have hPc := hP.sub (ws' := [(q37, .inr (1, [.null, .int 0, .int 0, .int 0]))]) [12] rfl
  have hDc := hD.sub (ws' := [(q37, .inr (1, [.null, .int 0, .int 0, .int 0]))]) [12] (by decide) rfl
  have hFc := va_free (wc := [(q37, .inr (1, [.null, .int 0, .int 0, .int 0]))]) hD hS hA [12] rfl
  have hDv := hDc.self (sz := H38.size)
  have hpre := zpre (xs' := []) (av := [.ref q37]) hPc hK (hDc.weaken (fun _ _ _ h => h)) hZ hS hFc (fun r hr => by cases hr)
  refine va_callv (va_runI (As := []) (rest := [.ref q37, .ref xo]) ⟨hx, hb, hml, hown, hts⟩ (k_init4 l dC dI cI cB cR cO zk q37 H38.size ) (cwI 0 hts gX1_init_J4_init_da8c8 rfl rfl rfl (hts (.initialized RJ4) (List.mem_cons_of_mem _ zw_47)) (hts (.methodLink RX1 40 yJ4_init_da8c8) (List.mem_cons_of_mem _ zw_140)) (hts (.instanceMethod yJ4_init_da8c8) (List.mem_cons_of_mem _ zw_141)) rfl (by decide +kernel) ⟨Nat.le_of_ble_eq_true rfl, Nat.le_of_ble_eq_true rfl⟩) ⟨zblind, hpre⟩ rfl rfl hl.1 rfl (lv_room (Nat.le_of_ble_eq_true rfl)) dX1_init_72 ⟨Nat.le_of_ble_eq_true rfl, Nat.le_of_ble_eq_true rfl⟩) hS (fun q _ h => hFc q h) hFc (fun u t H39 locs ht hvm hw hB hz1 hk1 hS => ?_)
  obtain ⟨w41, ⟨hP1, hK1, hD1, hz2⟩⟩ := hB
  rw [ht] at hP1 hz2
  have hPD9 := va_join (wr := [(xo, .inr (6, [.ref q1, .int 0, .int 0, .int 0, .ref q9, .ref q20, .ref q31, .null])), (q1, .inr (4, [.int 0, .ref (zk 0), .int 0])), (q9, .inr (5, [.int 4, .int 1, .ref w13, .ref v14, .ref h15, .int 0])), (w13, .inl (cI, 1, .inl gw16)), (v14, .inl (cI, 1, .inl gv17)), (h15, .inl (cR, 1, .inr (.inr (.inr (.inr gh18))))), (q20, .inr (5, [.int 4, .int 1, .ref w24, .ref v25, .ref h26, .int 0])), (w24, .inl (cI, 1, .inl gw27)), (v25, .inl (cI, 1, .inl gv28)), (h26, .inl (cR, 1, .inr (.inr (.inr (.inr gh29))))), (q31, .inr (1, [.ref w35, .int 0, .int 0, .int 0])), (w35, .inl (cB, 16, .inl (fun _ => 0)))]) (w1 := [(q37, .inr (1, [.ref w41, .int 0, .int 0, .int 0])), (w41, .inl (cB, 16, .inl (fun _ => 0)))]) hP hD [12] [0, 1, 2, 3, 4, 5, 6, 7, 8, 9, 10, 11] rfl rfl (by decide) (by decide) hk1 hFc hP1 hD1
  clear hPc hDc hFc hDv hpre hP hD hP1 hK1 hD1
  obtain ⟨hP, hD⟩ := hPD9
  replace hz : s.heap.size + 13 ≤ H39.size := by omega
  clear hz2
  replace hP : va_P (dC, dI) vwCl [(xo, .inr (6, [.ref q1, .int 0, .int 0, .int 0, .ref q9, .ref q20, .ref q31, .null])), (q1, .inr (4, [.int 0, .ref (zk 0), .int 0])), (q9, .inr (5, [.int 4, .int 1, .ref w13, .ref v14, .ref h15, .int 0])), (w13, .inl (cI, 1, .inl gw16)), (v14, .inl (cI, 1, .inl gv17)), (h15, .inl (cR, 1, .inr (.inr (.inr (.inr gh18))))), (q20, .inr (5, [.int 4, .int 1, .ref w24, .ref v25, .ref h26, .int 0])), (w24, .inl (cI, 1, .inl gw27)), (v25, .inl (cI, 1, .inl gv28)), (h26, .inl (cR, 1, .inr (.inr (.inr (.inr gh29))))), (q31, .inr (1, [.ref w35, .int 0, .int 0, .int 0])), (w35, .inl (cB, 16, .inl (fun _ => 0))), (q37, .inr (1, [.ref w41, .int 0, .int 0, .int 0])), (w41, .inl (cB, 16, .inl (fun _ => 0)))] H39 := hP
  replace hD : va_D A [(xo, .inr (6, [.ref q1, .int 0, .int 0, .int 0, .ref q9, .ref q20, .ref q31, .null])), (q1, .inr (4, [.int 0, .ref (zk 0), .int 0])), (q9, .inr (5, [.int 4, .int 1, .ref w13, .ref v14, .ref h15, .int 0])), (w13, .inl (cI, 1, .inl gw16)), (v14, .inl (cI, 1, .inl gv17)), (h15, .inl (cR, 1, .inr (.inr (.inr (.inr gh18))))), (q20, .inr (5, [.int 4, .int 1, .ref w24, .ref v25, .ref h26, .int 0])), (w24, .inl (cI, 1, .inl gw27)), (v25, .inl (cI, 1, .inl gv28)), (h26, .inl (cR, 1, .inr (.inr (.inr (.inr gh29))))), (q31, .inr (1, [.ref w35, .int 0, .int 0, .int 0])), (w35, .inl (cB, 16, .inl (fun _ => 0))), (q37, .inr (1, [.ref w41, .int 0, .int 0, .int 0])), (w41, .inl (cB, 16, .inl (fun _ => 0)))] := hD
  refine W.widen (k := 13) (n := 61) (by omega) (by omega) ?_
  refine va_putF (D := (dC, dI)) (ci := 6) (v := .ref q37) (ty := .object "java/lang/StringBuilder") (C := RX1) (T := TX1) (N := 8) hx hb hts hi_X1_init_X1 tyX1 tyX1_ok nmX1 hown hK hP hD (zS0 hS) 0 rfl rfl 7 (by decide) (hts (.fieldLink RX1 45 "Deeprows" "otherWords" "Ljava/lang/StringBuilder;") (List.mem_cons_of_mem _ zw_178)) (fun _ h9 => h9) rfl hin rfl (by decide +kernel) rfl rfl (Nat.le_of_ble_eq_true rfl) dX1_init_75 (fun H42 locs hP hD hS1 => ?_)
  have hz : s.heap.size + 13 ≤ H42.size := Nat.le_trans hz hS1.1
  have hS := zSS hS hS1
  replace hP : va_P (dC, dI) vwCl [(xo, .inr (6, [.ref q1, .int 0, .int 0, .int 0, .ref q9, .ref q20, .ref q31, .ref q37])), (q1, .inr (4, [.int 0, .ref (zk 0), .int 0])), (q9, .inr (5, [.int 4, .int 1, .ref w13, .ref v14, .ref h15, .int 0])), (w13, .inl (cI, 1, .inl gw16)), (v14, .inl (cI, 1, .inl gv17)), (h15, .inl (cR, 1, .inr (.inr (.inr (.inr gh18))))), (q20, .inr (5, [.int 4, .int 1, .ref w24, .ref v25, .ref h26, .int 0])), (w24, .inl (cI, 1, .inl gw27)), (v25, .inl (cI, 1, .inl gv28)), (h26, .inl (cR, 1, .inr (.inr (.inr (.inr gh29))))), (q31, .inr (1, [.ref w35, .int 0, .int 0, .int 0])), (w35, .inl (cB, 16, .inl (fun _ => 0))), (q37, .inr (1, [.ref w41, .int 0, .int 0, .int 0])), (w41, .inl (cB, 16, .inl (fun _ => 0)))] H42 := hP
  replace hD : va_D A [(xo, .inr (6, [.ref q1, .int 0, .int 0, .int 0, .ref q9, .ref q20, .ref q31, .ref q37])), (q1, .inr (4, [.int 0, .ref (zk 0), .int 0])), (q9, .inr (5, [.int 4, .int 1, .ref w13, .ref v14, .ref h15, .int 0])), (w13, .inl (cI, 1, .inl gw16)), (v14, .inl (cI, 1, .inl gv17)), (h15, .inl (cR, 1, .inr (.inr (.inr (.inr gh18))))), (q20, .inr (5, [.int 4, .int 1, .ref w24, .ref v25, .ref h26, .int 0])), (w24, .inl (cI, 1, .inl gw27)), (v25, .inl (cI, 1, .inl gv28)), (h26, .inl (cR, 1, .inr (.inr (.inr (.inr gh29))))), (q31, .inr (1, [.ref w35, .int 0, .int 0, .int 0])), (w35, .inl (cB, 16, .inl (fun _ => 0))), (q37, .inr (1, [.ref w41, .int 0, .int 0, .int 0])), (w41, .inl (cB, 16, .inl (fun _ => 0)))] := hD
  have hP9 := hP.sub (ws' := [(xo, .inr (6, [.ref q1, .int 0, .int 0, .int 0, .ref q9, .ref q20, .ref q31, .ref q37])), (q1, .inr (4, [.int 0, .ref (zk 0), .int 0])), (q31, .inr (1, [.ref w35, .int 0, .int 0, .int 0])), (w35, .inl (cB, 16, .inl (fun _ => 0)))]) [0, 1, 10, 11] rfl
  have hD9 := hD.sub (ws' := [(xo, .inr (6, [.ref q1, .int 0, .int 0, .int 0, .ref q9, .ref q20, .ref q31, .ref q37])), (q1, .inr (4, [.int 0, .ref (zk 0), .int 0])), (q31, .inr (1, [.ref w35, .int 0, .int 0, .int 0])), (w35, .inl (cB, 16, .inl (fun _ => 0)))]) [0, 1, 10, 11] (by decide) rfl
  exact W.vret hx hb hr (fun t ht hW => ⟨⟨(), rfl, trivial, ⟨_, _, _, _, _, _, ⟨by rw [ht]; exact hP9, va_K.moved hW.alike hK, hD9, by rw [ht]; exact hz⟩⟩⟩, hS.F ht⟩) hS.2.2 dX1_init_78
