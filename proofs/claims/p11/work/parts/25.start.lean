set_option maxHeartbeats 8000000 in
set_option maxRecDepth 100000 in
/-- the law on the script, from its entry -/
theorem zl_start (l : Launch) (dC : Nat → ClassId) (dI : Nat → Nat → Nat) (cI cB cR cO : ClassId) (zk : Nat → Nat) {p : Program} {e : Env} {s : State} {mY : MethodId} {below : List Frame} {meth : Method} {c : Code} (b : Nat) (C0 : zl_At p s mY meth c b) (hZ0 : zR zk [] (fun q => s.heap.size ≤ q) s s.heap) (hK : va_K (dC, dI) vwCl (zT cI cB cR cO) s) : W p l e zR2 s mY #[Value.ref b] below meth c s.heap [] 0 0 (zl_Z below s) (entryFrame mY ([Value.ref b] : List Value).toArray 7) := by
  have C1 := C0
  obtain ⟨hx, hb, hr, hml, hown, hts0, hX, hbl, hlocks, hNI⟩ := C0
  have hts := fun (w : Cond) (h : w ∈ wsL_law) => hts0 w (wsL_law_in w h)
  obtain ⟨A, hAd⟩ : ∃ A : Nat → Prop, A = fun q => s.heap.size ≤ q := ⟨_, rfl⟩
  have hA : ∀ q : Nat, s.heap.size ≤ q → A q := fun q h => by rw [hAd]; exact h
  have hAf : ∀ q : Nat, A q → s.heap.size ≤ q := fun q h => by rw [hAd] at h; exact h
  have hbA : ¬ A b := fun h => absurd (hAf b h) (Nat.not_le.mpr hbl)
  have hZ : zR zk [] A s s.heap := by rw [hAd]; exact hZ0
  have hP : va_P (dC, dI) vwCl [] s.heap := fun k q h => by simp at h
  have hD : va_D A [] := ⟨fun i j p q h => by simp at h, fun k q h => by simp at h⟩
  have hS : va_S A s.heap s.heap [] := va_S.rf
  have hz : s.heap.size + 0 ≤ s.heap.size := Nat.le_refl _
  have hl := lv_entry ([.ref b]) (n := 7) (Nat.le_of_ble_eq_true rfl)
  rw [lg_entry_eq]
  generalize (lg_sl ([.ref b]) ++ List.replicate (7 - (lg_sl ([.ref b])).length) Slot.unset).toArray = ls at hl ⊢
  have hl : lv_has ls 7 [(0, .ref b)] := hl
  have hP : va_P (dC, dI) vwCl [] s.heap := hP
  have hD : va_D A [] := hD
  refine zw_new (ci := 6) (fs := [.null, .int 0, .int 0, .int 0, .null, .null, .null, .null]) (C := RX1) (T := TX1) (N := 8) hx hb hts inlX1 tyX1 tyX1_ok hown (hts (.classLink RL 8 RX1) (List.mem_cons_of_mem _ zw_71)) (hts (.instantiable RX1 8) (List.mem_cons_of_mem _ zw_72)) (hts (.initialized RX1) (List.mem_cons_of_mem _ zw_41)) hK hP hD hS hA rfl (fun j hj => by rcases (show j = 0 ∨ j = 1 ∨ j = 2 ∨ j = 3 ∨ j = 4 ∨ j = 5 ∨ j = 6 ∨ j = 7 by omega) with rfl | rfl | rfl | rfl | rfl | rfl | rfl | rfl <;> rfl) (Nat.le_of_ble_eq_true rfl) (Nat.le_of_ble_eq_true rfl) dL_law_0 hz (fun q1 H2 hP hD hS hz => ?_)
  replace hP : va_P (dC, dI) vwCl [(q1, .inr (6, [.null, .int 0, .int 0, .int 0, .null, .null, .null, .null]))] H2 := hP
  replace hD : va_D A [(q1, .inr (6, [.null, .int 0, .int 0, .int 0, .null, .null, .null, .null]))] := hD
  refine W.widen (k := 1) (n := 8) (by omega) (by omega) ?_
  refine lv_dup hx hb dL_law_3 rfl ?_
  have hPc := hP.sub (ws' := [(q1, .inr (6, [.null, .int 0, .int 0, .int 0, .null, .null, .null, .null]))]) [0] rfl
  have hDc := hD.sub (ws' := [(q1, .inr (6, [.null, .int 0, .int 0, .int 0, .null, .null, .null, .null]))]) [0] (by decide) rfl
  have hFc := va_free (wc := [(q1, .inr (6, [.null, .int 0, .int 0, .int 0, .null, .null, .null, .null]))]) hD hS hA [0] rfl
  have hDv := hDc.self (sz := H2.size)
  have hpre := zpre (xs' := []) (av := [.ref q1]) hPc hK (hDc.weaken (fun _ _ _ h => h)) hZ hS hFc (fun r hr => by cases hr)
  refine va_callv (va_runI (As := []) (rest := [.ref q1]) ⟨hx, hb, hml, hown, hts⟩ (k_xin l dC dI cI cB cR cO zk q1 H2.size ) (cwI 0 hts gL_law_X1_init rfl rfl rfl (hts (.initialized RX1) (List.mem_cons_of_mem _ zw_41)) (hts (.methodLink RL 117 yX1_init) (List.mem_cons_of_mem _ zw_73)) (hts (.instanceMethod yX1_init) (List.mem_cons_of_mem _ zw_74)) rfl (by decide +kernel) ⟨Nat.le_of_ble_eq_true rfl, Nat.le_of_ble_eq_true rfl⟩) ⟨zblind, hpre⟩ rfl rfl hl.1 rfl (lv_room (Nat.le_of_ble_eq_true rfl)) dL_law_4 ⟨Nat.le_of_ble_eq_true rfl, Nat.le_of_ble_eq_true rfl⟩) hS (fun q _ h => hFc q h) hFc (fun u t H3 locs ht hvm hw hB hz1 hk1 hS => ?_)
  obtain ⟨al5, sa6, sb7, b8, sc9, v10, ⟨hP1, hK1, hD1, hz2⟩⟩ := hB
  rw [ht] at hP1 hz2
  have hPD9 := va_join (wr := []) (w1 := [(q1, .inr (6, [.ref al5, .int 0, .int 0, .int 0, .ref sa6, .ref sb7, .ref b8, .ref sc9])), (al5, .inr (4, [.int 0, .ref (zk 0), .int 0])), (b8, .inr (1, [.ref v10, .int 0, .int 0, .int 0])), (v10, .inl (cB, 16, .inl (fun _ => 0)))]) hP hD [0] [] rfl rfl (by decide) (by decide) hk1 hFc hP1 hD1
  clear hPc hDc hFc hDv hpre hP hD hP1 hK1 hD1
  obtain ⟨hP, hD⟩ := hPD9
  replace hz : s.heap.size + 14 ≤ H3.size := by omega
  clear hz2
  replace hP : va_P (dC, dI) vwCl [(q1, .inr (6, [.ref al5, .int 0, .int 0, .int 0, .ref sa6, .ref sb7, .ref b8, .ref sc9])), (al5, .inr (4, [.int 0, .ref (zk 0), .int 0])), (b8, .inr (1, [.ref v10, .int 0, .int 0, .int 0])), (v10, .inl (cB, 16, .inl (fun _ => 0)))] H3 := hP
  replace hD : va_D A [(q1, .inr (6, [.ref al5, .int 0, .int 0, .int 0, .ref sa6, .ref sb7, .ref b8, .ref sc9])), (al5, .inr (4, [.int 0, .ref (zk 0), .int 0])), (b8, .inr (1, [.ref v10, .int 0, .int 0, .int 0])), (v10, .inl (cB, 16, .inl (fun _ => 0)))] := hD
  refine W.widen (k := 14) (n := 69) (by omega) (by omega) ?_
  refine lv_astore_n (lv' := [(1, .ref q1), (0, .ref b)]) hx hb dL_law_7 rfl hl (by decide) rfl (fun ls hl => ?_)
  refine zw_new (ci := 9) (fs := [.int 0, .null, .int 0, .int 0, .int 0]) (C := RX4) (T := TX4) (N := 5) hx hb hts inlX4 tyX4 tyX4_ok hown (hts (.classLink RL 118 RX4) (List.mem_cons_of_mem _ zw_1125)) (hts (.instantiable RX4 5) (List.mem_cons_of_mem _ zw_1126)) (hts (.initialized RX4) (List.mem_cons_of_mem _ zw_50)) hK hP hD hS hA rfl (fun j hj => by rcases (show j = 0 ∨ j = 1 ∨ j = 2 ∨ j = 3 ∨ j = 4 by omega) with rfl | rfl | rfl | rfl | rfl <;> rfl) (Nat.le_of_ble_eq_true rfl) (Nat.le_of_ble_eq_true rfl) dL_law_8 hz (fun q11 H12 hP hD hS hz => ?_)
  replace hP : va_P (dC, dI) vwCl [(q1, .inr (6, [.ref al5, .int 0, .int 0, .int 0, .ref sa6, .ref sb7, .ref b8, .ref sc9])), (al5, .inr (4, [.int 0, .ref (zk 0), .int 0])), (b8, .inr (1, [.ref v10, .int 0, .int 0, .int 0])), (v10, .inl (cB, 16, .inl (fun _ => 0))), (q11, .inr (9, [.int 0, .null, .int 0, .int 0, .int 0]))] H12 := hP
  replace hD : va_D A [(q1, .inr (6, [.ref al5, .int 0, .int 0, .int 0, .ref sa6, .ref sb7, .ref b8, .ref sc9])), (al5, .inr (4, [.int 0, .ref (zk 0), .int 0])), (b8, .inr (1, [.ref v10, .int 0, .int 0, .int 0])), (v10, .inl (cB, 16, .inl (fun _ => 0))), (q11, .inr (9, [.int 0, .null, .int 0, .int 0, .int 0]))] := hD
  refine W.widen (k := 15) (n := 74) (by omega) (by omega) ?_
  refine lv_dup hx hb dL_law_11 rfl ?_
  have hPc := hP.sub (ws' := [(q11, .inr (9, [.int 0, .null, .int 0, .int 0, .int 0]))]) [4] rfl
  have hDc := hD.sub (ws' := [(q11, .inr (9, [.int 0, .null, .int 0, .int 0, .int 0]))]) [4] (by decide) rfl
  have hFc := va_free (wc := [(q11, .inr (9, [.int 0, .null, .int 0, .int 0, .int 0]))]) hD hS hA [4] rfl
  have hDv := hDc.self (sz := H12.size)
  have hpre := zpre (xs' := []) (av := [.ref q11]) hPc hK (hDc.weaken (fun _ _ _ h => h)) hZ hS hFc (fun r hr => by cases hr)
  refine va_callv (va_runI (As := []) (rest := [.ref q11]) ⟨hx, hb, hml, hown, hts⟩ (k_min l dC dI cI cB cR cO zk q11 H12.size ) (cwI 0 hts gL_law_X4_init rfl rfl rfl (hts (.initialized RX4) (List.mem_cons_of_mem _ zw_50)) (hts (.methodLink RL 120 yX4_init) (List.mem_cons_of_mem _ zw_1127)) (hts (.instanceMethod yX4_init) (List.mem_cons_of_mem _ zw_1128)) rfl (by decide +kernel) ⟨Nat.le_of_ble_eq_true rfl, Nat.le_of_ble_eq_true rfl⟩) ⟨zblind, hpre⟩ rfl rfl hl.1 rfl (lv_room (Nat.le_of_ble_eq_true rfl)) dL_law_12 ⟨Nat.le_of_ble_eq_true rfl, Nat.le_of_ble_eq_true rfl⟩) hS (fun q _ h => hFc q h) hFc (fun u t H13 locs ht hvm hw hB hz1 hk1 hS => ?_)
  obtain ⟨am15, ⟨hP1, hK1, hD1, hz2⟩⟩ := hB
  rw [ht] at hP1 hz2
  have hPD9 := va_join (wr := [(q1, .inr (6, [.ref al5, .int 0, .int 0, .int 0, .ref sa6, .ref sb7, .ref b8, .ref sc9])), (al5, .inr (4, [.int 0, .ref (zk 0), .int 0])), (b8, .inr (1, [.ref v10, .int 0, .int 0, .int 0])), (v10, .inl (cB, 16, .inl (fun _ => 0)))]) (w1 := [(q11, .inr (9, [.int 0, .ref am15, .int 0, .int 0, .int 0])), (am15, .inr (4, [.int 0, .ref (zk 0), .int 0]))]) hP hD [4] [0, 1, 2, 3] rfl rfl (by decide) (by decide) hk1 hFc hP1 hD1
  clear hPc hDc hFc hDv hpre hP hD hP1 hK1 hD1
  obtain ⟨hP, hD⟩ := hPD9
  replace hz : s.heap.size + 16 ≤ H13.size := by omega
  clear hz2
  replace hP : va_P (dC, dI) vwCl [(q1, .inr (6, [.ref al5, .int 0, .int 0, .int 0, .ref sa6, .ref sb7, .ref b8, .ref sc9])), (al5, .inr (4, [.int 0, .ref (zk 0), .int 0])), (b8, .inr (1, [.ref v10, .int 0, .int 0, .int 0])), (v10, .inl (cB, 16, .inl (fun _ => 0))), (q11, .inr (9, [.int 0, .ref am15, .int 0, .int 0, .int 0])), (am15, .inr (4, [.int 0, .ref (zk 0), .int 0]))] H13 := hP
  replace hD : va_D A [(q1, .inr (6, [.ref al5, .int 0, .int 0, .int 0, .ref sa6, .ref sb7, .ref b8, .ref sc9])), (al5, .inr (4, [.int 0, .ref (zk 0), .int 0])), (b8, .inr (1, [.ref v10, .int 0, .int 0, .int 0])), (v10, .inl (cB, 16, .inl (fun _ => 0))), (q11, .inr (9, [.int 0, .ref am15, .int 0, .int 0, .int 0])), (am15, .inr (4, [.int 0, .ref (zk 0), .int 0]))] := hD
  refine W.widen (k := 16) (n := 77) (by omega) (by omega) ?_
  refine lv_astore_n (lv' := [(2, .ref q11), (1, .ref q1), (0, .ref b)]) hx hb dL_law_15 rfl hl (by decide) rfl (fun ls hl => ?_)
  refine zw_new (ci := 7) (fs := [.long 0, .null]) (C := RX2) (T := TX2) (N := 2) hx hb hts inlX2 tyX2 tyX2_ok hown (hts (.classLink RL 14 RX2) (List.mem_cons_of_mem _ zw_770)) (hts (.instantiable RX2 2) (List.mem_cons_of_mem _ zw_771)) (hts (.initialized RX2) (List.mem_cons_of_mem _ zw_51)) hK hP hD hS hA rfl (fun j hj => by rcases (show j = 0 ∨ j = 1 by omega) with rfl | rfl <;> rfl) (Nat.le_of_ble_eq_true rfl) (Nat.le_of_ble_eq_true rfl) dL_law_16 hz (fun q16 H17 hP hD hS hz => ?_)
  replace hP : va_P (dC, dI) vwCl [(q1, .inr (6, [.ref al5, .int 0, .int 0, .int 0, .ref sa6, .ref sb7, .ref b8, .ref sc9])), (al5, .inr (4, [.int 0, .ref (zk 0), .int 0])), (b8, .inr (1, [.ref v10, .int 0, .int 0, .int 0])), (v10, .inl (cB, 16, .inl (fun _ => 0))), (q11, .inr (9, [.int 0, .ref am15, .int 0, .int 0, .int 0])), (am15, .inr (4, [.int 0, .ref (zk 0), .int 0])), (q16, .inr (7, [.long 0, .null]))] H17 := hP
  replace hD : va_D A [(q1, .inr (6, [.ref al5, .int 0, .int 0, .int 0, .ref sa6, .ref sb7, .ref b8, .ref sc9])), (al5, .inr (4, [.int 0, .ref (zk 0), .int 0])), (b8, .inr (1, [.ref v10, .int 0, .int 0, .int 0])), (v10, .inl (cB, 16, .inl (fun _ => 0))), (q11, .inr (9, [.int 0, .ref am15, .int 0, .int 0, .int 0])), (am15, .inr (4, [.int 0, .ref (zk 0), .int 0])), (q16, .inr (7, [.long 0, .null]))] := hD
  refine W.widen (k := 17) (n := 79) (by omega) (by omega) ?_
  refine lv_dup hx hb dL_law_19 rfl ?_
  have hPc := hP.sub (ws' := [(q16, .inr (7, [.long 0, .null]))]) [6] rfl
  have hDc := hD.sub (ws' := [(q16, .inr (7, [.long 0, .null]))]) [6] (by decide) rfl
  have hFc := va_free (wc := [(q16, .inr (7, [.long 0, .null]))]) hD hS hA [6] rfl
  have hDv := hDc.self (sz := H17.size)
  have hpre := zpre (xs' := []) (av := [.ref q16]) hPc hK (hDc.weaken (fun _ _ _ h => h)) hZ hS hFc (fun r hr => by cases hr)
  refine va_callv (va_runIN (As := []) (rest := [.ref q16]) ⟨hx, hb, hml, hown, hts⟩ (k_oin l dC dI cI cB cR cO zk q16 H17.size ) ⟨va_cnB 0 hts gL_law_X2_init_n121 rfl rfl rfl hNI (hts (.initialized RX2) (List.mem_cons_of_mem _ zw_51)) (by decide +kernel) ⟨Nat.le_of_ble_eq_true rfl, Nat.le_of_ble_eq_true rfl⟩, rfl, hts (.instanceMethod yX2_init) (List.mem_cons_of_mem _ zw_773)⟩ ⟨zblind, hpre⟩ rfl rfl hl.1 rfl (lv_room (Nat.le_of_ble_eq_true rfl)) dL_law_20 ⟨Nat.le_of_ble_eq_true rfl, Nat.le_of_ble_eq_true rfl⟩) hS (fun q _ h => hFc q h) hFc (fun u t H18 locs ht hvm hw hB hz1 hk1 hS => ?_)
  obtain ⟨hP1, hK1, hD1, hz2⟩ := hB
  rw [ht] at hP1 hz2
  have hPD9 := va_join (wr := [(q1, .inr (6, [.ref al5, .int 0, .int 0, .int 0, .ref sa6, .ref sb7, .ref b8, .ref sc9])), (al5, .inr (4, [.int 0, .ref (zk 0), .int 0])), (b8, .inr (1, [.ref v10, .int 0, .int 0, .int 0])), (v10, .inl (cB, 16, .inl (fun _ => 0))), (q11, .inr (9, [.int 0, .ref am15, .int 0, .int 0, .int 0])), (am15, .inr (4, [.int 0, .ref (zk 0), .int 0]))]) (w1 := [(q16, .inr (7, [.long 0, .null]))]) hP hD [6] [0, 1, 2, 3, 4, 5] rfl rfl (by decide) (by decide) hk1 hFc hP1 hD1
  clear hPc hDc hFc hDv hpre hP hD hP1 hK1 hD1
  obtain ⟨hP, hD⟩ := hPD9
  replace hz : s.heap.size + 17 ≤ H18.size := by omega
  clear hz2
  replace hP : va_P (dC, dI) vwCl [(q1, .inr (6, [.ref al5, .int 0, .int 0, .int 0, .ref sa6, .ref sb7, .ref b8, .ref sc9])), (al5, .inr (4, [.int 0, .ref (zk 0), .int 0])), (b8, .inr (1, [.ref v10, .int 0, .int 0, .int 0])), (v10, .inl (cB, 16, .inl (fun _ => 0))), (q11, .inr (9, [.int 0, .ref am15, .int 0, .int 0, .int 0])), (am15, .inr (4, [.int 0, .ref (zk 0), .int 0])), (q16, .inr (7, [.long 0, .null]))] H18 := hP
  replace hD : va_D A [(q1, .inr (6, [.ref al5, .int 0, .int 0, .int 0, .ref sa6, .ref sb7, .ref b8, .ref sc9])), (al5, .inr (4, [.int 0, .ref (zk 0), .int 0])), (b8, .inr (1, [.ref v10, .int 0, .int 0, .int 0])), (v10, .inl (cB, 16, .inl (fun _ => 0))), (q11, .inr (9, [.int 0, .ref am15, .int 0, .int 0, .int 0])), (am15, .inr (4, [.int 0, .ref (zk 0), .int 0])), (q16, .inr (7, [.long 0, .null]))] := hD
  refine W.widen (k := 17) (n := 79) (by omega) (by omega) ?_
  refine lv_astore_n (lv' := [(3, .ref q16), (2, .ref q11), (1, .ref q1), (0, .ref b)]) hx hb dL_law_23 rfl hl (by decide) rfl (fun ls hl => ?_)
  refine lv_iconst (v := 0) hx hb dL_law_24 (by decide) ?_
  refine lv_istore (lv' := [(4, .int 0), (3, .ref q16), (2, .ref q11), (1, .ref q1), (0, .ref b)]) hx hb dL_law_25 hl (by decide) rfl (fun ls hl => ?_)
  refine lv_iload hx hb dL_law_27 (lv_at hl 0 rfl) ?_
  refine lv_aload_n hx hb dL_law_29 rfl (lv_at hl 4 rfl) ?_
  refine va_slen hx hb hX hbl hbA hS dL_law_30 ?_
  refine W.eq (g2 := F0 mY 31 ls [.int 1835, .int 0]) rfl ?_
  refine lv_iconst (v := 5) hx hb dL_law_31 (by decide) ?_
  refine lv_isub hx hb dL_law_32 ?_
  refine lv_topi (fun v20 ev20 => ?_)
  obtain rfl : v20 = 1830 := ev20.trans (by decide)
  refine lv_icmp_gt (tgt := 1355) hx hb dL_law_33 (by decide) (fun c9 => ?_) (fun c9 => ?_)
  · exact absurd c9 (by decide)
  refine lv_aload_n hx hb dL_law_36 rfl (lv_at hl 4 rfl) ?_
  refine lv_iload hx hb dL_law_37 (lv_at hl 0 rfl) ?_
  refine va_sld hx hb hX hbl hbA hS (by unfold vp_in; decide) dL_law_39 ?_
  refine lv_topi (fun v21 ev21 => ?_)
  obtain rfl : v21 = 0 := ev21.trans (by decide)
  refine lv_bipush (v := 31) hx hb dL_law_40 (by decide) ?_
  refine lv_iand hx hb dL_law_42 ?_
  refine lv_topi (fun v22 ev22 => ?_)
  obtain rfl : v22 = 0 := ev22.trans (by decide)
  refine lv_tableIn (off := 141) (tgt := 184) hx hb dL_law_43 (by decide) (by decide) (by decide) (by decide) ?_
  refine lv_aload_n hx hb dL_law_184 rfl (lv_at hl 3 rfl) ?_
  refine lv_aload_n hx hb dL_law_185 rfl (lv_at hl 4 rfl) ?_
  refine lv_iload hx hb dL_law_186 (lv_at hl 0 rfl) ?_
  refine lv_iconst (v := 1) hx hb dL_law_188 (by decide) ?_
  refine lv_iadd hx hb dL_law_189 ?_
  refine lv_topi (fun v23 ev23 => ?_)
  obtain rfl : v23 = 1 := ev23.trans (by decide)
  refine va_sld hx hb hX hbl hbA hS (by unfold vp_in; decide) dL_law_190 ?_
  refine lv_topi (fun v24 ev24 => ?_)
  obtain rfl : v24 = 4 := ev24.trans (by decide)
  refine lv_aload_n hx hb dL_law_191 rfl (lv_at hl 4 rfl) ?_
  refine lv_iload hx hb dL_law_192 (lv_at hl 0 rfl) ?_
  refine lv_iconst (v := 2) hx hb dL_law_194 (by decide) ?_
  refine lv_iadd hx hb dL_law_195 ?_
  refine lv_topi (fun v25 ev25 => ?_)
  obtain rfl : v25 = 2 := ev25.trans (by decide)
  refine va_sld hx hb hX hbl hbA hS (by unfold vp_in; decide) dL_law_196 ?_
  refine lv_topi (fun v26 ev26 => ?_)
  obtain rfl : v26 = 4 := ev26.trans (by decide)
  refine lv_aload_n hx hb dL_law_197 rfl (lv_at hl 1 rfl) ?_
  have hPc := hP.sub (ws' := [(q16, .inr (7, [.long 0, .null])), (q1, .inr (6, [.ref al5, .int 0, .int 0, .int 0, .ref sa6, .ref sb7, .ref b8, .ref sc9])), (al5, .inr (4, [.int 0, .ref (zk 0), .int 0]))]) [6, 0, 1] rfl
  have hDc := hD.sub (ws' := [(q16, .inr (7, [.long 0, .null])), (q1, .inr (6, [.ref al5, .int 0, .int 0, .int 0, .ref sa6, .ref sb7, .ref b8, .ref sc9])), (al5, .inr (4, [.int 0, .ref (zk 0), .int 0]))]) [6, 0, 1] (by decide) rfl
  have hFc := va_free (wc := [(q16, .inr (7, [.long 0, .null])), (q1, .inr (6, [.ref al5, .int 0, .int 0, .int 0, .ref sa6, .ref sb7, .ref b8, .ref sc9])), (al5, .inr (4, [.int 0, .ref (zk 0), .int 0]))]) hD hS hA [6, 0, 1] rfl
  have hDv := hDc.self (sz := H18.size)
  have hpre := zpre (xs' := []) (av := [.ref q1, .int 4, .int 4, .ref q16]) hPc hK (hDc.weaken (fun _ _ _ h => h)) hZ hS hFc (fun r hr => by cases hr)
  refine va_calli (vx_runSW (As := [.ref q1, .int 4, .int 4, .ref q16]) (rest := []) ⟨hx, hb, hml, hown, hts⟩ (k_LmX0 l dC dI cI cB cR cO zk q1 al5 b8 (.int 0) (.int 0) (.int 0) (.ref sa6) (.ref sb7) (.ref sc9) 0 (fun _ => none) 0 q16 (.long 0) .null H18.size ) (vx_cwSW 4 hts gL_law_L_make rfl rfl rfl (by decide +kernel) ⟨Nat.le_of_ble_eq_true rfl, Nat.le_of_ble_eq_true rfl⟩) ⟨zblind, hpre⟩ rfl rfl hl.1 rfl (lv_room (Nat.le_of_ble_eq_true rfl)) dL_law_198 ⟨Nat.le_of_ble_eq_true rfl, Nat.le_of_ble_eq_true rfl⟩) hS (fun q _ h => hFc q h) hFc (fun r28 u t H27 locs ht hvm hw hB hz1 hk1 hS => ?_)
  obtain rfl : 0 = r28 := (show r28 = 0 from hw).symm
  obtain ⟨on29, ed30, mc31, y32, yw33, yv34, yh35, gw36, gv37, gh38, ⟨hP1, hK1, hD1, hz2⟩, hwgw36, hhgh38, rfl⟩ := hB
  rw [ht] at hP1 hz2
  have hPD9 := va_join (wr := [(b8, .inr (1, [.ref v10, .int 0, .int 0, .int 0])), (v10, .inl (cB, 16, .inl (fun _ => 0))), (q11, .inr (9, [.int 0, .ref am15, .int 0, .int 0, .int 0])), (am15, .inr (4, [.int 0, .ref (zk 0), .int 0]))]) (w1 := [(q16, .inr (7, [.long ((0 : Int32).toInt64), .null])), (q1, .inr (6, [.ref al5, .int 0, .int 0, .int 0, .ref sa6, .ref sb7, .ref b8, .ref sc9])), (al5, .inr (4, [.int mc31, .ref ed30, .int 1])), (ed30, .inl (cO, 10, .inr (.inr (.inr (.inr (va_up (fun _ => none) 0 (some y32))))))), (y32, .inr (5, [.int 4, .int 4, .ref yw33, .ref yv34, .ref yh35, .int 0])), (yw33, .inl (cI, 4, .inl gw36)), (yv34, .inl (cI, 4, .inl gv37)), (yh35, .inl (cR, 4, .inr (.inr (.inr (.inr gh38)))))]) hP hD [6, 0, 1] [2, 3, 4, 5] rfl rfl (by decide) (by decide) hk1 hFc hP1 hD1
  clear hPc hDc hFc hDv hpre hP hD hP1 hK1 hD1
  obtain ⟨hP, hD⟩ := hPD9
  replace hz : s.heap.size + 22 ≤ H27.size := by omega
  clear hz2
  replace hP : va_P (dC, dI) vwCl [(b8, .inr (1, [.ref v10, .int 0, .int 0, .int 0])), (v10, .inl (cB, 16, .inl (fun _ => 0))), (q11, .inr (9, [.int 0, .ref am15, .int 0, .int 0, .int 0])), (am15, .inr (4, [.int 0, .ref (zk 0), .int 0])), (q16, .inr (7, [.long ((0 : Int32).toInt64), .null])), (q1, .inr (6, [.ref al5, .int 0, .int 0, .int 0, .ref sa6, .ref sb7, .ref b8, .ref sc9])), (al5, .inr (4, [.int mc31, .ref ed30, .int 1])), (ed30, .inl (cO, 10, .inr (.inr (.inr (.inr (va_up (fun _ => none) 0 (some y32))))))), (y32, .inr (5, [.int 4, .int 4, .ref yw33, .ref yv34, .ref yh35, .int 0])), (yw33, .inl (cI, 4, .inl gw36)), (yv34, .inl (cI, 4, .inl gv37)), (yh35, .inl (cR, 4, .inr (.inr (.inr (.inr gh38)))))] H27 := hP
  replace hD : va_D A [(b8, .inr (1, [.ref v10, .int 0, .int 0, .int 0])), (v10, .inl (cB, 16, .inl (fun _ => 0))), (q11, .inr (9, [.int 0, .ref am15, .int 0, .int 0, .int 0])), (am15, .inr (4, [.int 0, .ref (zk 0), .int 0])), (q16, .inr (7, [.long ((0 : Int32).toInt64), .null])), (q1, .inr (6, [.ref al5, .int 0, .int 0, .int 0, .ref sa6, .ref sb7, .ref b8, .ref sc9])), (al5, .inr (4, [.int mc31, .ref ed30, .int 1])), (ed30, .inl (cO, 10, .inr (.inr (.inr (.inr (va_up (fun _ => none) 0 (some y32))))))), (y32, .inr (5, [.int 4, .int 4, .ref yw33, .ref yv34, .ref yh35, .int 0])), (yw33, .inl (cI, 4, .inl gw36)), (yv34, .inl (cI, 4, .inl gv37)), (yh35, .inl (cR, 4, .inr (.inr (.inr (.inr gh38)))))] := hD
  refine W.widen (k := 22) (n := 107) (by omega) (by omega) ?_
  refine lv_istore (lv' := [(5, .int 0), (4, .int 0), (3, .ref q16), (2, .ref q11), (1, .ref q1), (0, .ref b)]) hx hb dL_law_201 hl (by decide) rfl (fun ls hl => ?_)
  refine lv_aload_n hx hb dL_law_203 rfl (lv_at hl 3 rfl) ?_
  refine lv_aload_n hx hb dL_law_204 rfl (lv_at hl 5 rfl) ?_
  refine lv_iload hx hb dL_law_205 (lv_at hl 1 rfl) ?_
  refine lv_iconst (v := 1) hx hb dL_law_207 (by decide) ?_
  refine lv_iadd hx hb dL_law_208 ?_
  refine lv_topi (fun v39 ev39 => ?_)
  obtain rfl : v39 = 1 := ev39.trans (by decide)
  refine va_sld hx hb hX hbl hbA hS (by unfold vp_in; decide) dL_law_209 ?_
  refine lv_topi (fun v40 ev40 => ?_)
  obtain rfl : v40 = 4 := ev40.trans (by decide)
  refine lv_aload_n hx hb dL_law_210 rfl (lv_at hl 5 rfl) ?_
  refine lv_iload hx hb dL_law_211 (lv_at hl 1 rfl) ?_
  refine lv_iconst (v := 2) hx hb dL_law_213 (by decide) ?_
  refine lv_iadd hx hb dL_law_214 ?_
  refine lv_topi (fun v41 ev41 => ?_)
  obtain rfl : v41 = 2 := ev41.trans (by decide)
  refine va_sld hx hb hX hbl hbA hS (by unfold vp_in; decide) dL_law_215 ?_
  refine lv_topi (fun v42 ev42 => ?_)
  obtain rfl : v42 = 4 := ev42.trans (by decide)
  have hPc := hP.sub (ws' := [(q11, .inr (9, [.int 0, .ref am15, .int 0, .int 0, .int 0])), (am15, .inr (4, [.int 0, .ref (zk 0), .int 0]))]) [2, 3] rfl
  have hDc := hD.sub (ws' := [(q11, .inr (9, [.int 0, .ref am15, .int 0, .int 0, .int 0])), (am15, .inr (4, [.int 0, .ref (zk 0), .int 0]))]) [2, 3] (by decide) rfl
  have hFc := va_free (wc := [(q11, .inr (9, [.int 0, .ref am15, .int 0, .int 0, .int 0])), (am15, .inr (4, [.int 0, .ref (zk 0), .int 0]))]) hD hS hA [2, 3] rfl
  have hDv := hDc.self (sz := H27.size)
  have hpre := zpre (xs' := []) (av := [.ref q11, .int 4, .int 4]) hPc hK (hDc.weaken (fun _ _ _ h => h)) hZ hS hFc (fun r hr => by cases hr)
  refine va_calli (va_runV (As := [.int 4, .int 4]) (rest := []) ⟨hx, hb, hml, hown, hts⟩ (k_mkM0 l dC dI cI cB cR cO zk q11 am15 (.int 0) (.int 0) (.int 0) (.int 0) 0 (fun _ => none) 0 H27.size ) (cwV 2 hts gL_law_X4_make rfl rfl rfl (by decide +kernel) ⟨Nat.le_of_ble_eq_true rfl, Nat.le_of_ble_eq_true rfl⟩) ⟨zblind, (zrecv_9 hK hPc (q0 := 0) rfl), hpre⟩ rfl rfl hl.1 rfl (lv_room (Nat.le_of_ble_eq_true rfl)) dL_law_216 ⟨Nat.le_of_ble_eq_true rfl, Nat.le_of_ble_eq_true rfl⟩) hS (fun q _ h => hFc q h) hFc (fun r44 u t H43 locs ht hvm hw hB hz1 hk1 hS => ?_)
  obtain rfl : 0 = r44 := (show r44 = 0 from hw).symm
  obtain ⟨em45, mm46, a47, wa48, na49, fw50, fn51, ⟨hP1, hK1, hD1, hz2⟩, hwfw50, hnfn51⟩ := hB
  rw [ht] at hP1 hz2
  have hPD9 := va_join (wr := [(b8, .inr (1, [.ref v10, .int 0, .int 0, .int 0])), (v10, .inl (cB, 16, .inl (fun _ => 0))), (q16, .inr (7, [.long ((0 : Int32).toInt64), .null])), (q1, .inr (6, [.ref al5, .int 0, .int 0, .int 0, .ref sa6, .ref sb7, .ref b8, .ref sc9])), (al5, .inr (4, [.int mc31, .ref ed30, .int 1])), (ed30, .inl (cO, 10, .inr (.inr (.inr (.inr (va_up (fun _ => none) 0 (some y32))))))), (y32, .inr (5, [.int 4, .int 4, .ref yw33, .ref yv34, .ref yh35, .int 0])), (yw33, .inl (cI, 4, .inl gw36)), (yv34, .inl (cI, 4, .inl gv37)), (yh35, .inl (cR, 4, .inr (.inr (.inr (.inr gh38)))))]) (w1 := [(q11, .inr (9, [.int 0, .ref am15, .int 0, .int 0, .int 0])), (am15, .inr (4, [.int mm46, .ref em45, .int 1])), (em45, .inl (cO, 10, .inr (.inr (.inr (.inr (va_up (fun _ => none) 0 (some a47))))))), (a47, .inr (8, [.int 4, .ref wa48, .ref na49])), (wa48, .inl (cI, 4, .inl fw50)), (na49, .inl (cI, 4, .inl fn51))]) hP hD [2, 3] [0, 1, 4, 5, 6, 7, 8, 9, 10, 11] rfl rfl (by decide) (by decide) hk1 hFc hP1 hD1
  clear hPc hDc hFc hDv hpre hP hD hP1 hK1 hD1
  obtain ⟨hP, hD⟩ := hPD9
  replace hz : s.heap.size + 26 ≤ H43.size := by omega
  clear hz2
  replace hP : va_P (dC, dI) vwCl [(b8, .inr (1, [.ref v10, .int 0, .int 0, .int 0])), (v10, .inl (cB, 16, .inl (fun _ => 0))), (q16, .inr (7, [.long ((0 : Int32).toInt64), .null])), (q1, .inr (6, [.ref al5, .int 0, .int 0, .int 0, .ref sa6, .ref sb7, .ref b8, .ref sc9])), (al5, .inr (4, [.int mc31, .ref ed30, .int 1])), (ed30, .inl (cO, 10, .inr (.inr (.inr (.inr (va_up (fun _ => none) 0 (some y32))))))), (y32, .inr (5, [.int 4, .int 4, .ref yw33, .ref yv34, .ref yh35, .int 0])), (yw33, .inl (cI, 4, .inl gw36)), (yv34, .inl (cI, 4, .inl gv37)), (yh35, .inl (cR, 4, .inr (.inr (.inr (.inr gh38))))), (q11, .inr (9, [.int 0, .ref am15, .int 0, .int 0, .int 0])), (am15, .inr (4, [.int mm46, .ref em45, .int 1])), (em45, .inl (cO, 10, .inr (.inr (.inr (.inr (va_up (fun _ => none) 0 (some a47))))))), (a47, .inr (8, [.int 4, .ref wa48, .ref na49])), (wa48, .inl (cI, 4, .inl fw50)), (na49, .inl (cI, 4, .inl fn51))] H43 := hP
  replace hD : va_D A [(b8, .inr (1, [.ref v10, .int 0, .int 0, .int 0])), (v10, .inl (cB, 16, .inl (fun _ => 0))), (q16, .inr (7, [.long ((0 : Int32).toInt64), .null])), (q1, .inr (6, [.ref al5, .int 0, .int 0, .int 0, .ref sa6, .ref sb7, .ref b8, .ref sc9])), (al5, .inr (4, [.int mc31, .ref ed30, .int 1])), (ed30, .inl (cO, 10, .inr (.inr (.inr (.inr (va_up (fun _ => none) 0 (some y32))))))), (y32, .inr (5, [.int 4, .int 4, .ref yw33, .ref yv34, .ref yh35, .int 0])), (yw33, .inl (cI, 4, .inl gw36)), (yv34, .inl (cI, 4, .inl gv37)), (yh35, .inl (cR, 4, .inr (.inr (.inr (.inr gh38))))), (q11, .inr (9, [.int 0, .ref am15, .int 0, .int 0, .int 0])), (am15, .inr (4, [.int mm46, .ref em45, .int 1])), (em45, .inl (cO, 10, .inr (.inr (.inr (.inr (va_up (fun _ => none) 0 (some a47))))))), (a47, .inr (8, [.int 4, .ref wa48, .ref na49])), (wa48, .inl (cI, 4, .inl fw50)), (na49, .inl (cI, 4, .inl fn51))] := hD
  refine W.widen (k := 26) (n := 128) (by omega) (by omega) ?_
  refine lv_istore (lv' := [(6, .int 0), (5, .int 0), (4, .int 0), (3, .ref q16), (2, .ref q11), (1, .ref q1), (0, .ref b)]) hx hb dL_law_219 hl (by decide) rfl (fun ls hl => ?_)
  refine lv_goto (tgt := 1349) hx hb dL_law_221 (by decide) ?_
  refine lv_iinc (v := 5) (lv' := [(4, .int 5), (6, .int 0), (5, .int 0), (3, .ref q16), (2, .ref q11), (1, .ref q1), (0, .ref b)]) hx hb dL_law_1349 hl (k := 2) rfl (by decide) (by decide) rfl (fun ls hl => ?_)
  refine lv_goto (tgt := 27) hx hb dL_law_1352 (by decide) ?_
  refine lv_iload hx hb dL_law_27 (lv_at hl 0 rfl) ?_
  refine lv_aload_n hx hb dL_law_29 rfl (lv_at hl 6 rfl) ?_
  refine va_slen hx hb hX hbl hbA hS dL_law_30 ?_
  refine W.eq (g2 := F0 mY 31 ls [.int 1835, .int 5]) rfl ?_
  refine lv_iconst (v := 5) hx hb dL_law_31 (by decide) ?_
  refine lv_isub hx hb dL_law_32 ?_
  refine lv_topi (fun v52 ev52 => ?_)
  obtain rfl : v52 = 1830 := ev52.trans (by decide)
  refine lv_icmp_gt (tgt := 1355) hx hb dL_law_33 (by decide) (fun c9 => ?_) (fun c9 => ?_)
  · exact absurd c9 (by decide)
  refine lv_aload_n hx hb dL_law_36 rfl (lv_at hl 6 rfl) ?_
  refine lv_iload hx hb dL_law_37 (lv_at hl 0 rfl) ?_
  refine va_sld hx hb hX hbl hbA hS (by unfold vp_in; decide) dL_law_39 ?_
  refine lv_topi (fun v53 ev53 => ?_)
  obtain rfl : v53 = 0 := ev53.trans (by decide)
  refine lv_bipush (v := 31) hx hb dL_law_40 (by decide) ?_
  refine lv_iand hx hb dL_law_42 ?_
  refine lv_topi (fun v54 ev54 => ?_)
  obtain rfl : v54 = 0 := ev54.trans (by decide)
  refine lv_tableIn (off := 141) (tgt := 184) hx hb dL_law_43 (by decide) (by decide) (by decide) (by decide) ?_
  refine lv_aload_n hx hb dL_law_184 rfl (lv_at hl 5 rfl) ?_
  refine lv_aload_n hx hb dL_law_185 rfl (lv_at hl 6 rfl) ?_
  refine lv_iload hx hb dL_law_186 (lv_at hl 0 rfl) ?_
  refine lv_iconst (v := 1) hx hb dL_law_188 (by decide) ?_
  refine lv_iadd hx hb dL_law_189 ?_
  refine lv_topi (fun v55 ev55 => ?_)
  obtain rfl : v55 = 6 := ev55.trans (by decide)
  refine va_sld hx hb hX hbl hbA hS (by unfold vp_in; decide) dL_law_190 ?_
  refine lv_topi (fun v56 ev56 => ?_)
  obtain rfl : v56 = 4 := ev56.trans (by decide)
  refine lv_aload_n hx hb dL_law_191 rfl (lv_at hl 6 rfl) ?_
  refine lv_iload hx hb dL_law_192 (lv_at hl 0 rfl) ?_
  refine lv_iconst (v := 2) hx hb dL_law_194 (by decide) ?_
  refine lv_iadd hx hb dL_law_195 ?_
  refine lv_topi (fun v57 ev57 => ?_)
  obtain rfl : v57 = 7 := ev57.trans (by decide)
  refine va_sld hx hb hX hbl hbA hS (by unfold vp_in; decide) dL_law_196 ?_
  refine lv_topi (fun v58 ev58 => ?_)
  obtain rfl : v58 = 4 := ev58.trans (by decide)
  refine lv_aload_n hx hb dL_law_197 rfl (lv_at hl 3 rfl) ?_
  have hPc := hP.sub (ws' := [(q16, .inr (7, [.long ((0 : Int32).toInt64), .null])), (q1, .inr (6, [.ref al5, .int 0, .int 0, .int 0, .ref sa6, .ref sb7, .ref b8, .ref sc9])), (al5, .inr (4, [.int mc31, .ref ed30, .int 1])), (ed30, .inl (cO, 10, .inr (.inr (.inr (.inr (va_up (fun _ => none) 0 (some y32)))))))]) [2, 3, 4, 5] rfl
  have hDc := hD.sub (ws' := [(q16, .inr (7, [.long ((0 : Int32).toInt64), .null])), (q1, .inr (6, [.ref al5, .int 0, .int 0, .int 0, .ref sa6, .ref sb7, .ref b8, .ref sc9])), (al5, .inr (4, [.int mc31, .ref ed30, .int 1])), (ed30, .inl (cO, 10, .inr (.inr (.inr (.inr (va_up (fun _ => none) 0 (some y32)))))))]) [2, 3, 4, 5] (by decide) rfl
  have hFc := va_free (wc := [(q16, .inr (7, [.long ((0 : Int32).toInt64), .null])), (q1, .inr (6, [.ref al5, .int 0, .int 0, .int 0, .ref sa6, .ref sb7, .ref b8, .ref sc9])), (al5, .inr (4, [.int mc31, .ref ed30, .int 1])), (ed30, .inl (cO, 10, .inr (.inr (.inr (.inr (va_up (fun _ => none) 0 (some y32)))))))]) hD hS hA [2, 3, 4, 5] rfl
  have hDv := hDc.self (sz := H43.size)
  have hpre := zpre (xs' := []) (av := [.ref q1, .int 4, .int 4, .ref q16]) hPc hK (hDc.weaken (fun _ _ _ h => h)) hZ hS hFc (fun r hr => by cases hr)
  refine va_calli (vx_runSW (As := [.ref q1, .int 4, .int 4, .ref q16]) (rest := []) ⟨hx, hb, hml, hown, hts⟩ (k_LmX1 l dC dI cI cB cR cO zk q1 al5 b8 (.int 0) (.int 0) (.int 0) (.ref sa6) (.ref sb7) (.ref sc9) ed30 (va_up (fun _ => none) 0 (some y32)) mc31 q16 (.long ((0 : Int32).toInt64)) .null H43.size ) (vx_cwSW 4 hts gL_law_L_make rfl rfl rfl (by decide +kernel) ⟨Nat.le_of_ble_eq_true rfl, Nat.le_of_ble_eq_true rfl⟩) ⟨zblind, hpre⟩ rfl rfl hl.1 rfl (lv_room (Nat.le_of_ble_eq_true rfl)) dL_law_198 ⟨Nat.le_of_ble_eq_true rfl, Nat.le_of_ble_eq_true rfl⟩) hS (fun q _ h => hFc q h) hFc (fun r60 u t H59 locs ht hvm hw hB hz1 hk1 hS => ?_)
  obtain rfl : 0 = r60 := (show r60 = 0 from hw).symm
  obtain ⟨on61, mc62, y63, yw64, yv65, yh66, gw67, gv68, gh69, ⟨hP1, hK1, hD1, hz2⟩, hwgw67, hhgh69, rfl⟩ := hB
  rw [ht] at hP1 hz2
  have hPD9 := va_join (wr := [(b8, .inr (1, [.ref v10, .int 0, .int 0, .int 0])), (v10, .inl (cB, 16, .inl (fun _ => 0))), (y32, .inr (5, [.int 4, .int 4, .ref yw33, .ref yv34, .ref yh35, .int 0])), (yw33, .inl (cI, 4, .inl gw36)), (yv34, .inl (cI, 4, .inl gv37)), (yh35, .inl (cR, 4, .inr (.inr (.inr (.inr gh38))))), (q11, .inr (9, [.int 0, .ref am15, .int 0, .int 0, .int 0])), (am15, .inr (4, [.int mm46, .ref em45, .int 1])), (em45, .inl (cO, 10, .inr (.inr (.inr (.inr (va_up (fun _ => none) 0 (some a47))))))), (a47, .inr (8, [.int 4, .ref wa48, .ref na49])), (wa48, .inl (cI, 4, .inl fw50)), (na49, .inl (cI, 4, .inl fn51))]) (w1 := [(q16, .inr (7, [.long ((1 : Int32).toInt64), .null])), (q1, .inr (6, [.ref al5, .int 0, .int 0, .int 0, .ref sa6, .ref sb7, .ref b8, .ref sc9])), (al5, .inr (4, [.int mc62, .ref ed30, .int 2])), (ed30, .inl (cO, 10, .inr (.inr (.inr (.inr (va_up (va_up (fun _ => none) 0 (some y32)) 1 (some y63))))))), (y63, .inr (5, [.int 4, .int 4, .ref yw64, .ref yv65, .ref yh66, .int 1])), (yw64, .inl (cI, 4, .inl gw67)), (yv65, .inl (cI, 4, .inl gv68)), (yh66, .inl (cR, 4, .inr (.inr (.inr (.inr gh69)))))]) hP hD [2, 3, 4, 5] [0, 1, 6, 7, 8, 9, 10, 11, 12, 13, 14, 15] rfl rfl (by decide) (by decide) hk1 hFc hP1 hD1
  clear hPc hDc hFc hDv hpre hP hD hP1 hK1 hD1
  obtain ⟨hP, hD⟩ := hPD9
  replace hz : s.heap.size + 30 ≤ H59.size := by omega
  clear hz2
  replace hP : va_P (dC, dI) vwCl [(b8, .inr (1, [.ref v10, .int 0, .int 0, .int 0])), (v10, .inl (cB, 16, .inl (fun _ => 0))), (y32, .inr (5, [.int 4, .int 4, .ref yw33, .ref yv34, .ref yh35, .int 0])), (yw33, .inl (cI, 4, .inl gw36)), (yv34, .inl (cI, 4, .inl gv37)), (yh35, .inl (cR, 4, .inr (.inr (.inr (.inr gh38))))), (q11, .inr (9, [.int 0, .ref am15, .int 0, .int 0, .int 0])), (am15, .inr (4, [.int mm46, .ref em45, .int 1])), (em45, .inl (cO, 10, .inr (.inr (.inr (.inr (va_up (fun _ => none) 0 (some a47))))))), (a47, .inr (8, [.int 4, .ref wa48, .ref na49])), (wa48, .inl (cI, 4, .inl fw50)), (na49, .inl (cI, 4, .inl fn51)), (q16, .inr (7, [.long ((1 : Int32).toInt64), .null])), (q1, .inr (6, [.ref al5, .int 0, .int 0, .int 0, .ref sa6, .ref sb7, .ref b8, .ref sc9])), (al5, .inr (4, [.int mc62, .ref ed30, .int 2])), (ed30, .inl (cO, 10, .inr (.inr (.inr (.inr (va_up (va_up (fun _ => none) 0 (some y32)) 1 (some y63))))))), (y63, .inr (5, [.int 4, .int 4, .ref yw64, .ref yv65, .ref yh66, .int 1])), (yw64, .inl (cI, 4, .inl gw67)), (yv65, .inl (cI, 4, .inl gv68)), (yh66, .inl (cR, 4, .inr (.inr (.inr (.inr gh69)))))] H59 := hP
  replace hD : va_D A [(b8, .inr (1, [.ref v10, .int 0, .int 0, .int 0])), (v10, .inl (cB, 16, .inl (fun _ => 0))), (y32, .inr (5, [.int 4, .int 4, .ref yw33, .ref yv34, .ref yh35, .int 0])), (yw33, .inl (cI, 4, .inl gw36)), (yv34, .inl (cI, 4, .inl gv37)), (yh35, .inl (cR, 4, .inr (.inr (.inr (.inr gh38))))), (q11, .inr (9, [.int 0, .ref am15, .int 0, .int 0, .int 0])), (am15, .inr (4, [.int mm46, .ref em45, .int 1])), (em45, .inl (cO, 10, .inr (.inr (.inr (.inr (va_up (fun _ => none) 0 (some a47))))))), (a47, .inr (8, [.int 4, .ref wa48, .ref na49])), (wa48, .inl (cI, 4, .inl fw50)), (na49, .inl (cI, 4, .inl fn51)), (q16, .inr (7, [.long ((1 : Int32).toInt64), .null])), (q1, .inr (6, [.ref al5, .int 0, .int 0, .int 0, .ref sa6, .ref sb7, .ref b8, .ref sc9])), (al5, .inr (4, [.int mc62, .ref ed30, .int 2])), (ed30, .inl (cO, 10, .inr (.inr (.inr (.inr (va_up (va_up (fun _ => none) 0 (some y32)) 1 (some y63))))))), (y63, .inr (5, [.int 4, .int 4, .ref yw64, .ref yv65, .ref yh66, .int 1])), (yw64, .inl (cI, 4, .inl gw67)), (yv65, .inl (cI, 4, .inl gv68)), (yh66, .inl (cR, 4, .inr (.inr (.inr (.inr gh69)))))] := hD
  refine W.widen (k := 30) (n := 146) (by omega) (by omega) ?_
  refine lv_istore (lv' := [(5, .int 0), (4, .int 5), (6, .int 0), (3, .ref q16), (2, .ref q11), (1, .ref q1), (0, .ref b)]) hx hb dL_law_201 hl (by decide) rfl (fun ls hl => ?_)
  refine lv_aload_n hx hb dL_law_203 rfl (lv_at hl 4 rfl) ?_
  refine lv_aload_n hx hb dL_law_204 rfl (lv_at hl 6 rfl) ?_
  refine lv_iload hx hb dL_law_205 (lv_at hl 1 rfl) ?_
  refine lv_iconst (v := 1) hx hb dL_law_207 (by decide) ?_
  refine lv_iadd hx hb dL_law_208 ?_
  refine lv_topi (fun v70 ev70 => ?_)
  obtain rfl : v70 = 6 := ev70.trans (by decide)
  refine va_sld hx hb hX hbl hbA hS (by unfold vp_in; decide) dL_law_209 ?_
  refine lv_topi (fun v71 ev71 => ?_)
  obtain rfl : v71 = 4 := ev71.trans (by decide)
  refine lv_aload_n hx hb dL_law_210 rfl (lv_at hl 6 rfl) ?_
  refine lv_iload hx hb dL_law_211 (lv_at hl 1 rfl) ?_
  refine lv_iconst (v := 2) hx hb dL_law_213 (by decide) ?_
  refine lv_iadd hx hb dL_law_214 ?_
  refine lv_topi (fun v72 ev72 => ?_)
  obtain rfl : v72 = 7 := ev72.trans (by decide)
  refine va_sld hx hb hX hbl hbA hS (by unfold vp_in; decide) dL_law_215 ?_
  refine lv_topi (fun v73 ev73 => ?_)
  obtain rfl : v73 = 4 := ev73.trans (by decide)
  have hPc := hP.sub (ws' := [(q11, .inr (9, [.int 0, .ref am15, .int 0, .int 0, .int 0])), (am15, .inr (4, [.int mm46, .ref em45, .int 1])), (em45, .inl (cO, 10, .inr (.inr (.inr (.inr (va_up (fun _ => none) 0 (some a47)))))))]) [6, 7, 8] rfl
  have hDc := hD.sub (ws' := [(q11, .inr (9, [.int 0, .ref am15, .int 0, .int 0, .int 0])), (am15, .inr (4, [.int mm46, .ref em45, .int 1])), (em45, .inl (cO, 10, .inr (.inr (.inr (.inr (va_up (fun _ => none) 0 (some a47)))))))]) [6, 7, 8] (by decide) rfl
  have hFc := va_free (wc := [(q11, .inr (9, [.int 0, .ref am15, .int 0, .int 0, .int 0])), (am15, .inr (4, [.int mm46, .ref em45, .int 1])), (em45, .inl (cO, 10, .inr (.inr (.inr (.inr (va_up (fun _ => none) 0 (some a47)))))))]) hD hS hA [6, 7, 8] rfl
  have hDv := hDc.self (sz := H59.size)
  have hpre := zpre (xs' := []) (av := [.ref q11, .int 4, .int 4]) hPc hK (hDc.weaken (fun _ _ _ h => h)) hZ hS hFc (fun r hr => by cases hr)
  refine va_calli (va_runV (As := [.int 4, .int 4]) (rest := []) ⟨hx, hb, hml, hown, hts⟩ (k_mkM1 l dC dI cI cB cR cO zk q11 am15 (.int 0) (.int 0) (.int 0) (.int 0) em45 (va_up (fun _ => none) 0 (some a47)) mm46 H59.size ) (cwV 2 hts gL_law_X4_make rfl rfl rfl (by decide +kernel) ⟨Nat.le_of_ble_eq_true rfl, Nat.le_of_ble_eq_true rfl⟩) ⟨zblind, (zrecv_9 hK hPc (q0 := 0) rfl), hpre⟩ rfl rfl hl.1 rfl (lv_room (Nat.le_of_ble_eq_true rfl)) dL_law_216 ⟨Nat.le_of_ble_eq_true rfl, Nat.le_of_ble_eq_true rfl⟩) hS (fun q _ h => hFc q h) hFc (fun r75 u t H74 locs ht hvm hw hB hz1 hk1 hS => ?_)
  obtain rfl : 1 = r75 := (show r75 = 1 from hw).symm
  obtain ⟨mm76, a77, wa78, na79, fw80, fn81, ⟨hP1, hK1, hD1, hz2⟩, hwfw80, hnfn81⟩ := hB
  rw [ht] at hP1 hz2
  have hPD9 := va_join (wr := [(b8, .inr (1, [.ref v10, .int 0, .int 0, .int 0])), (v10, .inl (cB, 16, .inl (fun _ => 0))), (y32, .inr (5, [.int 4, .int 4, .ref yw33, .ref yv34, .ref yh35, .int 0])), (yw33, .inl (cI, 4, .inl gw36)), (yv34, .inl (cI, 4, .inl gv37)), (yh35, .inl (cR, 4, .inr (.inr (.inr (.inr gh38))))), (a47, .inr (8, [.int 4, .ref wa48, .ref na49])), (wa48, .inl (cI, 4, .inl fw50)), (na49, .inl (cI, 4, .inl fn51)), (q16, .inr (7, [.long ((1 : Int32).toInt64), .null])), (q1, .inr (6, [.ref al5, .int 0, .int 0, .int 0, .ref sa6, .ref sb7, .ref b8, .ref sc9])), (al5, .inr (4, [.int mc62, .ref ed30, .int 2])), (ed30, .inl (cO, 10, .inr (.inr (.inr (.inr (va_up (va_up (fun _ => none) 0 (some y32)) 1 (some y63))))))), (y63, .inr (5, [.int 4, .int 4, .ref yw64, .ref yv65, .ref yh66, .int 1])), (yw64, .inl (cI, 4, .inl gw67)), (yv65, .inl (cI, 4, .inl gv68)), (yh66, .inl (cR, 4, .inr (.inr (.inr (.inr gh69)))))]) (w1 := [(q11, .inr (9, [.int 0, .ref am15, .int 0, .int 0, .int 0])), (am15, .inr (4, [.int mm76, .ref em45, .int 2])), (em45, .inl (cO, 10, .inr (.inr (.inr (.inr (va_up (va_up (fun _ => none) 0 (some a47)) 1 (some a77))))))), (a77, .inr (8, [.int 4, .ref wa78, .ref na79])), (wa78, .inl (cI, 4, .inl fw80)), (na79, .inl (cI, 4, .inl fn81))]) hP hD [6, 7, 8] [0, 1, 2, 3, 4, 5, 9, 10, 11, 12, 13, 14, 15, 16, 17, 18, 19] rfl rfl (by decide) (by decide) hk1 hFc hP1 hD1
  clear hPc hDc hFc hDv hpre hP hD hP1 hK1 hD1
  obtain ⟨hP, hD⟩ := hPD9
  replace hz : s.heap.size + 33 ≤ H74.size := by omega
  clear hz2
  replace hP : va_P (dC, dI) vwCl [(b8, .inr (1, [.ref v10, .int 0, .int 0, .int 0])), (v10, .inl (cB, 16, .inl (fun _ => 0))), (y32, .inr (5, [.int 4, .int 4, .ref yw33, .ref yv34, .ref yh35, .int 0])), (yw33, .inl (cI, 4, .inl gw36)), (yv34, .inl (cI, 4, .inl gv37)), (yh35, .inl (cR, 4, .inr (.inr (.inr (.inr gh38))))), (a47, .inr (8, [.int 4, .ref wa48, .ref na49])), (wa48, .inl (cI, 4, .inl fw50)), (na49, .inl (cI, 4, .inl fn51)), (q16, .inr (7, [.long ((1 : Int32).toInt64), .null])), (q1, .inr (6, [.ref al5, .int 0, .int 0, .int 0, .ref sa6, .ref sb7, .ref b8, .ref sc9])), (al5, .inr (4, [.int mc62, .ref ed30, .int 2])), (ed30, .inl (cO, 10, .inr (.inr (.inr (.inr (va_up (va_up (fun _ => none) 0 (some y32)) 1 (some y63))))))), (y63, .inr (5, [.int 4, .int 4, .ref yw64, .ref yv65, .ref yh66, .int 1])), (yw64, .inl (cI, 4, .inl gw67)), (yv65, .inl (cI, 4, .inl gv68)), (yh66, .inl (cR, 4, .inr (.inr (.inr (.inr gh69))))), (q11, .inr (9, [.int 0, .ref am15, .int 0, .int 0, .int 0])), (am15, .inr (4, [.int mm76, .ref em45, .int 2])), (em45, .inl (cO, 10, .inr (.inr (.inr (.inr (va_up (va_up (fun _ => none) 0 (some a47)) 1 (some a77))))))), (a77, .inr (8, [.int 4, .ref wa78, .ref na79])), (wa78, .inl (cI, 4, .inl fw80)), (na79, .inl (cI, 4, .inl fn81))] H74 := hP
  replace hD : va_D A [(b8, .inr (1, [.ref v10, .int 0, .int 0, .int 0])), (v10, .inl (cB, 16, .inl (fun _ => 0))), (y32, .inr (5, [.int 4, .int 4, .ref yw33, .ref yv34, .ref yh35, .int 0])), (yw33, .inl (cI, 4, .inl gw36)), (yv34, .inl (cI, 4, .inl gv37)), (yh35, .inl (cR, 4, .inr (.inr (.inr (.inr gh38))))), (a47, .inr (8, [.int 4, .ref wa48, .ref na49])), (wa48, .inl (cI, 4, .inl fw50)), (na49, .inl (cI, 4, .inl fn51)), (q16, .inr (7, [.long ((1 : Int32).toInt64), .null])), (q1, .inr (6, [.ref al5, .int 0, .int 0, .int 0, .ref sa6, .ref sb7, .ref b8, .ref sc9])), (al5, .inr (4, [.int mc62, .ref ed30, .int 2])), (ed30, .inl (cO, 10, .inr (.inr (.inr (.inr (va_up (va_up (fun _ => none) 0 (some y32)) 1 (some y63))))))), (y63, .inr (5, [.int 4, .int 4, .ref yw64, .ref yv65, .ref yh66, .int 1])), (yw64, .inl (cI, 4, .inl gw67)), (yv65, .inl (cI, 4, .inl gv68)), (yh66, .inl (cR, 4, .inr (.inr (.inr (.inr gh69))))), (q11, .inr (9, [.int 0, .ref am15, .int 0, .int 0, .int 0])), (am15, .inr (4, [.int mm76, .ref em45, .int 2])), (em45, .inl (cO, 10, .inr (.inr (.inr (.inr (va_up (va_up (fun _ => none) 0 (some a47)) 1 (some a77))))))), (a77, .inr (8, [.int 4, .ref wa78, .ref na79])), (wa78, .inl (cI, 4, .inl fw80)), (na79, .inl (cI, 4, .inl fn81))] := hD
  refine W.widen (k := 33) (n := 157) (by omega) (by omega) ?_
  refine lv_istore (lv' := [(6, .int 1), (5, .int 0), (4, .int 5), (3, .ref q16), (2, .ref q11), (1, .ref q1), (0, .ref b)]) hx hb dL_law_219 hl (by decide) rfl (fun ls hl => ?_)
  refine lv_goto (tgt := 1349) hx hb dL_law_221 (by decide) ?_
  refine lv_iinc (v := 10) (lv' := [(4, .int 10), (6, .int 1), (5, .int 0), (3, .ref q16), (2, .ref q11), (1, .ref q1), (0, .ref b)]) hx hb dL_law_1349 hl (k := 2) rfl (by decide) (by decide) rfl (fun ls hl => ?_)
  refine lv_goto (tgt := 27) hx hb dL_law_1352 (by decide) ?_
  refine lv_iload hx hb dL_law_27 (lv_at hl 0 rfl) ?_
  refine lv_aload_n hx hb dL_law_29 rfl (lv_at hl 6 rfl) ?_
  refine va_slen hx hb hX hbl hbA hS dL_law_30 ?_
  refine W.eq (g2 := F0 mY 31 ls [.int 1835, .int 10]) rfl ?_
  refine lv_iconst (v := 5) hx hb dL_law_31 (by decide) ?_
  refine lv_isub hx hb dL_law_32 ?_
  refine lv_topi (fun v82 ev82 => ?_)
  obtain rfl : v82 = 1830 := ev82.trans (by decide)
  refine lv_icmp_gt (tgt := 1355) hx hb dL_law_33 (by decide) (fun c9 => ?_) (fun c9 => ?_)
  · exact absurd c9 (by decide)
  refine lv_aload_n hx hb dL_law_36 rfl (lv_at hl 6 rfl) ?_
  refine lv_iload hx hb dL_law_37 (lv_at hl 0 rfl) ?_
  refine va_sld hx hb hX hbl hbA hS (by unfold vp_in; decide) dL_law_39 ?_
  refine lv_topi (fun v83 ev83 => ?_)
  obtain rfl : v83 = 9 := ev83.trans (by decide)
  refine lv_bipush (v := 31) hx hb dL_law_40 (by decide) ?_
  refine lv_iand hx hb dL_law_42 ?_
  refine lv_topi (fun v84 ev84 => ?_)
  obtain rfl : v84 = 9 := ev84.trans (by decide)
  refine lv_tableIn (off := 498) (tgt := 541) hx hb dL_law_43 (by decide) (by decide) (by decide) (by decide) ?_
  refine lv_aload_n hx hb dL_law_541 rfl (lv_at hl 5 rfl) ?_
  refine lv_aload_n hx hb dL_law_542 rfl (lv_at hl 6 rfl) ?_
  refine lv_iload hx hb dL_law_543 (lv_at hl 0 rfl) ?_
  refine lv_iconst (v := 1) hx hb dL_law_545 (by decide) ?_
  refine lv_iadd hx hb dL_law_546 ?_
  refine lv_topi (fun v85 ev85 => ?_)
  obtain rfl : v85 = 11 := ev85.trans (by decide)
  refine va_sld hx hb hX hbl hbA hS (by unfold vp_in; decide) dL_law_547 ?_
  refine lv_topi (fun v86 ev86 => ?_)
  obtain rfl : v86 = 1 := ev86.trans (by decide)
  refine lv_aload_n hx hb dL_law_548 rfl (lv_at hl 6 rfl) ?_
  refine lv_iload hx hb dL_law_549 (lv_at hl 0 rfl) ?_
  refine lv_iconst (v := 2) hx hb dL_law_551 (by decide) ?_
  refine lv_iadd hx hb dL_law_552 ?_
  refine lv_topi (fun v87 ev87 => ?_)
  obtain rfl : v87 = 12 := ev87.trans (by decide)
  refine va_sld hx hb hX hbl hbA hS (by unfold vp_in; decide) dL_law_553 ?_
  refine lv_topi (fun v88 ev88 => ?_)
  obtain rfl : v88 = 0 := ev88.trans (by decide)
  refine lv_aload_n hx hb dL_law_554 rfl (lv_at hl 3 rfl) ?_
  have hPc := hP.sub (ws' := [(q16, .inr (7, [.long ((1 : Int32).toInt64), .null])), (q1, .inr (6, [.ref al5, .int 0, .int 0, .int 0, .ref sa6, .ref sb7, .ref b8, .ref sc9])), (al5, .inr (4, [.int mc62, .ref ed30, .int 2])), (ed30, .inl (cO, 10, .inr (.inr (.inr (.inr (va_up (va_up (fun _ => none) 0 (some y32)) 1 (some y63))))))), (y32, .inr (5, [.int 4, .int 4, .ref yw33, .ref yv34, .ref yh35, .int 0])), (yw33, .inl (cI, 4, .inl gw36)), (yv34, .inl (cI, 4, .inl gv37)), (yh35, .inl (cR, 4, .inr (.inr (.inr (.inr gh38))))), (y63, .inr (5, [.int 4, .int 4, .ref yw64, .ref yv65, .ref yh66, .int 1])), (yw64, .inl (cI, 4, .inl gw67)), (yv65, .inl (cI, 4, .inl gv68)), (yh66, .inl (cR, 4, .inr (.inr (.inr (.inr gh69)))))]) [9, 10, 11, 12, 2, 3, 4, 5, 13, 14, 15, 16] rfl
  have hDc := hD.sub (ws' := [(q16, .inr (7, [.long ((1 : Int32).toInt64), .null])), (q1, .inr (6, [.ref al5, .int 0, .int 0, .int 0, .ref sa6, .ref sb7, .ref b8, .ref sc9])), (al5, .inr (4, [.int mc62, .ref ed30, .int 2])), (ed30, .inl (cO, 10, .inr (.inr (.inr (.inr (va_up (va_up (fun _ => none) 0 (some y32)) 1 (some y63))))))), (y32, .inr (5, [.int 4, .int 4, .ref yw33, .ref yv34, .ref yh35, .int 0])), (yw33, .inl (cI, 4, .inl gw36)), (yv34, .inl (cI, 4, .inl gv37)), (yh35, .inl (cR, 4, .inr (.inr (.inr (.inr gh38))))), (y63, .inr (5, [.int 4, .int 4, .ref yw64, .ref yv65, .ref yh66, .int 1])), (yw64, .inl (cI, 4, .inl gw67)), (yv65, .inl (cI, 4, .inl gv68)), (yh66, .inl (cR, 4, .inr (.inr (.inr (.inr gh69)))))]) [9, 10, 11, 12, 2, 3, 4, 5, 13, 14, 15, 16] (by decide) rfl
  have hFc := va_free (wc := [(q16, .inr (7, [.long ((1 : Int32).toInt64), .null])), (q1, .inr (6, [.ref al5, .int 0, .int 0, .int 0, .ref sa6, .ref sb7, .ref b8, .ref sc9])), (al5, .inr (4, [.int mc62, .ref ed30, .int 2])), (ed30, .inl (cO, 10, .inr (.inr (.inr (.inr (va_up (va_up (fun _ => none) 0 (some y32)) 1 (some y63))))))), (y32, .inr (5, [.int 4, .int 4, .ref yw33, .ref yv34, .ref yh35, .int 0])), (yw33, .inl (cI, 4, .inl gw36)), (yv34, .inl (cI, 4, .inl gv37)), (yh35, .inl (cR, 4, .inr (.inr (.inr (.inr gh38))))), (y63, .inr (5, [.int 4, .int 4, .ref yw64, .ref yv65, .ref yh66, .int 1])), (yw64, .inl (cI, 4, .inl gw67)), (yv65, .inl (cI, 4, .inl gv68)), (yh66, .inl (cR, 4, .inr (.inr (.inr (.inr gh69)))))]) hD hS hA [9, 10, 11, 12, 2, 3, 4, 5, 13, 14, 15, 16] rfl
  have hDv := hDc.self (sz := H74.size)
  have hpre := zpre (xs' := []) (av := [.ref q1, .int 1, .int 0, .ref q16]) hPc hK (hDc.weaken (fun _ _ _ h => h)) hZ hS hFc (fun r hr => by cases hr)
  refine va_calli (vx_runSW (As := [.ref q1, .int 1, .int 0, .ref q16]) (rest := []) ⟨hx, hb, hml, hown, hts⟩ (k_LfX1 l dC dI cI cB cR cO zk q1 al5 b8 (.int 0) (.int 0) (.int 0) (.ref sa6) (.ref sb7) (.ref sc9) ed30 (va_up (va_up (fun _ => none) 0 (some y32)) 1 (some y63)) (.int mc62) y32 yw33 yv34 yh35 0 gw36 gv37 gh38 y63 yw64 yv65 yh66 1 gw67 gv68 gh69 q16 (.long ((1 : Int32).toInt64)) .null H74.size rfl rfl hwgw36 hhgh38) (vx_cwSW 4 hts gL_law_L_fillRow rfl rfl rfl (by decide +kernel) ⟨Nat.le_of_ble_eq_true rfl, Nat.le_of_ble_eq_true rfl⟩) ⟨zblind, hpre⟩ rfl rfl hl.1 rfl (lv_room (Nat.le_of_ble_eq_true rfl)) dL_law_555 ⟨Nat.le_of_ble_eq_true rfl, Nat.le_of_ble_eq_true rfl⟩) hS (fun q _ h => hFc q h) hFc (fun r90 u t H89 locs ht hvm hw hB hz1 hk1 hS => ?_)
  obtain rfl : 0 = r90 := (show r90 = 0 from hw).symm
  obtain ⟨on91, gw92, gv93, gh94, ⟨hP1, hK1, hD1, hz2⟩, hhgh94, rfl⟩ := hB
  rw [ht] at hP1 hz2
  have hPD9 := va_join (wr := [(b8, .inr (1, [.ref v10, .int 0, .int 0, .int 0])), (v10, .inl (cB, 16, .inl (fun _ => 0))), (a47, .inr (8, [.int 4, .ref wa48, .ref na49])), (wa48, .inl (cI, 4, .inl fw50)), (na49, .inl (cI, 4, .inl fn51)), (q11, .inr (9, [.int 0, .ref am15, .int 0, .int 0, .int 0])), (am15, .inr (4, [.int mm76, .ref em45, .int 2])), (em45, .inl (cO, 10, .inr (.inr (.inr (.inr (va_up (va_up (fun _ => none) 0 (some a47)) 1 (some a77))))))), (a77, .inr (8, [.int 4, .ref wa78, .ref na79])), (wa78, .inl (cI, 4, .inl fw80)), (na79, .inl (cI, 4, .inl fn81))]) (w1 := [(q16, .inr (7, [.long ((2 : Int32).toInt64), .null])), (q1, .inr (6, [.ref al5, .int 0, .int 0, .int 0, .ref sa6, .ref sb7, .ref b8, .ref sc9])), (al5, .inr (4, [.int mc62, .ref ed30, .int 2])), (ed30, .inl (cO, 10, .inr (.inr (.inr (.inr (va_up (va_up (fun _ => none) 0 (some y32)) 1 (some y63))))))), (y32, .inr (5, [.int 4, .int 4, .ref yw33, .ref yv34, .ref yh35, .int 0])), (yw33, .inl (cI, 4, .inl gw36)), (yv34, .inl (cI, 4, .inl gv37)), (yh35, .inl (cR, 4, .inr (.inr (.inr (.inr gh38))))), (y63, .inr (5, [.int 4, .int 4, .ref yw64, .ref yv65, .ref yh66, .int 1])), (yw64, .inl (cI, 4, .inl gw92)), (yv65, .inl (cI, 4, .inl gv93)), (yh66, .inl (cR, 4, .inr (.inr (.inr (.inr gh94)))))]) hP hD [9, 10, 11, 12, 2, 3, 4, 5, 13, 14, 15, 16] [0, 1, 6, 7, 8, 17, 18, 19, 20, 21, 22] rfl rfl (by decide) (by decide) hk1 hFc hP1 hD1
  clear hPc hDc hFc hDv hpre hP hD hP1 hK1 hD1
  obtain ⟨hP, hD⟩ := hPD9
  replace hz : s.heap.size + 33 ≤ H89.size := by omega
  clear hz2
  replace hP : va_P (dC, dI) vwCl [(b8, .inr (1, [.ref v10, .int 0, .int 0, .int 0])), (v10, .inl (cB, 16, .inl (fun _ => 0))), (a47, .inr (8, [.int 4, .ref wa48, .ref na49])), (wa48, .inl (cI, 4, .inl fw50)), (na49, .inl (cI, 4, .inl fn51)), (q11, .inr (9, [.int 0, .ref am15, .int 0, .int 0, .int 0])), (am15, .inr (4, [.int mm76, .ref em45, .int 2])), (em45, .inl (cO, 10, .inr (.inr (.inr (.inr (va_up (va_up (fun _ => none) 0 (some a47)) 1 (some a77))))))), (a77, .inr (8, [.int 4, .ref wa78, .ref na79])), (wa78, .inl (cI, 4, .inl fw80)), (na79, .inl (cI, 4, .inl fn81)), (q16, .inr (7, [.long ((2 : Int32).toInt64), .null])), (q1, .inr (6, [.ref al5, .int 0, .int 0, .int 0, .ref sa6, .ref sb7, .ref b8, .ref sc9])), (al5, .inr (4, [.int mc62, .ref ed30, .int 2])), (ed30, .inl (cO, 10, .inr (.inr (.inr (.inr (va_up (va_up (fun _ => none) 0 (some y32)) 1 (some y63))))))), (y32, .inr (5, [.int 4, .int 4, .ref yw33, .ref yv34, .ref yh35, .int 0])), (yw33, .inl (cI, 4, .inl gw36)), (yv34, .inl (cI, 4, .inl gv37)), (yh35, .inl (cR, 4, .inr (.inr (.inr (.inr gh38))))), (y63, .inr (5, [.int 4, .int 4, .ref yw64, .ref yv65, .ref yh66, .int 1])), (yw64, .inl (cI, 4, .inl gw92)), (yv65, .inl (cI, 4, .inl gv93)), (yh66, .inl (cR, 4, .inr (.inr (.inr (.inr gh94)))))] H89 := hP
  replace hD : va_D A [(b8, .inr (1, [.ref v10, .int 0, .int 0, .int 0])), (v10, .inl (cB, 16, .inl (fun _ => 0))), (a47, .inr (8, [.int 4, .ref wa48, .ref na49])), (wa48, .inl (cI, 4, .inl fw50)), (na49, .inl (cI, 4, .inl fn51)), (q11, .inr (9, [.int 0, .ref am15, .int 0, .int 0, .int 0])), (am15, .inr (4, [.int mm76, .ref em45, .int 2])), (em45, .inl (cO, 10, .inr (.inr (.inr (.inr (va_up (va_up (fun _ => none) 0 (some a47)) 1 (some a77))))))), (a77, .inr (8, [.int 4, .ref wa78, .ref na79])), (wa78, .inl (cI, 4, .inl fw80)), (na79, .inl (cI, 4, .inl fn81)), (q16, .inr (7, [.long ((2 : Int32).toInt64), .null])), (q1, .inr (6, [.ref al5, .int 0, .int 0, .int 0, .ref sa6, .ref sb7, .ref b8, .ref sc9])), (al5, .inr (4, [.int mc62, .ref ed30, .int 2])), (ed30, .inl (cO, 10, .inr (.inr (.inr (.inr (va_up (va_up (fun _ => none) 0 (some y32)) 1 (some y63))))))), (y32, .inr (5, [.int 4, .int 4, .ref yw33, .ref yv34, .ref yh35, .int 0])), (yw33, .inl (cI, 4, .inl gw36)), (yv34, .inl (cI, 4, .inl gv37)), (yh35, .inl (cR, 4, .inr (.inr (.inr (.inr gh38))))), (y63, .inr (5, [.int 4, .int 4, .ref yw64, .ref yv65, .ref yh66, .int 1])), (yw64, .inl (cI, 4, .inl gw92)), (yv65, .inl (cI, 4, .inl gv93)), (yh66, .inl (cR, 4, .inr (.inr (.inr (.inr gh94)))))] := hD
  refine W.widen (k := 33) (n := 157) (by omega) (by omega) ?_
  refine lv_istore (lv' := [(5, .int 0), (4, .int 10), (6, .int 1), (3, .ref q16), (2, .ref q11), (1, .ref q1), (0, .ref b)]) hx hb dL_law_558 hl (by decide) rfl (fun ls hl => ?_)
  refine lv_aload_n hx hb dL_law_560 rfl (lv_at hl 4 rfl) ?_
  refine lv_aload_n hx hb dL_law_561 rfl (lv_at hl 6 rfl) ?_
  refine lv_iload hx hb dL_law_562 (lv_at hl 1 rfl) ?_
  refine lv_iconst (v := 1) hx hb dL_law_564 (by decide) ?_
  refine lv_iadd hx hb dL_law_565 ?_
  refine lv_topi (fun v95 ev95 => ?_)
  obtain rfl : v95 = 11 := ev95.trans (by decide)
  refine va_sld hx hb hX hbl hbA hS (by unfold vp_in; decide) dL_law_566 ?_
  refine lv_topi (fun v96 ev96 => ?_)
  obtain rfl : v96 = 1 := ev96.trans (by decide)
  refine lv_aload_n hx hb dL_law_567 rfl (lv_at hl 6 rfl) ?_
  refine lv_iload hx hb dL_law_568 (lv_at hl 1 rfl) ?_
  refine lv_iconst (v := 2) hx hb dL_law_570 (by decide) ?_
  refine lv_iadd hx hb dL_law_571 ?_
  refine lv_topi (fun v97 ev97 => ?_)
  obtain rfl : v97 = 12 := ev97.trans (by decide)
  refine va_sld hx hb hX hbl hbA hS (by unfold vp_in; decide) dL_law_572 ?_
  refine lv_topi (fun v98 ev98 => ?_)
  obtain rfl : v98 = 0 := ev98.trans (by decide)
  have hPc := hP.sub (ws' := [(q11, .inr (9, [.int 0, .ref am15, .int 0, .int 0, .int 0])), (am15, .inr (4, [.int mm76, .ref em45, .int 2])), (em45, .inl (cO, 10, .inr (.inr (.inr (.inr (va_up (va_up (fun _ => none) 0 (some a47)) 1 (some a77))))))), (a47, .inr (8, [.int 4, .ref wa48, .ref na49])), (wa48, .inl (cI, 4, .inl fw50)), (na49, .inl (cI, 4, .inl fn51)), (a77, .inr (8, [.int 4, .ref wa78, .ref na79])), (wa78, .inl (cI, 4, .inl fw80)), (na79, .inl (cI, 4, .inl fn81))]) [5, 6, 7, 2, 3, 4, 8, 9, 10] rfl
  have hDc := hD.sub (ws' := [(q11, .inr (9, [.int 0, .ref am15, .int 0, .int 0, .int 0])), (am15, .inr (4, [.int mm76, .ref em45, .int 2])), (em45, .inl (cO, 10, .inr (.inr (.inr (.inr (va_up (va_up (fun _ => none) 0 (some a47)) 1 (some a77))))))), (a47, .inr (8, [.int 4, .ref wa48, .ref na49])), (wa48, .inl (cI, 4, .inl fw50)), (na49, .inl (cI, 4, .inl fn51)), (a77, .inr (8, [.int 4, .ref wa78, .ref na79])), (wa78, .inl (cI, 4, .inl fw80)), (na79, .inl (cI, 4, .inl fn81))]) [5, 6, 7, 2, 3, 4, 8, 9, 10] (by decide) rfl
  have hFc := va_free (wc := [(q11, .inr (9, [.int 0, .ref am15, .int 0, .int 0, .int 0])), (am15, .inr (4, [.int mm76, .ref em45, .int 2])), (em45, .inl (cO, 10, .inr (.inr (.inr (.inr (va_up (va_up (fun _ => none) 0 (some a47)) 1 (some a77))))))), (a47, .inr (8, [.int 4, .ref wa48, .ref na49])), (wa48, .inl (cI, 4, .inl fw50)), (na49, .inl (cI, 4, .inl fn51)), (a77, .inr (8, [.int 4, .ref wa78, .ref na79])), (wa78, .inl (cI, 4, .inl fw80)), (na79, .inl (cI, 4, .inl fn81))]) hD hS hA [5, 6, 7, 2, 3, 4, 8, 9, 10] rfl
  have hDv := hDc.self (sz := H89.size)
  have hpre := zpre (xs' := []) (av := [.ref q11, .int 1, .int 0]) hPc hK (hDc.weaken (fun _ _ _ h => h)) hZ hS hFc (fun r hr => by cases hr)
  refine va_calli (va_runV (As := [.int 1, .int 0]) (rest := []) ⟨hx, hb, hml, hown, hts⟩ (k_fiM1 l dC dI cI cB cR cO zk q11 am15 (.int 0) (.int 0) (.int 0) (.int 0) em45 (va_up (va_up (fun _ => none) 0 (some a47)) 1 (some a77)) mm76 a47 wa48 na49 a77 wa78 na79 fw50 fn51 fw80 fn81 H89.size hwfw50 hnfn51 rfl hwfw80 hnfn81 rfl) (cwV 2 hts gL_law_X4_fillRow rfl rfl rfl (by decide +kernel) ⟨Nat.le_of_ble_eq_true rfl, Nat.le_of_ble_eq_true rfl⟩) ⟨zblind, (zrecv_9 hK hPc (q0 := 0) rfl), hpre⟩ rfl rfl hl.1 rfl (lv_room (Nat.le_of_ble_eq_true rfl)) dL_law_573 ⟨Nat.le_of_ble_eq_true rfl, Nat.le_of_ble_eq_true rfl⟩) hS (fun q _ h => hFc q h) hFc (fun r100 u t H99 locs ht hvm hw hB hz1 hk1 hS => ?_)
  obtain rfl : 2 = r100 := (show r100 = 2 from hw).symm
  obtain ⟨fw101, fn102, ⟨hP1, hK1, hD1, hz2⟩, hwfw101, hnfn102⟩ := hB
  rw [ht] at hP1 hz2
  have hPD9 := va_join (wr := [(b8, .inr (1, [.ref v10, .int 0, .int 0, .int 0])), (v10, .inl (cB, 16, .inl (fun _ => 0))), (q16, .inr (7, [.long ((2 : Int32).toInt64), .null])), (q1, .inr (6, [.ref al5, .int 0, .int 0, .int 0, .ref sa6, .ref sb7, .ref b8, .ref sc9])), (al5, .inr (4, [.int mc62, .ref ed30, .int 2])), (ed30, .inl (cO, 10, .inr (.inr (.inr (.inr (va_up (va_up (fun _ => none) 0 (some y32)) 1 (some y63))))))), (y32, .inr (5, [.int 4, .int 4, .ref yw33, .ref yv34, .ref yh35, .int 0])), (yw33, .inl (cI, 4, .inl gw36)), (yv34, .inl (cI, 4, .inl gv37)), (yh35, .inl (cR, 4, .inr (.inr (.inr (.inr gh38))))), (y63, .inr (5, [.int 4, .int 4, .ref yw64, .ref yv65, .ref yh66, .int 1])), (yw64, .inl (cI, 4, .inl gw92)), (yv65, .inl (cI, 4, .inl gv93)), (yh66, .inl (cR, 4, .inr (.inr (.inr (.inr gh94)))))]) (w1 := [(q11, .inr (9, [.int 0, .ref am15, .int 0, .int 0, .int 0])), (am15, .inr (4, [.int mm76, .ref em45, .int 2])), (em45, .inl (cO, 10, .inr (.inr (.inr (.inr (va_up (va_up (fun _ => none) 0 (some a47)) 1 (some a77))))))), (a47, .inr (8, [.int 4, .ref wa48, .ref na49])), (wa48, .inl (cI, 4, .inl fw50)), (na49, .inl (cI, 4, .inl fn51)), (a77, .inr (8, [.int 4, .ref wa78, .ref na79])), (wa78, .inl (cI, 4, .inl fw101)), (na79, .inl (cI, 4, .inl fn102))]) hP hD [5, 6, 7, 2, 3, 4, 8, 9, 10] [0, 1, 11, 12, 13, 14, 15, 16, 17, 18, 19, 20, 21, 22] rfl rfl (by decide) (by decide) hk1 hFc hP1 hD1
  clear hPc hDc hFc hDv hpre hP hD hP1 hK1 hD1
  obtain ⟨hP, hD⟩ := hPD9
  replace hz : s.heap.size + 38 ≤ H99.size := by omega
  clear hz2
  replace hP : va_P (dC, dI) vwCl [(b8, .inr (1, [.ref v10, .int 0, .int 0, .int 0])), (v10, .inl (cB, 16, .inl (fun _ => 0))), (q16, .inr (7, [.long ((2 : Int32).toInt64), .null])), (q1, .inr (6, [.ref al5, .int 0, .int 0, .int 0, .ref sa6, .ref sb7, .ref b8, .ref sc9])), (al5, .inr (4, [.int mc62, .ref ed30, .int 2])), (ed30, .inl (cO, 10, .inr (.inr (.inr (.inr (va_up (va_up (fun _ => none) 0 (some y32)) 1 (some y63))))))), (y32, .inr (5, [.int 4, .int 4, .ref yw33, .ref yv34, .ref yh35, .int 0])), (yw33, .inl (cI, 4, .inl gw36)), (yv34, .inl (cI, 4, .inl gv37)), (yh35, .inl (cR, 4, .inr (.inr (.inr (.inr gh38))))), (y63, .inr (5, [.int 4, .int 4, .ref yw64, .ref yv65, .ref yh66, .int 1])), (yw64, .inl (cI, 4, .inl gw92)), (yv65, .inl (cI, 4, .inl gv93)), (yh66, .inl (cR, 4, .inr (.inr (.inr (.inr gh94))))), (q11, .inr (9, [.int 0, .ref am15, .int 0, .int 0, .int 0])), (am15, .inr (4, [.int mm76, .ref em45, .int 2])), (em45, .inl (cO, 10, .inr (.inr (.inr (.inr (va_up (va_up (fun _ => none) 0 (some a47)) 1 (some a77))))))), (a47, .inr (8, [.int 4, .ref wa48, .ref na49])), (wa48, .inl (cI, 4, .inl fw50)), (na49, .inl (cI, 4, .inl fn51)), (a77, .inr (8, [.int 4, .ref wa78, .ref na79])), (wa78, .inl (cI, 4, .inl fw101)), (na79, .inl (cI, 4, .inl fn102))] H99 := hP
  replace hD : va_D A [(b8, .inr (1, [.ref v10, .int 0, .int 0, .int 0])), (v10, .inl (cB, 16, .inl (fun _ => 0))), (q16, .inr (7, [.long ((2 : Int32).toInt64), .null])), (q1, .inr (6, [.ref al5, .int 0, .int 0, .int 0, .ref sa6, .ref sb7, .ref b8, .ref sc9])), (al5, .inr (4, [.int mc62, .ref ed30, .int 2])), (ed30, .inl (cO, 10, .inr (.inr (.inr (.inr (va_up (va_up (fun _ => none) 0 (some y32)) 1 (some y63))))))), (y32, .inr (5, [.int 4, .int 4, .ref yw33, .ref yv34, .ref yh35, .int 0])), (yw33, .inl (cI, 4, .inl gw36)), (yv34, .inl (cI, 4, .inl gv37)), (yh35, .inl (cR, 4, .inr (.inr (.inr (.inr gh38))))), (y63, .inr (5, [.int 4, .int 4, .ref yw64, .ref yv65, .ref yh66, .int 1])), (yw64, .inl (cI, 4, .inl gw92)), (yv65, .inl (cI, 4, .inl gv93)), (yh66, .inl (cR, 4, .inr (.inr (.inr (.inr gh94))))), (q11, .inr (9, [.int 0, .ref am15, .int 0, .int 0, .int 0])), (am15, .inr (4, [.int mm76, .ref em45, .int 2])), (em45, .inl (cO, 10, .inr (.inr (.inr (.inr (va_up (va_up (fun _ => none) 0 (some a47)) 1 (some a77))))))), (a47, .inr (8, [.int 4, .ref wa48, .ref na49])), (wa48, .inl (cI, 4, .inl fw50)), (na49, .inl (cI, 4, .inl fn51)), (a77, .inr (8, [.int 4, .ref wa78, .ref na79])), (wa78, .inl (cI, 4, .inl fw101)), (na79, .inl (cI, 4, .inl fn102))] := hD
  refine W.widen (k := 40) (n := 177) (by omega) (by omega) ?_
  refine lv_istore (lv' := [(6, .int 2), (5, .int 0), (4, .int 10), (3, .ref q16), (2, .ref q11), (1, .ref q1), (0, .ref b)]) hx hb dL_law_576 hl (by decide) rfl (fun ls hl => ?_)
  refine lv_aload_n hx hb dL_law_578 rfl (lv_at hl 4 rfl) ?_
  have hPc := hP.sub (ws' := [(q11, .inr (9, [.int 0, .ref am15, .int 0, .int 0, .int 0]))]) [14] rfl
  have hDc := hD.sub (ws' := [(q11, .inr (9, [.int 0, .ref am15, .int 0, .int 0, .int 0]))]) [14] (by decide) rfl
  have hFc := va_free (wc := [(q11, .inr (9, [.int 0, .ref am15, .int 0, .int 0, .int 0]))]) hD hS hA [14] rfl
  have hDv := hDc.self (sz := H99.size)
  have hpre := zpre (xs' := []) (av := [.ref q11]) hPc hK (hDc.weaken (fun _ _ _ h => h)) hZ hS hFc (fun r hr => by cases hr)
  refine va_calli (va_runV (As := []) (rest := []) ⟨hx, hb, hml, hown, hts⟩ (k_thM l dC dI cI cB cR cO zk q11 (.int 0) (.int 0) (.int 0) am15 H99.size ) (cwV 0 hts gL_law_X4_thrown rfl rfl rfl (by decide +kernel) ⟨Nat.le_of_ble_eq_true rfl, Nat.le_of_ble_eq_true rfl⟩) ⟨zblind, (zrecv_9 hK hPc (q0 := 0) rfl), hpre⟩ rfl rfl hl.1 rfl (lv_room (Nat.le_of_ble_eq_true rfl)) dL_law_579 ⟨Nat.le_of_ble_eq_true rfl, Nat.le_of_ble_eq_true rfl⟩) hS (fun q _ h => hFc q h) hFc (fun r104 u t H103 locs ht hvm hw hB hz1 hk1 hS => ?_)
  obtain rfl : 0 = r104 := (show r104 = 0 from hw).symm
  obtain ⟨hP1, hK1, hD1, hz2⟩ := hB
  rw [ht] at hP1 hz2
  have hPD9 := va_join (wr := [(b8, .inr (1, [.ref v10, .int 0, .int 0, .int 0])), (v10, .inl (cB, 16, .inl (fun _ => 0))), (q16, .inr (7, [.long ((2 : Int32).toInt64), .null])), (q1, .inr (6, [.ref al5, .int 0, .int 0, .int 0, .ref sa6, .ref sb7, .ref b8, .ref sc9])), (al5, .inr (4, [.int mc62, .ref ed30, .int 2])), (ed30, .inl (cO, 10, .inr (.inr (.inr (.inr (va_up (va_up (fun _ => none) 0 (some y32)) 1 (some y63))))))), (y32, .inr (5, [.int 4, .int 4, .ref yw33, .ref yv34, .ref yh35, .int 0])), (yw33, .inl (cI, 4, .inl gw36)), (yv34, .inl (cI, 4, .inl gv37)), (yh35, .inl (cR, 4, .inr (.inr (.inr (.inr gh38))))), (y63, .inr (5, [.int 4, .int 4, .ref yw64, .ref yv65, .ref yh66, .int 1])), (yw64, .inl (cI, 4, .inl gw92)), (yv65, .inl (cI, 4, .inl gv93)), (yh66, .inl (cR, 4, .inr (.inr (.inr (.inr gh94))))), (am15, .inr (4, [.int mm76, .ref em45, .int 2])), (em45, .inl (cO, 10, .inr (.inr (.inr (.inr (va_up (va_up (fun _ => none) 0 (some a47)) 1 (some a77))))))), (a47, .inr (8, [.int 4, .ref wa48, .ref na49])), (wa48, .inl (cI, 4, .inl fw50)), (na49, .inl (cI, 4, .inl fn51)), (a77, .inr (8, [.int 4, .ref wa78, .ref na79])), (wa78, .inl (cI, 4, .inl fw101)), (na79, .inl (cI, 4, .inl fn102))]) (w1 := [(q11, .inr (9, [.int 0, .ref am15, .int 0, .int 0, .int 0]))]) hP hD [14] [0, 1, 2, 3, 4, 5, 6, 7, 8, 9, 10, 11, 12, 13, 15, 16, 17, 18, 19, 20, 21, 22] rfl rfl (by decide) (by decide) hk1 hFc hP1 hD1
  clear hPc hDc hFc hDv hpre hP hD hP1 hK1 hD1
  obtain ⟨hP, hD⟩ := hPD9
  replace hz : s.heap.size + 38 ≤ H103.size := by omega
  clear hz2
  replace hP : va_P (dC, dI) vwCl [(b8, .inr (1, [.ref v10, .int 0, .int 0, .int 0])), (v10, .inl (cB, 16, .inl (fun _ => 0))), (q16, .inr (7, [.long ((2 : Int32).toInt64), .null])), (q1, .inr (6, [.ref al5, .int 0, .int 0, .int 0, .ref sa6, .ref sb7, .ref b8, .ref sc9])), (al5, .inr (4, [.int mc62, .ref ed30, .int 2])), (ed30, .inl (cO, 10, .inr (.inr (.inr (.inr (va_up (va_up (fun _ => none) 0 (some y32)) 1 (some y63))))))), (y32, .inr (5, [.int 4, .int 4, .ref yw33, .ref yv34, .ref yh35, .int 0])), (yw33, .inl (cI, 4, .inl gw36)), (yv34, .inl (cI, 4, .inl gv37)), (yh35, .inl (cR, 4, .inr (.inr (.inr (.inr gh38))))), (y63, .inr (5, [.int 4, .int 4, .ref yw64, .ref yv65, .ref yh66, .int 1])), (yw64, .inl (cI, 4, .inl gw92)), (yv65, .inl (cI, 4, .inl gv93)), (yh66, .inl (cR, 4, .inr (.inr (.inr (.inr gh94))))), (am15, .inr (4, [.int mm76, .ref em45, .int 2])), (em45, .inl (cO, 10, .inr (.inr (.inr (.inr (va_up (va_up (fun _ => none) 0 (some a47)) 1 (some a77))))))), (a47, .inr (8, [.int 4, .ref wa48, .ref na49])), (wa48, .inl (cI, 4, .inl fw50)), (na49, .inl (cI, 4, .inl fn51)), (a77, .inr (8, [.int 4, .ref wa78, .ref na79])), (wa78, .inl (cI, 4, .inl fw101)), (na79, .inl (cI, 4, .inl fn102)), (q11, .inr (9, [.int 0, .ref am15, .int 0, .int 0, .int 0]))] H103 := hP
  replace hD : va_D A [(b8, .inr (1, [.ref v10, .int 0, .int 0, .int 0])), (v10, .inl (cB, 16, .inl (fun _ => 0))), (q16, .inr (7, [.long ((2 : Int32).toInt64), .null])), (q1, .inr (6, [.ref al5, .int 0, .int 0, .int 0, .ref sa6, .ref sb7, .ref b8, .ref sc9])), (al5, .inr (4, [.int mc62, .ref ed30, .int 2])), (ed30, .inl (cO, 10, .inr (.inr (.inr (.inr (va_up (va_up (fun _ => none) 0 (some y32)) 1 (some y63))))))), (y32, .inr (5, [.int 4, .int 4, .ref yw33, .ref yv34, .ref yh35, .int 0])), (yw33, .inl (cI, 4, .inl gw36)), (yv34, .inl (cI, 4, .inl gv37)), (yh35, .inl (cR, 4, .inr (.inr (.inr (.inr gh38))))), (y63, .inr (5, [.int 4, .int 4, .ref yw64, .ref yv65, .ref yh66, .int 1])), (yw64, .inl (cI, 4, .inl gw92)), (yv65, .inl (cI, 4, .inl gv93)), (yh66, .inl (cR, 4, .inr (.inr (.inr (.inr gh94))))), (am15, .inr (4, [.int mm76, .ref em45, .int 2])), (em45, .inl (cO, 10, .inr (.inr (.inr (.inr (va_up (va_up (fun _ => none) 0 (some a47)) 1 (some a77))))))), (a47, .inr (8, [.int 4, .ref wa48, .ref na49])), (wa48, .inl (cI, 4, .inl fw50)), (na49, .inl (cI, 4, .inl fn51)), (a77, .inr (8, [.int 4, .ref wa78, .ref na79])), (wa78, .inl (cI, 4, .inl fw101)), (na79, .inl (cI, 4, .inl fn102)), (q11, .inr (9, [.int 0, .ref am15, .int 0, .int 0, .int 0]))] := hD
  refine W.widen (k := 40) (n := 177) (by omega) (by omega) ?_
  refine lv_iload hx hb dL_law_582 (lv_at hl 1 rfl) ?_
  refine lv_icmp_eq (tgt := 589) hx hb dL_law_584 (by decide) (fun c9 => ?_) (fun c9 => ?_)
  rotate_left
  · exact absurd (by decide) c9
  refine lv_iload hx hb dL_law_589 (lv_at hl 1 rfl) ?_
  refine lv_if_ne (tgt := 607) hx hb dL_law_591 (by decide) (fun c9 => ?_) (fun c9 => ?_)
  · exact absurd (by decide) c9
  refine lv_aload_n hx hb dL_law_594 rfl (lv_at hl 3 rfl) ?_
  refine va_getN (D := (dC, dI)) (ci := 7) (v := .long ((2 : Int32).toInt64)) (C := RX2) (T := TX2) (N := 2) hx hb hts inlX2 hown hK hP 2 rfl rfl 0 (by decide) (zn6 hZ) (fun _ h9 => h9) rfl dL_law_595 ?_
  refine lv_iload hx hb dL_law_598 (lv_at hl 0 rfl) ?_
  refine lv_i2l (v := (2 : Int32).toInt64) hx hb dL_law_600 rfl ?_
  refine W.lcmp hx hb dL_law_601 ?_
  refine lv_topi (fun v105 ev105 => ?_)
  obtain rfl : v105 = 0 := ev105.trans (by decide)
  refine lv_if_eq (tgt := 607) hx hb dL_law_602 (by decide) (fun c9 => ?_) (fun c9 => ?_)
  rotate_left
  · exact absurd (by decide) c9
  refine lv_goto (tgt := 1349) hx hb dL_law_607 (by decide) ?_
  refine lv_iinc (v := 15) (lv' := [(4, .int 15), (6, .int 2), (5, .int 0), (3, .ref q16), (2, .ref q11), (1, .ref q1), (0, .ref b)]) hx hb dL_law_1349 hl (k := 2) rfl (by decide) (by decide) rfl (fun ls hl => ?_)
  refine lv_goto (tgt := 27) hx hb dL_law_1352 (by decide) ?_
  refine lv_iload hx hb dL_law_27 (lv_at hl 0 rfl) ?_
  refine lv_aload_n hx hb dL_law_29 rfl (lv_at hl 6 rfl) ?_
  refine va_slen hx hb hX hbl hbA hS dL_law_30 ?_
  refine W.eq (g2 := F0 mY 31 ls [.int 1835, .int 15]) rfl ?_
  refine lv_iconst (v := 5) hx hb dL_law_31 (by decide) ?_
  refine lv_isub hx hb dL_law_32 ?_
  refine lv_topi (fun v106 ev106 => ?_)
  obtain rfl : v106 = 1830 := ev106.trans (by decide)
  refine lv_icmp_gt (tgt := 1355) hx hb dL_law_33 (by decide) (fun c9 => ?_) (fun c9 => ?_)
  · exact absurd c9 (by decide)
  refine lv_aload_n hx hb dL_law_36 rfl (lv_at hl 6 rfl) ?_
  refine lv_iload hx hb dL_law_37 (lv_at hl 0 rfl) ?_
  refine va_sld hx hb hX hbl hbA hS (by unfold vp_in; decide) dL_law_39 ?_
  refine lv_topi (fun v107 ev107 => ?_)
  obtain rfl : v107 = 0 := ev107.trans (by decide)
  refine lv_bipush (v := 31) hx hb dL_law_40 (by decide) ?_
  refine lv_iand hx hb dL_law_42 ?_
  refine lv_topi (fun v108 ev108 => ?_)
  obtain rfl : v108 = 0 := ev108.trans (by decide)
  refine lv_tableIn (off := 141) (tgt := 184) hx hb dL_law_43 (by decide) (by decide) (by decide) (by decide) ?_
  refine lv_aload_n hx hb dL_law_184 rfl (lv_at hl 5 rfl) ?_
  refine lv_aload_n hx hb dL_law_185 rfl (lv_at hl 6 rfl) ?_
  refine lv_iload hx hb dL_law_186 (lv_at hl 0 rfl) ?_
  refine lv_iconst (v := 1) hx hb dL_law_188 (by decide) ?_
  refine lv_iadd hx hb dL_law_189 ?_
  refine lv_topi (fun v109 ev109 => ?_)
  obtain rfl : v109 = 16 := ev109.trans (by decide)
  refine va_sld hx hb hX hbl hbA hS (by unfold vp_in; decide) dL_law_190 ?_
  refine lv_topi (fun v110 ev110 => ?_)
  obtain rfl : v110 = 4 := ev110.trans (by decide)
  refine lv_aload_n hx hb dL_law_191 rfl (lv_at hl 6 rfl) ?_
  refine lv_iload hx hb dL_law_192 (lv_at hl 0 rfl) ?_
  refine lv_iconst (v := 2) hx hb dL_law_194 (by decide) ?_
  refine lv_iadd hx hb dL_law_195 ?_
  refine lv_topi (fun v111 ev111 => ?_)
  obtain rfl : v111 = 17 := ev111.trans (by decide)
  refine va_sld hx hb hX hbl hbA hS (by unfold vp_in; decide) dL_law_196 ?_
  refine lv_topi (fun v112 ev112 => ?_)
  obtain rfl : v112 = 4 := ev112.trans (by decide)
  refine lv_aload_n hx hb dL_law_197 rfl (lv_at hl 3 rfl) ?_
  have hPc := hP.sub (ws' := [(q16, .inr (7, [.long ((2 : Int32).toInt64), .null])), (q1, .inr (6, [.ref al5, .int 0, .int 0, .int 0, .ref sa6, .ref sb7, .ref b8, .ref sc9])), (al5, .inr (4, [.int mc62, .ref ed30, .int 2])), (ed30, .inl (cO, 10, .inr (.inr (.inr (.inr (va_up (va_up (fun _ => none) 0 (some y32)) 1 (some y63)))))))]) [2, 3, 4, 5] rfl
  have hDc := hD.sub (ws' := [(q16, .inr (7, [.long ((2 : Int32).toInt64), .null])), (q1, .inr (6, [.ref al5, .int 0, .int 0, .int 0, .ref sa6, .ref sb7, .ref b8, .ref sc9])), (al5, .inr (4, [.int mc62, .ref ed30, .int 2])), (ed30, .inl (cO, 10, .inr (.inr (.inr (.inr (va_up (va_up (fun _ => none) 0 (some y32)) 1 (some y63)))))))]) [2, 3, 4, 5] (by decide) rfl
  have hFc := va_free (wc := [(q16, .inr (7, [.long ((2 : Int32).toInt64), .null])), (q1, .inr (6, [.ref al5, .int 0, .int 0, .int 0, .ref sa6, .ref sb7, .ref b8, .ref sc9])), (al5, .inr (4, [.int mc62, .ref ed30, .int 2])), (ed30, .inl (cO, 10, .inr (.inr (.inr (.inr (va_up (va_up (fun _ => none) 0 (some y32)) 1 (some y63)))))))]) hD hS hA [2, 3, 4, 5] rfl
  have hDv := hDc.self (sz := H103.size)
  have hpre := zpre (xs' := []) (av := [.ref q1, .int 4, .int 4, .ref q16]) hPc hK (hDc.weaken (fun _ _ _ h => h)) hZ hS hFc (fun r hr => by cases hr)
  refine va_calli (vx_runSW (As := [.ref q1, .int 4, .int 4, .ref q16]) (rest := []) ⟨hx, hb, hml, hown, hts⟩ (k_LmX2 l dC dI cI cB cR cO zk q1 al5 b8 (.int 0) (.int 0) (.int 0) (.ref sa6) (.ref sb7) (.ref sc9) ed30 (va_up (va_up (fun _ => none) 0 (some y32)) 1 (some y63)) mc62 q16 (.long ((2 : Int32).toInt64)) .null H103.size ) (vx_cwSW 4 hts gL_law_L_make rfl rfl rfl (by decide +kernel) ⟨Nat.le_of_ble_eq_true rfl, Nat.le_of_ble_eq_true rfl⟩) ⟨zblind, hpre⟩ rfl rfl hl.1 rfl (lv_room (Nat.le_of_ble_eq_true rfl)) dL_law_198 ⟨Nat.le_of_ble_eq_true rfl, Nat.le_of_ble_eq_true rfl⟩) hS (fun q _ h => hFc q h) hFc (fun r114 u t H113 locs ht hvm hw hB hz1 hk1 hS => ?_)
  obtain rfl : 0 = r114 := (show r114 = 0 from hw).symm
  obtain ⟨on115, mc116, y117, yw118, yv119, yh120, gw121, gv122, gh123, ⟨hP1, hK1, hD1, hz2⟩, hwgw121, hhgh123, rfl⟩ := hB
  rw [ht] at hP1 hz2
  have hPD9 := va_join (wr := [(b8, .inr (1, [.ref v10, .int 0, .int 0, .int 0])), (v10, .inl (cB, 16, .inl (fun _ => 0))), (y32, .inr (5, [.int 4, .int 4, .ref yw33, .ref yv34, .ref yh35, .int 0])), (yw33, .inl (cI, 4, .inl gw36)), (yv34, .inl (cI, 4, .inl gv37)), (yh35, .inl (cR, 4, .inr (.inr (.inr (.inr gh38))))), (y63, .inr (5, [.int 4, .int 4, .ref yw64, .ref yv65, .ref yh66, .int 1])), (yw64, .inl (cI, 4, .inl gw92)), (yv65, .inl (cI, 4, .inl gv93)), (yh66, .inl (cR, 4, .inr (.inr (.inr (.inr gh94))))), (am15, .inr (4, [.int mm76, .ref em45, .int 2])), (em45, .inl (cO, 10, .inr (.inr (.inr (.inr (va_up (va_up (fun _ => none) 0 (some a47)) 1 (some a77))))))), (a47, .inr (8, [.int 4, .ref wa48, .ref na49])), (wa48, .inl (cI, 4, .inl fw50)), (na49, .inl (cI, 4, .inl fn51)), (a77, .inr (8, [.int 4, .ref wa78, .ref na79])), (wa78, .inl (cI, 4, .inl fw101)), (na79, .inl (cI, 4, .inl fn102)), (q11, .inr (9, [.int 0, .ref am15, .int 0, .int 0, .int 0]))]) (w1 := [(q16, .inr (7, [.long ((2 : Int32).toInt64), .null])), (q1, .inr (6, [.ref al5, .int 0, .int 0, .int 0, .ref sa6, .ref sb7, .ref b8, .ref sc9])), (al5, .inr (4, [.int mc116, .ref ed30, .int 3])), (ed30, .inl (cO, 10, .inr (.inr (.inr (.inr (va_up (va_up (va_up (fun _ => none) 0 (some y32)) 1 (some y63)) 2 (some y117))))))), (y117, .inr (5, [.int 4, .int 4, .ref yw118, .ref yv119, .ref yh120, .int 2])), (yw118, .inl (cI, 4, .inl gw121)), (yv119, .inl (cI, 4, .inl gv122)), (yh120, .inl (cR, 4, .inr (.inr (.inr (.inr gh123)))))]) hP hD [2, 3, 4, 5] [0, 1, 6, 7, 8, 9, 10, 11, 12, 13, 14, 15, 16, 17, 18, 19, 20, 21, 22] rfl rfl (by decide) (by decide) hk1 hFc hP1 hD1
  clear hPc hDc hFc hDv hpre hP hD hP1 hK1 hD1
  obtain ⟨hP, hD⟩ := hPD9
  replace hz : s.heap.size + 42 ≤ H113.size := by omega
  clear hz2
  replace hP : va_P (dC, dI) vwCl [(b8, .inr (1, [.ref v10, .int 0, .int 0, .int 0])), (v10, .inl (cB, 16, .inl (fun _ => 0))), (y32, .inr (5, [.int 4, .int 4, .ref yw33, .ref yv34, .ref yh35, .int 0])), (yw33, .inl (cI, 4, .inl gw36)), (yv34, .inl (cI, 4, .inl gv37)), (yh35, .inl (cR, 4, .inr (.inr (.inr (.inr gh38))))), (y63, .inr (5, [.int 4, .int 4, .ref yw64, .ref yv65, .ref yh66, .int 1])), (yw64, .inl (cI, 4, .inl gw92)), (yv65, .inl (cI, 4, .inl gv93)), (yh66, .inl (cR, 4, .inr (.inr (.inr (.inr gh94))))), (am15, .inr (4, [.int mm76, .ref em45, .int 2])), (em45, .inl (cO, 10, .inr (.inr (.inr (.inr (va_up (va_up (fun _ => none) 0 (some a47)) 1 (some a77))))))), (a47, .inr (8, [.int 4, .ref wa48, .ref na49])), (wa48, .inl (cI, 4, .inl fw50)), (na49, .inl (cI, 4, .inl fn51)), (a77, .inr (8, [.int 4, .ref wa78, .ref na79])), (wa78, .inl (cI, 4, .inl fw101)), (na79, .inl (cI, 4, .inl fn102)), (q11, .inr (9, [.int 0, .ref am15, .int 0, .int 0, .int 0])), (q16, .inr (7, [.long ((2 : Int32).toInt64), .null])), (q1, .inr (6, [.ref al5, .int 0, .int 0, .int 0, .ref sa6, .ref sb7, .ref b8, .ref sc9])), (al5, .inr (4, [.int mc116, .ref ed30, .int 3])), (ed30, .inl (cO, 10, .inr (.inr (.inr (.inr (va_up (va_up (va_up (fun _ => none) 0 (some y32)) 1 (some y63)) 2 (some y117))))))), (y117, .inr (5, [.int 4, .int 4, .ref yw118, .ref yv119, .ref yh120, .int 2])), (yw118, .inl (cI, 4, .inl gw121)), (yv119, .inl (cI, 4, .inl gv122)), (yh120, .inl (cR, 4, .inr (.inr (.inr (.inr gh123)))))] H113 := hP
  replace hD : va_D A [(b8, .inr (1, [.ref v10, .int 0, .int 0, .int 0])), (v10, .inl (cB, 16, .inl (fun _ => 0))), (y32, .inr (5, [.int 4, .int 4, .ref yw33, .ref yv34, .ref yh35, .int 0])), (yw33, .inl (cI, 4, .inl gw36)), (yv34, .inl (cI, 4, .inl gv37)), (yh35, .inl (cR, 4, .inr (.inr (.inr (.inr gh38))))), (y63, .inr (5, [.int 4, .int 4, .ref yw64, .ref yv65, .ref yh66, .int 1])), (yw64, .inl (cI, 4, .inl gw92)), (yv65, .inl (cI, 4, .inl gv93)), (yh66, .inl (cR, 4, .inr (.inr (.inr (.inr gh94))))), (am15, .inr (4, [.int mm76, .ref em45, .int 2])), (em45, .inl (cO, 10, .inr (.inr (.inr (.inr (va_up (va_up (fun _ => none) 0 (some a47)) 1 (some a77))))))), (a47, .inr (8, [.int 4, .ref wa48, .ref na49])), (wa48, .inl (cI, 4, .inl fw50)), (na49, .inl (cI, 4, .inl fn51)), (a77, .inr (8, [.int 4, .ref wa78, .ref na79])), (wa78, .inl (cI, 4, .inl fw101)), (na79, .inl (cI, 4, .inl fn102)), (q11, .inr (9, [.int 0, .ref am15, .int 0, .int 0, .int 0])), (q16, .inr (7, [.long ((2 : Int32).toInt64), .null])), (q1, .inr (6, [.ref al5, .int 0, .int 0, .int 0, .ref sa6, .ref sb7, .ref b8, .ref sc9])), (al5, .inr (4, [.int mc116, .ref ed30, .int 3])), (ed30, .inl (cO, 10, .inr (.inr (.inr (.inr (va_up (va_up (va_up (fun _ => none) 0 (some y32)) 1 (some y63)) 2 (some y117))))))), (y117, .inr (5, [.int 4, .int 4, .ref yw118, .ref yv119, .ref yh120, .int 2])), (yw118, .inl (cI, 4, .inl gw121)), (yv119, .inl (cI, 4, .inl gv122)), (yh120, .inl (cR, 4, .inr (.inr (.inr (.inr gh123)))))] := hD
  refine W.widen (k := 44) (n := 195) (by omega) (by omega) ?_
  refine lv_istore (lv' := [(5, .int 0), (4, .int 15), (6, .int 2), (3, .ref q16), (2, .ref q11), (1, .ref q1), (0, .ref b)]) hx hb dL_law_201 hl (by decide) rfl (fun ls hl => ?_)
  refine lv_aload_n hx hb dL_law_203 rfl (lv_at hl 4 rfl) ?_
  refine lv_aload_n hx hb dL_law_204 rfl (lv_at hl 6 rfl) ?_
  refine lv_iload hx hb dL_law_205 (lv_at hl 1 rfl) ?_
  refine lv_iconst (v := 1) hx hb dL_law_207 (by decide) ?_
  refine lv_iadd hx hb dL_law_208 ?_
  refine lv_topi (fun v124 ev124 => ?_)
  obtain rfl : v124 = 16 := ev124.trans (by decide)
  refine va_sld hx hb hX hbl hbA hS (by unfold vp_in; decide) dL_law_209 ?_
  refine lv_topi (fun v125 ev125 => ?_)
  obtain rfl : v125 = 4 := ev125.trans (by decide)
  refine lv_aload_n hx hb dL_law_210 rfl (lv_at hl 6 rfl) ?_
  refine lv_iload hx hb dL_law_211 (lv_at hl 1 rfl) ?_
  refine lv_iconst (v := 2) hx hb dL_law_213 (by decide) ?_
  refine lv_iadd hx hb dL_law_214 ?_
  refine lv_topi (fun v126 ev126 => ?_)
  obtain rfl : v126 = 17 := ev126.trans (by decide)
  refine va_sld hx hb hX hbl hbA hS (by unfold vp_in; decide) dL_law_215 ?_
  refine lv_topi (fun v127 ev127 => ?_)
  obtain rfl : v127 = 4 := ev127.trans (by decide)
  have hPc := hP.sub (ws' := [(q11, .inr (9, [.int 0, .ref am15, .int 0, .int 0, .int 0])), (am15, .inr (4, [.int mm76, .ref em45, .int 2])), (em45, .inl (cO, 10, .inr (.inr (.inr (.inr (va_up (va_up (fun _ => none) 0 (some a47)) 1 (some a77)))))))]) [18, 10, 11] rfl
  have hDc := hD.sub (ws' := [(q11, .inr (9, [.int 0, .ref am15, .int 0, .int 0, .int 0])), (am15, .inr (4, [.int mm76, .ref em45, .int 2])), (em45, .inl (cO, 10, .inr (.inr (.inr (.inr (va_up (va_up (fun _ => none) 0 (some a47)) 1 (some a77)))))))]) [18, 10, 11] (by decide) rfl
  have hFc := va_free (wc := [(q11, .inr (9, [.int 0, .ref am15, .int 0, .int 0, .int 0])), (am15, .inr (4, [.int mm76, .ref em45, .int 2])), (em45, .inl (cO, 10, .inr (.inr (.inr (.inr (va_up (va_up (fun _ => none) 0 (some a47)) 1 (some a77)))))))]) hD hS hA [18, 10, 11] rfl
  have hDv := hDc.self (sz := H113.size)
  have hpre := zpre (xs' := []) (av := [.ref q11, .int 4, .int 4]) hPc hK (hDc.weaken (fun _ _ _ h => h)) hZ hS hFc (fun r hr => by cases hr)
  refine va_calli (va_runV (As := [.int 4, .int 4]) (rest := []) ⟨hx, hb, hml, hown, hts⟩ (k_mkM2 l dC dI cI cB cR cO zk q11 am15 (.int 0) (.int 0) (.int 0) (.int 0) em45 (va_up (va_up (fun _ => none) 0 (some a47)) 1 (some a77)) mm76 H113.size ) (cwV 2 hts gL_law_X4_make rfl rfl rfl (by decide +kernel) ⟨Nat.le_of_ble_eq_true rfl, Nat.le_of_ble_eq_true rfl⟩) ⟨zblind, (zrecv_9 hK hPc (q0 := 0) rfl), hpre⟩ rfl rfl hl.1 rfl (lv_room (Nat.le_of_ble_eq_true rfl)) dL_law_216 ⟨Nat.le_of_ble_eq_true rfl, Nat.le_of_ble_eq_true rfl⟩) hS (fun q _ h => hFc q h) hFc (fun r129 u t H128 locs ht hvm hw hB hz1 hk1 hS => ?_)
  obtain rfl : 2 = r129 := (show r129 = 2 from hw).symm
  obtain ⟨mm130, a131, wa132, na133, fw134, fn135, ⟨hP1, hK1, hD1, hz2⟩, hwfw134, hnfn135⟩ := hB
  rw [ht] at hP1 hz2
  have hPD9 := va_join (wr := [(b8, .inr (1, [.ref v10, .int 0, .int 0, .int 0])), (v10, .inl (cB, 16, .inl (fun _ => 0))), (y32, .inr (5, [.int 4, .int 4, .ref yw33, .ref yv34, .ref yh35, .int 0])), (yw33, .inl (cI, 4, .inl gw36)), (yv34, .inl (cI, 4, .inl gv37)), (yh35, .inl (cR, 4, .inr (.inr (.inr (.inr gh38))))), (y63, .inr (5, [.int 4, .int 4, .ref yw64, .ref yv65, .ref yh66, .int 1])), (yw64, .inl (cI, 4, .inl gw92)), (yv65, .inl (cI, 4, .inl gv93)), (yh66, .inl (cR, 4, .inr (.inr (.inr (.inr gh94))))), (a47, .inr (8, [.int 4, .ref wa48, .ref na49])), (wa48, .inl (cI, 4, .inl fw50)), (na49, .inl (cI, 4, .inl fn51)), (a77, .inr (8, [.int 4, .ref wa78, .ref na79])), (wa78, .inl (cI, 4, .inl fw101)), (na79, .inl (cI, 4, .inl fn102)), (q16, .inr (7, [.long ((2 : Int32).toInt64), .null])), (q1, .inr (6, [.ref al5, .int 0, .int 0, .int 0, .ref sa6, .ref sb7, .ref b8, .ref sc9])), (al5, .inr (4, [.int mc116, .ref ed30, .int 3])), (ed30, .inl (cO, 10, .inr (.inr (.inr (.inr (va_up (va_up (va_up (fun _ => none) 0 (some y32)) 1 (some y63)) 2 (some y117))))))), (y117, .inr (5, [.int 4, .int 4, .ref yw118, .ref yv119, .ref yh120, .int 2])), (yw118, .inl (cI, 4, .inl gw121)), (yv119, .inl (cI, 4, .inl gv122)), (yh120, .inl (cR, 4, .inr (.inr (.inr (.inr gh123)))))]) (w1 := [(q11, .inr (9, [.int 0, .ref am15, .int 0, .int 0, .int 0])), (am15, .inr (4, [.int mm130, .ref em45, .int 3])), (em45, .inl (cO, 10, .inr (.inr (.inr (.inr (va_up (va_up (va_up (fun _ => none) 0 (some a47)) 1 (some a77)) 2 (some a131))))))), (a131, .inr (8, [.int 4, .ref wa132, .ref na133])), (wa132, .inl (cI, 4, .inl fw134)), (na133, .inl (cI, 4, .inl fn135))]) hP hD [18, 10, 11] [0, 1, 2, 3, 4, 5, 6, 7, 8, 9, 12, 13, 14, 15, 16, 17, 19, 20, 21, 22, 23, 24, 25, 26] rfl rfl (by decide) (by decide) hk1 hFc hP1 hD1
  clear hPc hDc hFc hDv hpre hP hD hP1 hK1 hD1
  obtain ⟨hP, hD⟩ := hPD9
  replace hz : s.heap.size + 45 ≤ H128.size := by omega
  clear hz2
  replace hP : va_P (dC, dI) vwCl [(b8, .inr (1, [.ref v10, .int 0, .int 0, .int 0])), (v10, .inl (cB, 16, .inl (fun _ => 0))), (y32, .inr (5, [.int 4, .int 4, .ref yw33, .ref yv34, .ref yh35, .int 0])), (yw33, .inl (cI, 4, .inl gw36)), (yv34, .inl (cI, 4, .inl gv37)), (yh35, .inl (cR, 4, .inr (.inr (.inr (.inr gh38))))), (y63, .inr (5, [.int 4, .int 4, .ref yw64, .ref yv65, .ref yh66, .int 1])), (yw64, .inl (cI, 4, .inl gw92)), (yv65, .inl (cI, 4, .inl gv93)), (yh66, .inl (cR, 4, .inr (.inr (.inr (.inr gh94))))), (a47, .inr (8, [.int 4, .ref wa48, .ref na49])), (wa48, .inl (cI, 4, .inl fw50)), (na49, .inl (cI, 4, .inl fn51)), (a77, .inr (8, [.int 4, .ref wa78, .ref na79])), (wa78, .inl (cI, 4, .inl fw101)), (na79, .inl (cI, 4, .inl fn102)), (q16, .inr (7, [.long ((2 : Int32).toInt64), .null])), (q1, .inr (6, [.ref al5, .int 0, .int 0, .int 0, .ref sa6, .ref sb7, .ref b8, .ref sc9])), (al5, .inr (4, [.int mc116, .ref ed30, .int 3])), (ed30, .inl (cO, 10, .inr (.inr (.inr (.inr (va_up (va_up (va_up (fun _ => none) 0 (some y32)) 1 (some y63)) 2 (some y117))))))), (y117, .inr (5, [.int 4, .int 4, .ref yw118, .ref yv119, .ref yh120, .int 2])), (yw118, .inl (cI, 4, .inl gw121)), (yv119, .inl (cI, 4, .inl gv122)), (yh120, .inl (cR, 4, .inr (.inr (.inr (.inr gh123))))), (q11, .inr (9, [.int 0, .ref am15, .int 0, .int 0, .int 0])), (am15, .inr (4, [.int mm130, .ref em45, .int 3])), (em45, .inl (cO, 10, .inr (.inr (.inr (.inr (va_up (va_up (va_up (fun _ => none) 0 (some a47)) 1 (some a77)) 2 (some a131))))))), (a131, .inr (8, [.int 4, .ref wa132, .ref na133])), (wa132, .inl (cI, 4, .inl fw134)), (na133, .inl (cI, 4, .inl fn135))] H128 := hP
  replace hD : va_D A [(b8, .inr (1, [.ref v10, .int 0, .int 0, .int 0])), (v10, .inl (cB, 16, .inl (fun _ => 0))), (y32, .inr (5, [.int 4, .int 4, .ref yw33, .ref yv34, .ref yh35, .int 0])), (yw33, .inl (cI, 4, .inl gw36)), (yv34, .inl (cI, 4, .inl gv37)), (yh35, .inl (cR, 4, .inr (.inr (.inr (.inr gh38))))), (y63, .inr (5, [.int 4, .int 4, .ref yw64, .ref yv65, .ref yh66, .int 1])), (yw64, .inl (cI, 4, .inl gw92)), (yv65, .inl (cI, 4, .inl gv93)), (yh66, .inl (cR, 4, .inr (.inr (.inr (.inr gh94))))), (a47, .inr (8, [.int 4, .ref wa48, .ref na49])), (wa48, .inl (cI, 4, .inl fw50)), (na49, .inl (cI, 4, .inl fn51)), (a77, .inr (8, [.int 4, .ref wa78, .ref na79])), (wa78, .inl (cI, 4, .inl fw101)), (na79, .inl (cI, 4, .inl fn102)), (q16, .inr (7, [.long ((2 : Int32).toInt64), .null])), (q1, .inr (6, [.ref al5, .int 0, .int 0, .int 0, .ref sa6, .ref sb7, .ref b8, .ref sc9])), (al5, .inr (4, [.int mc116, .ref ed30, .int 3])), (ed30, .inl (cO, 10, .inr (.inr (.inr (.inr (va_up (va_up (va_up (fun _ => none) 0 (some y32)) 1 (some y63)) 2 (some y117))))))), (y117, .inr (5, [.int 4, .int 4, .ref yw118, .ref yv119, .ref yh120, .int 2])), (yw118, .inl (cI, 4, .inl gw121)), (yv119, .inl (cI, 4, .inl gv122)), (yh120, .inl (cR, 4, .inr (.inr (.inr (.inr gh123))))), (q11, .inr (9, [.int 0, .ref am15, .int 0, .int 0, .int 0])), (am15, .inr (4, [.int mm130, .ref em45, .int 3])), (em45, .inl (cO, 10, .inr (.inr (.inr (.inr (va_up (va_up (va_up (fun _ => none) 0 (some a47)) 1 (some a77)) 2 (some a131))))))), (a131, .inr (8, [.int 4, .ref wa132, .ref na133])), (wa132, .inl (cI, 4, .inl fw134)), (na133, .inl (cI, 4, .inl fn135))] := hD
  refine W.widen (k := 47) (n := 206) (by omega) (by omega) ?_
  refine lv_istore (lv' := [(6, .int 2), (5, .int 0), (4, .int 15), (3, .ref q16), (2, .ref q11), (1, .ref q1), (0, .ref b)]) hx hb dL_law_219 hl (by decide) rfl (fun ls hl => ?_)
  refine lv_goto (tgt := 1349) hx hb dL_law_221 (by decide) ?_
  refine lv_iinc (v := 20) (lv' := [(4, .int 20), (6, .int 2), (5, .int 0), (3, .ref q16), (2, .ref q11), (1, .ref q1), (0, .ref b)]) hx hb dL_law_1349 hl (k := 2) rfl (by decide) (by decide) rfl (fun ls hl => ?_)
  refine lv_goto (tgt := 27) hx hb dL_law_1352 (by decide) ?_
  refine lv_iload hx hb dL_law_27 (lv_at hl 0 rfl) ?_
  refine lv_aload_n hx hb dL_law_29 rfl (lv_at hl 6 rfl) ?_
  refine va_slen hx hb hX hbl hbA hS dL_law_30 ?_
  refine W.eq (g2 := F0 mY 31 ls [.int 1835, .int 20]) rfl ?_
  refine lv_iconst (v := 5) hx hb dL_law_31 (by decide) ?_
  refine lv_isub hx hb dL_law_32 ?_
  refine lv_topi (fun v136 ev136 => ?_)
  obtain rfl : v136 = 1830 := ev136.trans (by decide)
  refine lv_icmp_gt (tgt := 1355) hx hb dL_law_33 (by decide) (fun c9 => ?_) (fun c9 => ?_)
  · exact absurd c9 (by decide)
  refine lv_aload_n hx hb dL_law_36 rfl (lv_at hl 6 rfl) ?_
  refine lv_iload hx hb dL_law_37 (lv_at hl 0 rfl) ?_
  refine va_sld hx hb hX hbl hbA hS (by unfold vp_in; decide) dL_law_39 ?_
  refine lv_topi (fun v137 ev137 => ?_)
  obtain rfl : v137 = 9 := ev137.trans (by decide)
  refine lv_bipush (v := 31) hx hb dL_law_40 (by decide) ?_
  refine lv_iand hx hb dL_law_42 ?_
  refine lv_topi (fun v138 ev138 => ?_)
  obtain rfl : v138 = 9 := ev138.trans (by decide)
  refine lv_tableIn (off := 498) (tgt := 541) hx hb dL_law_43 (by decide) (by decide) (by decide) (by decide) ?_
  refine lv_aload_n hx hb dL_law_541 rfl (lv_at hl 5 rfl) ?_
  refine lv_aload_n hx hb dL_law_542 rfl (lv_at hl 6 rfl) ?_
  refine lv_iload hx hb dL_law_543 (lv_at hl 0 rfl) ?_
  refine lv_iconst (v := 1) hx hb dL_law_545 (by decide) ?_
  refine lv_iadd hx hb dL_law_546 ?_
  refine lv_topi (fun v139 ev139 => ?_)
  obtain rfl : v139 = 21 := ev139.trans (by decide)
  refine va_sld hx hb hX hbl hbA hS (by unfold vp_in; decide) dL_law_547 ?_
  refine lv_topi (fun v140 ev140 => ?_)
  obtain rfl : v140 = 2 := ev140.trans (by decide)
  refine lv_aload_n hx hb dL_law_548 rfl (lv_at hl 6 rfl) ?_
  refine lv_iload hx hb dL_law_549 (lv_at hl 0 rfl) ?_
  refine lv_iconst (v := 2) hx hb dL_law_551 (by decide) ?_
  refine lv_iadd hx hb dL_law_552 ?_
  refine lv_topi (fun v141 ev141 => ?_)
  obtain rfl : v141 = 22 := ev141.trans (by decide)
  refine va_sld hx hb hX hbl hbA hS (by unfold vp_in; decide) dL_law_553 ?_
  refine lv_topi (fun v142 ev142 => ?_)
  obtain rfl : v142 = 1 := ev142.trans (by decide)
  refine lv_aload_n hx hb dL_law_554 rfl (lv_at hl 3 rfl) ?_
  have hPc := hP.sub (ws' := [(q16, .inr (7, [.long ((2 : Int32).toInt64), .null])), (q1, .inr (6, [.ref al5, .int 0, .int 0, .int 0, .ref sa6, .ref sb7, .ref b8, .ref sc9])), (al5, .inr (4, [.int mc116, .ref ed30, .int 3])), (ed30, .inl (cO, 10, .inr (.inr (.inr (.inr (va_up (va_up (va_up (fun _ => none) 0 (some y32)) 1 (some y63)) 2 (some y117))))))), (y32, .inr (5, [.int 4, .int 4, .ref yw33, .ref yv34, .ref yh35, .int 0])), (yw33, .inl (cI, 4, .inl gw36)), (yv34, .inl (cI, 4, .inl gv37)), (yh35, .inl (cR, 4, .inr (.inr (.inr (.inr gh38))))), (y63, .inr (5, [.int 4, .int 4, .ref yw64, .ref yv65, .ref yh66, .int 1])), (yw64, .inl (cI, 4, .inl gw92)), (yv65, .inl (cI, 4, .inl gv93)), (yh66, .inl (cR, 4, .inr (.inr (.inr (.inr gh94))))), (y117, .inr (5, [.int 4, .int 4, .ref yw118, .ref yv119, .ref yh120, .int 2])), (yw118, .inl (cI, 4, .inl gw121)), (yv119, .inl (cI, 4, .inl gv122)), (yh120, .inl (cR, 4, .inr (.inr (.inr (.inr gh123)))))]) [16, 17, 18, 19, 2, 3, 4, 5, 6, 7, 8, 9, 20, 21, 22, 23] rfl
  have hDc := hD.sub (ws' := [(q16, .inr (7, [.long ((2 : Int32).toInt64), .null])), (q1, .inr (6, [.ref al5, .int 0, .int 0, .int 0, .ref sa6, .ref sb7, .ref b8, .ref sc9])), (al5, .inr (4, [.int mc116, .ref ed30, .int 3])), (ed30, .inl (cO, 10, .inr (.inr (.inr (.inr (va_up (va_up (va_up (fun _ => none) 0 (some y32)) 1 (some y63)) 2 (some y117))))))), (y32, .inr (5, [.int 4, .int 4, .ref yw33, .ref yv34, .ref yh35, .int 0])), (yw33, .inl (cI, 4, .inl gw36)), (yv34, .inl (cI, 4, .inl gv37)), (yh35, .inl (cR, 4, .inr (.inr (.inr (.inr gh38))))), (y63, .inr (5, [.int 4, .int 4, .ref yw64, .ref yv65, .ref yh66, .int 1])), (yw64, .inl (cI, 4, .inl gw92)), (yv65, .inl (cI, 4, .inl gv93)), (yh66, .inl (cR, 4, .inr (.inr (.inr (.inr gh94))))), (y117, .inr (5, [.int 4, .int 4, .ref yw118, .ref yv119, .ref yh120, .int 2])), (yw118, .inl (cI, 4, .inl gw121)), (yv119, .inl (cI, 4, .inl gv122)), (yh120, .inl (cR, 4, .inr (.inr (.inr (.inr gh123)))))]) [16, 17, 18, 19, 2, 3, 4, 5, 6, 7, 8, 9, 20, 21, 22, 23] (by decide) rfl
  have hFc := va_free (wc := [(q16, .inr (7, [.long ((2 : Int32).toInt64), .null])), (q1, .inr (6, [.ref al5, .int 0, .int 0, .int 0, .ref sa6, .ref sb7, .ref b8, .ref sc9])), (al5, .inr (4, [.int mc116, .ref ed30, .int 3])), (ed30, .inl (cO, 10, .inr (.inr (.inr (.inr (va_up (va_up (va_up (fun _ => none) 0 (some y32)) 1 (some y63)) 2 (some y117))))))), (y32, .inr (5, [.int 4, .int 4, .ref yw33, .ref yv34, .ref yh35, .int 0])), (yw33, .inl (cI, 4, .inl gw36)), (yv34, .inl (cI, 4, .inl gv37)), (yh35, .inl (cR, 4, .inr (.inr (.inr (.inr gh38))))), (y63, .inr (5, [.int 4, .int 4, .ref yw64, .ref yv65, .ref yh66, .int 1])), (yw64, .inl (cI, 4, .inl gw92)), (yv65, .inl (cI, 4, .inl gv93)), (yh66, .inl (cR, 4, .inr (.inr (.inr (.inr gh94))))), (y117, .inr (5, [.int 4, .int 4, .ref yw118, .ref yv119, .ref yh120, .int 2])), (yw118, .inl (cI, 4, .inl gw121)), (yv119, .inl (cI, 4, .inl gv122)), (yh120, .inl (cR, 4, .inr (.inr (.inr (.inr gh123)))))]) hD hS hA [16, 17, 18, 19, 2, 3, 4, 5, 6, 7, 8, 9, 20, 21, 22, 23] rfl
  have hDv := hDc.self (sz := H128.size)
  have hpre := zpre (xs' := []) (av := [.ref q1, .int 2, .int 1, .ref q16]) hPc hK (hDc.weaken (fun _ _ _ h => h)) hZ hS hFc (fun r hr => by cases hr)
  refine va_calli (vx_runSW (As := [.ref q1, .int 2, .int 1, .ref q16]) (rest := []) ⟨hx, hb, hml, hown, hts⟩ (k_LfX2 l dC dI cI cB cR cO zk q1 al5 b8 (.int 0) (.int 0) (.int 0) (.ref sa6) (.ref sb7) (.ref sc9) ed30 (va_up (va_up (va_up (fun _ => none) 0 (some y32)) 1 (some y63)) 2 (some y117)) (.int mc116) y32 yw33 yv34 yh35 y63 yw64 yv65 yh66 0 1 gw36 gv37 gw92 gv93 gh38 gh94 y117 yw118 yv119 yh120 2 gw121 gv122 gh123 q16 (.long ((2 : Int32).toInt64)) .null H128.size rfl rfl rfl hwgw36 hhgh38 hhgh94) (vx_cwSW 4 hts gL_law_L_fillRow rfl rfl rfl (by decide +kernel) ⟨Nat.le_of_ble_eq_true rfl, Nat.le_of_ble_eq_true rfl⟩) ⟨zblind, hpre⟩ rfl rfl hl.1 rfl (lv_room (Nat.le_of_ble_eq_true rfl)) dL_law_555 ⟨Nat.le_of_ble_eq_true rfl, Nat.le_of_ble_eq_true rfl⟩) hS (fun q _ h => hFc q h) hFc (fun r144 u t H143 locs ht hvm hw hB hz1 hk1 hS => ?_)
  obtain rfl : 0 = r144 := (show r144 = 0 from hw).symm
  obtain ⟨on145, gw146, gv147, gh148, ⟨hP1, hK1, hD1, hz2⟩, hhgh148, rfl⟩ := hB
  rw [ht] at hP1 hz2
  have hPD9 := va_join (wr := [(b8, .inr (1, [.ref v10, .int 0, .int 0, .int 0])), (v10, .inl (cB, 16, .inl (fun _ => 0))), (a47, .inr (8, [.int 4, .ref wa48, .ref na49])), (wa48, .inl (cI, 4, .inl fw50)), (na49, .inl (cI, 4, .inl fn51)), (a77, .inr (8, [.int 4, .ref wa78, .ref na79])), (wa78, .inl (cI, 4, .inl fw101)), (na79, .inl (cI, 4, .inl fn102)), (q11, .inr (9, [.int 0, .ref am15, .int 0, .int 0, .int 0])), (am15, .inr (4, [.int mm130, .ref em45, .int 3])), (em45, .inl (cO, 10, .inr (.inr (.inr (.inr (va_up (va_up (va_up (fun _ => none) 0 (some a47)) 1 (some a77)) 2 (some a131))))))), (a131, .inr (8, [.int 4, .ref wa132, .ref na133])), (wa132, .inl (cI, 4, .inl fw134)), (na133, .inl (cI, 4, .inl fn135))]) (w1 := [(q16, .inr (7, [.long ((3 : Int32).toInt64), .null])), (q1, .inr (6, [.ref al5, .int 0, .int 0, .int 0, .ref sa6, .ref sb7, .ref b8, .ref sc9])), (al5, .inr (4, [.int mc116, .ref ed30, .int 3])), (ed30, .inl (cO, 10, .inr (.inr (.inr (.inr (va_up (va_up (va_up (fun _ => none) 0 (some y32)) 1 (some y63)) 2 (some y117))))))), (y32, .inr (5, [.int 4, .int 4, .ref yw33, .ref yv34, .ref yh35, .int 0])), (yw33, .inl (cI, 4, .inl gw36)), (yv34, .inl (cI, 4, .inl gv37)), (yh35, .inl (cR, 4, .inr (.inr (.inr (.inr gh38))))), (y63, .inr (5, [.int 4, .int 4, .ref yw64, .ref yv65, .ref yh66, .int 1])), (yw64, .inl (cI, 4, .inl gw92)), (yv65, .inl (cI, 4, .inl gv93)), (yh66, .inl (cR, 4, .inr (.inr (.inr (.inr gh94))))), (y117, .inr (5, [.int 4, .int 4, .ref yw118, .ref yv119, .ref yh120, .int 2])), (yw118, .inl (cI, 4, .inl gw146)), (yv119, .inl (cI, 4, .inl gv147)), (yh120, .inl (cR, 4, .inr (.inr (.inr (.inr gh148)))))]) hP hD [16, 17, 18, 19, 2, 3, 4, 5, 6, 7, 8, 9, 20, 21, 22, 23] [0, 1, 10, 11, 12, 13, 14, 15, 24, 25, 26, 27, 28, 29] rfl rfl (by decide) (by decide) hk1 hFc hP1 hD1
  clear hPc hDc hFc hDv hpre hP hD hP1 hK1 hD1
  obtain ⟨hP, hD⟩ := hPD9
  replace hz : s.heap.size + 45 ≤ H143.size := by omega
  clear hz2
  replace hP : va_P (dC, dI) vwCl [(b8, .inr (1, [.ref v10, .int 0, .int 0, .int 0])), (v10, .inl (cB, 16, .inl (fun _ => 0))), (a47, .inr (8, [.int 4, .ref wa48, .ref na49])), (wa48, .inl (cI, 4, .inl fw50)), (na49, .inl (cI, 4, .inl fn51)), (a77, .inr (8, [.int 4, .ref wa78, .ref na79])), (wa78, .inl (cI, 4, .inl fw101)), (na79, .inl (cI, 4, .inl fn102)), (q11, .inr (9, [.int 0, .ref am15, .int 0, .int 0, .int 0])), (am15, .inr (4, [.int mm130, .ref em45, .int 3])), (em45, .inl (cO, 10, .inr (.inr (.inr (.inr (va_up (va_up (va_up (fun _ => none) 0 (some a47)) 1 (some a77)) 2 (some a131))))))), (a131, .inr (8, [.int 4, .ref wa132, .ref na133])), (wa132, .inl (cI, 4, .inl fw134)), (na133, .inl (cI, 4, .inl fn135)), (q16, .inr (7, [.long ((3 : Int32).toInt64), .null])), (q1, .inr (6, [.ref al5, .int 0, .int 0, .int 0, .ref sa6, .ref sb7, .ref b8, .ref sc9])), (al5, .inr (4, [.int mc116, .ref ed30, .int 3])), (ed30, .inl (cO, 10, .inr (.inr (.inr (.inr (va_up (va_up (va_up (fun _ => none) 0 (some y32)) 1 (some y63)) 2 (some y117))))))), (y32, .inr (5, [.int 4, .int 4, .ref yw33, .ref yv34, .ref yh35, .int 0])), (yw33, .inl (cI, 4, .inl gw36)), (yv34, .inl (cI, 4, .inl gv37)), (yh35, .inl (cR, 4, .inr (.inr (.inr (.inr gh38))))), (y63, .inr (5, [.int 4, .int 4, .ref yw64, .ref yv65, .ref yh66, .int 1])), (yw64, .inl (cI, 4, .inl gw92)), (yv65, .inl (cI, 4, .inl gv93)), (yh66, .inl (cR, 4, .inr (.inr (.inr (.inr gh94))))), (y117, .inr (5, [.int 4, .int 4, .ref yw118, .ref yv119, .ref yh120, .int 2])), (yw118, .inl (cI, 4, .inl gw146)), (yv119, .inl (cI, 4, .inl gv147)), (yh120, .inl (cR, 4, .inr (.inr (.inr (.inr gh148)))))] H143 := hP
  replace hD : va_D A [(b8, .inr (1, [.ref v10, .int 0, .int 0, .int 0])), (v10, .inl (cB, 16, .inl (fun _ => 0))), (a47, .inr (8, [.int 4, .ref wa48, .ref na49])), (wa48, .inl (cI, 4, .inl fw50)), (na49, .inl (cI, 4, .inl fn51)), (a77, .inr (8, [.int 4, .ref wa78, .ref na79])), (wa78, .inl (cI, 4, .inl fw101)), (na79, .inl (cI, 4, .inl fn102)), (q11, .inr (9, [.int 0, .ref am15, .int 0, .int 0, .int 0])), (am15, .inr (4, [.int mm130, .ref em45, .int 3])), (em45, .inl (cO, 10, .inr (.inr (.inr (.inr (va_up (va_up (va_up (fun _ => none) 0 (some a47)) 1 (some a77)) 2 (some a131))))))), (a131, .inr (8, [.int 4, .ref wa132, .ref na133])), (wa132, .inl (cI, 4, .inl fw134)), (na133, .inl (cI, 4, .inl fn135)), (q16, .inr (7, [.long ((3 : Int32).toInt64), .null])), (q1, .inr (6, [.ref al5, .int 0, .int 0, .int 0, .ref sa6, .ref sb7, .ref b8, .ref sc9])), (al5, .inr (4, [.int mc116, .ref ed30, .int 3])), (ed30, .inl (cO, 10, .inr (.inr (.inr (.inr (va_up (va_up (va_up (fun _ => none) 0 (some y32)) 1 (some y63)) 2 (some y117))))))), (y32, .inr (5, [.int 4, .int 4, .ref yw33, .ref yv34, .ref yh35, .int 0])), (yw33, .inl (cI, 4, .inl gw36)), (yv34, .inl (cI, 4, .inl gv37)), (yh35, .inl (cR, 4, .inr (.inr (.inr (.inr gh38))))), (y63, .inr (5, [.int 4, .int 4, .ref yw64, .ref yv65, .ref yh66, .int 1])), (yw64, .inl (cI, 4, .inl gw92)), (yv65, .inl (cI, 4, .inl gv93)), (yh66, .inl (cR, 4, .inr (.inr (.inr (.inr gh94))))), (y117, .inr (5, [.int 4, .int 4, .ref yw118, .ref yv119, .ref yh120, .int 2])), (yw118, .inl (cI, 4, .inl gw146)), (yv119, .inl (cI, 4, .inl gv147)), (yh120, .inl (cR, 4, .inr (.inr (.inr (.inr gh148)))))] := hD
  refine W.widen (k := 47) (n := 206) (by omega) (by omega) ?_
  refine lv_istore (lv' := [(5, .int 0), (4, .int 20), (6, .int 2), (3, .ref q16), (2, .ref q11), (1, .ref q1), (0, .ref b)]) hx hb dL_law_558 hl (by decide) rfl (fun ls hl => ?_)
  refine lv_aload_n hx hb dL_law_560 rfl (lv_at hl 4 rfl) ?_
  refine lv_aload_n hx hb dL_law_561 rfl (lv_at hl 6 rfl) ?_
  refine lv_iload hx hb dL_law_562 (lv_at hl 1 rfl) ?_
  refine lv_iconst (v := 1) hx hb dL_law_564 (by decide) ?_
  refine lv_iadd hx hb dL_law_565 ?_
  refine lv_topi (fun v149 ev149 => ?_)
  obtain rfl : v149 = 21 := ev149.trans (by decide)
  refine va_sld hx hb hX hbl hbA hS (by unfold vp_in; decide) dL_law_566 ?_
  refine lv_topi (fun v150 ev150 => ?_)
  obtain rfl : v150 = 2 := ev150.trans (by decide)
  refine lv_aload_n hx hb dL_law_567 rfl (lv_at hl 6 rfl) ?_
  refine lv_iload hx hb dL_law_568 (lv_at hl 1 rfl) ?_
  refine lv_iconst (v := 2) hx hb dL_law_570 (by decide) ?_
  refine lv_iadd hx hb dL_law_571 ?_
  refine lv_topi (fun v151 ev151 => ?_)
  obtain rfl : v151 = 22 := ev151.trans (by decide)
  refine va_sld hx hb hX hbl hbA hS (by unfold vp_in; decide) dL_law_572 ?_
  refine lv_topi (fun v152 ev152 => ?_)
  obtain rfl : v152 = 1 := ev152.trans (by decide)
  have hPc := hP.sub (ws' := [(q11, .inr (9, [.int 0, .ref am15, .int 0, .int 0, .int 0])), (am15, .inr (4, [.int mm130, .ref em45, .int 3])), (em45, .inl (cO, 10, .inr (.inr (.inr (.inr (va_up (va_up (va_up (fun _ => none) 0 (some a47)) 1 (some a77)) 2 (some a131))))))), (a47, .inr (8, [.int 4, .ref wa48, .ref na49])), (wa48, .inl (cI, 4, .inl fw50)), (na49, .inl (cI, 4, .inl fn51)), (a77, .inr (8, [.int 4, .ref wa78, .ref na79])), (wa78, .inl (cI, 4, .inl fw101)), (na79, .inl (cI, 4, .inl fn102)), (a131, .inr (8, [.int 4, .ref wa132, .ref na133])), (wa132, .inl (cI, 4, .inl fw134)), (na133, .inl (cI, 4, .inl fn135))]) [8, 9, 10, 2, 3, 4, 5, 6, 7, 11, 12, 13] rfl
  have hDc := hD.sub (ws' := [(q11, .inr (9, [.int 0, .ref am15, .int 0, .int 0, .int 0])), (am15, .inr (4, [.int mm130, .ref em45, .int 3])), (em45, .inl (cO, 10, .inr (.inr (.inr (.inr (va_up (va_up (va_up (fun _ => none) 0 (some a47)) 1 (some a77)) 2 (some a131))))))), (a47, .inr (8, [.int 4, .ref wa48, .ref na49])), (wa48, .inl (cI, 4, .inl fw50)), (na49, .inl (cI, 4, .inl fn51)), (a77, .inr (8, [.int 4, .ref wa78, .ref na79])), (wa78, .inl (cI, 4, .inl fw101)), (na79, .inl (cI, 4, .inl fn102)), (a131, .inr (8, [.int 4, .ref wa132, .ref na133])), (wa132, .inl (cI, 4, .inl fw134)), (na133, .inl (cI, 4, .inl fn135))]) [8, 9, 10, 2, 3, 4, 5, 6, 7, 11, 12, 13] (by decide) rfl
  have hFc := va_free (wc := [(q11, .inr (9, [.int 0, .ref am15, .int 0, .int 0, .int 0])), (am15, .inr (4, [.int mm130, .ref em45, .int 3])), (em45, .inl (cO, 10, .inr (.inr (.inr (.inr (va_up (va_up (va_up (fun _ => none) 0 (some a47)) 1 (some a77)) 2 (some a131))))))), (a47, .inr (8, [.int 4, .ref wa48, .ref na49])), (wa48, .inl (cI, 4, .inl fw50)), (na49, .inl (cI, 4, .inl fn51)), (a77, .inr (8, [.int 4, .ref wa78, .ref na79])), (wa78, .inl (cI, 4, .inl fw101)), (na79, .inl (cI, 4, .inl fn102)), (a131, .inr (8, [.int 4, .ref wa132, .ref na133])), (wa132, .inl (cI, 4, .inl fw134)), (na133, .inl (cI, 4, .inl fn135))]) hD hS hA [8, 9, 10, 2, 3, 4, 5, 6, 7, 11, 12, 13] rfl
  have hDv := hDc.self (sz := H143.size)
  have hpre := zpre (xs' := []) (av := [.ref q11, .int 2, .int 1]) hPc hK (hDc.weaken (fun _ _ _ h => h)) hZ hS hFc (fun r hr => by cases hr)
  refine va_calli (va_runV (As := [.int 2, .int 1]) (rest := []) ⟨hx, hb, hml, hown, hts⟩ (k_fiM2 l dC dI cI cB cR cO zk q11 am15 (.int 0) (.int 0) (.int 0) (.int 0) em45 (va_up (va_up (va_up (fun _ => none) 0 (some a47)) 1 (some a77)) 2 (some a131)) mm130 a47 wa48 na49 a77 wa78 na79 a131 wa132 na133 fw50 fn51 fw101 fn102 fw134 fn135 H143.size hwfw50 hnfn51 rfl hwfw101 hnfn102 rfl hwfw134 hnfn135 rfl) (cwV 2 hts gL_law_X4_fillRow rfl rfl rfl (by decide +kernel) ⟨Nat.le_of_ble_eq_true rfl, Nat.le_of_ble_eq_true rfl⟩) ⟨zblind, (zrecv_9 hK hPc (q0 := 0) rfl), hpre⟩ rfl rfl hl.1 rfl (lv_room (Nat.le_of_ble_eq_true rfl)) dL_law_573 ⟨Nat.le_of_ble_eq_true rfl, Nat.le_of_ble_eq_true rfl⟩) hS (fun q _ h => hFc q h) hFc (fun r154 u t H153 locs ht hvm hw hB hz1 hk1 hS => ?_)
  obtain rfl : 3 = r154 := (show r154 = 3 from hw).symm
  obtain ⟨fw155, fn156, ⟨hP1, hK1, hD1, hz2⟩, hwfw155, hnfn156⟩ := hB
  rw [ht] at hP1 hz2
  have hPD9 := va_join (wr := [(b8, .inr (1, [.ref v10, .int 0, .int 0, .int 0])), (v10, .inl (cB, 16, .inl (fun _ => 0))), (q16, .inr (7, [.long ((3 : Int32).toInt64), .null])), (q1, .inr (6, [.ref al5, .int 0, .int 0, .int 0, .ref sa6, .ref sb7, .ref b8, .ref sc9])), (al5, .inr (4, [.int mc116, .ref ed30, .int 3])), (ed30, .inl (cO, 10, .inr (.inr (.inr (.inr (va_up (va_up (va_up (fun _ => none) 0 (some y32)) 1 (some y63)) 2 (some y117))))))), (y32, .inr (5, [.int 4, .int 4, .ref yw33, .ref yv34, .ref yh35, .int 0])), (yw33, .inl (cI, 4, .inl gw36)), (yv34, .inl (cI, 4, .inl gv37)), (yh35, .inl (cR, 4, .inr (.inr (.inr (.inr gh38))))), (y63, .inr (5, [.int 4, .int 4, .ref yw64, .ref yv65, .ref yh66, .int 1])), (yw64, .inl (cI, 4, .inl gw92)), (yv65, .inl (cI, 4, .inl gv93)), (yh66, .inl (cR, 4, .inr (.inr (.inr (.inr gh94))))), (y117, .inr (5, [.int 4, .int 4, .ref yw118, .ref yv119, .ref yh120, .int 2])), (yw118, .inl (cI, 4, .inl gw146)), (yv119, .inl (cI, 4, .inl gv147)), (yh120, .inl (cR, 4, .inr (.inr (.inr (.inr gh148)))))]) (w1 := [(q11, .inr (9, [.int 0, .ref am15, .int 0, .int 0, .int 0])), (am15, .inr (4, [.int mm130, .ref em45, .int 3])), (em45, .inl (cO, 10, .inr (.inr (.inr (.inr (va_up (va_up (va_up (fun _ => none) 0 (some a47)) 1 (some a77)) 2 (some a131))))))), (a47, .inr (8, [.int 4, .ref wa48, .ref na49])), (wa48, .inl (cI, 4, .inl fw50)), (na49, .inl (cI, 4, .inl fn51)), (a77, .inr (8, [.int 4, .ref wa78, .ref na79])), (wa78, .inl (cI, 4, .inl fw101)), (na79, .inl (cI, 4, .inl fn102)), (a131, .inr (8, [.int 4, .ref wa132, .ref na133])), (wa132, .inl (cI, 4, .inl fw155)), (na133, .inl (cI, 4, .inl fn156))]) hP hD [8, 9, 10, 2, 3, 4, 5, 6, 7, 11, 12, 13] [0, 1, 14, 15, 16, 17, 18, 19, 20, 21, 22, 23, 24, 25, 26, 27, 28, 29] rfl rfl (by decide) (by decide) hk1 hFc hP1 hD1
  clear hPc hDc hFc hDv hpre hP hD hP1 hK1 hD1
  obtain ⟨hP, hD⟩ := hPD9
  replace hz : s.heap.size + 50 ≤ H153.size := by omega
  clear hz2
  replace hP : va_P (dC, dI) vwCl [(b8, .inr (1, [.ref v10, .int 0, .int 0, .int 0])), (v10, .inl (cB, 16, .inl (fun _ => 0))), (q16, .inr (7, [.long ((3 : Int32).toInt64), .null])), (q1, .inr (6, [.ref al5, .int 0, .int 0, .int 0, .ref sa6, .ref sb7, .ref b8, .ref sc9])), (al5, .inr (4, [.int mc116, .ref ed30, .int 3])), (ed30, .inl (cO, 10, .inr (.inr (.inr (.inr (va_up (va_up (va_up (fun _ => none) 0 (some y32)) 1 (some y63)) 2 (some y117))))))), (y32, .inr (5, [.int 4, .int 4, .ref yw33, .ref yv34, .ref yh35, .int 0])), (yw33, .inl (cI, 4, .inl gw36)), (yv34, .inl (cI, 4, .inl gv37)), (yh35, .inl (cR, 4, .inr (.inr (.inr (.inr gh38))))), (y63, .inr (5, [.int 4, .int 4, .ref yw64, .ref yv65, .ref yh66, .int 1])), (yw64, .inl (cI, 4, .inl gw92)), (yv65, .inl (cI, 4, .inl gv93)), (yh66, .inl (cR, 4, .inr (.inr (.inr (.inr gh94))))), (y117, .inr (5, [.int 4, .int 4, .ref yw118, .ref yv119, .ref yh120, .int 2])), (yw118, .inl (cI, 4, .inl gw146)), (yv119, .inl (cI, 4, .inl gv147)), (yh120, .inl (cR, 4, .inr (.inr (.inr (.inr gh148))))), (q11, .inr (9, [.int 0, .ref am15, .int 0, .int 0, .int 0])), (am15, .inr (4, [.int mm130, .ref em45, .int 3])), (em45, .inl (cO, 10, .inr (.inr (.inr (.inr (va_up (va_up (va_up (fun _ => none) 0 (some a47)) 1 (some a77)) 2 (some a131))))))), (a47, .inr (8, [.int 4, .ref wa48, .ref na49])), (wa48, .inl (cI, 4, .inl fw50)), (na49, .inl (cI, 4, .inl fn51)), (a77, .inr (8, [.int 4, .ref wa78, .ref na79])), (wa78, .inl (cI, 4, .inl fw101)), (na79, .inl (cI, 4, .inl fn102)), (a131, .inr (8, [.int 4, .ref wa132, .ref na133])), (wa132, .inl (cI, 4, .inl fw155)), (na133, .inl (cI, 4, .inl fn156))] H153 := hP
  replace hD : va_D A [(b8, .inr (1, [.ref v10, .int 0, .int 0, .int 0])), (v10, .inl (cB, 16, .inl (fun _ => 0))), (q16, .inr (7, [.long ((3 : Int32).toInt64), .null])), (q1, .inr (6, [.ref al5, .int 0, .int 0, .int 0, .ref sa6, .ref sb7, .ref b8, .ref sc9])), (al5, .inr (4, [.int mc116, .ref ed30, .int 3])), (ed30, .inl (cO, 10, .inr (.inr (.inr (.inr (va_up (va_up (va_up (fun _ => none) 0 (some y32)) 1 (some y63)) 2 (some y117))))))), (y32, .inr (5, [.int 4, .int 4, .ref yw33, .ref yv34, .ref yh35, .int 0])), (yw33, .inl (cI, 4, .inl gw36)), (yv34, .inl (cI, 4, .inl gv37)), (yh35, .inl (cR, 4, .inr (.inr (.inr (.inr gh38))))), (y63, .inr (5, [.int 4, .int 4, .ref yw64, .ref yv65, .ref yh66, .int 1])), (yw64, .inl (cI, 4, .inl gw92)), (yv65, .inl (cI, 4, .inl gv93)), (yh66, .inl (cR, 4, .inr (.inr (.inr (.inr gh94))))), (y117, .inr (5, [.int 4, .int 4, .ref yw118, .ref yv119, .ref yh120, .int 2])), (yw118, .inl (cI, 4, .inl gw146)), (yv119, .inl (cI, 4, .inl gv147)), (yh120, .inl (cR, 4, .inr (.inr (.inr (.inr gh148))))), (q11, .inr (9, [.int 0, .ref am15, .int 0, .int 0, .int 0])), (am15, .inr (4, [.int mm130, .ref em45, .int 3])), (em45, .inl (cO, 10, .inr (.inr (.inr (.inr (va_up (va_up (va_up (fun _ => none) 0 (some a47)) 1 (some a77)) 2 (some a131))))))), (a47, .inr (8, [.int 4, .ref wa48, .ref na49])), (wa48, .inl (cI, 4, .inl fw50)), (na49, .inl (cI, 4, .inl fn51)), (a77, .inr (8, [.int 4, .ref wa78, .ref na79])), (wa78, .inl (cI, 4, .inl fw101)), (na79, .inl (cI, 4, .inl fn102)), (a131, .inr (8, [.int 4, .ref wa132, .ref na133])), (wa132, .inl (cI, 4, .inl fw155)), (na133, .inl (cI, 4, .inl fn156))] := hD
  refine W.widen (k := 55) (n := 230) (by omega) (by omega) ?_
  refine lv_istore (lv' := [(6, .int 3), (5, .int 0), (4, .int 20), (3, .ref q16), (2, .ref q11), (1, .ref q1), (0, .ref b)]) hx hb dL_law_576 hl (by decide) rfl (fun ls hl => ?_)
  refine lv_aload_n hx hb dL_law_578 rfl (lv_at hl 4 rfl) ?_
  have hPc := hP.sub (ws' := [(q11, .inr (9, [.int 0, .ref am15, .int 0, .int 0, .int 0]))]) [18] rfl
  have hDc := hD.sub (ws' := [(q11, .inr (9, [.int 0, .ref am15, .int 0, .int 0, .int 0]))]) [18] (by decide) rfl
  have hFc := va_free (wc := [(q11, .inr (9, [.int 0, .ref am15, .int 0, .int 0, .int 0]))]) hD hS hA [18] rfl
  have hDv := hDc.self (sz := H153.size)
  have hpre := zpre (xs' := []) (av := [.ref q11]) hPc hK (hDc.weaken (fun _ _ _ h => h)) hZ hS hFc (fun r hr => by cases hr)
  refine va_calli (va_runV (As := []) (rest := []) ⟨hx, hb, hml, hown, hts⟩ (k_thM l dC dI cI cB cR cO zk q11 (.int 0) (.int 0) (.int 0) am15 H153.size ) (cwV 0 hts gL_law_X4_thrown rfl rfl rfl (by decide +kernel) ⟨Nat.le_of_ble_eq_true rfl, Nat.le_of_ble_eq_true rfl⟩) ⟨zblind, (zrecv_9 hK hPc (q0 := 0) rfl), hpre⟩ rfl rfl hl.1 rfl (lv_room (Nat.le_of_ble_eq_true rfl)) dL_law_579 ⟨Nat.le_of_ble_eq_true rfl, Nat.le_of_ble_eq_true rfl⟩) hS (fun q _ h => hFc q h) hFc (fun r158 u t H157 locs ht hvm hw hB hz1 hk1 hS => ?_)
  obtain rfl : 0 = r158 := (show r158 = 0 from hw).symm
  obtain ⟨hP1, hK1, hD1, hz2⟩ := hB
  rw [ht] at hP1 hz2
  have hPD9 := va_join (wr := [(b8, .inr (1, [.ref v10, .int 0, .int 0, .int 0])), (v10, .inl (cB, 16, .inl (fun _ => 0))), (q16, .inr (7, [.long ((3 : Int32).toInt64), .null])), (q1, .inr (6, [.ref al5, .int 0, .int 0, .int 0, .ref sa6, .ref sb7, .ref b8, .ref sc9])), (al5, .inr (4, [.int mc116, .ref ed30, .int 3])), (ed30, .inl (cO, 10, .inr (.inr (.inr (.inr (va_up (va_up (va_up (fun _ => none) 0 (some y32)) 1 (some y63)) 2 (some y117))))))), (y32, .inr (5, [.int 4, .int 4, .ref yw33, .ref yv34, .ref yh35, .int 0])), (yw33, .inl (cI, 4, .inl gw36)), (yv34, .inl (cI, 4, .inl gv37)), (yh35, .inl (cR, 4, .inr (.inr (.inr (.inr gh38))))), (y63, .inr (5, [.int 4, .int 4, .ref yw64, .ref yv65, .ref yh66, .int 1])), (yw64, .inl (cI, 4, .inl gw92)), (yv65, .inl (cI, 4, .inl gv93)), (yh66, .inl (cR, 4, .inr (.inr (.inr (.inr gh94))))), (y117, .inr (5, [.int 4, .int 4, .ref yw118, .ref yv119, .ref yh120, .int 2])), (yw118, .inl (cI, 4, .inl gw146)), (yv119, .inl (cI, 4, .inl gv147)), (yh120, .inl (cR, 4, .inr (.inr (.inr (.inr gh148))))), (am15, .inr (4, [.int mm130, .ref em45, .int 3])), (em45, .inl (cO, 10, .inr (.inr (.inr (.inr (va_up (va_up (va_up (fun _ => none) 0 (some a47)) 1 (some a77)) 2 (some a131))))))), (a47, .inr (8, [.int 4, .ref wa48, .ref na49])), (wa48, .inl (cI, 4, .inl fw50)), (na49, .inl (cI, 4, .inl fn51)), (a77, .inr (8, [.int 4, .ref wa78, .ref na79])), (wa78, .inl (cI, 4, .inl fw101)), (na79, .inl (cI, 4, .inl fn102)), (a131, .inr (8, [.int 4, .ref wa132, .ref na133])), (wa132, .inl (cI, 4, .inl fw155)), (na133, .inl (cI, 4, .inl fn156))]) (w1 := [(q11, .inr (9, [.int 0, .ref am15, .int 0, .int 0, .int 0]))]) hP hD [18] [0, 1, 2, 3, 4, 5, 6, 7, 8, 9, 10, 11, 12, 13, 14, 15, 16, 17, 19, 20, 21, 22, 23, 24, 25, 26, 27, 28, 29] rfl rfl (by decide) (by decide) hk1 hFc hP1 hD1
  clear hPc hDc hFc hDv hpre hP hD hP1 hK1 hD1
  obtain ⟨hP, hD⟩ := hPD9
  replace hz : s.heap.size + 50 ≤ H157.size := by omega
  clear hz2
  replace hP : va_P (dC, dI) vwCl [(b8, .inr (1, [.ref v10, .int 0, .int 0, .int 0])), (v10, .inl (cB, 16, .inl (fun _ => 0))), (q16, .inr (7, [.long ((3 : Int32).toInt64), .null])), (q1, .inr (6, [.ref al5, .int 0, .int 0, .int 0, .ref sa6, .ref sb7, .ref b8, .ref sc9])), (al5, .inr (4, [.int mc116, .ref ed30, .int 3])), (ed30, .inl (cO, 10, .inr (.inr (.inr (.inr (va_up (va_up (va_up (fun _ => none) 0 (some y32)) 1 (some y63)) 2 (some y117))))))), (y32, .inr (5, [.int 4, .int 4, .ref yw33, .ref yv34, .ref yh35, .int 0])), (yw33, .inl (cI, 4, .inl gw36)), (yv34, .inl (cI, 4, .inl gv37)), (yh35, .inl (cR, 4, .inr (.inr (.inr (.inr gh38))))), (y63, .inr (5, [.int 4, .int 4, .ref yw64, .ref yv65, .ref yh66, .int 1])), (yw64, .inl (cI, 4, .inl gw92)), (yv65, .inl (cI, 4, .inl gv93)), (yh66, .inl (cR, 4, .inr (.inr (.inr (.inr gh94))))), (y117, .inr (5, [.int 4, .int 4, .ref yw118, .ref yv119, .ref yh120, .int 2])), (yw118, .inl (cI, 4, .inl gw146)), (yv119, .inl (cI, 4, .inl gv147)), (yh120, .inl (cR, 4, .inr (.inr (.inr (.inr gh148))))), (am15, .inr (4, [.int mm130, .ref em45, .int 3])), (em45, .inl (cO, 10, .inr (.inr (.inr (.inr (va_up (va_up (va_up (fun _ => none) 0 (some a47)) 1 (some a77)) 2 (some a131))))))), (a47, .inr (8, [.int 4, .ref wa48, .ref na49])), (wa48, .inl (cI, 4, .inl fw50)), (na49, .inl (cI, 4, .inl fn51)), (a77, .inr (8, [.int 4, .ref wa78, .ref na79])), (wa78, .inl (cI, 4, .inl fw101)), (na79, .inl (cI, 4, .inl fn102)), (a131, .inr (8, [.int 4, .ref wa132, .ref na133])), (wa132, .inl (cI, 4, .inl fw155)), (na133, .inl (cI, 4, .inl fn156)), (q11, .inr (9, [.int 0, .ref am15, .int 0, .int 0, .int 0]))] H157 := hP
  replace hD : va_D A [(b8, .inr (1, [.ref v10, .int 0, .int 0, .int 0])), (v10, .inl (cB, 16, .inl (fun _ => 0))), (q16, .inr (7, [.long ((3 : Int32).toInt64), .null])), (q1, .inr (6, [.ref al5, .int 0, .int 0, .int 0, .ref sa6, .ref sb7, .ref b8, .ref sc9])), (al5, .inr (4, [.int mc116, .ref ed30, .int 3])), (ed30, .inl (cO, 10, .inr (.inr (.inr (.inr (va_up (va_up (va_up (fun _ => none) 0 (some y32)) 1 (some y63)) 2 (some y117))))))), (y32, .inr (5, [.int 4, .int 4, .ref yw33, .ref yv34, .ref yh35, .int 0])), (yw33, .inl (cI, 4, .inl gw36)), (yv34, .inl (cI, 4, .inl gv37)), (yh35, .inl (cR, 4, .inr (.inr (.inr (.inr gh38))))), (y63, .inr (5, [.int 4, .int 4, .ref yw64, .ref yv65, .ref yh66, .int 1])), (yw64, .inl (cI, 4, .inl gw92)), (yv65, .inl (cI, 4, .inl gv93)), (yh66, .inl (cR, 4, .inr (.inr (.inr (.inr gh94))))), (y117, .inr (5, [.int 4, .int 4, .ref yw118, .ref yv119, .ref yh120, .int 2])), (yw118, .inl (cI, 4, .inl gw146)), (yv119, .inl (cI, 4, .inl gv147)), (yh120, .inl (cR, 4, .inr (.inr (.inr (.inr gh148))))), (am15, .inr (4, [.int mm130, .ref em45, .int 3])), (em45, .inl (cO, 10, .inr (.inr (.inr (.inr (va_up (va_up (va_up (fun _ => none) 0 (some a47)) 1 (some a77)) 2 (some a131))))))), (a47, .inr (8, [.int 4, .ref wa48, .ref na49])), (wa48, .inl (cI, 4, .inl fw50)), (na49, .inl (cI, 4, .inl fn51)), (a77, .inr (8, [.int 4, .ref wa78, .ref na79])), (wa78, .inl (cI, 4, .inl fw101)), (na79, .inl (cI, 4, .inl fn102)), (a131, .inr (8, [.int 4, .ref wa132, .ref na133])), (wa132, .inl (cI, 4, .inl fw155)), (na133, .inl (cI, 4, .inl fn156)), (q11, .inr (9, [.int 0, .ref am15, .int 0, .int 0, .int 0]))] := hD
  refine W.widen (k := 55) (n := 230) (by omega) (by omega) ?_
  refine lv_iload hx hb dL_law_582 (lv_at hl 1 rfl) ?_
  refine lv_icmp_eq (tgt := 589) hx hb dL_law_584 (by decide) (fun c9 => ?_) (fun c9 => ?_)
  rotate_left
  · exact absurd (by decide) c9
  refine lv_iload hx hb dL_law_589 (lv_at hl 1 rfl) ?_
  refine lv_if_ne (tgt := 607) hx hb dL_law_591 (by decide) (fun c9 => ?_) (fun c9 => ?_)
  · exact absurd (by decide) c9
  refine lv_aload_n hx hb dL_law_594 rfl (lv_at hl 3 rfl) ?_
  refine va_getN (D := (dC, dI)) (ci := 7) (v := .long ((3 : Int32).toInt64)) (C := RX2) (T := TX2) (N := 2) hx hb hts inlX2 hown hK hP 2 rfl rfl 0 (by decide) (zn6 hZ) (fun _ h9 => h9) rfl dL_law_595 ?_
  refine lv_iload hx hb dL_law_598 (lv_at hl 0 rfl) ?_
  refine lv_i2l (v := (3 : Int32).toInt64) hx hb dL_law_600 rfl ?_
  refine W.lcmp hx hb dL_law_601 ?_
  refine lv_topi (fun v159 ev159 => ?_)
  obtain rfl : v159 = 0 := ev159.trans (by decide)
  refine lv_if_eq (tgt := 607) hx hb dL_law_602 (by decide) (fun c9 => ?_) (fun c9 => ?_)
  rotate_left
  · exact absurd (by decide) c9
  refine lv_goto (tgt := 1349) hx hb dL_law_607 (by decide) ?_
  refine lv_iinc (v := 25) (lv' := [(4, .int 25), (6, .int 3), (5, .int 0), (3, .ref q16), (2, .ref q11), (1, .ref q1), (0, .ref b)]) hx hb dL_law_1349 hl (k := 2) rfl (by decide) (by decide) rfl (fun ls hl => ?_)
  refine lv_goto (tgt := 27) hx hb dL_law_1352 (by decide) ?_
  refine lv_iload hx hb dL_law_27 (lv_at hl 0 rfl) ?_
  refine lv_aload_n hx hb dL_law_29 rfl (lv_at hl 6 rfl) ?_
  refine va_slen hx hb hX hbl hbA hS dL_law_30 ?_
  refine W.eq (g2 := F0 mY 31 ls [.int 1835, .int 25]) rfl ?_
  refine lv_iconst (v := 5) hx hb dL_law_31 (by decide) ?_
  refine lv_isub hx hb dL_law_32 ?_
  refine lv_topi (fun v160 ev160 => ?_)
  obtain rfl : v160 = 1830 := ev160.trans (by decide)
  refine lv_icmp_gt (tgt := 1355) hx hb dL_law_33 (by decide) (fun c9 => ?_) (fun c9 => ?_)
  · exact absurd c9 (by decide)
  refine lv_aload_n hx hb dL_law_36 rfl (lv_at hl 6 rfl) ?_
  refine lv_iload hx hb dL_law_37 (lv_at hl 0 rfl) ?_
  refine va_sld hx hb hX hbl hbA hS (by unfold vp_in; decide) dL_law_39 ?_
  refine lv_topi (fun v161 ev161 => ?_)
  obtain rfl : v161 = 0 := ev161.trans (by decide)
  refine lv_bipush (v := 31) hx hb dL_law_40 (by decide) ?_
  refine lv_iand hx hb dL_law_42 ?_
  refine lv_topi (fun v162 ev162 => ?_)
  obtain rfl : v162 = 0 := ev162.trans (by decide)
  refine lv_tableIn (off := 141) (tgt := 184) hx hb dL_law_43 (by decide) (by decide) (by decide) (by decide) ?_
  refine lv_aload_n hx hb dL_law_184 rfl (lv_at hl 5 rfl) ?_
  refine lv_aload_n hx hb dL_law_185 rfl (lv_at hl 6 rfl) ?_
  refine lv_iload hx hb dL_law_186 (lv_at hl 0 rfl) ?_
  refine lv_iconst (v := 1) hx hb dL_law_188 (by decide) ?_
  refine lv_iadd hx hb dL_law_189 ?_
  refine lv_topi (fun v163 ev163 => ?_)
  obtain rfl : v163 = 26 := ev163.trans (by decide)
  refine va_sld hx hb hX hbl hbA hS (by unfold vp_in; decide) dL_law_190 ?_
  refine lv_topi (fun v164 ev164 => ?_)
  obtain rfl : v164 = 4 := ev164.trans (by decide)
  refine lv_aload_n hx hb dL_law_191 rfl (lv_at hl 6 rfl) ?_
  refine lv_iload hx hb dL_law_192 (lv_at hl 0 rfl) ?_
  refine lv_iconst (v := 2) hx hb dL_law_194 (by decide) ?_
  refine lv_iadd hx hb dL_law_195 ?_
  refine lv_topi (fun v165 ev165 => ?_)
  obtain rfl : v165 = 27 := ev165.trans (by decide)
  refine va_sld hx hb hX hbl hbA hS (by unfold vp_in; decide) dL_law_196 ?_
  refine lv_topi (fun v166 ev166 => ?_)
  obtain rfl : v166 = 4 := ev166.trans (by decide)
  refine lv_aload_n hx hb dL_law_197 rfl (lv_at hl 3 rfl) ?_
  have hPc := hP.sub (ws' := [(q16, .inr (7, [.long ((3 : Int32).toInt64), .null])), (q1, .inr (6, [.ref al5, .int 0, .int 0, .int 0, .ref sa6, .ref sb7, .ref b8, .ref sc9])), (al5, .inr (4, [.int mc116, .ref ed30, .int 3])), (ed30, .inl (cO, 10, .inr (.inr (.inr (.inr (va_up (va_up (va_up (fun _ => none) 0 (some y32)) 1 (some y63)) 2 (some y117)))))))]) [2, 3, 4, 5] rfl
  have hDc := hD.sub (ws' := [(q16, .inr (7, [.long ((3 : Int32).toInt64), .null])), (q1, .inr (6, [.ref al5, .int 0, .int 0, .int 0, .ref sa6, .ref sb7, .ref b8, .ref sc9])), (al5, .inr (4, [.int mc116, .ref ed30, .int 3])), (ed30, .inl (cO, 10, .inr (.inr (.inr (.inr (va_up (va_up (va_up (fun _ => none) 0 (some y32)) 1 (some y63)) 2 (some y117)))))))]) [2, 3, 4, 5] (by decide) rfl
  have hFc := va_free (wc := [(q16, .inr (7, [.long ((3 : Int32).toInt64), .null])), (q1, .inr (6, [.ref al5, .int 0, .int 0, .int 0, .ref sa6, .ref sb7, .ref b8, .ref sc9])), (al5, .inr (4, [.int mc116, .ref ed30, .int 3])), (ed30, .inl (cO, 10, .inr (.inr (.inr (.inr (va_up (va_up (va_up (fun _ => none) 0 (some y32)) 1 (some y63)) 2 (some y117)))))))]) hD hS hA [2, 3, 4, 5] rfl
  have hDv := hDc.self (sz := H157.size)
  have hpre := zpre (xs' := []) (av := [.ref q1, .int 4, .int 4, .ref q16]) hPc hK (hDc.weaken (fun _ _ _ h => h)) hZ hS hFc (fun r hr => by cases hr)
  refine va_calli (vx_runSW (As := [.ref q1, .int 4, .int 4, .ref q16]) (rest := []) ⟨hx, hb, hml, hown, hts⟩ (k_LmX3 l dC dI cI cB cR cO zk q1 al5 b8 (.int 0) (.int 0) (.int 0) (.ref sa6) (.ref sb7) (.ref sc9) ed30 (va_up (va_up (va_up (fun _ => none) 0 (some y32)) 1 (some y63)) 2 (some y117)) mc116 q16 (.long ((3 : Int32).toInt64)) .null H157.size ) (vx_cwSW 4 hts gL_law_L_make rfl rfl rfl (by decide +kernel) ⟨Nat.le_of_ble_eq_true rfl, Nat.le_of_ble_eq_true rfl⟩) ⟨zblind, hpre⟩ rfl rfl hl.1 rfl (lv_room (Nat.le_of_ble_eq_true rfl)) dL_law_198 ⟨Nat.le_of_ble_eq_true rfl, Nat.le_of_ble_eq_true rfl⟩) hS (fun q _ h => hFc q h) hFc (fun r168 u t H167 locs ht hvm hw hB hz1 hk1 hS => ?_)
  obtain rfl : 0 = r168 := (show r168 = 0 from hw).symm
  obtain ⟨on169, mc170, y171, yw172, yv173, yh174, gw175, gv176, gh177, ⟨hP1, hK1, hD1, hz2⟩, hwgw175, hhgh177, rfl⟩ := hB
  rw [ht] at hP1 hz2
  have hPD9 := va_join (wr := [(b8, .inr (1, [.ref v10, .int 0, .int 0, .int 0])), (v10, .inl (cB, 16, .inl (fun _ => 0))), (y32, .inr (5, [.int 4, .int 4, .ref yw33, .ref yv34, .ref yh35, .int 0])), (yw33, .inl (cI, 4, .inl gw36)), (yv34, .inl (cI, 4, .inl gv37)), (yh35, .inl (cR, 4, .inr (.inr (.inr (.inr gh38))))), (y63, .inr (5, [.int 4, .int 4, .ref yw64, .ref yv65, .ref yh66, .int 1])), (yw64, .inl (cI, 4, .inl gw92)), (yv65, .inl (cI, 4, .inl gv93)), (yh66, .inl (cR, 4, .inr (.inr (.inr (.inr gh94))))), (y117, .inr (5, [.int 4, .int 4, .ref yw118, .ref yv119, .ref yh120, .int 2])), (yw118, .inl (cI, 4, .inl gw146)), (yv119, .inl (cI, 4, .inl gv147)), (yh120, .inl (cR, 4, .inr (.inr (.inr (.inr gh148))))), (am15, .inr (4, [.int mm130, .ref em45, .int 3])), (em45, .inl (cO, 10, .inr (.inr (.inr (.inr (va_up (va_up (va_up (fun _ => none) 0 (some a47)) 1 (some a77)) 2 (some a131))))))), (a47, .inr (8, [.int 4, .ref wa48, .ref na49])), (wa48, .inl (cI, 4, .inl fw50)), (na49, .inl (cI, 4, .inl fn51)), (a77, .inr (8, [.int 4, .ref wa78, .ref na79])), (wa78, .inl (cI, 4, .inl fw101)), (na79, .inl (cI, 4, .inl fn102)), (a131, .inr (8, [.int 4, .ref wa132, .ref na133])), (wa132, .inl (cI, 4, .inl fw155)), (na133, .inl (cI, 4, .inl fn156)), (q11, .inr (9, [.int 0, .ref am15, .int 0, .int 0, .int 0]))]) (w1 := [(q16, .inr (7, [.long ((3 : Int32).toInt64), .null])), (q1, .inr (6, [.ref al5, .int 0, .int 0, .int 0, .ref sa6, .ref sb7, .ref b8, .ref sc9])), (al5, .inr (4, [.int mc170, .ref ed30, .int 4])), (ed30, .inl (cO, 10, .inr (.inr (.inr (.inr (va_up (va_up (va_up (va_up (fun _ => none) 0 (some y32)) 1 (some y63)) 2 (some y117)) 3 (some y171))))))), (y171, .inr (5, [.int 4, .int 4, .ref yw172, .ref yv173, .ref yh174, .int 3])), (yw172, .inl (cI, 4, .inl gw175)), (yv173, .inl (cI, 4, .inl gv176)), (yh174, .inl (cR, 4, .inr (.inr (.inr (.inr gh177)))))]) hP hD [2, 3, 4, 5] [0, 1, 6, 7, 8, 9, 10, 11, 12, 13, 14, 15, 16, 17, 18, 19, 20, 21, 22, 23, 24, 25, 26, 27, 28, 29] rfl rfl (by decide) (by decide) hk1 hFc hP1 hD1
  clear hPc hDc hFc hDv hpre hP hD hP1 hK1 hD1
  obtain ⟨hP, hD⟩ := hPD9
  replace hz : s.heap.size + 54 ≤ H167.size := by omega
  clear hz2
  replace hP : va_P (dC, dI) vwCl [(b8, .inr (1, [.ref v10, .int 0, .int 0, .int 0])), (v10, .inl (cB, 16, .inl (fun _ => 0))), (y32, .inr (5, [.int 4, .int 4, .ref yw33, .ref yv34, .ref yh35, .int 0])), (yw33, .inl (cI, 4, .inl gw36)), (yv34, .inl (cI, 4, .inl gv37)), (yh35, .inl (cR, 4, .inr (.inr (.inr (.inr gh38))))), (y63, .inr (5, [.int 4, .int 4, .ref yw64, .ref yv65, .ref yh66, .int 1])), (yw64, .inl (cI, 4, .inl gw92)), (yv65, .inl (cI, 4, .inl gv93)), (yh66, .inl (cR, 4, .inr (.inr (.inr (.inr gh94))))), (y117, .inr (5, [.int 4, .int 4, .ref yw118, .ref yv119, .ref yh120, .int 2])), (yw118, .inl (cI, 4, .inl gw146)), (yv119, .inl (cI, 4, .inl gv147)), (yh120, .inl (cR, 4, .inr (.inr (.inr (.inr gh148))))), (am15, .inr (4, [.int mm130, .ref em45, .int 3])), (em45, .inl (cO, 10, .inr (.inr (.inr (.inr (va_up (va_up (va_up (fun _ => none) 0 (some a47)) 1 (some a77)) 2 (some a131))))))), (a47, .inr (8, [.int 4, .ref wa48, .ref na49])), (wa48, .inl (cI, 4, .inl fw50)), (na49, .inl (cI, 4, .inl fn51)), (a77, .inr (8, [.int 4, .ref wa78, .ref na79])), (wa78, .inl (cI, 4, .inl fw101)), (na79, .inl (cI, 4, .inl fn102)), (a131, .inr (8, [.int 4, .ref wa132, .ref na133])), (wa132, .inl (cI, 4, .inl fw155)), (na133, .inl (cI, 4, .inl fn156)), (q11, .inr (9, [.int 0, .ref am15, .int 0, .int 0, .int 0])), (q16, .inr (7, [.long ((3 : Int32).toInt64), .null])), (q1, .inr (6, [.ref al5, .int 0, .int 0, .int 0, .ref sa6, .ref sb7, .ref b8, .ref sc9])), (al5, .inr (4, [.int mc170, .ref ed30, .int 4])), (ed30, .inl (cO, 10, .inr (.inr (.inr (.inr (va_up (va_up (va_up (va_up (fun _ => none) 0 (some y32)) 1 (some y63)) 2 (some y117)) 3 (some y171))))))), (y171, .inr (5, [.int 4, .int 4, .ref yw172, .ref yv173, .ref yh174, .int 3])), (yw172, .inl (cI, 4, .inl gw175)), (yv173, .inl (cI, 4, .inl gv176)), (yh174, .inl (cR, 4, .inr (.inr (.inr (.inr gh177)))))] H167 := hP
  replace hD : va_D A [(b8, .inr (1, [.ref v10, .int 0, .int 0, .int 0])), (v10, .inl (cB, 16, .inl (fun _ => 0))), (y32, .inr (5, [.int 4, .int 4, .ref yw33, .ref yv34, .ref yh35, .int 0])), (yw33, .inl (cI, 4, .inl gw36)), (yv34, .inl (cI, 4, .inl gv37)), (yh35, .inl (cR, 4, .inr (.inr (.inr (.inr gh38))))), (y63, .inr (5, [.int 4, .int 4, .ref yw64, .ref yv65, .ref yh66, .int 1])), (yw64, .inl (cI, 4, .inl gw92)), (yv65, .inl (cI, 4, .inl gv93)), (yh66, .inl (cR, 4, .inr (.inr (.inr (.inr gh94))))), (y117, .inr (5, [.int 4, .int 4, .ref yw118, .ref yv119, .ref yh120, .int 2])), (yw118, .inl (cI, 4, .inl gw146)), (yv119, .inl (cI, 4, .inl gv147)), (yh120, .inl (cR, 4, .inr (.inr (.inr (.inr gh148))))), (am15, .inr (4, [.int mm130, .ref em45, .int 3])), (em45, .inl (cO, 10, .inr (.inr (.inr (.inr (va_up (va_up (va_up (fun _ => none) 0 (some a47)) 1 (some a77)) 2 (some a131))))))), (a47, .inr (8, [.int 4, .ref wa48, .ref na49])), (wa48, .inl (cI, 4, .inl fw50)), (na49, .inl (cI, 4, .inl fn51)), (a77, .inr (8, [.int 4, .ref wa78, .ref na79])), (wa78, .inl (cI, 4, .inl fw101)), (na79, .inl (cI, 4, .inl fn102)), (a131, .inr (8, [.int 4, .ref wa132, .ref na133])), (wa132, .inl (cI, 4, .inl fw155)), (na133, .inl (cI, 4, .inl fn156)), (q11, .inr (9, [.int 0, .ref am15, .int 0, .int 0, .int 0])), (q16, .inr (7, [.long ((3 : Int32).toInt64), .null])), (q1, .inr (6, [.ref al5, .int 0, .int 0, .int 0, .ref sa6, .ref sb7, .ref b8, .ref sc9])), (al5, .inr (4, [.int mc170, .ref ed30, .int 4])), (ed30, .inl (cO, 10, .inr (.inr (.inr (.inr (va_up (va_up (va_up (va_up (fun _ => none) 0 (some y32)) 1 (some y63)) 2 (some y117)) 3 (some y171))))))), (y171, .inr (5, [.int 4, .int 4, .ref yw172, .ref yv173, .ref yh174, .int 3])), (yw172, .inl (cI, 4, .inl gw175)), (yv173, .inl (cI, 4, .inl gv176)), (yh174, .inl (cR, 4, .inr (.inr (.inr (.inr gh177)))))] := hD
  refine W.widen (k := 59) (n := 248) (by omega) (by omega) ?_
  refine lv_istore (lv' := [(5, .int 0), (4, .int 25), (6, .int 3), (3, .ref q16), (2, .ref q11), (1, .ref q1), (0, .ref b)]) hx hb dL_law_201 hl (by decide) rfl (fun ls hl => ?_)
  refine lv_aload_n hx hb dL_law_203 rfl (lv_at hl 4 rfl) ?_
  refine lv_aload_n hx hb dL_law_204 rfl (lv_at hl 6 rfl) ?_
  refine lv_iload hx hb dL_law_205 (lv_at hl 1 rfl) ?_
  refine lv_iconst (v := 1) hx hb dL_law_207 (by decide) ?_
  refine lv_iadd hx hb dL_law_208 ?_
  refine lv_topi (fun v178 ev178 => ?_)
  obtain rfl : v178 = 26 := ev178.trans (by decide)
  refine va_sld hx hb hX hbl hbA hS (by unfold vp_in; decide) dL_law_209 ?_
  refine lv_topi (fun v179 ev179 => ?_)
  obtain rfl : v179 = 4 := ev179.trans (by decide)
  refine lv_aload_n hx hb dL_law_210 rfl (lv_at hl 6 rfl) ?_
  refine lv_iload hx hb dL_law_211 (lv_at hl 1 rfl) ?_
  refine lv_iconst (v := 2) hx hb dL_law_213 (by decide) ?_
  refine lv_iadd hx hb dL_law_214 ?_
  refine lv_topi (fun v180 ev180 => ?_)
  obtain rfl : v180 = 27 := ev180.trans (by decide)
  refine va_sld hx hb hX hbl hbA hS (by unfold vp_in; decide) dL_law_215 ?_
  refine lv_topi (fun v181 ev181 => ?_)
  obtain rfl : v181 = 4 := ev181.trans (by decide)
  have hPc := hP.sub (ws' := [(q11, .inr (9, [.int 0, .ref am15, .int 0, .int 0, .int 0])), (am15, .inr (4, [.int mm130, .ref em45, .int 3])), (em45, .inl (cO, 10, .inr (.inr (.inr (.inr (va_up (va_up (va_up (fun _ => none) 0 (some a47)) 1 (some a77)) 2 (some a131)))))))]) [25, 14, 15] rfl
  have hDc := hD.sub (ws' := [(q11, .inr (9, [.int 0, .ref am15, .int 0, .int 0, .int 0])), (am15, .inr (4, [.int mm130, .ref em45, .int 3])), (em45, .inl (cO, 10, .inr (.inr (.inr (.inr (va_up (va_up (va_up (fun _ => none) 0 (some a47)) 1 (some a77)) 2 (some a131)))))))]) [25, 14, 15] (by decide) rfl
  have hFc := va_free (wc := [(q11, .inr (9, [.int 0, .ref am15, .int 0, .int 0, .int 0])), (am15, .inr (4, [.int mm130, .ref em45, .int 3])), (em45, .inl (cO, 10, .inr (.inr (.inr (.inr (va_up (va_up (va_up (fun _ => none) 0 (some a47)) 1 (some a77)) 2 (some a131)))))))]) hD hS hA [25, 14, 15] rfl
  have hDv := hDc.self (sz := H167.size)
  have hpre := zpre (xs' := []) (av := [.ref q11, .int 4, .int 4]) hPc hK (hDc.weaken (fun _ _ _ h => h)) hZ hS hFc (fun r hr => by cases hr)
  refine va_calli (va_runV (As := [.int 4, .int 4]) (rest := []) ⟨hx, hb, hml, hown, hts⟩ (k_mkM3 l dC dI cI cB cR cO zk q11 am15 (.int 0) (.int 0) (.int 0) (.int 0) em45 (va_up (va_up (va_up (fun _ => none) 0 (some a47)) 1 (some a77)) 2 (some a131)) mm130 H167.size ) (cwV 2 hts gL_law_X4_make rfl rfl rfl (by decide +kernel) ⟨Nat.le_of_ble_eq_true rfl, Nat.le_of_ble_eq_true rfl⟩) ⟨zblind, (zrecv_9 hK hPc (q0 := 0) rfl), hpre⟩ rfl rfl hl.1 rfl (lv_room (Nat.le_of_ble_eq_true rfl)) dL_law_216 ⟨Nat.le_of_ble_eq_true rfl, Nat.le_of_ble_eq_true rfl⟩) hS (fun q _ h => hFc q h) hFc (fun r183 u t H182 locs ht hvm hw hB hz1 hk1 hS => ?_)
  obtain rfl : 3 = r183 := (show r183 = 3 from hw).symm
  obtain ⟨mm184, a185, wa186, na187, fw188, fn189, ⟨hP1, hK1, hD1, hz2⟩, hwfw188, hnfn189⟩ := hB
  rw [ht] at hP1 hz2
  have hPD9 := va_join (wr := [(b8, .inr (1, [.ref v10, .int 0, .int 0, .int 0])), (v10, .inl (cB, 16, .inl (fun _ => 0))), (y32, .inr (5, [.int 4, .int 4, .ref yw33, .ref yv34, .ref yh35, .int 0])), (yw33, .inl (cI, 4, .inl gw36)), (yv34, .inl (cI, 4, .inl gv37)), (yh35, .inl (cR, 4, .inr (.inr (.inr (.inr gh38))))), (y63, .inr (5, [.int 4, .int 4, .ref yw64, .ref yv65, .ref yh66, .int 1])), (yw64, .inl (cI, 4, .inl gw92)), (yv65, .inl (cI, 4, .inl gv93)), (yh66, .inl (cR, 4, .inr (.inr (.inr (.inr gh94))))), (y117, .inr (5, [.int 4, .int 4, .ref yw118, .ref yv119, .ref yh120, .int 2])), (yw118, .inl (cI, 4, .inl gw146)), (yv119, .inl (cI, 4, .inl gv147)), (yh120, .inl (cR, 4, .inr (.inr (.inr (.inr gh148))))), (a47, .inr (8, [.int 4, .ref wa48, .ref na49])), (wa48, .inl (cI, 4, .inl fw50)), (na49, .inl (cI, 4, .inl fn51)), (a77, .inr (8, [.int 4, .ref wa78, .ref na79])), (wa78, .inl (cI, 4, .inl fw101)), (na79, .inl (cI, 4, .inl fn102)), (a131, .inr (8, [.int 4, .ref wa132, .ref na133])), (wa132, .inl (cI, 4, .inl fw155)), (na133, .inl (cI, 4, .inl fn156)), (q16, .inr (7, [.long ((3 : Int32).toInt64), .null])), (q1, .inr (6, [.ref al5, .int 0, .int 0, .int 0, .ref sa6, .ref sb7, .ref b8, .ref sc9])), (al5, .inr (4, [.int mc170, .ref ed30, .int 4])), (ed30, .inl (cO, 10, .inr (.inr (.inr (.inr (va_up (va_up (va_up (va_up (fun _ => none) 0 (some y32)) 1 (some y63)) 2 (some y117)) 3 (some y171))))))), (y171, .inr (5, [.int 4, .int 4, .ref yw172, .ref yv173, .ref yh174, .int 3])), (yw172, .inl (cI, 4, .inl gw175)), (yv173, .inl (cI, 4, .inl gv176)), (yh174, .inl (cR, 4, .inr (.inr (.inr (.inr gh177)))))]) (w1 := [(q11, .inr (9, [.int 0, .ref am15, .int 0, .int 0, .int 0])), (am15, .inr (4, [.int mm184, .ref em45, .int 4])), (em45, .inl (cO, 10, .inr (.inr (.inr (.inr (va_up (va_up (va_up (va_up (fun _ => none) 0 (some a47)) 1 (some a77)) 2 (some a131)) 3 (some a185))))))), (a185, .inr (8, [.int 4, .ref wa186, .ref na187])), (wa186, .inl (cI, 4, .inl fw188)), (na187, .inl (cI, 4, .inl fn189))]) hP hD [25, 14, 15] [0, 1, 2, 3, 4, 5, 6, 7, 8, 9, 10, 11, 12, 13, 16, 17, 18, 19, 20, 21, 22, 23, 24, 26, 27, 28, 29, 30, 31, 32, 33] rfl rfl (by decide) (by decide) hk1 hFc hP1 hD1
  clear hPc hDc hFc hDv hpre hP hD hP1 hK1 hD1
  obtain ⟨hP, hD⟩ := hPD9
  replace hz : s.heap.size + 57 ≤ H182.size := by omega
  clear hz2
  replace hP : va_P (dC, dI) vwCl [(b8, .inr (1, [.ref v10, .int 0, .int 0, .int 0])), (v10, .inl (cB, 16, .inl (fun _ => 0))), (y32, .inr (5, [.int 4, .int 4, .ref yw33, .ref yv34, .ref yh35, .int 0])), (yw33, .inl (cI, 4, .inl gw36)), (yv34, .inl (cI, 4, .inl gv37)), (yh35, .inl (cR, 4, .inr (.inr (.inr (.inr gh38))))), (y63, .inr (5, [.int 4, .int 4, .ref yw64, .ref yv65, .ref yh66, .int 1])), (yw64, .inl (cI, 4, .inl gw92)), (yv65, .inl (cI, 4, .inl gv93)), (yh66, .inl (cR, 4, .inr (.inr (.inr (.inr gh94))))), (y117, .inr (5, [.int 4, .int 4, .ref yw118, .ref yv119, .ref yh120, .int 2])), (yw118, .inl (cI, 4, .inl gw146)), (yv119, .inl (cI, 4, .inl gv147)), (yh120, .inl (cR, 4, .inr (.inr (.inr (.inr gh148))))), (a47, .inr (8, [.int 4, .ref wa48, .ref na49])), (wa48, .inl (cI, 4, .inl fw50)), (na49, .inl (cI, 4, .inl fn51)), (a77, .inr (8, [.int 4, .ref wa78, .ref na79])), (wa78, .inl (cI, 4, .inl fw101)), (na79, .inl (cI, 4, .inl fn102)), (a131, .inr (8, [.int 4, .ref wa132, .ref na133])), (wa132, .inl (cI, 4, .inl fw155)), (na133, .inl (cI, 4, .inl fn156)), (q16, .inr (7, [.long ((3 : Int32).toInt64), .null])), (q1, .inr (6, [.ref al5, .int 0, .int 0, .int 0, .ref sa6, .ref sb7, .ref b8, .ref sc9])), (al5, .inr (4, [.int mc170, .ref ed30, .int 4])), (ed30, .inl (cO, 10, .inr (.inr (.inr (.inr (va_up (va_up (va_up (va_up (fun _ => none) 0 (some y32)) 1 (some y63)) 2 (some y117)) 3 (some y171))))))), (y171, .inr (5, [.int 4, .int 4, .ref yw172, .ref yv173, .ref yh174, .int 3])), (yw172, .inl (cI, 4, .inl gw175)), (yv173, .inl (cI, 4, .inl gv176)), (yh174, .inl (cR, 4, .inr (.inr (.inr (.inr gh177))))), (q11, .inr (9, [.int 0, .ref am15, .int 0, .int 0, .int 0])), (am15, .inr (4, [.int mm184, .ref em45, .int 4])), (em45, .inl (cO, 10, .inr (.inr (.inr (.inr (va_up (va_up (va_up (va_up (fun _ => none) 0 (some a47)) 1 (some a77)) 2 (some a131)) 3 (some a185))))))), (a185, .inr (8, [.int 4, .ref wa186, .ref na187])), (wa186, .inl (cI, 4, .inl fw188)), (na187, .inl (cI, 4, .inl fn189))] H182 := hP
  replace hD : va_D A [(b8, .inr (1, [.ref v10, .int 0, .int 0, .int 0])), (v10, .inl (cB, 16, .inl (fun _ => 0))), (y32, .inr (5, [.int 4, .int 4, .ref yw33, .ref yv34, .ref yh35, .int 0])), (yw33, .inl (cI, 4, .inl gw36)), (yv34, .inl (cI, 4, .inl gv37)), (yh35, .inl (cR, 4, .inr (.inr (.inr (.inr gh38))))), (y63, .inr (5, [.int 4, .int 4, .ref yw64, .ref yv65, .ref yh66, .int 1])), (yw64, .inl (cI, 4, .inl gw92)), (yv65, .inl (cI, 4, .inl gv93)), (yh66, .inl (cR, 4, .inr (.inr (.inr (.inr gh94))))), (y117, .inr (5, [.int 4, .int 4, .ref yw118, .ref yv119, .ref yh120, .int 2])), (yw118, .inl (cI, 4, .inl gw146)), (yv119, .inl (cI, 4, .inl gv147)), (yh120, .inl (cR, 4, .inr (.inr (.inr (.inr gh148))))), (a47, .inr (8, [.int 4, .ref wa48, .ref na49])), (wa48, .inl (cI, 4, .inl fw50)), (na49, .inl (cI, 4, .inl fn51)), (a77, .inr (8, [.int 4, .ref wa78, .ref na79])), (wa78, .inl (cI, 4, .inl fw101)), (na79, .inl (cI, 4, .inl fn102)), (a131, .inr (8, [.int 4, .ref wa132, .ref na133])), (wa132, .inl (cI, 4, .inl fw155)), (na133, .inl (cI, 4, .inl fn156)), (q16, .inr (7, [.long ((3 : Int32).toInt64), .null])), (q1, .inr (6, [.ref al5, .int 0, .int 0, .int 0, .ref sa6, .ref sb7, .ref b8, .ref sc9])), (al5, .inr (4, [.int mc170, .ref ed30, .int 4])), (ed30, .inl (cO, 10, .inr (.inr (.inr (.inr (va_up (va_up (va_up (va_up (fun _ => none) 0 (some y32)) 1 (some y63)) 2 (some y117)) 3 (some y171))))))), (y171, .inr (5, [.int 4, .int 4, .ref yw172, .ref yv173, .ref yh174, .int 3])), (yw172, .inl (cI, 4, .inl gw175)), (yv173, .inl (cI, 4, .inl gv176)), (yh174, .inl (cR, 4, .inr (.inr (.inr (.inr gh177))))), (q11, .inr (9, [.int 0, .ref am15, .int 0, .int 0, .int 0])), (am15, .inr (4, [.int mm184, .ref em45, .int 4])), (em45, .inl (cO, 10, .inr (.inr (.inr (.inr (va_up (va_up (va_up (va_up (fun _ => none) 0 (some a47)) 1 (some a77)) 2 (some a131)) 3 (some a185))))))), (a185, .inr (8, [.int 4, .ref wa186, .ref na187])), (wa186, .inl (cI, 4, .inl fw188)), (na187, .inl (cI, 4, .inl fn189))] := hD
  refine W.widen (k := 62) (n := 259) (by omega) (by omega) ?_
  refine lv_istore (lv' := [(6, .int 3), (5, .int 0), (4, .int 25), (3, .ref q16), (2, .ref q11), (1, .ref q1), (0, .ref b)]) hx hb dL_law_219 hl (by decide) rfl (fun ls hl => ?_)
  refine lv_goto (tgt := 1349) hx hb dL_law_221 (by decide) ?_
  refine lv_iinc (v := 30) (lv' := [(4, .int 30), (6, .int 3), (5, .int 0), (3, .ref q16), (2, .ref q11), (1, .ref q1), (0, .ref b)]) hx hb dL_law_1349 hl (k := 2) rfl (by decide) (by decide) rfl (fun ls hl => ?_)
  refine lv_goto (tgt := 27) hx hb dL_law_1352 (by decide) ?_
  refine lv_iload hx hb dL_law_27 (lv_at hl 0 rfl) ?_
  refine lv_aload_n hx hb dL_law_29 rfl (lv_at hl 6 rfl) ?_
  refine va_slen hx hb hX hbl hbA hS dL_law_30 ?_
  refine W.eq (g2 := F0 mY 31 ls [.int 1835, .int 30]) rfl ?_
  refine lv_iconst (v := 5) hx hb dL_law_31 (by decide) ?_
  refine lv_isub hx hb dL_law_32 ?_
  refine lv_topi (fun v190 ev190 => ?_)
  obtain rfl : v190 = 1830 := ev190.trans (by decide)
  refine lv_icmp_gt (tgt := 1355) hx hb dL_law_33 (by decide) (fun c9 => ?_) (fun c9 => ?_)
  · exact absurd c9 (by decide)
  refine lv_aload_n hx hb dL_law_36 rfl (lv_at hl 6 rfl) ?_
  refine lv_iload hx hb dL_law_37 (lv_at hl 0 rfl) ?_
  refine va_sld hx hb hX hbl hbA hS (by unfold vp_in; decide) dL_law_39 ?_
  refine lv_topi (fun v191 ev191 => ?_)
  obtain rfl : v191 = 9 := ev191.trans (by decide)
  refine lv_bipush (v := 31) hx hb dL_law_40 (by decide) ?_
  refine lv_iand hx hb dL_law_42 ?_
  refine lv_topi (fun v192 ev192 => ?_)
  obtain rfl : v192 = 9 := ev192.trans (by decide)
  refine lv_tableIn (off := 498) (tgt := 541) hx hb dL_law_43 (by decide) (by decide) (by decide) (by decide) ?_
  refine lv_aload_n hx hb dL_law_541 rfl (lv_at hl 5 rfl) ?_
  refine lv_aload_n hx hb dL_law_542 rfl (lv_at hl 6 rfl) ?_
  refine lv_iload hx hb dL_law_543 (lv_at hl 0 rfl) ?_
  refine lv_iconst (v := 1) hx hb dL_law_545 (by decide) ?_
  refine lv_iadd hx hb dL_law_546 ?_
  refine lv_topi (fun v193 ev193 => ?_)
  obtain rfl : v193 = 31 := ev193.trans (by decide)
  refine va_sld hx hb hX hbl hbA hS (by unfold vp_in; decide) dL_law_547 ?_
  refine lv_topi (fun v194 ev194 => ?_)
  obtain rfl : v194 = 3 := ev194.trans (by decide)
  refine lv_aload_n hx hb dL_law_548 rfl (lv_at hl 6 rfl) ?_
  refine lv_iload hx hb dL_law_549 (lv_at hl 0 rfl) ?_
  refine lv_iconst (v := 2) hx hb dL_law_551 (by decide) ?_
  refine lv_iadd hx hb dL_law_552 ?_
  refine lv_topi (fun v195 ev195 => ?_)
  obtain rfl : v195 = 32 := ev195.trans (by decide)
  refine va_sld hx hb hX hbl hbA hS (by unfold vp_in; decide) dL_law_553 ?_
  refine lv_topi (fun v196 ev196 => ?_)
  obtain rfl : v196 = 2 := ev196.trans (by decide)
  refine lv_aload_n hx hb dL_law_554 rfl (lv_at hl 3 rfl) ?_
  have hPc := hP.sub (ws' := [(q16, .inr (7, [.long ((3 : Int32).toInt64), .null])), (q1, .inr (6, [.ref al5, .int 0, .int 0, .int 0, .ref sa6, .ref sb7, .ref b8, .ref sc9])), (al5, .inr (4, [.int mc170, .ref ed30, .int 4])), (ed30, .inl (cO, 10, .inr (.inr (.inr (.inr (va_up (va_up (va_up (va_up (fun _ => none) 0 (some y32)) 1 (some y63)) 2 (some y117)) 3 (some y171))))))), (y32, .inr (5, [.int 4, .int 4, .ref yw33, .ref yv34, .ref yh35, .int 0])), (yw33, .inl (cI, 4, .inl gw36)), (yv34, .inl (cI, 4, .inl gv37)), (yh35, .inl (cR, 4, .inr (.inr (.inr (.inr gh38))))), (y63, .inr (5, [.int 4, .int 4, .ref yw64, .ref yv65, .ref yh66, .int 1])), (yw64, .inl (cI, 4, .inl gw92)), (yv65, .inl (cI, 4, .inl gv93)), (yh66, .inl (cR, 4, .inr (.inr (.inr (.inr gh94))))), (y117, .inr (5, [.int 4, .int 4, .ref yw118, .ref yv119, .ref yh120, .int 2])), (yw118, .inl (cI, 4, .inl gw146)), (yv119, .inl (cI, 4, .inl gv147)), (yh120, .inl (cR, 4, .inr (.inr (.inr (.inr gh148))))), (y171, .inr (5, [.int 4, .int 4, .ref yw172, .ref yv173, .ref yh174, .int 3])), (yw172, .inl (cI, 4, .inl gw175)), (yv173, .inl (cI, 4, .inl gv176)), (yh174, .inl (cR, 4, .inr (.inr (.inr (.inr gh177)))))]) [23, 24, 25, 26, 2, 3, 4, 5, 6, 7, 8, 9, 10, 11, 12, 13, 27, 28, 29, 30] rfl
  have hDc := hD.sub (ws' := [(q16, .inr (7, [.long ((3 : Int32).toInt64), .null])), (q1, .inr (6, [.ref al5, .int 0, .int 0, .int 0, .ref sa6, .ref sb7, .ref b8, .ref sc9])), (al5, .inr (4, [.int mc170, .ref ed30, .int 4])), (ed30, .inl (cO, 10, .inr (.inr (.inr (.inr (va_up (va_up (va_up (va_up (fun _ => none) 0 (some y32)) 1 (some y63)) 2 (some y117)) 3 (some y171))))))), (y32, .inr (5, [.int 4, .int 4, .ref yw33, .ref yv34, .ref yh35, .int 0])), (yw33, .inl (cI, 4, .inl gw36)), (yv34, .inl (cI, 4, .inl gv37)), (yh35, .inl (cR, 4, .inr (.inr (.inr (.inr gh38))))), (y63, .inr (5, [.int 4, .int 4, .ref yw64, .ref yv65, .ref yh66, .int 1])), (yw64, .inl (cI, 4, .inl gw92)), (yv65, .inl (cI, 4, .inl gv93)), (yh66, .inl (cR, 4, .inr (.inr (.inr (.inr gh94))))), (y117, .inr (5, [.int 4, .int 4, .ref yw118, .ref yv119, .ref yh120, .int 2])), (yw118, .inl (cI, 4, .inl gw146)), (yv119, .inl (cI, 4, .inl gv147)), (yh120, .inl (cR, 4, .inr (.inr (.inr (.inr gh148))))), (y171, .inr (5, [.int 4, .int 4, .ref yw172, .ref yv173, .ref yh174, .int 3])), (yw172, .inl (cI, 4, .inl gw175)), (yv173, .inl (cI, 4, .inl gv176)), (yh174, .inl (cR, 4, .inr (.inr (.inr (.inr gh177)))))]) [23, 24, 25, 26, 2, 3, 4, 5, 6, 7, 8, 9, 10, 11, 12, 13, 27, 28, 29, 30] (by decide) rfl
  have hFc := va_free (wc := [(q16, .inr (7, [.long ((3 : Int32).toInt64), .null])), (q1, .inr (6, [.ref al5, .int 0, .int 0, .int 0, .ref sa6, .ref sb7, .ref b8, .ref sc9])), (al5, .inr (4, [.int mc170, .ref ed30, .int 4])), (ed30, .inl (cO, 10, .inr (.inr (.inr (.inr (va_up (va_up (va_up (va_up (fun _ => none) 0 (some y32)) 1 (some y63)) 2 (some y117)) 3 (some y171))))))), (y32, .inr (5, [.int 4, .int 4, .ref yw33, .ref yv34, .ref yh35, .int 0])), (yw33, .inl (cI, 4, .inl gw36)), (yv34, .inl (cI, 4, .inl gv37)), (yh35, .inl (cR, 4, .inr (.inr (.inr (.inr gh38))))), (y63, .inr (5, [.int 4, .int 4, .ref yw64, .ref yv65, .ref yh66, .int 1])), (yw64, .inl (cI, 4, .inl gw92)), (yv65, .inl (cI, 4, .inl gv93)), (yh66, .inl (cR, 4, .inr (.inr (.inr (.inr gh94))))), (y117, .inr (5, [.int 4, .int 4, .ref yw118, .ref yv119, .ref yh120, .int 2])), (yw118, .inl (cI, 4, .inl gw146)), (yv119, .inl (cI, 4, .inl gv147)), (yh120, .inl (cR, 4, .inr (.inr (.inr (.inr gh148))))), (y171, .inr (5, [.int 4, .int 4, .ref yw172, .ref yv173, .ref yh174, .int 3])), (yw172, .inl (cI, 4, .inl gw175)), (yv173, .inl (cI, 4, .inl gv176)), (yh174, .inl (cR, 4, .inr (.inr (.inr (.inr gh177)))))]) hD hS hA [23, 24, 25, 26, 2, 3, 4, 5, 6, 7, 8, 9, 10, 11, 12, 13, 27, 28, 29, 30] rfl
  have hDv := hDc.self (sz := H182.size)
  have hpre := zpre (xs' := []) (av := [.ref q1, .int 3, .int 2, .ref q16]) hPc hK (hDc.weaken (fun _ _ _ h => h)) hZ hS hFc (fun r hr => by cases hr)
  refine va_calli (vx_runSW (As := [.ref q1, .int 3, .int 2, .ref q16]) (rest := []) ⟨hx, hb, hml, hown, hts⟩ (k_LfX3 l dC dI cI cB cR cO zk q1 al5 b8 (.int 0) (.int 0) (.int 0) (.ref sa6) (.ref sb7) (.ref sc9) ed30 (va_up (va_up (va_up (va_up (fun _ => none) 0 (some y32)) 1 (some y63)) 2 (some y117)) 3 (some y171)) (.int mc170) y32 yw33 yv34 yh35 y63 yw64 yv65 yh66 y117 yw118 yv119 yh120 0 1 2 gw36 gv37 gw92 gv93 gw146 gv147 gh38 gh94 gh148 y171 yw172 yv173 yh174 3 gw175 gv176 gh177 q16 (.long ((3 : Int32).toInt64)) .null H182.size rfl rfl rfl rfl hwgw36 hhgh38 hhgh94 hhgh148) (vx_cwSW 4 hts gL_law_L_fillRow rfl rfl rfl (by decide +kernel) ⟨Nat.le_of_ble_eq_true rfl, Nat.le_of_ble_eq_true rfl⟩) ⟨zblind, hpre⟩ rfl rfl hl.1 rfl (lv_room (Nat.le_of_ble_eq_true rfl)) dL_law_555 ⟨Nat.le_of_ble_eq_true rfl, Nat.le_of_ble_eq_true rfl⟩) hS (fun q _ h => hFc q h) hFc (fun r198 u t H197 locs ht hvm hw hB hz1 hk1 hS => ?_)
  obtain rfl : 0 = r198 := (show r198 = 0 from hw).symm
  obtain ⟨on199, gw200, gv201, gh202, ⟨hP1, hK1, hD1, hz2⟩, hhgh202, rfl⟩ := hB
  rw [ht] at hP1 hz2
  have hPD9 := va_join (wr := [(b8, .inr (1, [.ref v10, .int 0, .int 0, .int 0])), (v10, .inl (cB, 16, .inl (fun _ => 0))), (a47, .inr (8, [.int 4, .ref wa48, .ref na49])), (wa48, .inl (cI, 4, .inl fw50)), (na49, .inl (cI, 4, .inl fn51)), (a77, .inr (8, [.int 4, .ref wa78, .ref na79])), (wa78, .inl (cI, 4, .inl fw101)), (na79, .inl (cI, 4, .inl fn102)), (a131, .inr (8, [.int 4, .ref wa132, .ref na133])), (wa132, .inl (cI, 4, .inl fw155)), (na133, .inl (cI, 4, .inl fn156)), (q11, .inr (9, [.int 0, .ref am15, .int 0, .int 0, .int 0])), (am15, .inr (4, [.int mm184, .ref em45, .int 4])), (em45, .inl (cO, 10, .inr (.inr (.inr (.inr (va_up (va_up (va_up (va_up (fun _ => none) 0 (some a47)) 1 (some a77)) 2 (some a131)) 3 (some a185))))))), (a185, .inr (8, [.int 4, .ref wa186, .ref na187])), (wa186, .inl (cI, 4, .inl fw188)), (na187, .inl (cI, 4, .inl fn189))]) (w1 := [(q16, .inr (7, [.long ((4 : Int32).toInt64), .null])), (q1, .inr (6, [.ref al5, .int 0, .int 0, .int 0, .ref sa6, .ref sb7, .ref b8, .ref sc9])), (al5, .inr (4, [.int mc170, .ref ed30, .int 4])), (ed30, .inl (cO, 10, .inr (.inr (.inr (.inr (va_up (va_up (va_up (va_up (fun _ => none) 0 (some y32)) 1 (some y63)) 2 (some y117)) 3 (some y171))))))), (y32, .inr (5, [.int 4, .int 4, .ref yw33, .ref yv34, .ref yh35, .int 0])), (yw33, .inl (cI, 4, .inl gw36)), (yv34, .inl (cI, 4, .inl gv37)), (yh35, .inl (cR, 4, .inr (.inr (.inr (.inr gh38))))), (y63, .inr (5, [.int 4, .int 4, .ref yw64, .ref yv65, .ref yh66, .int 1])), (yw64, .inl (cI, 4, .inl gw92)), (yv65, .inl (cI, 4, .inl gv93)), (yh66, .inl (cR, 4, .inr (.inr (.inr (.inr gh94))))), (y117, .inr (5, [.int 4, .int 4, .ref yw118, .ref yv119, .ref yh120, .int 2])), (yw118, .inl (cI, 4, .inl gw146)), (yv119, .inl (cI, 4, .inl gv147)), (yh120, .inl (cR, 4, .inr (.inr (.inr (.inr gh148))))), (y171, .inr (5, [.int 4, .int 4, .ref yw172, .ref yv173, .ref yh174, .int 3])), (yw172, .inl (cI, 4, .inl gw200)), (yv173, .inl (cI, 4, .inl gv201)), (yh174, .inl (cR, 4, .inr (.inr (.inr (.inr gh202)))))]) hP hD [23, 24, 25, 26, 2, 3, 4, 5, 6, 7, 8, 9, 10, 11, 12, 13, 27, 28, 29, 30] [0, 1, 14, 15, 16, 17, 18, 19, 20, 21, 22, 31, 32, 33, 34, 35, 36] rfl rfl (by decide) (by decide) hk1 hFc hP1 hD1
  clear hPc hDc hFc hDv hpre hP hD hP1 hK1 hD1
  obtain ⟨hP, hD⟩ := hPD9
  replace hz : s.heap.size + 57 ≤ H197.size := by omega
  clear hz2
  replace hP : va_P (dC, dI) vwCl [(b8, .inr (1, [.ref v10, .int 0, .int 0, .int 0])), (v10, .inl (cB, 16, .inl (fun _ => 0))), (a47, .inr (8, [.int 4, .ref wa48, .ref na49])), (wa48, .inl (cI, 4, .inl fw50)), (na49, .inl (cI, 4, .inl fn51)), (a77, .inr (8, [.int 4, .ref wa78, .ref na79])), (wa78, .inl (cI, 4, .inl fw101)), (na79, .inl (cI, 4, .inl fn102)), (a131, .inr (8, [.int 4, .ref wa132, .ref na133])), (wa132, .inl (cI, 4, .inl fw155)), (na133, .inl (cI, 4, .inl fn156)), (q11, .inr (9, [.int 0, .ref am15, .int 0, .int 0, .int 0])), (am15, .inr (4, [.int mm184, .ref em45, .int 4])), (em45, .inl (cO, 10, .inr (.inr (.inr (.inr (va_up (va_up (va_up (va_up (fun _ => none) 0 (some a47)) 1 (some a77)) 2 (some a131)) 3 (some a185))))))), (a185, .inr (8, [.int 4, .ref wa186, .ref na187])), (wa186, .inl (cI, 4, .inl fw188)), (na187, .inl (cI, 4, .inl fn189)), (q16, .inr (7, [.long ((4 : Int32).toInt64), .null])), (q1, .inr (6, [.ref al5, .int 0, .int 0, .int 0, .ref sa6, .ref sb7, .ref b8, .ref sc9])), (al5, .inr (4, [.int mc170, .ref ed30, .int 4])), (ed30, .inl (cO, 10, .inr (.inr (.inr (.inr (va_up (va_up (va_up (va_up (fun _ => none) 0 (some y32)) 1 (some y63)) 2 (some y117)) 3 (some y171))))))), (y32, .inr (5, [.int 4, .int 4, .ref yw33, .ref yv34, .ref yh35, .int 0])), (yw33, .inl (cI, 4, .inl gw36)), (yv34, .inl (cI, 4, .inl gv37)), (yh35, .inl (cR, 4, .inr (.inr (.inr (.inr gh38))))), (y63, .inr (5, [.int 4, .int 4, .ref yw64, .ref yv65, .ref yh66, .int 1])), (yw64, .inl (cI, 4, .inl gw92)), (yv65, .inl (cI, 4, .inl gv93)), (yh66, .inl (cR, 4, .inr (.inr (.inr (.inr gh94))))), (y117, .inr (5, [.int 4, .int 4, .ref yw118, .ref yv119, .ref yh120, .int 2])), (yw118, .inl (cI, 4, .inl gw146)), (yv119, .inl (cI, 4, .inl gv147)), (yh120, .inl (cR, 4, .inr (.inr (.inr (.inr gh148))))), (y171, .inr (5, [.int 4, .int 4, .ref yw172, .ref yv173, .ref yh174, .int 3])), (yw172, .inl (cI, 4, .inl gw200)), (yv173, .inl (cI, 4, .inl gv201)), (yh174, .inl (cR, 4, .inr (.inr (.inr (.inr gh202)))))] H197 := hP
  replace hD : va_D A [(b8, .inr (1, [.ref v10, .int 0, .int 0, .int 0])), (v10, .inl (cB, 16, .inl (fun _ => 0))), (a47, .inr (8, [.int 4, .ref wa48, .ref na49])), (wa48, .inl (cI, 4, .inl fw50)), (na49, .inl (cI, 4, .inl fn51)), (a77, .inr (8, [.int 4, .ref wa78, .ref na79])), (wa78, .inl (cI, 4, .inl fw101)), (na79, .inl (cI, 4, .inl fn102)), (a131, .inr (8, [.int 4, .ref wa132, .ref na133])), (wa132, .inl (cI, 4, .inl fw155)), (na133, .inl (cI, 4, .inl fn156)), (q11, .inr (9, [.int 0, .ref am15, .int 0, .int 0, .int 0])), (am15, .inr (4, [.int mm184, .ref em45, .int 4])), (em45, .inl (cO, 10, .inr (.inr (.inr (.inr (va_up (va_up (va_up (va_up (fun _ => none) 0 (some a47)) 1 (some a77)) 2 (some a131)) 3 (some a185))))))), (a185, .inr (8, [.int 4, .ref wa186, .ref na187])), (wa186, .inl (cI, 4, .inl fw188)), (na187, .inl (cI, 4, .inl fn189)), (q16, .inr (7, [.long ((4 : Int32).toInt64), .null])), (q1, .inr (6, [.ref al5, .int 0, .int 0, .int 0, .ref sa6, .ref sb7, .ref b8, .ref sc9])), (al5, .inr (4, [.int mc170, .ref ed30, .int 4])), (ed30, .inl (cO, 10, .inr (.inr (.inr (.inr (va_up (va_up (va_up (va_up (fun _ => none) 0 (some y32)) 1 (some y63)) 2 (some y117)) 3 (some y171))))))), (y32, .inr (5, [.int 4, .int 4, .ref yw33, .ref yv34, .ref yh35, .int 0])), (yw33, .inl (cI, 4, .inl gw36)), (yv34, .inl (cI, 4, .inl gv37)), (yh35, .inl (cR, 4, .inr (.inr (.inr (.inr gh38))))), (y63, .inr (5, [.int 4, .int 4, .ref yw64, .ref yv65, .ref yh66, .int 1])), (yw64, .inl (cI, 4, .inl gw92)), (yv65, .inl (cI, 4, .inl gv93)), (yh66, .inl (cR, 4, .inr (.inr (.inr (.inr gh94))))), (y117, .inr (5, [.int 4, .int 4, .ref yw118, .ref yv119, .ref yh120, .int 2])), (yw118, .inl (cI, 4, .inl gw146)), (yv119, .inl (cI, 4, .inl gv147)), (yh120, .inl (cR, 4, .inr (.inr (.inr (.inr gh148))))), (y171, .inr (5, [.int 4, .int 4, .ref yw172, .ref yv173, .ref yh174, .int 3])), (yw172, .inl (cI, 4, .inl gw200)), (yv173, .inl (cI, 4, .inl gv201)), (yh174, .inl (cR, 4, .inr (.inr (.inr (.inr gh202)))))] := hD
  refine W.widen (k := 62) (n := 259) (by omega) (by omega) ?_
  refine lv_istore (lv' := [(5, .int 0), (4, .int 30), (6, .int 3), (3, .ref q16), (2, .ref q11), (1, .ref q1), (0, .ref b)]) hx hb dL_law_558 hl (by decide) rfl (fun ls hl => ?_)
  refine lv_aload_n hx hb dL_law_560 rfl (lv_at hl 4 rfl) ?_
  refine lv_aload_n hx hb dL_law_561 rfl (lv_at hl 6 rfl) ?_
  refine lv_iload hx hb dL_law_562 (lv_at hl 1 rfl) ?_
  refine lv_iconst (v := 1) hx hb dL_law_564 (by decide) ?_
  refine lv_iadd hx hb dL_law_565 ?_
  refine lv_topi (fun v203 ev203 => ?_)
  obtain rfl : v203 = 31 := ev203.trans (by decide)
  refine va_sld hx hb hX hbl hbA hS (by unfold vp_in; decide) dL_law_566 ?_
  refine lv_topi (fun v204 ev204 => ?_)
  obtain rfl : v204 = 3 := ev204.trans (by decide)
  refine lv_aload_n hx hb dL_law_567 rfl (lv_at hl 6 rfl) ?_
  refine lv_iload hx hb dL_law_568 (lv_at hl 1 rfl) ?_
  refine lv_iconst (v := 2) hx hb dL_law_570 (by decide) ?_
  refine lv_iadd hx hb dL_law_571 ?_
  refine lv_topi (fun v205 ev205 => ?_)
  obtain rfl : v205 = 32 := ev205.trans (by decide)
  refine va_sld hx hb hX hbl hbA hS (by unfold vp_in; decide) dL_law_572 ?_
  refine lv_topi (fun v206 ev206 => ?_)
  obtain rfl : v206 = 2 := ev206.trans (by decide)
  have hPc := hP.sub (ws' := [(q11, .inr (9, [.int 0, .ref am15, .int 0, .int 0, .int 0])), (am15, .inr (4, [.int mm184, .ref em45, .int 4])), (em45, .inl (cO, 10, .inr (.inr (.inr (.inr (va_up (va_up (va_up (va_up (fun _ => none) 0 (some a47)) 1 (some a77)) 2 (some a131)) 3 (some a185))))))), (a47, .inr (8, [.int 4, .ref wa48, .ref na49])), (wa48, .inl (cI, 4, .inl fw50)), (na49, .inl (cI, 4, .inl fn51)), (a77, .inr (8, [.int 4, .ref wa78, .ref na79])), (wa78, .inl (cI, 4, .inl fw101)), (na79, .inl (cI, 4, .inl fn102)), (a131, .inr (8, [.int 4, .ref wa132, .ref na133])), (wa132, .inl (cI, 4, .inl fw155)), (na133, .inl (cI, 4, .inl fn156)), (a185, .inr (8, [.int 4, .ref wa186, .ref na187])), (wa186, .inl (cI, 4, .inl fw188)), (na187, .inl (cI, 4, .inl fn189))]) [11, 12, 13, 2, 3, 4, 5, 6, 7, 8, 9, 10, 14, 15, 16] rfl
  have hDc := hD.sub (ws' := [(q11, .inr (9, [.int 0, .ref am15, .int 0, .int 0, .int 0])), (am15, .inr (4, [.int mm184, .ref em45, .int 4])), (em45, .inl (cO, 10, .inr (.inr (.inr (.inr (va_up (va_up (va_up (va_up (fun _ => none) 0 (some a47)) 1 (some a77)) 2 (some a131)) 3 (some a185))))))), (a47, .inr (8, [.int 4, .ref wa48, .ref na49])), (wa48, .inl (cI, 4, .inl fw50)), (na49, .inl (cI, 4, .inl fn51)), (a77, .inr (8, [.int 4, .ref wa78, .ref na79])), (wa78, .inl (cI, 4, .inl fw101)), (na79, .inl (cI, 4, .inl fn102)), (a131, .inr (8, [.int 4, .ref wa132, .ref na133])), (wa132, .inl (cI, 4, .inl fw155)), (na133, .inl (cI, 4, .inl fn156)), (a185, .inr (8, [.int 4, .ref wa186, .ref na187])), (wa186, .inl (cI, 4, .inl fw188)), (na187, .inl (cI, 4, .inl fn189))]) [11, 12, 13, 2, 3, 4, 5, 6, 7, 8, 9, 10, 14, 15, 16] (by decide) rfl
  have hFc := va_free (wc := [(q11, .inr (9, [.int 0, .ref am15, .int 0, .int 0, .int 0])), (am15, .inr (4, [.int mm184, .ref em45, .int 4])), (em45, .inl (cO, 10, .inr (.inr (.inr (.inr (va_up (va_up (va_up (va_up (fun _ => none) 0 (some a47)) 1 (some a77)) 2 (some a131)) 3 (some a185))))))), (a47, .inr (8, [.int 4, .ref wa48, .ref na49])), (wa48, .inl (cI, 4, .inl fw50)), (na49, .inl (cI, 4, .inl fn51)), (a77, .inr (8, [.int 4, .ref wa78, .ref na79])), (wa78, .inl (cI, 4, .inl fw101)), (na79, .inl (cI, 4, .inl fn102)), (a131, .inr (8, [.int 4, .ref wa132, .ref na133])), (wa132, .inl (cI, 4, .inl fw155)), (na133, .inl (cI, 4, .inl fn156)), (a185, .inr (8, [.int 4, .ref wa186, .ref na187])), (wa186, .inl (cI, 4, .inl fw188)), (na187, .inl (cI, 4, .inl fn189))]) hD hS hA [11, 12, 13, 2, 3, 4, 5, 6, 7, 8, 9, 10, 14, 15, 16] rfl
  have hDv := hDc.self (sz := H197.size)
  have hpre := zpre (xs' := []) (av := [.ref q11, .int 3, .int 2]) hPc hK (hDc.weaken (fun _ _ _ h => h)) hZ hS hFc (fun r hr => by cases hr)
  refine va_calli (va_runV (As := [.int 3, .int 2]) (rest := []) ⟨hx, hb, hml, hown, hts⟩ (k_fiM3 l dC dI cI cB cR cO zk q11 am15 (.int 0) (.int 0) (.int 0) (.int 0) em45 (va_up (va_up (va_up (va_up (fun _ => none) 0 (some a47)) 1 (some a77)) 2 (some a131)) 3 (some a185)) mm184 a47 wa48 na49 a77 wa78 na79 a131 wa132 na133 a185 wa186 na187 fw50 fn51 fw101 fn102 fw155 fn156 fw188 fn189 H197.size hwfw50 hnfn51 rfl hwfw101 hnfn102 rfl hwfw155 hnfn156 rfl hwfw188 hnfn189 rfl) (cwV 2 hts gL_law_X4_fillRow rfl rfl rfl (by decide +kernel) ⟨Nat.le_of_ble_eq_true rfl, Nat.le_of_ble_eq_true rfl⟩) ⟨zblind, (zrecv_9 hK hPc (q0 := 0) rfl), hpre⟩ rfl rfl hl.1 rfl (lv_room (Nat.le_of_ble_eq_true rfl)) dL_law_573 ⟨Nat.le_of_ble_eq_true rfl, Nat.le_of_ble_eq_true rfl⟩) hS (fun q _ h => hFc q h) hFc (fun r208 u t H207 locs ht hvm hw hB hz1 hk1 hS => ?_)
  obtain rfl : 4 = r208 := (show r208 = 4 from hw).symm
  obtain ⟨fw209, fn210, ⟨hP1, hK1, hD1, hz2⟩, hwfw209, hnfn210⟩ := hB
  rw [ht] at hP1 hz2
  have hPD9 := va_join (wr := [(b8, .inr (1, [.ref v10, .int 0, .int 0, .int 0])), (v10, .inl (cB, 16, .inl (fun _ => 0))), (q16, .inr (7, [.long ((4 : Int32).toInt64), .null])), (q1, .inr (6, [.ref al5, .int 0, .int 0, .int 0, .ref sa6, .ref sb7, .ref b8, .ref sc9])), (al5, .inr (4, [.int mc170, .ref ed30, .int 4])), (ed30, .inl (cO, 10, .inr (.inr (.inr (.inr (va_up (va_up (va_up (va_up (fun _ => none) 0 (some y32)) 1 (some y63)) 2 (some y117)) 3 (some y171))))))), (y32, .inr (5, [.int 4, .int 4, .ref yw33, .ref yv34, .ref yh35, .int 0])), (yw33, .inl (cI, 4, .inl gw36)), (yv34, .inl (cI, 4, .inl gv37)), (yh35, .inl (cR, 4, .inr (.inr (.inr (.inr gh38))))), (y63, .inr (5, [.int 4, .int 4, .ref yw64, .ref yv65, .ref yh66, .int 1])), (yw64, .inl (cI, 4, .inl gw92)), (yv65, .inl (cI, 4, .inl gv93)), (yh66, .inl (cR, 4, .inr (.inr (.inr (.inr gh94))))), (y117, .inr (5, [.int 4, .int 4, .ref yw118, .ref yv119, .ref yh120, .int 2])), (yw118, .inl (cI, 4, .inl gw146)), (yv119, .inl (cI, 4, .inl gv147)), (yh120, .inl (cR, 4, .inr (.inr (.inr (.inr gh148))))), (y171, .inr (5, [.int 4, .int 4, .ref yw172, .ref yv173, .ref yh174, .int 3])), (yw172, .inl (cI, 4, .inl gw200)), (yv173, .inl (cI, 4, .inl gv201)), (yh174, .inl (cR, 4, .inr (.inr (.inr (.inr gh202)))))]) (w1 := [(q11, .inr (9, [.int 0, .ref am15, .int 0, .int 0, .int 0])), (am15, .inr (4, [.int mm184, .ref em45, .int 4])), (em45, .inl (cO, 10, .inr (.inr (.inr (.inr (va_up (va_up (va_up (va_up (fun _ => none) 0 (some a47)) 1 (some a77)) 2 (some a131)) 3 (some a185))))))), (a47, .inr (8, [.int 4, .ref wa48, .ref na49])), (wa48, .inl (cI, 4, .inl fw50)), (na49, .inl (cI, 4, .inl fn51)), (a77, .inr (8, [.int 4, .ref wa78, .ref na79])), (wa78, .inl (cI, 4, .inl fw101)), (na79, .inl (cI, 4, .inl fn102)), (a131, .inr (8, [.int 4, .ref wa132, .ref na133])), (wa132, .inl (cI, 4, .inl fw155)), (na133, .inl (cI, 4, .inl fn156)), (a185, .inr (8, [.int 4, .ref wa186, .ref na187])), (wa186, .inl (cI, 4, .inl fw209)), (na187, .inl (cI, 4, .inl fn210))]) hP hD [11, 12, 13, 2, 3, 4, 5, 6, 7, 8, 9, 10, 14, 15, 16] [0, 1, 17, 18, 19, 20, 21, 22, 23, 24, 25, 26, 27, 28, 29, 30, 31, 32, 33, 34, 35, 36] rfl rfl (by decide) (by decide) hk1 hFc hP1 hD1
  clear hPc hDc hFc hDv hpre hP hD hP1 hK1 hD1
  obtain ⟨hP, hD⟩ := hPD9
  replace hz : s.heap.size + 62 ≤ H207.size := by omega
  clear hz2
  replace hP : va_P (dC, dI) vwCl [(b8, .inr (1, [.ref v10, .int 0, .int 0, .int 0])), (v10, .inl (cB, 16, .inl (fun _ => 0))), (q16, .inr (7, [.long ((4 : Int32).toInt64), .null])), (q1, .inr (6, [.ref al5, .int 0, .int 0, .int 0, .ref sa6, .ref sb7, .ref b8, .ref sc9])), (al5, .inr (4, [.int mc170, .ref ed30, .int 4])), (ed30, .inl (cO, 10, .inr (.inr (.inr (.inr (va_up (va_up (va_up (va_up (fun _ => none) 0 (some y32)) 1 (some y63)) 2 (some y117)) 3 (some y171))))))), (y32, .inr (5, [.int 4, .int 4, .ref yw33, .ref yv34, .ref yh35, .int 0])), (yw33, .inl (cI, 4, .inl gw36)), (yv34, .inl (cI, 4, .inl gv37)), (yh35, .inl (cR, 4, .inr (.inr (.inr (.inr gh38))))), (y63, .inr (5, [.int 4, .int 4, .ref yw64, .ref yv65, .ref yh66, .int 1])), (yw64, .inl (cI, 4, .inl gw92)), (yv65, .inl (cI, 4, .inl gv93)), (yh66, .inl (cR, 4, .inr (.inr (.inr (.inr gh94))))), (y117, .inr (5, [.int 4, .int 4, .ref yw118, .ref yv119, .ref yh120, .int 2])), (yw118, .inl (cI, 4, .inl gw146)), (yv119, .inl (cI, 4, .inl gv147)), (yh120, .inl (cR, 4, .inr (.inr (.inr (.inr gh148))))), (y171, .inr (5, [.int 4, .int 4, .ref yw172, .ref yv173, .ref yh174, .int 3])), (yw172, .inl (cI, 4, .inl gw200)), (yv173, .inl (cI, 4, .inl gv201)), (yh174, .inl (cR, 4, .inr (.inr (.inr (.inr gh202))))), (q11, .inr (9, [.int 0, .ref am15, .int 0, .int 0, .int 0])), (am15, .inr (4, [.int mm184, .ref em45, .int 4])), (em45, .inl (cO, 10, .inr (.inr (.inr (.inr (va_up (va_up (va_up (va_up (fun _ => none) 0 (some a47)) 1 (some a77)) 2 (some a131)) 3 (some a185))))))), (a47, .inr (8, [.int 4, .ref wa48, .ref na49])), (wa48, .inl (cI, 4, .inl fw50)), (na49, .inl (cI, 4, .inl fn51)), (a77, .inr (8, [.int 4, .ref wa78, .ref na79])), (wa78, .inl (cI, 4, .inl fw101)), (na79, .inl (cI, 4, .inl fn102)), (a131, .inr (8, [.int 4, .ref wa132, .ref na133])), (wa132, .inl (cI, 4, .inl fw155)), (na133, .inl (cI, 4, .inl fn156)), (a185, .inr (8, [.int 4, .ref wa186, .ref na187])), (wa186, .inl (cI, 4, .inl fw209)), (na187, .inl (cI, 4, .inl fn210))] H207 := hP
  replace hD : va_D A [(b8, .inr (1, [.ref v10, .int 0, .int 0, .int 0])), (v10, .inl (cB, 16, .inl (fun _ => 0))), (q16, .inr (7, [.long ((4 : Int32).toInt64), .null])), (q1, .inr (6, [.ref al5, .int 0, .int 0, .int 0, .ref sa6, .ref sb7, .ref b8, .ref sc9])), (al5, .inr (4, [.int mc170, .ref ed30, .int 4])), (ed30, .inl (cO, 10, .inr (.inr (.inr (.inr (va_up (va_up (va_up (va_up (fun _ => none) 0 (some y32)) 1 (some y63)) 2 (some y117)) 3 (some y171))))))), (y32, .inr (5, [.int 4, .int 4, .ref yw33, .ref yv34, .ref yh35, .int 0])), (yw33, .inl (cI, 4, .inl gw36)), (yv34, .inl (cI, 4, .inl gv37)), (yh35, .inl (cR, 4, .inr (.inr (.inr (.inr gh38))))), (y63, .inr (5, [.int 4, .int 4, .ref yw64, .ref yv65, .ref yh66, .int 1])), (yw64, .inl (cI, 4, .inl gw92)), (yv65, .inl (cI, 4, .inl gv93)), (yh66, .inl (cR, 4, .inr (.inr (.inr (.inr gh94))))), (y117, .inr (5, [.int 4, .int 4, .ref yw118, .ref yv119, .ref yh120, .int 2])), (yw118, .inl (cI, 4, .inl gw146)), (yv119, .inl (cI, 4, .inl gv147)), (yh120, .inl (cR, 4, .inr (.inr (.inr (.inr gh148))))), (y171, .inr (5, [.int 4, .int 4, .ref yw172, .ref yv173, .ref yh174, .int 3])), (yw172, .inl (cI, 4, .inl gw200)), (yv173, .inl (cI, 4, .inl gv201)), (yh174, .inl (cR, 4, .inr (.inr (.inr (.inr gh202))))), (q11, .inr (9, [.int 0, .ref am15, .int 0, .int 0, .int 0])), (am15, .inr (4, [.int mm184, .ref em45, .int 4])), (em45, .inl (cO, 10, .inr (.inr (.inr (.inr (va_up (va_up (va_up (va_up (fun _ => none) 0 (some a47)) 1 (some a77)) 2 (some a131)) 3 (some a185))))))), (a47, .inr (8, [.int 4, .ref wa48, .ref na49])), (wa48, .inl (cI, 4, .inl fw50)), (na49, .inl (cI, 4, .inl fn51)), (a77, .inr (8, [.int 4, .ref wa78, .ref na79])), (wa78, .inl (cI, 4, .inl fw101)), (na79, .inl (cI, 4, .inl fn102)), (a131, .inr (8, [.int 4, .ref wa132, .ref na133])), (wa132, .inl (cI, 4, .inl fw155)), (na133, .inl (cI, 4, .inl fn156)), (a185, .inr (8, [.int 4, .ref wa186, .ref na187])), (wa186, .inl (cI, 4, .inl fw209)), (na187, .inl (cI, 4, .inl fn210))] := hD
  refine W.widen (k := 71) (n := 288) (by omega) (by omega) ?_
  refine lv_istore (lv' := [(6, .int 4), (5, .int 0), (4, .int 30), (3, .ref q16), (2, .ref q11), (1, .ref q1), (0, .ref b)]) hx hb dL_law_576 hl (by decide) rfl (fun ls hl => ?_)
  refine lv_aload_n hx hb dL_law_578 rfl (lv_at hl 4 rfl) ?_
  have hPc := hP.sub (ws' := [(q11, .inr (9, [.int 0, .ref am15, .int 0, .int 0, .int 0]))]) [22] rfl
  have hDc := hD.sub (ws' := [(q11, .inr (9, [.int 0, .ref am15, .int 0, .int 0, .int 0]))]) [22] (by decide) rfl
  have hFc := va_free (wc := [(q11, .inr (9, [.int 0, .ref am15, .int 0, .int 0, .int 0]))]) hD hS hA [22] rfl
  have hDv := hDc.self (sz := H207.size)
  have hpre := zpre (xs' := []) (av := [.ref q11]) hPc hK (hDc.weaken (fun _ _ _ h => h)) hZ hS hFc (fun r hr => by cases hr)
  refine va_calli (va_runV (As := []) (rest := []) ⟨hx, hb, hml, hown, hts⟩ (k_thM l dC dI cI cB cR cO zk q11 (.int 0) (.int 0) (.int 0) am15 H207.size ) (cwV 0 hts gL_law_X4_thrown rfl rfl rfl (by decide +kernel) ⟨Nat.le_of_ble_eq_true rfl, Nat.le_of_ble_eq_true rfl⟩) ⟨zblind, (zrecv_9 hK hPc (q0 := 0) rfl), hpre⟩ rfl rfl hl.1 rfl (lv_room (Nat.le_of_ble_eq_true rfl)) dL_law_579 ⟨Nat.le_of_ble_eq_true rfl, Nat.le_of_ble_eq_true rfl⟩) hS (fun q _ h => hFc q h) hFc (fun r212 u t H211 locs ht hvm hw hB hz1 hk1 hS => ?_)
  obtain rfl : 0 = r212 := (show r212 = 0 from hw).symm
  obtain ⟨hP1, hK1, hD1, hz2⟩ := hB
  rw [ht] at hP1 hz2
  have hPD9 := va_join (wr := [(b8, .inr (1, [.ref v10, .int 0, .int 0, .int 0])), (v10, .inl (cB, 16, .inl (fun _ => 0))), (q16, .inr (7, [.long ((4 : Int32).toInt64), .null])), (q1, .inr (6, [.ref al5, .int 0, .int 0, .int 0, .ref sa6, .ref sb7, .ref b8, .ref sc9])), (al5, .inr (4, [.int mc170, .ref ed30, .int 4])), (ed30, .inl (cO, 10, .inr (.inr (.inr (.inr (va_up (va_up (va_up (va_up (fun _ => none) 0 (some y32)) 1 (some y63)) 2 (some y117)) 3 (some y171))))))), (y32, .inr (5, [.int 4, .int 4, .ref yw33, .ref yv34, .ref yh35, .int 0])), (yw33, .inl (cI, 4, .inl gw36)), (yv34, .inl (cI, 4, .inl gv37)), (yh35, .inl (cR, 4, .inr (.inr (.inr (.inr gh38))))), (y63, .inr (5, [.int 4, .int 4, .ref yw64, .ref yv65, .ref yh66, .int 1])), (yw64, .inl (cI, 4, .inl gw92)), (yv65, .inl (cI, 4, .inl gv93)), (yh66, .inl (cR, 4, .inr (.inr (.inr (.inr gh94))))), (y117, .inr (5, [.int 4, .int 4, .ref yw118, .ref yv119, .ref yh120, .int 2])), (yw118, .inl (cI, 4, .inl gw146)), (yv119, .inl (cI, 4, .inl gv147)), (yh120, .inl (cR, 4, .inr (.inr (.inr (.inr gh148))))), (y171, .inr (5, [.int 4, .int 4, .ref yw172, .ref yv173, .ref yh174, .int 3])), (yw172, .inl (cI, 4, .inl gw200)), (yv173, .inl (cI, 4, .inl gv201)), (yh174, .inl (cR, 4, .inr (.inr (.inr (.inr gh202))))), (am15, .inr (4, [.int mm184, .ref em45, .int 4])), (em45, .inl (cO, 10, .inr (.inr (.inr (.inr (va_up (va_up (va_up (va_up (fun _ => none) 0 (some a47)) 1 (some a77)) 2 (some a131)) 3 (some a185))))))), (a47, .inr (8, [.int 4, .ref wa48, .ref na49])), (wa48, .inl (cI, 4, .inl fw50)), (na49, .inl (cI, 4, .inl fn51)), (a77, .inr (8, [.int 4, .ref wa78, .ref na79])), (wa78, .inl (cI, 4, .inl fw101)), (na79, .inl (cI, 4, .inl fn102)), (a131, .inr (8, [.int 4, .ref wa132, .ref na133])), (wa132, .inl (cI, 4, .inl fw155)), (na133, .inl (cI, 4, .inl fn156)), (a185, .inr (8, [.int 4, .ref wa186, .ref na187])), (wa186, .inl (cI, 4, .inl fw209)), (na187, .inl (cI, 4, .inl fn210))]) (w1 := [(q11, .inr (9, [.int 0, .ref am15, .int 0, .int 0, .int 0]))]) hP hD [22] [0, 1, 2, 3, 4, 5, 6, 7, 8, 9, 10, 11, 12, 13, 14, 15, 16, 17, 18, 19, 20, 21, 23, 24, 25, 26, 27, 28, 29, 30, 31, 32, 33, 34, 35, 36] rfl rfl (by decide) (by decide) hk1 hFc hP1 hD1
  clear hPc hDc hFc hDv hpre hP hD hP1 hK1 hD1
  obtain ⟨hP, hD⟩ := hPD9
  replace hz : s.heap.size + 62 ≤ H211.size := by omega
  clear hz2
  replace hP : va_P (dC, dI) vwCl [(b8, .inr (1, [.ref v10, .int 0, .int 0, .int 0])), (v10, .inl (cB, 16, .inl (fun _ => 0))), (q16, .inr (7, [.long ((4 : Int32).toInt64), .null])), (q1, .inr (6, [.ref al5, .int 0, .int 0, .int 0, .ref sa6, .ref sb7, .ref b8, .ref sc9])), (al5, .inr (4, [.int mc170, .ref ed30, .int 4])), (ed30, .inl (cO, 10, .inr (.inr (.inr (.inr (va_up (va_up (va_up (va_up (fun _ => none) 0 (some y32)) 1 (some y63)) 2 (some y117)) 3 (some y171))))))), (y32, .inr (5, [.int 4, .int 4, .ref yw33, .ref yv34, .ref yh35, .int 0])), (yw33, .inl (cI, 4, .inl gw36)), (yv34, .inl (cI, 4, .inl gv37)), (yh35, .inl (cR, 4, .inr (.inr (.inr (.inr gh38))))), (y63, .inr (5, [.int 4, .int 4, .ref yw64, .ref yv65, .ref yh66, .int 1])), (yw64, .inl (cI, 4, .inl gw92)), (yv65, .inl (cI, 4, .inl gv93)), (yh66, .inl (cR, 4, .inr (.inr (.inr (.inr gh94))))), (y117, .inr (5, [.int 4, .int 4, .ref yw118, .ref yv119, .ref yh120, .int 2])), (yw118, .inl (cI, 4, .inl gw146)), (yv119, .inl (cI, 4, .inl gv147)), (yh120, .inl (cR, 4, .inr (.inr (.inr (.inr gh148))))), (y171, .inr (5, [.int 4, .int 4, .ref yw172, .ref yv173, .ref yh174, .int 3])), (yw172, .inl (cI, 4, .inl gw200)), (yv173, .inl (cI, 4, .inl gv201)), (yh174, .inl (cR, 4, .inr (.inr (.inr (.inr gh202))))), (am15, .inr (4, [.int mm184, .ref em45, .int 4])), (em45, .inl (cO, 10, .inr (.inr (.inr (.inr (va_up (va_up (va_up (va_up (fun _ => none) 0 (some a47)) 1 (some a77)) 2 (some a131)) 3 (some a185))))))), (a47, .inr (8, [.int 4, .ref wa48, .ref na49])), (wa48, .inl (cI, 4, .inl fw50)), (na49, .inl (cI, 4, .inl fn51)), (a77, .inr (8, [.int 4, .ref wa78, .ref na79])), (wa78, .inl (cI, 4, .inl fw101)), (na79, .inl (cI, 4, .inl fn102)), (a131, .inr (8, [.int 4, .ref wa132, .ref na133])), (wa132, .inl (cI, 4, .inl fw155)), (na133, .inl (cI, 4, .inl fn156)), (a185, .inr (8, [.int 4, .ref wa186, .ref na187])), (wa186, .inl (cI, 4, .inl fw209)), (na187, .inl (cI, 4, .inl fn210)), (q11, .inr (9, [.int 0, .ref am15, .int 0, .int 0, .int 0]))] H211 := hP
  replace hD : va_D A [(b8, .inr (1, [.ref v10, .int 0, .int 0, .int 0])), (v10, .inl (cB, 16, .inl (fun _ => 0))), (q16, .inr (7, [.long ((4 : Int32).toInt64), .null])), (q1, .inr (6, [.ref al5, .int 0, .int 0, .int 0, .ref sa6, .ref sb7, .ref b8, .ref sc9])), (al5, .inr (4, [.int mc170, .ref ed30, .int 4])), (ed30, .inl (cO, 10, .inr (.inr (.inr (.inr (va_up (va_up (va_up (va_up (fun _ => none) 0 (some y32)) 1 (some y63)) 2 (some y117)) 3 (some y171))))))), (y32, .inr (5, [.int 4, .int 4, .ref yw33, .ref yv34, .ref yh35, .int 0])), (yw33, .inl (cI, 4, .inl gw36)), (yv34, .inl (cI, 4, .inl gv37)), (yh35, .inl (cR, 4, .inr (.inr (.inr (.inr gh38))))), (y63, .inr (5, [.int 4, .int 4, .ref yw64, .ref yv65, .ref yh66, .int 1])), (yw64, .inl (cI, 4, .inl gw92)), (yv65, .inl (cI, 4, .inl gv93)), (yh66, .inl (cR, 4, .inr (.inr (.inr (.inr gh94))))), (y117, .inr (5, [.int 4, .int 4, .ref yw118, .ref yv119, .ref yh120, .int 2])), (yw118, .inl (cI, 4, .inl gw146)), (yv119, .inl (cI, 4, .inl gv147)), (yh120, .inl (cR, 4, .inr (.inr (.inr (.inr gh148))))), (y171, .inr (5, [.int 4, .int 4, .ref yw172, .ref yv173, .ref yh174, .int 3])), (yw172, .inl (cI, 4, .inl gw200)), (yv173, .inl (cI, 4, .inl gv201)), (yh174, .inl (cR, 4, .inr (.inr (.inr (.inr gh202))))), (am15, .inr (4, [.int mm184, .ref em45, .int 4])), (em45, .inl (cO, 10, .inr (.inr (.inr (.inr (va_up (va_up (va_up (va_up (fun _ => none) 0 (some a47)) 1 (some a77)) 2 (some a131)) 3 (some a185))))))), (a47, .inr (8, [.int 4, .ref wa48, .ref na49])), (wa48, .inl (cI, 4, .inl fw50)), (na49, .inl (cI, 4, .inl fn51)), (a77, .inr (8, [.int 4, .ref wa78, .ref na79])), (wa78, .inl (cI, 4, .inl fw101)), (na79, .inl (cI, 4, .inl fn102)), (a131, .inr (8, [.int 4, .ref wa132, .ref na133])), (wa132, .inl (cI, 4, .inl fw155)), (na133, .inl (cI, 4, .inl fn156)), (a185, .inr (8, [.int 4, .ref wa186, .ref na187])), (wa186, .inl (cI, 4, .inl fw209)), (na187, .inl (cI, 4, .inl fn210)), (q11, .inr (9, [.int 0, .ref am15, .int 0, .int 0, .int 0]))] := hD
  refine W.widen (k := 71) (n := 288) (by omega) (by omega) ?_
  refine lv_iload hx hb dL_law_582 (lv_at hl 1 rfl) ?_
  refine lv_icmp_eq (tgt := 589) hx hb dL_law_584 (by decide) (fun c9 => ?_) (fun c9 => ?_)
  rotate_left
  · exact absurd (by decide) c9
  refine lv_iload hx hb dL_law_589 (lv_at hl 1 rfl) ?_
  refine lv_if_ne (tgt := 607) hx hb dL_law_591 (by decide) (fun c9 => ?_) (fun c9 => ?_)
  · exact absurd (by decide) c9
  refine lv_aload_n hx hb dL_law_594 rfl (lv_at hl 3 rfl) ?_
  refine va_getN (D := (dC, dI)) (ci := 7) (v := .long ((4 : Int32).toInt64)) (C := RX2) (T := TX2) (N := 2) hx hb hts inlX2 hown hK hP 2 rfl rfl 0 (by decide) (zn6 hZ) (fun _ h9 => h9) rfl dL_law_595 ?_
  refine lv_iload hx hb dL_law_598 (lv_at hl 0 rfl) ?_
  refine lv_i2l (v := (4 : Int32).toInt64) hx hb dL_law_600 rfl ?_
  refine W.lcmp hx hb dL_law_601 ?_
  refine lv_topi (fun v213 ev213 => ?_)
  obtain rfl : v213 = 0 := ev213.trans (by decide)
  refine lv_if_eq (tgt := 607) hx hb dL_law_602 (by decide) (fun c9 => ?_) (fun c9 => ?_)
  rotate_left
  · exact absurd (by decide) c9
  refine lv_goto (tgt := 1349) hx hb dL_law_607 (by decide) ?_
  refine lv_iinc (v := 35) (lv' := [(4, .int 35), (6, .int 4), (5, .int 0), (3, .ref q16), (2, .ref q11), (1, .ref q1), (0, .ref b)]) hx hb dL_law_1349 hl (k := 2) rfl (by decide) (by decide) rfl (fun ls hl => ?_)
  refine lv_goto (tgt := 27) hx hb dL_law_1352 (by decide) ?_
  have hP9 := hP.sub (ws' := [(q16, .inr (7, [.long ((4 : Int32).toInt64), .null])), (q1, .inr (6, [.ref al5, .int 0, .int 0, .int 0, .ref sa6, .ref sb7, .ref b8, .ref sc9])), (al5, .inr (4, [.int mc170, .ref ed30, .int 4])), (ed30, .inl (cO, 10, .inr (.inr (.inr (.inr (va_up (va_up (va_up (va_up (fun _ => none) 0 (some y32)) 1 (some y63)) 2 (some y117)) 3 (some y171))))))), (b8, .inr (1, [.ref v10, .int 0, .int 0, .int 0])), (v10, .inl (cB, 16, .inl (fun _ => 0))), (y32, .inr (5, [.int 4, .int 4, .ref yw33, .ref yv34, .ref yh35, .int 0])), (yw33, .inl (cI, 4, .inl gw36)), (yv34, .inl (cI, 4, .inl gv37)), (yh35, .inl (cR, 4, .inr (.inr (.inr (.inr gh38))))), (y63, .inr (5, [.int 4, .int 4, .ref yw64, .ref yv65, .ref yh66, .int 1])), (yw64, .inl (cI, 4, .inl gw92)), (yv65, .inl (cI, 4, .inl gv93)), (yh66, .inl (cR, 4, .inr (.inr (.inr (.inr gh94))))), (y117, .inr (5, [.int 4, .int 4, .ref yw118, .ref yv119, .ref yh120, .int 2])), (yw118, .inl (cI, 4, .inl gw146)), (yv119, .inl (cI, 4, .inl gv147)), (yh120, .inl (cR, 4, .inr (.inr (.inr (.inr gh148))))), (y171, .inr (5, [.int 4, .int 4, .ref yw172, .ref yv173, .ref yh174, .int 3])), (yw172, .inl (cI, 4, .inl gw200)), (yv173, .inl (cI, 4, .inl gv201)), (yh174, .inl (cR, 4, .inr (.inr (.inr (.inr gh202))))), (q11, .inr (9, [.int 0, .ref am15, .int 0, .int 0, .int 0])), (am15, .inr (4, [.int mm184, .ref em45, .int 4])), (em45, .inl (cO, 10, .inr (.inr (.inr (.inr (va_up (va_up (va_up (va_up (fun _ => none) 0 (some a47)) 1 (some a77)) 2 (some a131)) 3 (some a185))))))), (a47, .inr (8, [.int 4, .ref wa48, .ref na49])), (wa48, .inl (cI, 4, .inl fw50)), (na49, .inl (cI, 4, .inl fn51)), (a77, .inr (8, [.int 4, .ref wa78, .ref na79])), (wa78, .inl (cI, 4, .inl fw101)), (na79, .inl (cI, 4, .inl fn102)), (a131, .inr (8, [.int 4, .ref wa132, .ref na133])), (wa132, .inl (cI, 4, .inl fw155)), (na133, .inl (cI, 4, .inl fn156)), (a185, .inr (8, [.int 4, .ref wa186, .ref na187])), (wa186, .inl (cI, 4, .inl fw209)), (na187, .inl (cI, 4, .inl fn210))]) [2, 3, 4, 5, 0, 1, 6, 7, 8, 9, 10, 11, 12, 13, 14, 15, 16, 17, 18, 19, 20, 21, 36, 22, 23, 24, 25, 26, 27, 28, 29, 30, 31, 32, 33, 34, 35] rfl
  have hD9 := hD.sub (ws' := [(q16, .inr (7, [.long ((4 : Int32).toInt64), .null])), (q1, .inr (6, [.ref al5, .int 0, .int 0, .int 0, .ref sa6, .ref sb7, .ref b8, .ref sc9])), (al5, .inr (4, [.int mc170, .ref ed30, .int 4])), (ed30, .inl (cO, 10, .inr (.inr (.inr (.inr (va_up (va_up (va_up (va_up (fun _ => none) 0 (some y32)) 1 (some y63)) 2 (some y117)) 3 (some y171))))))), (b8, .inr (1, [.ref v10, .int 0, .int 0, .int 0])), (v10, .inl (cB, 16, .inl (fun _ => 0))), (y32, .inr (5, [.int 4, .int 4, .ref yw33, .ref yv34, .ref yh35, .int 0])), (yw33, .inl (cI, 4, .inl gw36)), (yv34, .inl (cI, 4, .inl gv37)), (yh35, .inl (cR, 4, .inr (.inr (.inr (.inr gh38))))), (y63, .inr (5, [.int 4, .int 4, .ref yw64, .ref yv65, .ref yh66, .int 1])), (yw64, .inl (cI, 4, .inl gw92)), (yv65, .inl (cI, 4, .inl gv93)), (yh66, .inl (cR, 4, .inr (.inr (.inr (.inr gh94))))), (y117, .inr (5, [.int 4, .int 4, .ref yw118, .ref yv119, .ref yh120, .int 2])), (yw118, .inl (cI, 4, .inl gw146)), (yv119, .inl (cI, 4, .inl gv147)), (yh120, .inl (cR, 4, .inr (.inr (.inr (.inr gh148))))), (y171, .inr (5, [.int 4, .int 4, .ref yw172, .ref yv173, .ref yh174, .int 3])), (yw172, .inl (cI, 4, .inl gw200)), (yv173, .inl (cI, 4, .inl gv201)), (yh174, .inl (cR, 4, .inr (.inr (.inr (.inr gh202))))), (q11, .inr (9, [.int 0, .ref am15, .int 0, .int 0, .int 0])), (am15, .inr (4, [.int mm184, .ref em45, .int 4])), (em45, .inl (cO, 10, .inr (.inr (.inr (.inr (va_up (va_up (va_up (va_up (fun _ => none) 0 (some a47)) 1 (some a77)) 2 (some a131)) 3 (some a185))))))), (a47, .inr (8, [.int 4, .ref wa48, .ref na49])), (wa48, .inl (cI, 4, .inl fw50)), (na49, .inl (cI, 4, .inl fn51)), (a77, .inr (8, [.int 4, .ref wa78, .ref na79])), (wa78, .inl (cI, 4, .inl fw101)), (na79, .inl (cI, 4, .inl fn102)), (a131, .inr (8, [.int 4, .ref wa132, .ref na133])), (wa132, .inl (cI, 4, .inl fw155)), (na133, .inl (cI, 4, .inl fn156)), (a185, .inr (8, [.int 4, .ref wa186, .ref na187])), (wa186, .inl (cI, 4, .inl fw209)), (na187, .inl (cI, 4, .inl fn210))]) [2, 3, 4, 5, 0, 1, 6, 7, 8, 9, 10, 11, 12, 13, 14, 15, 16, 17, 18, 19, 20, 21, 36, 22, 23, 24, 25, 26, 27, 28, 29, 30, 31, 32, 33, 34, 35] (by decide) rfl
  rw [hAd] at hD9 hS
  refine W.widen (k := 1000 + 3787 * 0) (n := 1000 + 164571100 * 0) (by omega) (by omega) ?_
  exact zl_loop l dC dI cI cB cR cO zk b q1 al5 b8 (.int 0) (.int 0) (.int 0) (.ref sa6) (.ref sb7) (.ref sc9) ed30 (va_up (va_up (va_up (va_up (fun _ => none) 0 (some y32)) 1 (some y63)) 2 (some y117)) 3 (some y171)) (.int mc170) y32 yw33 yv34 yh35 y63 yw64 yv65 yh66 y117 yw118 yv119 yh120 y171 yw172 yv173 yh174 0 1 2 3 gw36 gv37 gw92 gv93 gw146 gv147 gw200 gv201 gh38 gh94 gh148 gh202 rfl hwgw36 hhgh38 hhgh94 hhgh148 hhgh202 q16 q11 am15 (.int 0) (.int 0) (.int 0) em45 (va_up (va_up (va_up (va_up (fun _ => none) 0 (some a47)) 1 (some a77)) 2 (some a131)) 3 (some a185)) mm184 a47 wa48 na49 a77 wa78 na79 a131 wa132 na133 a185 wa186 na187 fw50 fn51 fw101 fn102 fw155 fn156 fw209 fn210 hwfw50 hnfn51 rfl hwfw101 hnfn102 rfl hwfw155 hnfn156 rfl hwfw209 hnfn210 rfl C1 hZ0 hK 360 0 35 (by omega) (by omega) (.long ((4 : Int32).toInt64)) .null v10 16 0 (fun _ => 0) (.int 0) (.int 0) (by decide) (by decide) (fun _ => rfl) _ _ hP9 hD9 hS (by omega) ls (lv_sub hl [6, 5, 4, 3, 0] rfl)
