set_option maxHeartbeats 8000000 in
set_option maxRecDepth 100000 in
/-- the law on the script, from its entry -/
theorem zl_start (l : Launch) (dC : Nat → ClassId) (dI : Nat → Nat → Nat) (cI cB cR cO : ClassId) (zk : Nat → Nat) {p : Program} {e : Env} {s : State} {mY : MethodId} {below : List Frame} {meth : Method} {c : Code} (b : Nat) (C0 : zl_At p s mY meth c b) (hZ0 : zR zk [] (fun q => s.heap.size ≤ q) s s.heap) (hK : va_K (dC, dI) vwCl (zT cI cB cR cO) s) : W p l e zR2 s mY #[Value.ref b] below meth c s.heap [] 0 0 (zl_Z below s) (entryFrame mY ([Value.ref b] : List Value).toArray 7) := by
  have C1 := C0
  obtain ⟨hx, hb, hr, hml, hown, hts0, hX, hbl, hlocks, hNI⟩ := C0
  have hts := fun (w : Cond) (h : w ∈ wsL_law) => hts0 w (wsL_law_in w h)
  obtain ⟨A, hAd⟩ : ∃ A : Nat → Prop, A = fun q => s.heap.size ≤ q := ⟨_, rfl⟩
  have hA : ∀ q : Nat, s.heap.size ≤ q → A q := fun q h => by rw [hAd]; exact h
  have hAf : ∀ q : Nat, A q → s.heap.size ≤ q := fun q h => by rw [hAd] at h; exact h
  have hbA : ¬ A b := fun h => absurd (hAf b h) (Nat.not_le.mpr hbl)
  have hZ : zR zk [] A s s.heap := by rw [hAd]; exact hZ0
  have hP : va_P (dC, dI) vwCl [] s.heap := fun k q h => by simp at h
  have hD : va_D A [] := ⟨fun i j p q h => by simp at h, fun k q h => by simp at h⟩
  have hS : va_S A s.heap s.heap [] := va_S.rf
  have hz : s.heap.size + 0 ≤ s.heap.size := Nat.le_refl _
  have hl := lv_entry ([.ref b]) (n := 7) (Nat.le_of_ble_eq_true rfl)
  rw [lg_entry_eq]
  generalize (lg_sl ([.ref b]) ++ List.replicate (7 - (lg_sl ([.ref b])).length) Slot.unset).toArray = ls at hl ⊢
  have hl : lv_has ls 7 [(0, .ref b)] := hl
  have hP : va_P (dC, dI) vwCl [] s.heap := hP
  have hD : va_D A [] := hD
  refine zw_new (ci := 6) (fs := [.null, .int 0, .int 0, .int 0, .null, .null, .null, .null]) (C := RX1) (T := TX1) (N := 8) hx hb hts inlX1 tyX1 tyX1_ok hown (hts (.classLink RL 8 RX1) (List.mem_cons_of_mem _ zw_71)) (hts (.instantiable RX1 8) (List.mem_cons_of_mem _ zw_72)) (hts (.initialized RX1) (List.mem_cons_of_mem _ zw_41)) hK hP hD hS hA rfl (fun j hj => by rcases (show j = 0 ∨ j = 1 ∨ j = 2 ∨ j = 3 ∨ j = 4 ∨ j = 5 ∨ j = 6 ∨ j = 7 by omega) with rfl | rfl | rfl | rfl | rfl | rfl | rfl | rfl <;> rfl) (Nat.le_of_ble_eq_true rfl) (Nat.le_of_ble_eq_true rfl) dL_law_0 hz (fun q1 H2 hP hD hS hz => ?_)
  replace hP : va_P (dC, dI) vwCl [(q1, .inr (6, [.null, .int 0, .int 0, .int 0, .null, .null, .null, .null]))] H2 := hP
  replace hD : va_D A [(q1, .inr (6, [.null, .int 0, .int 0, .int 0, .null, .null, .null, .null]))] := hD
  refine W.widen (k := 1) (n := 8) (by omega) (by omega) ?_
  refine lv_dup hx hb dL_law_3 rfl ?_
  have hPc := hP.sub (ws' := [(q1, .inr (6, [.null, .int 0, .int 0, .int 0, .null, .null, .null, .null]))]) [0] rfl
  have hDc := hD.sub (ws' := [(q1, .inr (6, [.null, .int 0, .int 0, .int 0, .null, .null, .null, .null]))]) [0] (by decide) rfl
  have hFc := va_free (wc := [(q1, .inr (6, [.null, .int 0, .int 0, .int 0, .null, .null, .null, .null]))]) hD hS hA [0] rfl
  have hDv := hDc.self (sz := H2.size)
  have hpre := zpre (xs' := []) (av := [.ref q1]) hPc hK (hDc.weaken (fun _ _ _ h => h)) hZ hS hFc (fun r hr => by cases hr)
  refine va_callv (va_runI (As := []) (rest := [.ref q1]) ⟨hx, hb, hml, hown, hts⟩ (k_xin l dC dI cI cB cR cO zk q1 H2.size ) (cwI 0 hts gL_law_X1_init rfl rfl rfl (hts (.initialized RX1) (List.mem_cons_of_mem _ zw_41)) (hts (.methodLink RL 117 yX1_init) (List.mem_cons_of_mem _ zw_73)) (hts (.instanceMethod yX1_init) (List.mem_cons_of_mem _ zw_74)) rfl (by decide +kernel) ⟨Nat.le_of_ble_eq_true rfl, Nat.le_of_ble_eq_true rfl⟩) ⟨zblind, hpre⟩ rfl rfl hl.1 rfl (lv_room (Nat.le_of_ble_eq_true rfl)) dL_law_4 ⟨Nat.le_of_ble_eq_true rfl, Nat.le_of_ble_eq_true rfl⟩) hS (fun q _ h => hFc q h) hFc (fun u t H3 locs ht hvm hw hB hz1 hk1 hS => ?_)
  obtain ⟨al5, sa6, sb7, b8, sc9, v10, ⟨hP1, hK1, hD1, hz2⟩⟩ := hB
  rw [ht] at hP1 hz2
  have hPD9 := va_join (wr := []) (w1 := [(q1, .inr (6, [.ref al5, .int 0, .int 0, .int 0, .ref sa6, .ref sb7, .ref b8, .ref sc9])), (al5, .inr (4, [.int 0, .ref (zk 0), .int 0])), (b8, .inr (1, [.ref v10, .int 0, .int 0, .int 0])), (v10, .inl (cB, 16, .inl (fun _ => 0)))]) hP hD [0] [] rfl rfl (by decide) (by decide) hk1 hFc hP1 hD1
  clear hPc hDc hFc hDv hpre hP hD hP1 hK1 hD1
  obtain ⟨hP, hD⟩ := hPD9
  replace hz : s.heap.size + 14 ≤ H3.size := by omega
  clear hz2
  replace hP : va_P (dC, dI) vwCl [(q1, .inr (6, [.ref al5, .int 0, .int 0, .int 0, .ref sa6, .ref sb7, .ref b8, .ref sc9])), (al5, .inr (4, [.int 0, .ref (zk 0), .int 0])), (b8, .inr (1, [.ref v10, .int 0, .int 0, .int 0])), (v10, .inl (cB, 16, .inl (fun _ => 0)))] H3 := hP
  replace hD : va_D A [(q1, .inr (6, [.ref al5, .int 0, .int 0, .int 0, .ref sa6, .ref sb7, .ref b8, .ref sc9])), (al5, .inr (4, [.int 0, .ref (zk 0), .int 0])), (b8, .inr (1, [.ref v10, .int 0, .int 0, .int 0])), (v10, .inl (cB, 16, .inl (fun _ => 0)))] := hD
  refine W.widen (k := 14) (n := 69) (by omega) (by omega) ?_
  refine lv_astore_n (lv' := [(1, .ref q1), (0, .ref b)]) hx hb dL_law_7 rfl hl (by decide) rfl (fun ls hl => ?_)
  refine zw_new (ci := 9) (fs := [.int 0, .null, .int 0, .int 0, .int 0]) (C := RX4) (T := TX4) (N := 5) hx hb hts inlX4 tyX4 tyX4_ok hown (hts (.classLink RL 118 RX4) (List.mem_cons_of_mem _ zw_1125)) (hts (.instantiable RX4 5) (List.mem_cons_of_mem _ zw_1126)) (hts (.initialized RX4) (List.mem_cons_of_mem _ zw_50)) hK hP hD hS hA rfl (fun j hj => by rcases (show j = 0 ∨ j = 1 ∨ j = 2 ∨ j = 3 ∨ j = 4 by omega) with rfl | rfl | rfl | rfl | rfl <;> rfl) (Nat.le_of_ble_eq_true rfl) (Nat.le_of_ble_eq_true rfl) dL_law_8 hz (fun q11 H12 hP hD hS hz => ?_)
  replace hP : va_P (dC, dI) vwCl [(q1, .inr (6, [.ref al5, .int 0, .int 0, .int 0, .ref sa6, .ref sb7, .ref b8, .ref sc9])), (al5, .inr (4, [.int 0, .ref (zk 0), .int 0])), (b8, .inr (1, [.ref v10, .int 0, .int 0, .int 0])), (v10, .inl (cB, 16, .inl (fun _ => 0))), (q11, .inr (9, [.int 0, .null, .int 0, .int 0, .int 0]))] H12 := hP
  replace hD : va_D A [(q1, .inr (6, [.ref al5, .int 0, .int 0, .int 0, .ref sa6, .ref sb7, .ref b8, .ref sc9])), (al5, .inr (4, [.int 0, .ref (zk 0), .int 0])), (b8, .inr (1, [.ref v10, .int 0, .int 0, .int 0])), (v10, .inl (cB, 16, .inl (fun _ => 0))), (q11, .inr (9, [.int 0, .null, .int 0, .int 0, .int 0]))] := hD
  refine W.widen (k := 15) (n := 74) (by omega) (by omega) ?_
  refine lv_dup hx hb dL_law_11 rfl ?_
  have hPc := hP.sub (ws' := [(q11, .inr (9, [.int 0, .null, .int 0, .int 0, .int 0]))]) [4] rfl
  have hDc := hD.sub (ws' := [(q11, .inr (9, [.int 0, .null, .int 0, .int 0, .int 0]))]) [4] (by decide) rfl
  have hFc := va_free (wc := [(q11, .inr (9, [.int 0, .null, .int 0, .int 0, .int 0]))]) hD hS hA [4] rfl
  have hDv := hDc.self (sz := H12.size)
  have hpre := zpre (xs' := []) (av := [.ref q11]) hPc hK (hDc.weaken (fun _ _ _ h => h)) hZ hS hFc (fun r hr => by cases hr)
  refine va_callv (va_runI (As := []) (rest := [.ref q11]) ⟨hx, hb, hml, hown, hts⟩ (k_min l dC dI cI cB cR cO zk q11 H12.size ) (cwI 0 hts gL_law_X4_init rfl rfl rfl (hts (.initialized RX4) (List.mem_cons_of_mem _ zw_50)) (hts (.methodLink RL 120 yX4_init) (List.mem_cons_of_mem _ zw_1127)) (hts (.instanceMethod yX4_init) (List.mem_cons_of_mem _ zw_1128)) rfl (by decide +kernel) ⟨Nat.le_of_ble_eq_true rfl, Nat.le_of_ble_eq_true rfl⟩) ⟨zblind, hpre⟩ rfl rfl hl.1 rfl (lv_room (Nat.le_of_ble_eq_true rfl)) dL_law_12 ⟨Nat.le_of_ble_eq_true rfl, Nat.le_of_ble_eq_true rfl⟩) hS (fun q _ h => hFc q h) hFc (fun u t H13 locs ht hvm hw hB hz1 hk1 hS => ?_)
  obtain ⟨am15, ⟨hP1, hK1, hD1, hz2⟩⟩ := hB
  rw [ht] at hP1 hz2
  have hPD9 := va_join (wr := [(q1, .inr (6, [.ref al5, .int 0, .int 0, .int 0, .ref sa6, .ref sb7, .ref b8, .ref sc9])), (al5, .inr (4, [.int 0, .ref (zk 0), .int 0])), (b8, .inr (1, [.ref v10, .int 0, .int 0, .int 0])), (v10, .inl (cB, 16, .inl (fun _ => 0)))]) (w1 := [(q11, .inr (9, [.int 0, .ref am15, .int 0, .int 0, .int 0])), (am15, .inr (4, [.int 0, .ref (zk 0), .int 0]))]) hP hD [4] [0, 1, 2, 3] rfl rfl (by decide) (by decide) hk1 hFc hP1 hD1
  clear hPc hDc hFc hDv hpre hP hD hP1 hK1 hD1
  obtain ⟨hP, hD⟩ := hPD9
  replace hz : s.heap.size + 16 ≤ H13.size := by omega
  clear hz2
  replace hP : va_P (dC, dI) vwCl [(q1, .inr (6, [.ref al5, .int 0, .int 0, .int 0, .ref sa6, .ref sb7, .ref b8, .ref sc9])), (al5, .inr (4, [.int 0, .ref (zk 0), .int 0])), (b8, .inr (1, [.ref v10, .int 0, .int 0, .int 0])), (v10, .inl (cB, 16, .inl (fun _ => 0))), (q11, .inr (9, [.int 0, .ref am15, .int 0, .int 0, .int 0])), (am15, .inr (4, [.int 0, .ref (zk 0), .int 0]))] H13 := hP
  replace hD : va_D A [(q1, .inr (6, [.ref al5, .int 0, .int 0, .int 0, .ref sa6, .ref sb7, .ref b8, .ref sc9])), (al5, .inr (4, [.int 0, .ref (zk 0), .int 0])), (b8, .inr (1, [.ref v10, .int 0, .int 0, .int 0])), (v10, .inl (cB, 16, .inl (fun _ => 0))), (q11, .inr (9, [.int 0, .ref am15, .int 0, .int 0, .int 0])), (am15, .inr (4, [.int 0, .ref (zk 0), .int 0]))] := hD
  refine W.widen (k := 16) (n := 77) (by omega) (by omega) ?_
  refine lv_astore_n (lv' := [(2, .ref q11), (1, .ref q1), (0, .ref b)]) hx hb dL_law_15 rfl hl (by decide) rfl (fun ls hl => ?_)
  refine zw_new (ci := 7) (fs := [.long 0, .null]) (C := RX2) (T := TX2) (N := 2) hx hb hts inlX2 tyX2 tyX2_ok hown (hts (.classLink RL 14 RX2) (List.mem_cons_of_mem _ zw_770)) (hts (.instantiable RX2 2) (List.mem_cons_of_mem _ zw_771)) (hts (.initialized RX2) (List.mem_cons_of_mem _ zw_51)) hK hP hD hS hA rfl (fun j hj => by rcases (show j = 0 ∨ j = 1 by omega) with rfl | rfl <;> rfl) (Nat.le_of_ble_eq_true rfl) (Nat.le_of_ble_eq_true rfl) dL_law_16 hz (fun q16 H17 hP hD hS hz => ?_)
  replace hP : va_P (dC, dI) vwCl [(q1, .inr (6, [.ref al5, .int 0, .int 0, .int 0, .ref sa6, .ref sb7, .ref b8, .ref sc9])), (al5, .inr (4, [.int 0, .ref (zk 0), .int 0])), (b8, .inr (1, [.ref v10, .int 0, .int 0, .int 0])), (v10, .inl (cB, 16, .inl (fun _ => 0))), (q11, .inr (9, [.int 0, .ref am15, .int 0, .int 0, .int 0])), (am15, .inr (4, [.int 0, .ref (zk 0), .int 0])), (q16, .inr (7, [.long 0, .null]))] H17 := hP
  replace hD : va_D A [(q1, .inr (6, [.ref al5, .int 0, .int 0, .int 0, .ref sa6, .ref sb7, .ref b8, .ref sc9])), (al5, .inr (4, [.int 0, .ref (zk 0), .int 0])), (b8, .inr (1, [.ref v10, .int 0, .int 0, .int 0])), (v10, .inl (cB, 16, .inl (fun _ => 0))), (q11, .inr (9, [.int 0, .ref am15, .int 0, .int 0, .int 0])), (am15, .inr (4, [.int 0, .ref (zk 0), .int 0])), (q16, .inr (7, [.long 0, .null]))] := hD
  refine W.widen (k := 17) (n := 79) (by omega) (by omega) ?_
  refine lv_dup hx hb dL_law_19 rfl ?_
  have hPc := hP.sub (ws' := [(q16, .inr (7, [.long 0, .null]))]) [6] rfl
  have hDc := hD.sub (ws' := [(q16, .inr (7, [.long 0, .null]))]) [6] (by decide) rfl
  have hFc := va_free (wc := [(q16, .inr (7, [.long 0, .null]))]) hD hS hA [6] rfl
  have hDv := hDc.self (sz := H17.size)
  have hpre := zpre (xs' := []) (av := [.ref q16]) hPc hK (hDc.weaken (fun _ _ _ h => h)) hZ hS hFc (fun r hr => by cases hr)
  refine va_callv (va_runIN (As := []) (rest := [.ref q16]) ⟨hx, hb, hml, hown, hts⟩ (k_oin l dC dI cI cB cR cO zk q16 H17.size ) ⟨va_cnB 0 hts gL_law_X2_init_n121 rfl rfl rfl hNI (hts (.initialized RX2) (List.mem_cons_of_mem _ zw_51)) (by decide +kernel) ⟨Nat.le_of_ble_eq_true rfl, Nat.le_of_ble_eq_true rfl⟩, rfl, hts (.instanceMethod yX2_init) (List.mem_cons_of_mem _ zw_773)⟩ ⟨zblind, hpre⟩ rfl rfl hl.1 rfl (lv_room (Nat.le_of_ble_eq_true rfl)) dL_law_20 ⟨Nat.le_of_ble_eq_true rfl, Nat.le_of_ble_eq_true rfl⟩) hS (fun q _ h => hFc q h) hFc (fun u t H18 locs ht hvm hw hB hz1 hk1 hS => ?_)
  obtain ⟨hP1, hK1, hD1, hz2⟩ := hB
  rw [ht] at hP1 hz2
  have hPD9 := va_join (wr := [(q1, .inr (6, [.ref al5, .int 0, .int 0, .int 0, .ref sa6, .ref sb7, .ref b8, .ref sc9])), (al5, .inr (4, [.int 0, .ref (zk 0), .int 0])), (b8, .inr (1, [.ref v10, .int 0, .int 0, .int 0])), (v10, .inl (cB, 16, .inl (fun _ => 0))), (q11, .inr (9, [.int 0, .ref am15, .int 0, .int 0, .int 0])), (am15, .inr (4, [.int 0, .ref (zk 0), .int 0]))]) (w1 := [(q16, .inr (7, [.long 0, .null]))]) hP hD [6] [0, 1, 2, 3, 4, 5] rfl rfl (by decide) (by decide) hk1 hFc hP1 hD1
  clear hPc hDc hFc hDv hpre hP hD hP1 hK1 hD1
  obtain ⟨hP, hD⟩ := hPD9
  replace hz : s.heap.size + 17 ≤ H18.size := by omega
  clear hz2
  replace hP : va_P (dC, dI) vwCl [(q1, .inr (6, [.ref al5, .int 0, .int 0, .int 0, .ref sa6, .ref sb7, .ref b8, .ref sc9])), (al5, .inr (4, [.int 0, .ref (zk 0), .int 0])), (b8, .inr (1, [.ref v10, .int 0, .int 0, .int 0])), (v10, .inl (cB, 16, .inl (fun _ => 0))), (q11, .inr (9, [.int 0, .ref am15, .int 0, .int 0, .int 0])), (am15, .inr (4, [.int 0, .ref (zk 0), .int 0])), (q16, .inr (7, [.long 0, .null]))] H18 := hP
  replace hD : va_D A [(q1, .inr (6, [.ref al5, .int 0, .int 0, .int 0, .ref sa6, .ref sb7, .ref b8, .ref sc9])), (al5, .inr (4, [.int 0, .ref (zk 0), .int 0])), (b8, .inr (1, [.ref v10, .int 0, .int 0, .int 0])), (v10, .inl (cB, 16, .inl (fun _ => 0))), (q11, .inr (9, [.int 0, .ref am15, .int 0, .int 0, .int 0])), (am15, .inr (4, [.int 0, .ref (zk 0), .int 0])), (q16, .inr (7, [.long 0, .null]))] := hD
  refine W.widen (k := 17) (n := 79) (by omega) (by omega) ?_
  refine lv_astore_n (lv' := [(3, .ref q16), (2, .ref q11), (1, .ref q1), (0, .ref b)]) hx hb dL_law_23 rfl hl (by decide) rfl (fun ls hl => ?_)
  refine lv_iconst (v := 0) hx hb dL_law_24 (by decide) ?_
  refine lv_istore (lv' := [(4, .int 0), (3, .ref q16), (2, .ref q11), (1, .ref q1), (0, .ref b)]) hx hb dL_law_25 hl (by decide) rfl (fun ls hl => ?_)
  refine lv_iload hx hb dL_law_27 (lv_at hl 0 rfl) ?_
  refine lv_aload_n hx hb dL_law_29 rfl (lv_at hl 4 rfl) ?_
  refine va_slen hx hb hX hbl hbA hS dL_law_30 ?_
  refine W.eq (g2 := F0 mY 31 ls [.int 1835, .int 0]) rfl ?_
  refine lv_iconst (v := 5) hx hb dL_law_31 (by decide) ?_
  refine lv_isub hx hb dL_law_32 ?_
  refine lv_topi (fun v20 ev20 => ?_)
  obtain rfl : v20 = 1830 := ev20.trans (by decide)
  refine lv_icmp_gt (tgt := 1327) hx hb dL_law_33 (by decide) (fun c9 => ?_) (fun c9 => ?_)
  · exact absurd c9 (by decide)
  refine lv_aload_n hx hb dL_law_36 rfl (lv_at hl 4 rfl) ?_
  refine lv_iload hx hb dL_law_37 (lv_at hl 0 rfl) ?_
  refine va_sld hx hb hX hbl hbA hS (by unfold vp_in; decide) dL_law_39 ?_
  refine lv_topi (fun v21 ev21 => ?_)
  obtain rfl : v21 = 0 := ev21.trans (by decide)
  refine lv_bipush (v := 31) hx hb dL_law_40 (by decide) ?_
  refine lv_iand hx hb dL_law_42 ?_
  refine lv_topi (fun v22 ev22 => ?_)
  obtain rfl : v22 = 0 := ev22.trans (by decide)
  refine lv_tableIn (off := 141) (tgt := 184) hx hb dL_law_43 (by decide) (by decide) (by decide) (by decide) ?_
  refine lv_aload_n hx hb dL_law_184 rfl (lv_at hl 3 rfl) ?_
  refine lv_aload_n hx hb dL_law_185 rfl (lv_at hl 4 rfl) ?_
  refine lv_iload hx hb dL_law_186 (lv_at hl 0 rfl) ?_
  refine lv_iconst (v := 1) hx hb dL_law_188 (by decide) ?_
  refine lv_iadd hx hb dL_law_189 ?_
  refine lv_topi (fun v23 ev23 => ?_)
  obtain rfl : v23 = 1 := ev23.trans (by decide)
  refine va_sld hx hb hX hbl hbA hS (by unfold vp_in; decide) dL_law_190 ?_
  refine lv_topi (fun v24 ev24 => ?_)
  obtain rfl : v24 = 4 := ev24.trans (by decide)
  refine lv_aload_n hx hb dL_law_191 rfl (lv_at hl 4 rfl) ?_
  refine lv_iload hx hb dL_law_192 (lv_at hl 0 rfl) ?_
  refine lv_iconst (v := 2) hx hb dL_law_194 (by decide) ?_
  refine lv_iadd hx hb dL_law_195 ?_
  refine lv_topi (fun v25 ev25 => ?_)
  obtain rfl : v25 = 2 := ev25.trans (by decide)
  refine va_sld hx hb hX hbl hbA hS (by unfold vp_in; decide) dL_law_196 ?_
  refine lv_topi (fun v26 ev26 => ?_)
  obtain rfl : v26 = 4 := ev26.trans (by decide)
  refine lv_aload_n hx hb dL_law_197 rfl (lv_at hl 1 rfl) ?_
  have hPc := hP.sub (ws' := [(q16, .inr (7, [.long 0, .null])), (q1, .inr (6, [.ref al5, .int 0, .int 0, .int 0, .ref sa6, .ref sb7, .ref b8, .ref sc9])), (al5, .inr (4, [.int 0, .ref (zk 0), .int 0]))]) [6, 0, 1] rfl
  have hDc := hD.sub (ws' := [(q16, .inr (7, [.long 0, .null])), (q1, .inr (6, [.ref al5, .int 0, .int 0, .int 0, .ref sa6, .ref sb7, .ref b8, .ref sc9])), (al5, .inr (4, [.int 0, .ref (zk 0), .int 0]))]) [6, 0, 1] (by decide) rfl
  have hFc := va_free (wc := [(q16, .inr (7, [.long 0, .null])), (q1, .inr (6, [.ref al5, .int 0, .int 0, .int 0, .ref sa6, .ref sb7, .ref b8, .ref sc9])), (al5, .inr (4, [.int 0, .ref (zk 0), .int 0]))]) hD hS hA [6, 0, 1] rfl
  have hDv := hDc.self (sz := H18.size)
  have hpre := zpre (xs' := []) (av := [.ref q1, .int 4, .int 4, .ref q16]) hPc hK (hDc.weaken (fun _ _ _ h => h)) hZ hS hFc (fun r hr => by cases hr)
  refine va_calli (vx_runSW (As := [.ref q1, .int 4, .int 4, .ref q16]) (rest := []) ⟨hx, hb, hml, hown, hts⟩ (k_LmX0 l dC dI cI cB cR cO zk q1 al5 b8 (.int 0) (.int 0) (.int 0) (.ref sa6) (.ref sb7) (.ref sc9) 0 (fun _ => none) 0 q16 (.long 0) .null H18.size ) (vx_cwSW 4 hts gL_law_L_make rfl rfl rfl (by decide +kernel) ⟨Nat.le_of_ble_eq_true rfl, Nat.le_of_ble_eq_true rfl⟩) ⟨zblind, hpre⟩ rfl rfl hl.1 rfl (lv_room (Nat.le_of_ble_eq_true rfl)) dL_law_198 ⟨Nat.le_of_ble_eq_true rfl, Nat.le_of_ble_eq_true rfl⟩) hS (fun q _ h => hFc q h) hFc (fun r28 u t H27 locs ht hvm hw hB hz1 hk1 hS => ?_)
  obtain ⟨on29, ed30, mc31, y32, yw33, yv34, yh35, gw36, gv37, gh38, ⟨hP1, hK1, hD1, hz2⟩, hwgw36, hhgh38⟩ := hB
  rw [ht] at hP1 hz2
  have hPD9 := va_join (wr := [(b8, .inr (1, [.ref v10, .int 0, .int 0, .int 0])), (v10, .inl (cB, 16, .inl (fun _ => 0))), (q11, .inr (9, [.int 0, .ref am15, .int 0, .int 0, .int 0])), (am15, .inr (4, [.int 0, .ref (zk 0), .int 0]))]) (w1 := [(q16, .inr (7, [.long on29, .null])), (q1, .inr (6, [.ref al5, .int 0, .int 0, .int 0, .ref sa6, .ref sb7, .ref b8, .ref sc9])), (al5, .inr (4, [.int mc31, .ref ed30, .int 1])), (ed30, .inl (cO, 10, .inr (.inr (.inr (.inr (va_up (fun _ => none) 0 (some y32))))))), (y32, .inr (5, [.int 4, .int 4, .ref yw33, .ref yv34, .ref yh35, .int 0])), (yw33, .inl (cI, 4, .inl gw36)), (yv34, .inl (cI, 4, .inl gv37)), (yh35, .inl (cR, 4, .inr (.inr (.inr (.inr gh38)))))]) hP hD [6, 0, 1] [2, 3, 4, 5] rfl rfl (by decide) (by decide) hk1 hFc hP1 hD1
  clear hPc hDc hFc hDv hpre hP hD hP1 hK1 hD1
  obtain ⟨hP, hD⟩ := hPD9
  replace hz : s.heap.size + 22 ≤ H27.size := by omega
  clear hz2
  replace hP : va_P (dC, dI) vwCl [(b8, .inr (1, [.ref v10, .int 0, .int 0, .int 0])), (v10, .inl (cB, 16, .inl (fun _ => 0))), (q11, .inr (9, [.int 0, .ref am15, .int 0, .int 0, .int 0])), (am15, .inr (4, [.int 0, .ref (zk 0), .int 0])), (q16, .inr (7, [.long on29, .null])), (q1, .inr (6, [.ref al5, .int 0, .int 0, .int 0, .ref sa6, .ref sb7, .ref b8, .ref sc9])), (al5, .inr (4, [.int mc31, .ref ed30, .int 1])), (ed30, .inl (cO, 10, .inr (.inr (.inr (.inr (va_up (fun _ => none) 0 (some y32))))))), (y32, .inr (5, [.int 4, .int 4, .ref yw33, .ref yv34, .ref yh35, .int 0])), (yw33, .inl (cI, 4, .inl gw36)), (yv34, .inl (cI, 4, .inl gv37)), (yh35, .inl (cR, 4, .inr (.inr (.inr (.inr gh38)))))] H27 := hP
  replace hD : va_D A [(b8, .inr (1, [.ref v10, .int 0, .int 0, .int 0])), (v10, .inl (cB, 16, .inl (fun _ => 0))), (q11, .inr (9, [.int 0, .ref am15, .int 0, .int 0, .int 0])), (am15, .inr (4, [.int 0, .ref (zk 0), .int 0])), (q16, .inr (7, [.long on29, .null])), (q1, .inr (6, [.ref al5, .int 0, .int 0, .int 0, .ref sa6, .ref sb7, .ref b8, .ref sc9])), (al5, .inr (4, [.int mc31, .ref ed30, .int 1])), (ed30, .inl (cO, 10, .inr (.inr (.inr (.inr (va_up (fun _ => none) 0 (some y32))))))), (y32, .inr (5, [.int 4, .int 4, .ref yw33, .ref yv34, .ref yh35, .int 0])), (yw33, .inl (cI, 4, .inl gw36)), (yv34, .inl (cI, 4, .inl gv37)), (yh35, .inl (cR, 4, .inr (.inr (.inr (.inr gh38)))))] := hD
  refine W.widen (k := 22) (n := 107) (by omega) (by omega) ?_
  refine lv_istore (lv' := [(5, .int r28), (4, .int 0), (3, .ref q16), (2, .ref q11), (1, .ref q1), (0, .ref b)]) hx hb dL_law_201 hl (by decide) rfl (fun ls hl => ?_)
  refine lv_aload_n hx hb dL_law_203 rfl (lv_at hl 3 rfl) ?_
  refine lv_aload_n hx hb dL_law_204 rfl (lv_at hl 5 rfl) ?_
  refine lv_iload hx hb dL_law_205 (lv_at hl 1 rfl) ?_
  refine lv_iconst (v := 1) hx hb dL_law_207 (by decide) ?_
  refine lv_iadd hx hb dL_law_208 ?_
  refine lv_topi (fun v39 ev39 => ?_)
  obtain rfl : v39 = 1 := ev39.trans (by decide)
  refine va_sld hx hb hX hbl hbA hS (by unfold vp_in; decide) dL_law_209 ?_
  refine lv_topi (fun v40 ev40 => ?_)
  obtain rfl : v40 = 4 := ev40.trans (by decide)
  refine lv_aload_n hx hb dL_law_210 rfl (lv_at hl 5 rfl) ?_
  refine lv_iload hx hb dL_law_211 (lv_at hl 1 rfl) ?_
  refine lv_iconst (v := 2) hx hb dL_law_213 (by decide) ?_
  refine lv_iadd hx hb dL_law_214 ?_
  refine lv_topi (fun v41 ev41 => ?_)
  obtain rfl : v41 = 2 := ev41.trans (by decide)
  refine va_sld hx hb hX hbl hbA hS (by unfold vp_in; decide) dL_law_215 ?_
  refine lv_topi (fun v42 ev42 => ?_)
  obtain rfl : v42 = 4 := ev42.trans (by decide)
  have hPc := hP.sub (ws' := [(q11, .inr (9, [.int 0, .ref am15, .int 0, .int 0, .int 0])), (am15, .inr (4, [.int 0, .ref (zk 0), .int 0]))]) [2, 3] rfl
  have hDc := hD.sub (ws' := [(q11, .inr (9, [.int 0, .ref am15, .int 0, .int 0, .int 0])), (am15, .inr (4, [.int 0, .ref (zk 0), .int 0]))]) [2, 3] (by decide) rfl
  have hFc := va_free (wc := [(q11, .inr (9, [.int 0, .ref am15, .int 0, .int 0, .int 0])), (am15, .inr (4, [.int 0, .ref (zk 0), .int 0]))]) hD hS hA [2, 3] rfl
  have hDv := hDc.self (sz := H27.size)
  have hpre := zpre (xs' := []) (av := [.ref q11, .int 4, .int 4]) hPc hK (hDc.weaken (fun _ _ _ h => h)) hZ hS hFc (fun r hr => by cases hr)
  refine va_calli (va_runV (As := [.int 4, .int 4]) (rest := []) ⟨hx, hb, hml, hown, hts⟩ (k_mkM0 l dC dI cI cB cR cO zk q11 am15 (.int 0) (.int 0) (.int 0) (.int 0) 0 (fun _ => none) 0 H27.size ) (cwV 2 hts gL_law_X4_make rfl rfl rfl (by decide +kernel) ⟨Nat.le_of_ble_eq_true rfl, Nat.le_of_ble_eq_true rfl⟩) ⟨zblind, (zrecv_9 hK hPc (q0 := 0) rfl), hpre⟩ rfl rfl hl.1 rfl (lv_room (Nat.le_of_ble_eq_true rfl)) dL_law_216 ⟨Nat.le_of_ble_eq_true rfl, Nat.le_of_ble_eq_true rfl⟩) hS (fun q _ h => hFc q h) hFc (fun r44 u t H43 locs ht hvm hw hB hz1 hk1 hS => ?_)
  obtain rfl : 0 = r44 := (show r44 = 0 from hw).symm
  obtain ⟨em45, mm46, a47, wa48, na49, fw50, fn51, ⟨hP1, hK1, hD1, hz2⟩, hwfw50, hnfn51⟩ := hB
  rw [ht] at hP1 hz2
  have hPD9 := va_join (wr := [(b8, .inr (1, [.ref v10, .int 0, .int 0, .int 0])), (v10, .inl (cB, 16, .inl (fun _ => 0))), (q16, .inr (7, [.long on29, .null])), (q1, .inr (6, [.ref al5, .int 0, .int 0, .int 0, .ref sa6, .ref sb7, .ref b8, .ref sc9])), (al5, .inr (4, [.int mc31, .ref ed30, .int 1])), (ed30, .inl (cO, 10, .inr (.inr (.inr (.inr (va_up (fun _ => none) 0 (some y32))))))), (y32, .inr (5, [.int 4, .int 4, .ref yw33, .ref yv34, .ref yh35, .int 0])), (yw33, .inl (cI, 4, .inl gw36)), (yv34, .inl (cI, 4, .inl gv37)), (yh35, .inl (cR, 4, .inr (.inr (.inr (.inr gh38)))))]) (w1 := [(q11, .inr (9, [.int 0, .ref am15, .int 0, .int 0, .int 0])), (am15, .inr (4, [.int mm46, .ref em45, .int 1])), (em45, .inl (cO, 10, .inr (.inr (.inr (.inr (va_up (fun _ => none) 0 (some a47))))))), (a47, .inr (8, [.int 4, .ref wa48, .ref na49])), (wa48, .inl (cI, 4, .inl fw50)), (na49, .inl (cI, 4, .inl fn51))]) hP hD [2, 3] [0, 1, 4, 5, 6, 7, 8, 9, 10, 11] rfl rfl (by decide) (by decide) hk1 hFc hP1 hD1
  clear hPc hDc hFc hDv hpre hP hD hP1 hK1 hD1
  obtain ⟨hP, hD⟩ := hPD9
  replace hz : s.heap.size + 26 ≤ H43.size := by omega
  clear hz2
  replace hP : va_P (dC, dI) vwCl [(b8, .inr (1, [.ref v10, .int 0, .int 0, .int 0])), (v10, .inl (cB, 16, .inl (fun _ => 0))), (q16, .inr (7, [.long on29, .null])), (q1, .inr (6, [.ref al5, .int 0, .int 0, .int 0, .ref sa6, .ref sb7, .ref b8, .ref sc9])), (al5, .inr (4, [.int mc31, .ref ed30, .int 1])), (ed30, .inl (cO, 10, .inr (.inr (.inr (.inr (va_up (fun _ => none) 0 (some y32))))))), (y32, .inr (5, [.int 4, .int 4, .ref yw33, .ref yv34, .ref yh35, .int 0])), (yw33, .inl (cI, 4, .inl gw36)), (yv34, .inl (cI, 4, .inl gv37)), (yh35, .inl (cR, 4, .inr (.inr (.inr (.inr gh38))))), (q11, .inr (9, [.int 0, .ref am15, .int 0, .int 0, .int 0])), (am15, .inr (4, [.int mm46, .ref em45, .int 1])), (em45, .inl (cO, 10, .inr (.inr (.inr (.inr (va_up (fun _ => none) 0 (some a47))))))), (a47, .inr (8, [.int 4, .ref wa48, .ref na49])), (wa48, .inl (cI, 4, .inl fw50)), (na49, .inl (cI, 4, .inl fn51))] H43 := hP
  replace hD : va_D A [(b8, .inr (1, [.ref v10, .int 0, .int 0, .int 0])), (v10, .inl (cB, 16, .inl (fun _ => 0))), (q16, .inr (7, [.long on29, .null])), (q1, .inr (6, [.ref al5, .int 0, .int 0, .int 0, .ref sa6, .ref sb7, .ref b8, .ref sc9])), (al5, .inr (4, [.int mc31, .ref ed30, .int 1])), (ed30, .inl (cO, 10, .inr (.inr (.inr (.inr (va_up (fun _ => none) 0 (some y32))))))), (y32, .inr (5, [.int 4, .int 4, .ref yw33, .ref yv34, .ref yh35, .int 0])), (yw33, .inl (cI, 4, .inl gw36)), (yv34, .inl (cI, 4, .inl gv37)), (yh35, .inl (cR, 4, .inr (.inr (.inr (.inr gh38))))), (q11, .inr (9, [.int 0, .ref am15, .int 0, .int 0, .int 0])), (am15, .inr (4, [.int mm46, .ref em45, .int 1])), (em45, .inl (cO, 10, .inr (.inr (.inr (.inr (va_up (fun _ => none) 0 (some a47))))))), (a47, .inr (8, [.int 4, .ref wa48, .ref na49])), (wa48, .inl (cI, 4, .inl fw50)), (na49, .inl (cI, 4, .inl fn51))] := hD
  refine W.widen (k := 26) (n := 128) (by omega) (by omega) ?_
  refine lv_istore (lv' := [(6, .int 0), (5, .int r28), (4, .int 0), (3, .ref q16), (2, .ref q11), (1, .ref q1), (0, .ref b)]) hx hb dL_law_219 hl (by decide) rfl (fun ls hl => ?_)
  refine lv_goto (tgt := 1321) hx hb dL_law_221 (by decide) ?_
  refine lv_iinc (v := 5) (lv' := [(4, .int 5), (6, .int 0), (5, .int r28), (3, .ref q16), (2, .ref q11), (1, .ref q1), (0, .ref b)]) hx hb dL_law_1321 hl (k := 2) rfl (by decide) (by decide) rfl (fun ls hl => ?_)
  refine lv_goto (tgt := 27) hx hb dL_law_1324 (by decide) ?_
  refine lv_iload hx hb dL_law_27 (lv_at hl 0 rfl) ?_
  refine lv_aload_n hx hb dL_law_29 rfl (lv_at hl 6 rfl) ?_
  refine va_slen hx hb hX hbl hbA hS dL_law_30 ?_
  refine W.eq (g2 := F0 mY 31 ls [.int 1835, .int 5]) rfl ?_
  refine lv_iconst (v := 5) hx hb dL_law_31 (by decide) ?_
  refine lv_isub hx hb dL_law_32 ?_
  refine lv_topi (fun v52 ev52 => ?_)
  obtain rfl : v52 = 1830 := ev52.trans (by decide)
  refine lv_icmp_gt (tgt := 1327) hx hb dL_law_33 (by decide) (fun c9 => ?_) (fun c9 => ?_)
  · exact absurd c9 (by decide)
  refine lv_aload_n hx hb dL_law_36 rfl (lv_at hl 6 rfl) ?_
  refine lv_iload hx hb dL_law_37 (lv_at hl 0 rfl) ?_
  refine va_sld hx hb hX hbl hbA hS (by unfold vp_in; decide) dL_law_39 ?_
  refine lv_topi (fun v53 ev53 => ?_)
  obtain rfl : v53 = 0 := ev53.trans (by decide)
  refine lv_bipush (v := 31) hx hb dL_law_40 (by decide) ?_
  refine lv_iand hx hb dL_law_42 ?_
  refine lv_topi (fun v54 ev54 => ?_)
  obtain rfl : v54 = 0 := ev54.trans (by decide)
  refine lv_tableIn (off := 141) (tgt := 184) hx hb dL_law_43 (by decide) (by decide) (by decide) (by decide) ?_
  refine lv_aload_n hx hb dL_law_184 rfl (lv_at hl 5 rfl) ?_
  refine lv_aload_n hx hb dL_law_185 rfl (lv_at hl 6 rfl) ?_
  refine lv_iload hx hb dL_law_186 (lv_at hl 0 rfl) ?_
  refine lv_iconst (v := 1) hx hb dL_law_188 (by decide) ?_
  refine lv_iadd hx hb dL_law_189 ?_
  refine lv_topi (fun v55 ev55 => ?_)
  obtain rfl : v55 = 6 := ev55.trans (by decide)
  refine va_sld hx hb hX hbl hbA hS (by unfold vp_in; decide) dL_law_190 ?_
  refine lv_topi (fun v56 ev56 => ?_)
  obtain rfl : v56 = 4 := ev56.trans (by decide)
  refine lv_aload_n hx hb dL_law_191 rfl (lv_at hl 6 rfl) ?_
  refine lv_iload hx hb dL_law_192 (lv_at hl 0 rfl) ?_
  refine lv_iconst (v := 2) hx hb dL_law_194 (by decide) ?_
  refine lv_iadd hx hb dL_law_195 ?_
  refine lv_topi (fun v57 ev57 => ?_)
  obtain rfl : v57 = 7 := ev57.trans (by decide)
  refine va_sld hx hb hX hbl hbA hS (by unfold vp_in; decide) dL_law_196 ?_
  refine lv_topi (fun v58 ev58 => ?_)
  obtain rfl : v58 = 4 := ev58.trans (by decide)
  refine lv_aload_n hx hb dL_law_197 rfl (lv_at hl 3 rfl) ?_
  have hPc := hP.sub (ws' := [(q16, .inr (7, [.long on29, .null])), (q1, .inr (6, [.ref al5, .int 0, .int 0, .int 0, .ref sa6, .ref sb7, .ref b8, .ref sc9])), (al5, .inr (4, [.int mc31, .ref ed30, .int 1])), (ed30, .inl (cO, 10, .inr (.inr (.inr (.inr (va_up (fun _ => none) 0 (some y32)))))))]) [2, 3, 4, 5] rfl
  have hDc := hD.sub (ws' := [(q16, .inr (7, [.long on29, .null])), (q1, .inr (6, [.ref al5, .int 0, .int 0, .int 0, .ref sa6, .ref sb7, .ref b8, .ref sc9])), (al5, .inr (4, [.int mc31, .ref ed30, .int 1])), (ed30, .inl (cO, 10, .inr (.inr (.inr (.inr (va_up (fun _ => none) 0 (some y32)))))))]) [2, 3, 4, 5] (by decide) rfl
  have hFc := va_free (wc := [(q16, .inr (7, [.long on29, .null])), (q1, .inr (6, [.ref al5, .int 0, .int 0, .int 0, .ref sa6, .ref sb7, .ref b8, .ref sc9])), (al5, .inr (4, [.int mc31, .ref ed30, .int 1])), (ed30, .inl (cO, 10, .inr (.inr (.inr (.inr (va_up (fun _ => none) 0 (some y32)))))))]) hD hS hA [2, 3, 4, 5] rfl
  have hDv := hDc.self (sz := H43.size)
  have hpre := zpre (xs' := []) (av := [.ref q1, .int 4, .int 4, .ref q16]) hPc hK (hDc.weaken (fun _ _ _ h => h)) hZ hS hFc (fun r hr => by cases hr)
  refine va_calli (vx_runSW (As := [.ref q1, .int 4, .int 4, .ref q16]) (rest := []) ⟨hx, hb, hml, hown, hts⟩ (k_LmX1 l dC dI cI cB cR cO zk q1 al5 b8 (.int 0) (.int 0) (.int 0) (.ref sa6) (.ref sb7) (.ref sc9) ed30 (va_up (fun _ => none) 0 (some y32)) mc31 q16 (.long on29) .null H43.size ) (vx_cwSW 4 hts gL_law_L_make rfl rfl rfl (by decide +kernel) ⟨Nat.le_of_ble_eq_true rfl, Nat.le_of_ble_eq_true rfl⟩) ⟨zblind, hpre⟩ rfl rfl hl.1 rfl (lv_room (Nat.le_of_ble_eq_true rfl)) dL_law_198 ⟨Nat.le_of_ble_eq_true rfl, Nat.le_of_ble_eq_true rfl⟩) hS (fun q _ h => hFc q h) hFc (fun r60 u t H59 locs ht hvm hw hB hz1 hk1 hS => ?_)
  obtain ⟨on61, mc62, y63, yw64, yv65, yh66, gw67, gv68, gh69, ⟨hP1, hK1, hD1, hz2⟩, hwgw67, hhgh69⟩ := hB
  rw [ht] at hP1 hz2
  have hPD9 := va_join (wr := [(b8, .inr (1, [.ref v10, .int 0, .int 0, .int 0])), (v10, .inl (cB, 16, .inl (fun _ => 0))), (y32, .inr (5, [.int 4, .int 4, .ref yw33, .ref yv34, .ref yh35, .int 0])), (yw33, .inl (cI, 4, .inl gw36)), (yv34, .inl (cI, 4, .inl gv37)), (yh35, .inl (cR, 4, .inr (.inr (.inr (.inr gh38))))), (q11, .inr (9, [.int 0, .ref am15, .int 0, .int 0, .int 0])), (am15, .inr (4, [.int mm46, .ref em45, .int 1])), (em45, .inl (cO, 10, .inr (.inr (.inr (.inr (va_up (fun _ => none) 0 (some a47))))))), (a47, .inr (8, [.int 4, .ref wa48, .ref na49])), (wa48, .inl (cI, 4, .inl fw50)), (na49, .inl (cI, 4, .inl fn51))]) (w1 := [(q16, .inr (7, [.long on61, .null])), (q1, .inr (6, [.ref al5, .int 0, .int 0, .int 0, .ref sa6, .ref sb7, .ref b8, .ref sc9])), (al5, .inr (4, [.int mc62, .ref ed30, .int 2])), (ed30, .inl (cO, 10, .inr (.inr (.inr (.inr (va_up (va_up (fun _ => none) 0 (some y32)) 1 (some y63))))))), (y63, .inr (5, [.int 4, .int 4, .ref yw64, .ref yv65, .ref yh66, .int 1])), (yw64, .inl (cI, 4, .inl gw67)), (yv65, .inl (cI, 4, .inl gv68)), (yh66, .inl (cR, 4, .inr (.inr (.inr (.inr gh69)))))]) hP hD [2, 3, 4, 5] [0, 1, 6, 7, 8, 9, 10, 11, 12, 13, 14, 15] rfl rfl (by decide) (by decide) hk1 hFc hP1 hD1
  clear hPc hDc hFc hDv hpre hP hD hP1 hK1 hD1
  obtain ⟨hP, hD⟩ := hPD9
  replace hz : s.heap.size + 30 ≤ H59.size := by omega
  clear hz2
  replace hP : va_P (dC, dI) vwCl [(b8, .inr (1, [.ref v10, .int 0, .int 0, .int 0])), (v10, .inl (cB, 16, .inl (fun _ => 0))), (y32, .inr (5, [.int 4, .int 4, .ref yw33, .ref yv34, .ref yh35, .int 0])), (yw33, .inl (cI, 4, .inl gw36)), (yv34, .inl (cI, 4, .inl gv37)), (yh35, .inl (cR, 4, .inr (.inr (.inr (.inr gh38))))), (q11, .inr (9, [.int 0, .ref am15, .int 0, .int 0, .int 0])), (am15, .inr (4, [.int mm46, .ref em45, .int 1])), (em45, .inl (cO, 10, .inr (.inr (.inr (.inr (va_up (fun _ => none) 0 (some a47))))))), (a47, .inr (8, [.int 4, .ref wa48, .ref na49])), (wa48, .inl (cI, 4, .inl fw50)), (na49, .inl (cI, 4, .inl fn51)), (q16, .inr (7, [.long on61, .null])), (q1, .inr (6, [.ref al5, .int 0, .int 0, .int 0, .ref sa6, .ref sb7, .ref b8, .ref sc9])), (al5, .inr (4, [.int mc62, .ref ed30, .int 2])), (ed30, .inl (cO, 10, .inr (.inr (.inr (.inr (va_up (va_up (fun _ => none) 0 (some y32)) 1 (some y63))))))), (y63, .inr (5, [.int 4, .int 4, .ref yw64, .ref yv65, .ref yh66, .int 1])), (yw64, .inl (cI, 4, .inl gw67)), (yv65, .inl (cI, 4, .inl gv68)), (yh66, .inl (cR, 4, .inr (.inr (.inr (.inr gh69)))))] H59 := hP
  replace hD : va_D A [(b8, .inr (1, [.ref v10, .int 0, .int 0, .int 0])), (v10, .inl (cB, 16, .inl (fun _ => 0))), (y32, .inr (5, [.int 4, .int 4, .ref yw33, .ref yv34, .ref yh35, .int 0])), (yw33, .inl (cI, 4, .inl gw36)), (yv34, .inl (cI, 4, .inl gv37)), (yh35, .inl (cR, 4, .inr (.inr (.inr (.inr gh38))))), (q11, .inr (9, [.int 0, .ref am15, .int 0, .int 0, .int 0])), (am15, .inr (4, [.int mm46, .ref em45, .int 1])), (em45, .inl (cO, 10, .inr (.inr (.inr (.inr (va_up (fun _ => none) 0 (some a47))))))), (a47, .inr (8, [.int 4, .ref wa48, .ref na49])), (wa48, .inl (cI, 4, .inl fw50)), (na49, .inl (cI, 4, .inl fn51)), (q16, .inr (7, [.long on61, .null])), (q1, .inr (6, [.ref al5, .int 0, .int 0, .int 0, .ref sa6, .ref sb7, .ref b8, .ref sc9])), (al5, .inr (4, [.int mc62, .ref ed30, .int 2])), (ed30, .inl (cO, 10, .inr (.inr (.inr (.inr (va_up (va_up (fun _ => none) 0 (some y32)) 1 (some y63))))))), (y63, .inr (5, [.int 4, .int 4, .ref yw64, .ref yv65, .ref yh66, .int 1])), (yw64, .inl (cI, 4, .inl gw67)), (yv65, .inl (cI, 4, .inl gv68)), (yh66, .inl (cR, 4, .inr (.inr (.inr (.inr gh69)))))] := hD
  refine W.widen (k := 30) (n := 146) (by omega) (by omega) ?_
  refine lv_istore (lv' := [(5, .int r60), (4, .int 5), (6, .int 0), (3, .ref q16), (2, .ref q11), (1, .ref q1), (0, .ref b)]) hx hb dL_law_201 hl (by decide) rfl (fun ls hl => ?_)
  refine lv_aload_n hx hb dL_law_203 rfl (lv_at hl 4 rfl) ?_
  refine lv_aload_n hx hb dL_law_204 rfl (lv_at hl 6 rfl) ?_
  refine lv_iload hx hb dL_law_205 (lv_at hl 1 rfl) ?_
  refine lv_iconst (v := 1) hx hb dL_law_207 (by decide) ?_
  refine lv_iadd hx hb dL_law_208 ?_
  refine lv_topi (fun v70 ev70 => ?_)
  obtain rfl : v70 = 6 := ev70.trans (by decide)
  refine va_sld hx hb hX hbl hbA hS (by unfold vp_in; decide) dL_law_209 ?_
  refine lv_topi (fun v71 ev71 => ?_)
  obtain rfl : v71 = 4 := ev71.trans (by decide)
  refine lv_aload_n hx hb dL_law_210 rfl (lv_at hl 6 rfl) ?_
  refine lv_iload hx hb dL_law_211 (lv_at hl 1 rfl) ?_
  refine lv_iconst (v := 2) hx hb dL_law_213 (by decide) ?_
  refine lv_iadd hx hb dL_law_214 ?_
  refine lv_topi (fun v72 ev72 => ?_)
  obtain rfl : v72 = 7 := ev72.trans (by decide)
  refine va_sld hx hb hX hbl hbA hS (by unfold vp_in; decide) dL_law_215 ?_
  refine lv_topi (fun v73 ev73 => ?_)
  obtain rfl : v73 = 4 := ev73.trans (by decide)
  have hPc := hP.sub (ws' := [(q11, .inr (9, [.int 0, .ref am15, .int 0, .int 0, .int 0])), (am15, .inr (4, [.int mm46, .ref em45, .int 1])), (em45, .inl (cO, 10, .inr (.inr (.inr (.inr (va_up (fun _ => none) 0 (some a47)))))))]) [6, 7, 8] rfl
  have hDc := hD.sub (ws' := [(q11, .inr (9, [.int 0, .ref am15, .int 0, .int 0, .int 0])), (am15, .inr (4, [.int mm46, .ref em45, .int 1])), (em45, .inl (cO, 10, .inr (.inr (.inr (.inr (va_up (fun _ => none) 0 (some a47)))))))]) [6, 7, 8] (by decide) rfl
  have hFc := va_free (wc := [(q11, .inr (9, [.int 0, .ref am15, .int 0, .int 0, .int 0])), (am15, .inr (4, [.int mm46, .ref em45, .int 1])), (em45, .inl (cO, 10, .inr (.inr (.inr (.inr (va_up (fun _ => none) 0 (some a47)))))))]) hD hS hA [6, 7, 8] rfl
  have hDv := hDc.self (sz := H59.size)
  have hpre := zpre (xs' := []) (av := [.ref q11, .int 4, .int 4]) hPc hK (hDc.weaken (fun _ _ _ h => h)) hZ hS hFc (fun r hr => by cases hr)
  refine va_calli (va_runV (As := [.int 4, .int 4]) (rest := []) ⟨hx, hb, hml, hown, hts⟩ (k_mkM1 l dC dI cI cB cR cO zk q11 am15 (.int 0) (.int 0) (.int 0) (.int 0) em45 (va_up (fun _ => none) 0 (some a47)) mm46 H59.size ) (cwV 2 hts gL_law_X4_make rfl rfl rfl (by decide +kernel) ⟨Nat.le_of_ble_eq_true rfl, Nat.le_of_ble_eq_true rfl⟩) ⟨zblind, (zrecv_9 hK hPc (q0 := 0) rfl), hpre⟩ rfl rfl hl.1 rfl (lv_room (Nat.le_of_ble_eq_true rfl)) dL_law_216 ⟨Nat.le_of_ble_eq_true rfl, Nat.le_of_ble_eq_true rfl⟩) hS (fun q _ h => hFc q h) hFc (fun r75 u t H74 locs ht hvm hw hB hz1 hk1 hS => ?_)
  obtain rfl : 1 = r75 := (show r75 = 1 from hw).symm
  obtain ⟨mm76, a77, wa78, na79, fw80, fn81, ⟨hP1, hK1, hD1, hz2⟩, hwfw80, hnfn81⟩ := hB
  rw [ht] at hP1 hz2
  have hPD9 := va_join (wr := [(b8, .inr (1, [.ref v10, .int 0, .int 0, .int 0])), (v10, .inl (cB, 16, .inl (fun _ => 0))), (y32, .inr (5, [.int 4, .int 4, .ref yw33, .ref yv34, .ref yh35, .int 0])), (yw33, .inl (cI, 4, .inl gw36)), (yv34, .inl (cI, 4, .inl gv37)), (yh35, .inl (cR, 4, .inr (.inr (.inr (.inr gh38))))), (a47, .inr (8, [.int 4, .ref wa48, .ref na49])), (wa48, .inl (cI, 4, .inl fw50)), (na49, .inl (cI, 4, .inl fn51)), (q16, .inr (7, [.long on61, .null])), (q1, .inr (6, [.ref al5, .int 0, .int 0, .int 0, .ref sa6, .ref sb7, .ref b8, .ref sc9])), (al5, .inr (4, [.int mc62, .ref ed30, .int 2])), (ed30, .inl (cO, 10, .inr (.inr (.inr (.inr (va_up (va_up (fun _ => none) 0 (some y32)) 1 (some y63))))))), (y63, .inr (5, [.int 4, .int 4, .ref yw64, .ref yv65, .ref yh66, .int 1])), (yw64, .inl (cI, 4, .inl gw67)), (yv65, .inl (cI, 4, .inl gv68)), (yh66, .inl (cR, 4, .inr (.inr (.inr (.inr gh69)))))]) (w1 := [(q11, .inr (9, [.int 0, .ref am15, .int 0, .int 0, .int 0])), (am15, .inr (4, [.int mm76, .ref em45, .int 2])), (em45, .inl (cO, 10, .inr (.inr (.inr (.inr (va_up (va_up (fun _ => none) 0 (some a47)) 1 (some a77))))))), (a77, .inr (8, [.int 4, .ref wa78, .ref na79])), (wa78, .inl (cI, 4, .inl fw80)), (na79, .inl (cI, 4, .inl fn81))]) hP hD [6, 7, 8] [0, 1, 2, 3, 4, 5, 9, 10, 11, 12, 13, 14, 15, 16, 17, 18, 19] rfl rfl (by decide) (by decide) hk1 hFc hP1 hD1
  clear hPc hDc hFc hDv hpre hP hD hP1 hK1 hD1
  obtain ⟨hP, hD⟩ := hPD9
  replace hz : s.heap.size + 33 ≤ H74.size := by omega
  clear hz2
  replace hP : va_P (dC, dI) vwCl [(b8, .inr (1, [.ref v10, .int 0, .int 0, .int 0])), (v10, .inl (cB, 16, .inl (fun _ => 0))), (y32, .inr (5, [.int 4, .int 4, .ref yw33, .ref yv34, .ref yh35, .int 0])), (yw33, .inl (cI, 4, .inl gw36)), (yv34, .inl (cI, 4, .inl gv37)), (yh35, .inl (cR, 4, .inr (.inr (.inr (.inr gh38))))), (a47, .inr (8, [.int 4, .ref wa48, .ref na49])), (wa48, .inl (cI, 4, .inl fw50)), (na49, .inl (cI, 4, .inl fn51)), (q16, .inr (7, [.long on61, .null])), (q1, .inr (6, [.ref al5, .int 0, .int 0, .int 0, .ref sa6, .ref sb7, .ref b8, .ref sc9])), (al5, .inr (4, [.int mc62, .ref ed30, .int 2])), (ed30, .inl (cO, 10, .inr (.inr (.inr (.inr (va_up (va_up (fun _ => none) 0 (some y32)) 1 (some y63))))))), (y63, .inr (5, [.int 4, .int 4, .ref yw64, .ref yv65, .ref yh66, .int 1])), (yw64, .inl (cI, 4, .inl gw67)), (yv65, .inl (cI, 4, .inl gv68)), (yh66, .inl (cR, 4, .inr (.inr (.inr (.inr gh69))))), (q11, .inr (9, [.int 0, .ref am15, .int 0, .int 0, .int 0])), (am15, .inr (4, [.int mm76, .ref em45, .int 2])), (em45, .inl (cO, 10, .inr (.inr (.inr (.inr (va_up (va_up (fun _ => none) 0 (some a47)) 1 (some a77))))))), (a77, .inr (8, [.int 4, .ref wa78, .ref na79])), (wa78, .inl (cI, 4, .inl fw80)), (na79, .inl (cI, 4, .inl fn81))] H74 := hP
  replace hD : va_D A [(b8, .inr (1, [.ref v10, .int 0, .int 0, .int 0])), (v10, .inl (cB, 16, .inl (fun _ => 0))), (y32, .inr (5, [.int 4, .int 4, .ref yw33, .ref yv34, .ref yh35, .int 0])), (yw33, .inl (cI, 4, .inl gw36)), (yv34, .inl (cI, 4, .inl gv37)), (yh35, .inl (cR, 4, .inr (.inr (.inr (.inr gh38))))), (a47, .inr (8, [.int 4, .ref wa48, .ref na49])), (wa48, .inl (cI, 4, .inl fw50)), (na49, .inl (cI, 4, .inl fn51)), (q16, .inr (7, [.long on61, .null])), (q1, .inr (6, [.ref al5, .int 0, .int 0, .int 0, .ref sa6, .ref sb7, .ref b8, .ref sc9])), (al5, .inr (4, [.int mc62, .ref ed30, .int 2])), (ed30, .inl (cO, 10, .inr (.inr (.inr (.inr (va_up (va_up (fun _ => none) 0 (some y32)) 1 (some y63))))))), (y63, .inr (5, [.int 4, .int 4, .ref yw64, .ref yv65, .ref yh66, .int 1])), (yw64, .inl (cI, 4, .inl gw67)), (yv65, .inl (cI, 4, .inl gv68)), (yh66, .inl (cR, 4, .inr (.inr (.inr (.inr gh69))))), (q11, .inr (9, [.int 0, .ref am15, .int 0, .int 0, .int 0])), (am15, .inr (4, [.int mm76, .ref em45, .int 2])), (em45, .inl (cO, 10, .inr (.inr (.inr (.inr (va_up (va_up (fun _ => none) 0 (some a47)) 1 (some a77))))))), (a77, .inr (8, [.int 4, .ref wa78, .ref na79])), (wa78, .inl (cI, 4, .inl fw80)), (na79, .inl (cI, 4, .inl fn81))] := hD
  refine W.widen (k := 33) (n := 157) (by omega) (by omega) ?_
  refine lv_istore (lv' := [(6, .int 1), (5, .int r60), (4, .int 5), (3, .ref q16), (2, .ref q11), (1, .ref q1), (0, .ref b)]) hx hb dL_law_219 hl (by decide) rfl (fun ls hl => ?_)
  refine lv_goto (tgt := 1321) hx hb dL_law_221 (by decide) ?_
  refine lv_iinc (v := 10) (lv' := [(4, .int 10), (6, .int 1), (5, .int r60), (3, .ref q16), (2, .ref q11), (1, .ref q1), (0, .ref b)]) hx hb dL_law_1321 hl (k := 2) rfl (by decide) (by decide) rfl (fun ls hl => ?_)
  refine lv_goto (tgt := 27) hx hb dL_law_1324 (by decide) ?_
  refine lv_iload hx hb dL_law_27 (lv_at hl 0 rfl) ?_
  refine lv_aload_n hx hb dL_law_29 rfl (lv_at hl 6 rfl) ?_
  refine va_slen hx hb hX hbl hbA hS dL_law_30 ?_
  refine W.eq (g2 := F0 mY 31 ls [.int 1835, .int 10]) rfl ?_
  refine lv_iconst (v := 5) hx hb dL_law_31 (by decide) ?_
  refine lv_isub hx hb dL_law_32 ?_
  refine lv_topi (fun v82 ev82 => ?_)
  obtain rfl : v82 = 1830 := ev82.trans (by decide)
  refine lv_icmp_gt (tgt := 1327) hx hb dL_law_33 (by decide) (fun c9 => ?_) (fun c9 => ?_)
  · exact absurd c9 (by decide)
  refine lv_aload_n hx hb dL_law_36 rfl (lv_at hl 6 rfl) ?_
  refine lv_iload hx hb dL_law_37 (lv_at hl 0 rfl) ?_
  refine va_sld hx hb hX hbl hbA hS (by unfold vp_in; decide) dL_law_39 ?_
  refine lv_topi (fun v83 ev83 => ?_)
  obtain rfl : v83 = 9 := ev83.trans (by decide)
  refine lv_bipush (v := 31) hx hb dL_law_40 (by decide) ?_
  refine lv_iand hx hb dL_law_42 ?_
  refine lv_topi (fun v84 ev84 => ?_)
  obtain rfl : v84 = 9 := ev84.trans (by decide)
  refine lv_tableIn (off := 498) (tgt := 541) hx hb dL_law_43 (by decide) (by decide) (by decide) (by decide) ?_
  refine lv_aload_n hx hb dL_law_541 rfl (lv_at hl 5 rfl) ?_
  refine lv_aload_n hx hb dL_law_542 rfl (lv_at hl 6 rfl) ?_
  refine lv_iload hx hb dL_law_543 (lv_at hl 0 rfl) ?_
  refine lv_iconst (v := 1) hx hb dL_law_545 (by decide) ?_
  refine lv_iadd hx hb dL_law_546 ?_
  refine lv_topi (fun v85 ev85 => ?_)
  obtain rfl : v85 = 11 := ev85.trans (by decide)
  refine va_sld hx hb hX hbl hbA hS (by unfold vp_in; decide) dL_law_547 ?_
  refine lv_topi (fun v86 ev86 => ?_)
  obtain rfl : v86 = 1 := ev86.trans (by decide)
  refine lv_aload_n hx hb dL_law_548 rfl (lv_at hl 6 rfl) ?_
  refine lv_iload hx hb dL_law_549 (lv_at hl 0 rfl) ?_
  refine lv_iconst (v := 2) hx hb dL_law_551 (by decide) ?_
  refine lv_iadd hx hb dL_law_552 ?_
  refine lv_topi (fun v87 ev87 => ?_)
  obtain rfl : v87 = 12 := ev87.trans (by decide)
  refine va_sld hx hb hX hbl hbA hS (by unfold vp_in; decide) dL_law_553 ?_
  refine lv_topi (fun v88 ev88 => ?_)
  obtain rfl : v88 = 0 := ev88.trans (by decide)
  refine lv_aload_n hx hb dL_law_554 rfl (lv_at hl 3 rfl) ?_
  have hPc := hP.sub (ws' := [(q16, .inr (7, [.long on61, .null])), (q1, .inr (6, [.ref al5, .int 0, .int 0, .int 0, .ref sa6, .ref sb7, .ref b8, .ref sc9])), (al5, .inr (4, [.int mc62, .ref ed30, .int 2])), (ed30, .inl (cO, 10, .inr (.inr (.inr (.inr (va_up (va_up (fun _ => none) 0 (some y32)) 1 (some y63))))))), (y32, .inr (5, [.int 4, .int 4, .ref yw33, .ref yv34, .ref yh35, .int 0])), (yw33, .inl (cI, 4, .inl gw36)), (yv34, .inl (cI, 4, .inl gv37)), (yh35, .inl (cR, 4, .inr (.inr (.inr (.inr gh38))))), (y63, .inr (5, [.int 4, .int 4, .ref yw64, .ref yv65, .ref yh66, .int 1])), (yw64, .inl (cI, 4, .inl gw67)), (yv65, .inl (cI, 4, .inl gv68)), (yh66, .inl (cR, 4, .inr (.inr (.inr (.inr gh69)))))]) [9, 10, 11, 12, 2, 3, 4, 5, 13, 14, 15, 16] rfl
  have hDc := hD.sub (ws' := [(q16, .inr (7, [.long on61, .null])), (q1, .inr (6, [.ref al5, .int 0, .int 0, .int 0, .ref sa6, .ref sb7, .ref b8, .ref sc9])), (al5, .inr (4, [.int mc62, .ref ed30, .int 2])), (ed30, .inl (cO, 10, .inr (.inr (.inr (.inr (va_up (va_up (fun _ => none) 0 (some y32)) 1 (some y63))))))), (y32, .inr (5, [.int 4, .int 4, .ref yw33, .ref yv34, .ref yh35, .int 0])), (yw33, .inl (cI, 4, .inl gw36)), (yv34, .inl (cI, 4, .inl gv37)), (yh35, .inl (cR, 4, .inr (.inr (.inr (.inr gh38))))), (y63, .inr (5, [.int 4, .int 4, .ref yw64, .ref yv65, .ref yh66, .int 1])), (yw64, .inl (cI, 4, .inl gw67)), (yv65, .inl (cI, 4, .inl gv68)), (yh66, .inl (cR, 4, .inr (.inr (.inr (.inr gh69)))))]) [9, 10, 11, 12, 2, 3, 4, 5, 13, 14, 15, 16] (by decide) rfl
  have hFc := va_free (wc := [(q16, .inr (7, [.long on61, .null])), (q1, .inr (6, [.ref al5, .int 0, .int 0, .int 0, .ref sa6, .ref sb7, .ref b8, .ref sc9])), (al5, .inr (4, [.int mc62, .ref ed30, .int 2])), (ed30, .inl (cO, 10, .inr (.inr (.inr (.inr (va_up (va_up (fun _ => none) 0 (some y32)) 1 (some y63))))))), (y32, .inr (5, [.int 4, .int 4, .ref yw33, .ref yv34, .ref yh35, .int 0])), (yw33, .inl (cI, 4, .inl gw36)), (yv34, .inl (cI, 4, .inl gv37)), (yh35, .inl (cR, 4, .inr (.inr (.inr (.inr gh38))))), (y63, .inr (5, [.int 4, .int 4, .ref yw64, .ref yv65, .ref yh66, .int 1])), (yw64, .inl (cI, 4, .inl gw67)), (yv65, .inl (cI, 4, .inl gv68)), (yh66, .inl (cR, 4, .inr (.inr (.inr (.inr gh69)))))]) hD hS hA [9, 10, 11, 12, 2, 3, 4, 5, 13, 14, 15, 16] rfl
  have hDv := hDc.self (sz := H74.size)
  have hpre := zpre (xs' := []) (av := [.ref q1, .int 1, .int 0, .ref q16]) hPc hK (hDc.weaken (fun _ _ _ h => h)) hZ hS hFc (fun r hr => by cases hr)
  refine va_calli (vx_runSW (As := [.ref q1, .int 1, .int 0, .ref q16]) (rest := []) ⟨hx, hb, hml, hown, hts⟩ (k_LfX1 l dC dI cI cB cR cO zk q1 al5 b8 (.int 0) (.int 0) (.int 0) (.ref sa6) (.ref sb7) (.ref sc9) ed30 (va_up (va_up (fun _ => none) 0 (some y32)) 1 (some y63)) (.int mc62) y32 yw33 yv34 yh35 0 gw36 gv37 gh38 y63 yw64 yv65 yh66 1 gw67 gv68 gh69 q16 (.long on61) .null H74.size rfl rfl hwgw36 hhgh38) (vx_cwSW 4 hts gL_law_L_fillRow rfl rfl rfl (by decide +kernel) ⟨Nat.le_of_ble_eq_true rfl, Nat.le_of_ble_eq_true rfl⟩) ⟨zblind, hpre⟩ rfl rfl hl.1 rfl (lv_room (Nat.le_of_ble_eq_true rfl)) dL_law_555 ⟨Nat.le_of_ble_eq_true rfl, Nat.le_of_ble_eq_true rfl⟩) hS (fun q _ h => hFc q h) hFc (fun r90 u t H89 locs ht hvm hw hB hz1 hk1 hS => ?_)
  obtain ⟨on91, gw92, gv93, gh94, ⟨hP1, hK1, hD1, hz2⟩, hhgh94⟩ := hB
  rw [ht] at hP1 hz2
  have hPD9 := va_join (wr := [(b8, .inr (1, [.ref v10, .int 0, .int 0, .int 0])), (v10, .inl (cB, 16, .inl (fun _ => 0))), (a47, .inr (8, [.int 4, .ref wa48, .ref na49])), (wa48, .inl (cI, 4, .inl fw50)), (na49, .inl (cI, 4, .inl fn51)), (q11, .inr (9, [.int 0, .ref am15, .int 0, .int 0, .int 0])), (am15, .inr (4, [.int mm76, .ref em45, .int 2])), (em45, .inl (cO, 10, .inr (.inr (.inr (.inr (va_up (va_up (fun _ => none) 0 (some a47)) 1 (some a77))))))), (a77, .inr (8, [.int 4, .ref wa78, .ref na79])), (wa78, .inl (cI, 4, .inl fw80)), (na79, .inl (cI, 4, .inl fn81))]) (w1 := [(q16, .inr (7, [.long on91, .null])), (q1, .inr (6, [.ref al5, .int 0, .int 0, .int 0, .ref sa6, .ref sb7, .ref b8, .ref sc9])), (al5, .inr (4, [.int mc62, .ref ed30, .int 2])), (ed30, .inl (cO, 10, .inr (.inr (.inr (.inr (va_up (va_up (fun _ => none) 0 (some y32)) 1 (some y63))))))), (y32, .inr (5, [.int 4, .int 4, .ref yw33, .ref yv34, .ref yh35, .int 0])), (yw33, .inl (cI, 4, .inl gw36)), (yv34, .inl (cI, 4, .inl gv37)), (yh35, .inl (cR, 4, .inr (.inr (.inr (.inr gh38))))), (y63, .inr (5, [.int 4, .int 4, .ref yw64, .ref yv65, .ref yh66, .int 1])), (yw64, .inl (cI, 4, .inl gw92)), (yv65, .inl (cI, 4, .inl gv93)), (yh66, .inl (cR, 4, .inr (.inr (.inr (.inr gh94)))))]) hP hD [9, 10, 11, 12, 2, 3, 4, 5, 13, 14, 15, 16] [0, 1, 6, 7, 8, 17, 18, 19, 20, 21, 22] rfl rfl (by decide) (by decide) hk1 hFc hP1 hD1
  clear hPc hDc hFc hDv hpre hP hD hP1 hK1 hD1
  obtain ⟨hP, hD⟩ := hPD9
  replace hz : s.heap.size + 33 ≤ H89.size := by omega
  clear hz2
  replace hP : va_P (dC, dI) vwCl [(b8, .inr (1, [.ref v10, .int 0, .int 0, .int 0])), (v10, .inl (cB, 16, .inl (fun _ => 0))), (a47, .inr (8, [.int 4, .ref wa48, .ref na49])), (wa48, .inl (cI, 4, .inl fw50)), (na49, .inl (cI, 4, .inl fn51)), (q11, .inr (9, [.int 0, .ref am15, .int 0, .int 0, .int 0])), (am15, .inr (4, [.int mm76, .ref em45, .int 2])), (em45, .inl (cO, 10, .inr (.inr (.inr (.inr (va_up (va_up (fun _ => none) 0 (some a47)) 1 (some a77))))))), (a77, .inr (8, [.int 4, .ref wa78, .ref na79])), (wa78, .inl (cI, 4, .inl fw80)), (na79, .inl (cI, 4, .inl fn81)), (q16, .inr (7, [.long on91, .null])), (q1, .inr (6, [.ref al5, .int 0, .int 0, .int 0, .ref sa6, .ref sb7, .ref b8, .ref sc9])), (al5, .inr (4, [.int mc62, .ref ed30, .int 2])), (ed30, .inl (cO, 10, .inr (.inr (.inr (.inr (va_up (va_up (fun _ => none) 0 (some y32)) 1 (some y63))))))), (y32, .inr (5, [.int 4, .int 4, .ref yw33, .ref yv34, .ref yh35, .int 0])), (yw33, .inl (cI, 4, .inl gw36)), (yv34, .inl (cI, 4, .inl gv37)), (yh35, .inl (cR, 4, .inr (.inr (.inr (.inr gh38))))), (y63, .inr (5, [.int 4, .int 4, .ref yw64, .ref yv65, .ref yh66, .int 1])), (yw64, .inl (cI, 4, .inl gw92)), (yv65, .inl (cI, 4, .inl gv93)), (yh66, .inl (cR, 4, .inr (.inr (.inr (.inr gh94)))))] H89 := hP
  replace hD : va_D A [(b8, .inr (1, [.ref v10, .int 0, .int 0, .int 0])), (v10, .inl (cB, 16, .inl (fun _ => 0))), (a47, .inr (8, [.int 4, .ref wa48, .ref na49])), (wa48, .inl (cI, 4, .inl fw50)), (na49, .inl (cI, 4, .inl fn51)), (q11, .inr (9, [.int 0, .ref am15, .int 0, .int 0, .int 0])), (am15, .inr (4, [.int mm76, .ref em45, .int 2])), (em45, .inl (cO, 10, .inr (.inr (.inr (.inr (va_up (va_up (fun _ => none) 0 (some a47)) 1 (some a77))))))), (a77, .inr (8, [.int 4, .ref wa78, .ref na79])), (wa78, .inl (cI, 4, .inl fw80)), (na79, .inl (cI, 4, .inl fn81)), (q16, .inr (7, [.long on91, .null])), (q1, .inr (6, [.ref al5, .int 0, .int 0, .int 0, .ref sa6, .ref sb7, .ref b8, .ref sc9])), (al5, .inr (4, [.int mc62, .ref ed30, .int 2])), (ed30, .inl (cO, 10, .inr (.inr (.inr (.inr (va_up (va_up (fun _ => none) 0 (some y32)) 1 (some y63))))))), (y32, .inr (5, [.int 4, .int 4, .ref yw33, .ref yv34, .ref yh35, .int 0])), (yw33, .inl (cI, 4, .inl gw36)), (yv34, .inl (cI, 4, .inl gv37)), (yh35, .inl (cR, 4, .inr (.inr (.inr (.inr gh38))))), (y63, .inr (5, [.int 4, .int 4, .ref yw64, .ref yv65, .ref yh66, .int 1])), (yw64, .inl (cI, 4, .inl gw92)), (yv65, .inl (cI, 4, .inl gv93)), (yh66, .inl (cR, 4, .inr (.inr (.inr (.inr gh94)))))] := hD
  refine W.widen (k := 33) (n := 157) (by omega) (by omega) ?_
  refine lv_istore (lv' := [(5, .int r90), (4, .int 10), (6, .int 1), (3, .ref q16), (2, .ref q11), (1, .ref q1), (0, .ref b)]) hx hb dL_law_558 hl (by decide) rfl (fun ls hl => ?_)
  refine lv_aload_n hx hb dL_law_560 rfl (lv_at hl 4 rfl) ?_
  refine lv_aload_n hx hb dL_law_561 rfl (lv_at hl 6 rfl) ?_
  refine lv_iload hx hb dL_law_562 (lv_at hl 1 rfl) ?_
  refine lv_iconst (v := 1) hx hb dL_law_564 (by decide) ?_
  refine lv_iadd hx hb dL_law_565 ?_
  refine lv_topi (fun v95 ev95 => ?_)
  obtain rfl : v95 = 11 := ev95.trans (by decide)
  refine va_sld hx hb hX hbl hbA hS (by unfold vp_in; decide) dL_law_566 ?_
  refine lv_topi (fun v96 ev96 => ?_)
  obtain rfl : v96 = 1 := ev96.trans (by decide)
  refine lv_aload_n hx hb dL_law_567 rfl (lv_at hl 6 rfl) ?_
  refine lv_iload hx hb dL_law_568 (lv_at hl 1 rfl) ?_
  refine lv_iconst (v := 2) hx hb dL_law_570 (by decide) ?_
  refine lv_iadd hx hb dL_law_571 ?_
  refine lv_topi (fun v97 ev97 => ?_)
  obtain rfl : v97 = 12 := ev97.trans (by decide)
  refine va_sld hx hb hX hbl hbA hS (by unfold vp_in; decide) dL_law_572 ?_
  refine lv_topi (fun v98 ev98 => ?_)
  obtain rfl : v98 = 0 := ev98.trans (by decide)
  have hPc := hP.sub (ws' := [(q11, .inr (9, [.int 0, .ref am15, .int 0, .int 0, .int 0])), (am15, .inr (4, [.int mm76, .ref em45, .int 2])), (em45, .inl (cO, 10, .inr (.inr (.inr (.inr (va_up (va_up (fun _ => none) 0 (some a47)) 1 (some a77))))))), (a47, .inr (8, [.int 4, .ref wa48, .ref na49])), (wa48, .inl (cI, 4, .inl fw50)), (na49, .inl (cI, 4, .inl fn51)), (a77, .inr (8, [.int 4, .ref wa78, .ref na79])), (wa78, .inl (cI, 4, .inl fw80)), (na79, .inl (cI, 4, .inl fn81))]) [5, 6, 7, 2, 3, 4, 8, 9, 10] rfl
  have hDc := hD.sub (ws' := [(q11, .inr (9, [.int 0, .ref am15, .int 0, .int 0, .int 0])), (am15, .inr (4, [.int mm76, .ref em45, .int 2])), (em45, .inl (cO, 10, .inr (.inr (.inr (.inr (va_up (va_up (fun _ => none) 0 (some a47)) 1 (some a77))))))), (a47, .inr (8, [.int 4, .ref wa48, .ref na49])), (wa48, .inl (cI, 4, .inl fw50)), (na49, .inl (cI, 4, .inl fn51)), (a77, .inr (8, [.int 4, .ref wa78, .ref na79])), (wa78, .inl (cI, 4, .inl fw80)), (na79, .inl (cI, 4, .inl fn81))]) [5, 6, 7, 2, 3, 4, 8, 9, 10] (by decide) rfl
  have hFc := va_free (wc := [(q11, .inr (9, [.int 0, .ref am15, .int 0, .int 0, .int 0])), (am15, .inr (4, [.int mm76, .ref em45, .int 2])), (em45, .inl (cO, 10, .inr (.inr (.inr (.inr (va_up (va_up (fun _ => none) 0 (some a47)) 1 (some a77))))))), (a47, .inr (8, [.int 4, .ref wa48, .ref na49])), (wa48, .inl (cI, 4, .inl fw50)), (na49, .inl (cI, 4, .inl fn51)), (a77, .inr (8, [.int 4, .ref wa78, .ref na79])), (wa78, .inl (cI, 4, .inl fw80)), (na79, .inl (cI, 4, .inl fn81))]) hD hS hA [5, 6, 7, 2, 3, 4, 8, 9, 10] rfl
  have hDv := hDc.self (sz := H89.size)
  have hpre := zpre (xs' := []) (av := [.ref q11, .int 1, .int 0]) hPc hK (hDc.weaken (fun _ _ _ h => h)) hZ hS hFc (fun r hr => by cases hr)
  refine va_calli (va_runV (As := [.int 1, .int 0]) (rest := []) ⟨hx, hb, hml, hown, hts⟩ (k_fiM1 l dC dI cI cB cR cO zk q11 am15 (.int 0) (.int 0) (.int 0) (.int 0) em45 (va_up (va_up (fun _ => none) 0 (some a47)) 1 (some a77)) mm76 a47 wa48 na49 a77 wa78 na79 fw50 fn51 fw80 fn81 H89.size hwfw50 hnfn51 rfl hwfw80 hnfn81 rfl) (cwV 2 hts gL_law_X4_fillRow rfl rfl rfl (by decide +kernel) ⟨Nat.le_of_ble_eq_true rfl, Nat.le_of_ble_eq_true rfl⟩) ⟨zblind, (zrecv_9 hK hPc (q0 := 0) rfl), hpre⟩ rfl rfl hl.1 rfl (lv_room (Nat.le_of_ble_eq_true rfl)) dL_law_573 ⟨Nat.le_of_ble_eq_true rfl, Nat.le_of_ble_eq_true rfl⟩) hS (fun q _ h => hFc q h) hFc (fun r100 u t H99 locs ht hvm hw hB hz1 hk1 hS => ?_)
  obtain rfl : 2 = r100 := (show r100 = 2 from hw).symm
  obtain ⟨fw101, fn102, ⟨hP1, hK1, hD1, hz2⟩, hwfw101, hnfn102⟩ := hB
  rw [ht] at hP1 hz2
  have hPD9 := va_join (wr := [(b8, .inr (1, [.ref v10, .int 0, .int 0, .int 0])), (v10, .inl (cB, 16, .inl (fun _ => 0))), (q16, .inr (7, [.long on91, .null])), (q1, .inr (6, [.ref al5, .int 0, .int 0, .int 0, .ref sa6, .ref sb7, .ref b8, .ref sc9])), (al5, .inr (4, [.int mc62, .ref ed30, .int 2])), (ed30, .inl (cO, 10, .inr (.inr (.inr (.inr (va_up (va_up (fun _ => none) 0 (some y32)) 1 (some y63))))))), (y32, .inr (5, [.int 4, .int 4, .ref yw33, .ref yv34, .ref yh35, .int 0])), (yw33, .inl (cI, 4, .inl gw36)), (yv34, .inl (cI, 4, .inl gv37)), (yh35, .inl (cR, 4, .inr (.inr (.inr (.inr gh38))))), (y63, .inr (5, [.int 4, .int 4, .ref yw64, .ref yv65, .ref yh66, .int 1])), (yw64, .inl (cI, 4, .inl gw92)), (yv65, .inl (cI, 4, .inl gv93)), (yh66, .inl (cR, 4, .inr (.inr (.inr (.inr gh94)))))]) (w1 := [(q11, .inr (9, [.int 0, .ref am15, .int 0, .int 0, .int 0])), (am15, .inr (4, [.int mm76, .ref em45, .int 2])), (em45, .inl (cO, 10, .inr (.inr (.inr (.inr (va_up (va_up (fun _ => none) 0 (some a47)) 1 (some a77))))))), (a47, .inr (8, [.int 4, .ref wa48, .ref na49])), (wa48, .inl (cI, 4, .inl fw50)), (na49, .inl (cI, 4, .inl fn51)), (a77, .inr (8, [.int 4, .ref wa78, .ref na79])), (wa78, .inl (cI, 4, .inl fw101)), (na79, .inl (cI, 4, .inl fn102))]) hP hD [5, 6, 7, 2, 3, 4, 8, 9, 10] [0, 1, 11, 12, 13, 14, 15, 16, 17, 18, 19, 20, 21, 22] rfl rfl (by decide) (by decide) hk1 hFc hP1 hD1
  clear hPc hDc hFc hDv hpre hP hD hP1 hK1 hD1
  obtain ⟨hP, hD⟩ := hPD9
  replace hz : s.heap.size + 38 ≤ H99.size := by omega
  clear hz2
  replace hP : va_P (dC, dI) vwCl [(b8, .inr (1, [.ref v10, .int 0, .int 0, .int 0])), (v10, .inl (cB, 16, .inl (fun _ => 0))), (q16, .inr (7, [.long on91, .null])), (q1, .inr (6, [.ref al5, .int 0, .int 0, .int 0, .ref sa6, .ref sb7, .ref b8, .ref sc9])), (al5, .inr (4, [.int mc62, .ref ed30, .int 2])), (ed30, .inl (cO, 10, .inr (.inr (.inr (.inr (va_up (va_up (fun _ => none) 0 (some y32)) 1 (some y63))))))), (y32, .inr (5, [.int 4, .int 4, .ref yw33, .ref yv34, .ref yh35, .int 0])), (yw33, .inl (cI, 4, .inl gw36)), (yv34, .inl (cI, 4, .inl gv37)), (yh35, .inl (cR, 4, .inr (.inr (.inr (.inr gh38))))), (y63, .inr (5, [.int 4, .int 4, .ref yw64, .ref yv65, .ref yh66, .int 1])), (yw64, .inl (cI, 4, .inl gw92)), (yv65, .inl (cI, 4, .inl gv93)), (yh66, .inl (cR, 4, .inr (.inr (.inr (.inr gh94))))), (q11, .inr (9, [.int 0, .ref am15, .int 0, .int 0, .int 0])), (am15, .inr (4, [.int mm76, .ref em45, .int 2])), (em45, .inl (cO, 10, .inr (.inr (.inr (.inr (va_up (va_up (fun _ => none) 0 (some a47)) 1 (some a77))))))), (a47, .inr (8, [.int 4, .ref wa48, .ref na49])), (wa48, .inl (cI, 4, .inl fw50)), (na49, .inl (cI, 4, .inl fn51)), (a77, .inr (8, [.int 4, .ref wa78, .ref na79])), (wa78, .inl (cI, 4, .inl fw101)), (na79, .inl (cI, 4, .inl fn102))] H99 := hP
  replace hD : va_D A [(b8, .inr (1, [.ref v10, .int 0, .int 0, .int 0])), (v10, .inl (cB, 16, .inl (fun _ => 0))), (q16, .inr (7, [.long on91, .null])), (q1, .inr (6, [.ref al5, .int 0, .int 0, .int 0, .ref sa6, .ref sb7, .ref b8, .ref sc9])), (al5, .inr (4, [.int mc62, .ref ed30, .int 2])), (ed30, .inl (cO, 10, .inr (.inr (.inr (.inr (va_up (va_up (fun _ => none) 0 (some y32)) 1 (some y63))))))), (y32, .inr (5, [.int 4, .int 4, .ref yw33, .ref yv34, .ref yh35, .int 0])), (yw33, .inl (cI, 4, .inl gw36)), (yv34, .inl (cI, 4, .inl gv37)), (yh35, .inl (cR, 4, .inr (.inr (.inr (.inr gh38))))), (y63, .inr (5, [.int 4, .int 4, .ref yw64, .ref yv65, .ref yh66, .int 1])), (yw64, .inl (cI, 4, .inl gw92)), (yv65, .inl (cI, 4, .inl gv93)), (yh66, .inl (cR, 4, .inr (.inr (.inr (.inr gh94))))), (q11, .inr (9, [.int 0, .ref am15, .int 0, .int 0, .int 0])), (am15, .inr (4, [.int mm76, .ref em45, .int 2])), (em45, .inl (cO, 10, .inr (.inr (.inr (.inr (va_up (va_up (fun _ => none) 0 (some a47)) 1 (some a77))))))), (a47, .inr (8, [.int 4, .ref wa48, .ref na49])), (wa48, .inl (cI, 4, .inl fw50)), (na49, .inl (cI, 4, .inl fn51)), (a77, .inr (8, [.int 4, .ref wa78, .ref na79])), (wa78, .inl (cI, 4, .inl fw101)), (na79, .inl (cI, 4, .inl fn102))] := hD
  refine W.widen (k := 40) (n := 177) (by omega) (by omega) ?_
  refine lv_istore (lv' := [(6, .int 2), (5, .int r90), (4, .int 10), (3, .ref q16), (2, .ref q11), (1, .ref q1), (0, .ref b)]) hx hb dL_law_576 hl (by decide) rfl (fun ls hl => ?_)
  refine lv_goto (tgt := 1321) hx hb dL_law_578 (by decide) ?_
  refine lv_iinc (v := 15) (lv' := [(4, .int 15), (6, .int 2), (5, .int r90), (3, .ref q16), (2, .ref q11), (1, .ref q1), (0, .ref b)]) hx hb dL_law_1321 hl (k := 2) rfl (by decide) (by decide) rfl (fun ls hl => ?_)
  refine lv_goto (tgt := 27) hx hb dL_law_1324 (by decide) ?_
  refine lv_iload hx hb dL_law_27 (lv_at hl 0 rfl) ?_
  refine lv_aload_n hx hb dL_law_29 rfl (lv_at hl 6 rfl) ?_
  refine va_slen hx hb hX hbl hbA hS dL_law_30 ?_
  refine W.eq (g2 := F0 mY 31 ls [.int 1835, .int 15]) rfl ?_
  refine lv_iconst (v := 5) hx hb dL_law_31 (by decide) ?_
  refine lv_isub hx hb dL_law_32 ?_
  refine lv_topi (fun v103 ev103 => ?_)
  obtain rfl : v103 = 1830 := ev103.trans (by decide)
  refine lv_icmp_gt (tgt := 1327) hx hb dL_law_33 (by decide) (fun c9 => ?_) (fun c9 => ?_)
  · exact absurd c9 (by decide)
  refine lv_aload_n hx hb dL_law_36 rfl (lv_at hl 6 rfl) ?_
  refine lv_iload hx hb dL_law_37 (lv_at hl 0 rfl) ?_
  refine va_sld hx hb hX hbl hbA hS (by unfold vp_in; decide) dL_law_39 ?_
  refine lv_topi (fun v104 ev104 => ?_)
  obtain rfl : v104 = 0 := ev104.trans (by decide)
  refine lv_bipush (v := 31) hx hb dL_law_40 (by decide) ?_
  refine lv_iand hx hb dL_law_42 ?_
  refine lv_topi (fun v105 ev105 => ?_)
  obtain rfl : v105 = 0 := ev105.trans (by decide)
  refine lv_tableIn (off := 141) (tgt := 184) hx hb dL_law_43 (by decide) (by decide) (by decide) (by decide) ?_
  refine lv_aload_n hx hb dL_law_184 rfl (lv_at hl 5 rfl) ?_
  refine lv_aload_n hx hb dL_law_185 rfl (lv_at hl 6 rfl) ?_
  refine lv_iload hx hb dL_law_186 (lv_at hl 0 rfl) ?_
  refine lv_iconst (v := 1) hx hb dL_law_188 (by decide) ?_
  refine lv_iadd hx hb dL_law_189 ?_
  refine lv_topi (fun v106 ev106 => ?_)
  obtain rfl : v106 = 16 := ev106.trans (by decide)
  refine va_sld hx hb hX hbl hbA hS (by unfold vp_in; decide) dL_law_190 ?_
  refine lv_topi (fun v107 ev107 => ?_)
  obtain rfl : v107 = 4 := ev107.trans (by decide)
  refine lv_aload_n hx hb dL_law_191 rfl (lv_at hl 6 rfl) ?_
  refine lv_iload hx hb dL_law_192 (lv_at hl 0 rfl) ?_
  refine lv_iconst (v := 2) hx hb dL_law_194 (by decide) ?_
  refine lv_iadd hx hb dL_law_195 ?_
  refine lv_topi (fun v108 ev108 => ?_)
  obtain rfl : v108 = 17 := ev108.trans (by decide)
  refine va_sld hx hb hX hbl hbA hS (by unfold vp_in; decide) dL_law_196 ?_
  refine lv_topi (fun v109 ev109 => ?_)
  obtain rfl : v109 = 4 := ev109.trans (by decide)
  refine lv_aload_n hx hb dL_law_197 rfl (lv_at hl 3 rfl) ?_
  have hPc := hP.sub (ws' := [(q16, .inr (7, [.long on91, .null])), (q1, .inr (6, [.ref al5, .int 0, .int 0, .int 0, .ref sa6, .ref sb7, .ref b8, .ref sc9])), (al5, .inr (4, [.int mc62, .ref ed30, .int 2])), (ed30, .inl (cO, 10, .inr (.inr (.inr (.inr (va_up (va_up (fun _ => none) 0 (some y32)) 1 (some y63)))))))]) [2, 3, 4, 5] rfl
  have hDc := hD.sub (ws' := [(q16, .inr (7, [.long on91, .null])), (q1, .inr (6, [.ref al5, .int 0, .int 0, .int 0, .ref sa6, .ref sb7, .ref b8, .ref sc9])), (al5, .inr (4, [.int mc62, .ref ed30, .int 2])), (ed30, .inl (cO, 10, .inr (.inr (.inr (.inr (va_up (va_up (fun _ => none) 0 (some y32)) 1 (some y63)))))))]) [2, 3, 4, 5] (by decide) rfl
  have hFc := va_free (wc := [(q16, .inr (7, [.long on91, .null])), (q1, .inr (6, [.ref al5, .int 0, .int 0, .int 0, .ref sa6, .ref sb7, .ref b8, .ref sc9])), (al5, .inr (4, [.int mc62, .ref ed30, .int 2])), (ed30, .inl (cO, 10, .inr (.inr (.inr (.inr (va_up (va_up (fun _ => none) 0 (some y32)) 1 (some y63)))))))]) hD hS hA [2, 3, 4, 5] rfl
  have hDv := hDc.self (sz := H99.size)
  have hpre := zpre (xs' := []) (av := [.ref q1, .int 4, .int 4, .ref q16]) hPc hK (hDc.weaken (fun _ _ _ h => h)) hZ hS hFc (fun r hr => by cases hr)
  refine va_calli (vx_runSW (As := [.ref q1, .int 4, .int 4, .ref q16]) (rest := []) ⟨hx, hb, hml, hown, hts⟩ (k_LmX2 l dC dI cI cB cR cO zk q1 al5 b8 (.int 0) (.int 0) (.int 0) (.ref sa6) (.ref sb7) (.ref sc9) ed30 (va_up (va_up (fun _ => none) 0 (some y32)) 1 (some y63)) mc62 q16 (.long on91) .null H99.size ) (vx_cwSW 4 hts gL_law_L_make rfl rfl rfl (by decide +kernel) ⟨Nat.le_of_ble_eq_true rfl, Nat.le_of_ble_eq_true rfl⟩) ⟨zblind, hpre⟩ rfl rfl hl.1 rfl (lv_room (Nat.le_of_ble_eq_true rfl)) dL_law_198 ⟨Nat.le_of_ble_eq_true rfl, Nat.le_of_ble_eq_true rfl⟩) hS (fun q _ h => hFc q h) hFc (fun r111 u t H110 locs ht hvm hw hB hz1 hk1 hS => ?_)
  obtain ⟨on112, mc113, y114, yw115, yv116, yh117, gw118, gv119, gh120, ⟨hP1, hK1, hD1, hz2⟩, hwgw118, hhgh120⟩ := hB
  rw [ht] at hP1 hz2
  have hPD9 := va_join (wr := [(b8, .inr (1, [.ref v10, .int 0, .int 0, .int 0])), (v10, .inl (cB, 16, .inl (fun _ => 0))), (y32, .inr (5, [.int 4, .int 4, .ref yw33, .ref yv34, .ref yh35, .int 0])), (yw33, .inl (cI, 4, .inl gw36)), (yv34, .inl (cI, 4, .inl gv37)), (yh35, .inl (cR, 4, .inr (.inr (.inr (.inr gh38))))), (y63, .inr (5, [.int 4, .int 4, .ref yw64, .ref yv65, .ref yh66, .int 1])), (yw64, .inl (cI, 4, .inl gw92)), (yv65, .inl (cI, 4, .inl gv93)), (yh66, .inl (cR, 4, .inr (.inr (.inr (.inr gh94))))), (q11, .inr (9, [.int 0, .ref am15, .int 0, .int 0, .int 0])), (am15, .inr (4, [.int mm76, .ref em45, .int 2])), (em45, .inl (cO, 10, .inr (.inr (.inr (.inr (va_up (va_up (fun _ => none) 0 (some a47)) 1 (some a77))))))), (a47, .inr (8, [.int 4, .ref wa48, .ref na49])), (wa48, .inl (cI, 4, .inl fw50)), (na49, .inl (cI, 4, .inl fn51)), (a77, .inr (8, [.int 4, .ref wa78, .ref na79])), (wa78, .inl (cI, 4, .inl fw101)), (na79, .inl (cI, 4, .inl fn102))]) (w1 := [(q16, .inr (7, [.long on112, .null])), (q1, .inr (6, [.ref al5, .int 0, .int 0, .int 0, .ref sa6, .ref sb7, .ref b8, .ref sc9])), (al5, .inr (4, [.int mc113, .ref ed30, .int 3])), (ed30, .inl (cO, 10, .inr (.inr (.inr (.inr (va_up (va_up (va_up (fun _ => none) 0 (some y32)) 1 (some y63)) 2 (some y114))))))), (y114, .inr (5, [.int 4, .int 4, .ref yw115, .ref yv116, .ref yh117, .int 2])), (yw115, .inl (cI, 4, .inl gw118)), (yv116, .inl (cI, 4, .inl gv119)), (yh117, .inl (cR, 4, .inr (.inr (.inr (.inr gh120)))))]) hP hD [2, 3, 4, 5] [0, 1, 6, 7, 8, 9, 10, 11, 12, 13, 14, 15, 16, 17, 18, 19, 20, 21, 22] rfl rfl (by decide) (by decide) hk1 hFc hP1 hD1
  clear hPc hDc hFc hDv hpre hP hD hP1 hK1 hD1
  obtain ⟨hP, hD⟩ := hPD9
  replace hz : s.heap.size + 42 ≤ H110.size := by omega
  clear hz2
  replace hP : va_P (dC, dI) vwCl [(b8, .inr (1, [.ref v10, .int 0, .int 0, .int 0])), (v10, .inl (cB, 16, .inl (fun _ => 0))), (y32, .inr (5, [.int 4, .int 4, .ref yw33, .ref yv34, .ref yh35, .int 0])), (yw33, .inl (cI, 4, .inl gw36)), (yv34, .inl (cI, 4, .inl gv37)), (yh35, .inl (cR, 4, .inr (.inr (.inr (.inr gh38))))), (y63, .inr (5, [.int 4, .int 4, .ref yw64, .ref yv65, .ref yh66, .int 1])), (yw64, .inl (cI, 4, .inl gw92)), (yv65, .inl (cI, 4, .inl gv93)), (yh66, .inl (cR, 4, .inr (.inr (.inr (.inr gh94))))), (q11, .inr (9, [.int 0, .ref am15, .int 0, .int 0, .int 0])), (am15, .inr (4, [.int mm76, .ref em45, .int 2])), (em45, .inl (cO, 10, .inr (.inr (.inr (.inr (va_up (va_up (fun _ => none) 0 (some a47)) 1 (some a77))))))), (a47, .inr (8, [.int 4, .ref wa48, .ref na49])), (wa48, .inl (cI, 4, .inl fw50)), (na49, .inl (cI, 4, .inl fn51)), (a77, .inr (8, [.int 4, .ref wa78, .ref na79])), (wa78, .inl (cI, 4, .inl fw101)), (na79, .inl (cI, 4, .inl fn102)), (q16, .inr (7, [.long on112, .null])), (q1, .inr (6, [.ref al5, .int 0, .int 0, .int 0, .ref sa6, .ref sb7, .ref b8, .ref sc9])), (al5, .inr (4, [.int mc113, .ref ed30, .int 3])), (ed30, .inl (cO, 10, .inr (.inr (.inr (.inr (va_up (va_up (va_up (fun _ => none) 0 (some y32)) 1 (some y63)) 2 (some y114))))))), (y114, .inr (5, [.int 4, .int 4, .ref yw115, .ref yv116, .ref yh117, .int 2])), (yw115, .inl (cI, 4, .inl gw118)), (yv116, .inl (cI, 4, .inl gv119)), (yh117, .inl (cR, 4, .inr (.inr (.inr (.inr gh120)))))] H110 := hP
  replace hD : va_D A [(b8, .inr (1, [.ref v10, .int 0, .int 0, .int 0])), (v10, .inl (cB, 16, .inl (fun _ => 0))), (y32, .inr (5, [.int 4, .int 4, .ref yw33, .ref yv34, .ref yh35, .int 0])), (yw33, .inl (cI, 4, .inl gw36)), (yv34, .inl (cI, 4, .inl gv37)), (yh35, .inl (cR, 4, .inr (.inr (.inr (.inr gh38))))), (y63, .inr (5, [.int 4, .int 4, .ref yw64, .ref yv65, .ref yh66, .int 1])), (yw64, .inl (cI, 4, .inl gw92)), (yv65, .inl (cI, 4, .inl gv93)), (yh66, .inl (cR, 4, .inr (.inr (.inr (.inr gh94))))), (q11, .inr (9, [.int 0, .ref am15, .int 0, .int 0, .int 0])), (am15, .inr (4, [.int mm76, .ref em45, .int 2])), (em45, .inl (cO, 10, .inr (.inr (.inr (.inr (va_up (va_up (fun _ => none) 0 (some a47)) 1 (some a77))))))), (a47, .inr (8, [.int 4, .ref wa48, .ref na49])), (wa48, .inl (cI, 4, .inl fw50)), (na49, .inl (cI, 4, .inl fn51)), (a77, .inr (8, [.int 4, .ref wa78, .ref na79])), (wa78, .inl (cI, 4, .inl fw101)), (na79, .inl (cI, 4, .inl fn102)), (q16, .inr (7, [.long on112, .null])), (q1, .inr (6, [.ref al5, .int 0, .int 0, .int 0, .ref sa6, .ref sb7, .ref b8, .ref sc9])), (al5, .inr (4, [.int mc113, .ref ed30, .int 3])), (ed30, .inl (cO, 10, .inr (.inr (.inr (.inr (va_up (va_up (va_up (fun _ => none) 0 (some y32)) 1 (some y63)) 2 (some y114))))))), (y114, .inr (5, [.int 4, .int 4, .ref yw115, .ref yv116, .ref yh117, .int 2])), (yw115, .inl (cI, 4, .inl gw118)), (yv116, .inl (cI, 4, .inl gv119)), (yh117, .inl (cR, 4, .inr (.inr (.inr (.inr gh120)))))] := hD
  refine W.widen (k := 44) (n := 195) (by omega) (by omega) ?_
  refine lv_istore (lv' := [(5, .int r111), (4, .int 15), (6, .int 2), (3, .ref q16), (2, .ref q11), (1, .ref q1), (0, .ref b)]) hx hb dL_law_201 hl (by decide) rfl (fun ls hl => ?_)
  refine lv_aload_n hx hb dL_law_203 rfl (lv_at hl 4 rfl) ?_
  refine lv_aload_n hx hb dL_law_204 rfl (lv_at hl 6 rfl) ?_
  refine lv_iload hx hb dL_law_205 (lv_at hl 1 rfl) ?_
  refine lv_iconst (v := 1) hx hb dL_law_207 (by decide) ?_
  refine lv_iadd hx hb dL_law_208 ?_
  refine lv_topi (fun v121 ev121 => ?_)
  obtain rfl : v121 = 16 := ev121.trans (by decide)
  refine va_sld hx hb hX hbl hbA hS (by unfold vp_in; decide) dL_law_209 ?_
  refine lv_topi (fun v122 ev122 => ?_)
  obtain rfl : v122 = 4 := ev122.trans (by decide)
  refine lv_aload_n hx hb dL_law_210 rfl (lv_at hl 6 rfl) ?_
  refine lv_iload hx hb dL_law_211 (lv_at hl 1 rfl) ?_
  refine lv_iconst (v := 2) hx hb dL_law_213 (by decide) ?_
  refine lv_iadd hx hb dL_law_214 ?_
  refine lv_topi (fun v123 ev123 => ?_)
  obtain rfl : v123 = 17 := ev123.trans (by decide)
  refine va_sld hx hb hX hbl hbA hS (by unfold vp_in; decide) dL_law_215 ?_
  refine lv_topi (fun v124 ev124 => ?_)
  obtain rfl : v124 = 4 := ev124.trans (by decide)
  have hPc := hP.sub (ws' := [(q11, .inr (9, [.int 0, .ref am15, .int 0, .int 0, .int 0])), (am15, .inr (4, [.int mm76, .ref em45, .int 2])), (em45, .inl (cO, 10, .inr (.inr (.inr (.inr (va_up (va_up (fun _ => none) 0 (some a47)) 1 (some a77)))))))]) [10, 11, 12] rfl
  have hDc := hD.sub (ws' := [(q11, .inr (9, [.int 0, .ref am15, .int 0, .int 0, .int 0])), (am15, .inr (4, [.int mm76, .ref em45, .int 2])), (em45, .inl (cO, 10, .inr (.inr (.inr (.inr (va_up (va_up (fun _ => none) 0 (some a47)) 1 (some a77)))))))]) [10, 11, 12] (by decide) rfl
  have hFc := va_free (wc := [(q11, .inr (9, [.int 0, .ref am15, .int 0, .int 0, .int 0])), (am15, .inr (4, [.int mm76, .ref em45, .int 2])), (em45, .inl (cO, 10, .inr (.inr (.inr (.inr (va_up (va_up (fun _ => none) 0 (some a47)) 1 (some a77)))))))]) hD hS hA [10, 11, 12] rfl
  have hDv := hDc.self (sz := H110.size)
  have hpre := zpre (xs' := []) (av := [.ref q11, .int 4, .int 4]) hPc hK (hDc.weaken (fun _ _ _ h => h)) hZ hS hFc (fun r hr => by cases hr)
  refine va_calli (va_runV (As := [.int 4, .int 4]) (rest := []) ⟨hx, hb, hml, hown, hts⟩ (k_mkM2 l dC dI cI cB cR cO zk q11 am15 (.int 0) (.int 0) (.int 0) (.int 0) em45 (va_up (va_up (fun _ => none) 0 (some a47)) 1 (some a77)) mm76 H110.size ) (cwV 2 hts gL_law_X4_make rfl rfl rfl (by decide +kernel) ⟨Nat.le_of_ble_eq_true rfl, Nat.le_of_ble_eq_true rfl⟩) ⟨zblind, (zrecv_9 hK hPc (q0 := 0) rfl), hpre⟩ rfl rfl hl.1 rfl (lv_room (Nat.le_of_ble_eq_true rfl)) dL_law_216 ⟨Nat.le_of_ble_eq_true rfl, Nat.le_of_ble_eq_true rfl⟩) hS (fun q _ h => hFc q h) hFc (fun r126 u t H125 locs ht hvm hw hB hz1 hk1 hS => ?_)
  obtain rfl : 2 = r126 := (show r126 = 2 from hw).symm
  obtain ⟨mm127, a128, wa129, na130, fw131, fn132, ⟨hP1, hK1, hD1, hz2⟩, hwfw131, hnfn132⟩ := hB
  rw [ht] at hP1 hz2
  have hPD9 := va_join (wr := [(b8, .inr (1, [.ref v10, .int 0, .int 0, .int 0])), (v10, .inl (cB, 16, .inl (fun _ => 0))), (y32, .inr (5, [.int 4, .int 4, .ref yw33, .ref yv34, .ref yh35, .int 0])), (yw33, .inl (cI, 4, .inl gw36)), (yv34, .inl (cI, 4, .inl gv37)), (yh35, .inl (cR, 4, .inr (.inr (.inr (.inr gh38))))), (y63, .inr (5, [.int 4, .int 4, .ref yw64, .ref yv65, .ref yh66, .int 1])), (yw64, .inl (cI, 4, .inl gw92)), (yv65, .inl (cI, 4, .inl gv93)), (yh66, .inl (cR, 4, .inr (.inr (.inr (.inr gh94))))), (a47, .inr (8, [.int 4, .ref wa48, .ref na49])), (wa48, .inl (cI, 4, .inl fw50)), (na49, .inl (cI, 4, .inl fn51)), (a77, .inr (8, [.int 4, .ref wa78, .ref na79])), (wa78, .inl (cI, 4, .inl fw101)), (na79, .inl (cI, 4, .inl fn102)), (q16, .inr (7, [.long on112, .null])), (q1, .inr (6, [.ref al5, .int 0, .int 0, .int 0, .ref sa6, .ref sb7, .ref b8, .ref sc9])), (al5, .inr (4, [.int mc113, .ref ed30, .int 3])), (ed30, .inl (cO, 10, .inr (.inr (.inr (.inr (va_up (va_up (va_up (fun _ => none) 0 (some y32)) 1 (some y63)) 2 (some y114))))))), (y114, .inr (5, [.int 4, .int 4, .ref yw115, .ref yv116, .ref yh117, .int 2])), (yw115, .inl (cI, 4, .inl gw118)), (yv116, .inl (cI, 4, .inl gv119)), (yh117, .inl (cR, 4, .inr (.inr (.inr (.inr gh120)))))]) (w1 := [(q11, .inr (9, [.int 0, .ref am15, .int 0, .int 0, .int 0])), (am15, .inr (4, [.int mm127, .ref em45, .int 3])), (em45, .inl (cO, 10, .inr (.inr (.inr (.inr (va_up (va_up (va_up (fun _ => none) 0 (some a47)) 1 (some a77)) 2 (some a128))))))), (a128, .inr (8, [.int 4, .ref wa129, .ref na130])), (wa129, .inl (cI, 4, .inl fw131)), (na130, .inl (cI, 4, .inl fn132))]) hP hD [10, 11, 12] [0, 1, 2, 3, 4, 5, 6, 7, 8, 9, 13, 14, 15, 16, 17, 18, 19, 20, 21, 22, 23, 24, 25, 26] rfl rfl (by decide) (by decide) hk1 hFc hP1 hD1
  clear hPc hDc hFc hDv hpre hP hD hP1 hK1 hD1
  obtain ⟨hP, hD⟩ := hPD9
  replace hz : s.heap.size + 45 ≤ H125.size := by omega
  clear hz2
  replace hP : va_P (dC, dI) vwCl [(b8, .inr (1, [.ref v10, .int 0, .int 0, .int 0])), (v10, .inl (cB, 16, .inl (fun _ => 0))), (y32, .inr (5, [.int 4, .int 4, .ref yw33, .ref yv34, .ref yh35, .int 0])), (yw33, .inl (cI, 4, .inl gw36)), (yv34, .inl (cI, 4, .inl gv37)), (yh35, .inl (cR, 4, .inr (.inr (.inr (.inr gh38))))), (y63, .inr (5, [.int 4, .int 4, .ref yw64, .ref yv65, .ref yh66, .int 1])), (yw64, .inl (cI, 4, .inl gw92)), (yv65, .inl (cI, 4, .inl gv93)), (yh66, .inl (cR, 4, .inr (.inr (.inr (.inr gh94))))), (a47, .inr (8, [.int 4, .ref wa48, .ref na49])), (wa48, .inl (cI, 4, .inl fw50)), (na49, .inl (cI, 4, .inl fn51)), (a77, .inr (8, [.int 4, .ref wa78, .ref na79])), (wa78, .inl (cI, 4, .inl fw101)), (na79, .inl (cI, 4, .inl fn102)), (q16, .inr (7, [.long on112, .null])), (q1, .inr (6, [.ref al5, .int 0, .int 0, .int 0, .ref sa6, .ref sb7, .ref b8, .ref sc9])), (al5, .inr (4, [.int mc113, .ref ed30, .int 3])), (ed30, .inl (cO, 10, .inr (.inr (.inr (.inr (va_up (va_up (va_up (fun _ => none) 0 (some y32)) 1 (some y63)) 2 (some y114))))))), (y114, .inr (5, [.int 4, .int 4, .ref yw115, .ref yv116, .ref yh117, .int 2])), (yw115, .inl (cI, 4, .inl gw118)), (yv116, .inl (cI, 4, .inl gv119)), (yh117, .inl (cR, 4, .inr (.inr (.inr (.inr gh120))))), (q11, .inr (9, [.int 0, .ref am15, .int 0, .int 0, .int 0])), (am15, .inr (4, [.int mm127, .ref em45, .int 3])), (em45, .inl (cO, 10, .inr (.inr (.inr (.inr (va_up (va_up (va_up (fun _ => none) 0 (some a47)) 1 (some a77)) 2 (some a128))))))), (a128, .inr (8, [.int 4, .ref wa129, .ref na130])), (wa129, .inl (cI, 4, .inl fw131)), (na130, .inl (cI, 4, .inl fn132))] H125 := hP
  replace hD : va_D A [(b8, .inr (1, [.ref v10, .int 0, .int 0, .int 0])), (v10, .inl (cB, 16, .inl (fun _ => 0))), (y32, .inr (5, [.int 4, .int 4, .ref yw33, .ref yv34, .ref yh35, .int 0])), (yw33, .inl (cI, 4, .inl gw36)), (yv34, .inl (cI, 4, .inl gv37)), (yh35, .inl (cR, 4, .inr (.inr (.inr (.inr gh38))))), (y63, .inr (5, [.int 4, .int 4, .ref yw64, .ref yv65, .ref yh66, .int 1])), (yw64, .inl (cI, 4, .inl gw92)), (yv65, .inl (cI, 4, .inl gv93)), (yh66, .inl (cR, 4, .inr (.inr (.inr (.inr gh94))))), (a47, .inr (8, [.int 4, .ref wa48, .ref na49])), (wa48, .inl (cI, 4, .inl fw50)), (na49, .inl (cI, 4, .inl fn51)), (a77, .inr (8, [.int 4, .ref wa78, .ref na79])), (wa78, .inl (cI, 4, .inl fw101)), (na79, .inl (cI, 4, .inl fn102)), (q16, .inr (7, [.long on112, .null])), (q1, .inr (6, [.ref al5, .int 0, .int 0, .int 0, .ref sa6, .ref sb7, .ref b8, .ref sc9])), (al5, .inr (4, [.int mc113, .ref ed30, .int 3])), (ed30, .inl (cO, 10, .inr (.inr (.inr (.inr (va_up (va_up (va_up (fun _ => none) 0 (some y32)) 1 (some y63)) 2 (some y114))))))), (y114, .inr (5, [.int 4, .int 4, .ref yw115, .ref yv116, .ref yh117, .int 2])), (yw115, .inl (cI, 4, .inl gw118)), (yv116, .inl (cI, 4, .inl gv119)), (yh117, .inl (cR, 4, .inr (.inr (.inr (.inr gh120))))), (q11, .inr (9, [.int 0, .ref am15, .int 0, .int 0, .int 0])), (am15, .inr (4, [.int mm127, .ref em45, .int 3])), (em45, .inl (cO, 10, .inr (.inr (.inr (.inr (va_up (va_up (va_up (fun _ => none) 0 (some a47)) 1 (some a77)) 2 (some a128))))))), (a128, .inr (8, [.int 4, .ref wa129, .ref na130])), (wa129, .inl (cI, 4, .inl fw131)), (na130, .inl (cI, 4, .inl fn132))] := hD
  refine W.widen (k := 47) (n := 206) (by omega) (by omega) ?_
  refine lv_istore (lv' := [(6, .int 2), (5, .int r111), (4, .int 15), (3, .ref q16), (2, .ref q11), (1, .ref q1), (0, .ref b)]) hx hb dL_law_219 hl (by decide) rfl (fun ls hl => ?_)
  refine lv_goto (tgt := 1321) hx hb dL_law_221 (by decide) ?_
  refine lv_iinc (v := 20) (lv' := [(4, .int 20), (6, .int 2), (5, .int r111), (3, .ref q16), (2, .ref q11), (1, .ref q1), (0, .ref b)]) hx hb dL_law_1321 hl (k := 2) rfl (by decide) (by decide) rfl (fun ls hl => ?_)
  refine lv_goto (tgt := 27) hx hb dL_law_1324 (by decide) ?_
  refine lv_iload hx hb dL_law_27 (lv_at hl 0 rfl) ?_
  refine lv_aload_n hx hb dL_law_29 rfl (lv_at hl 6 rfl) ?_
  refine va_slen hx hb hX hbl hbA hS dL_law_30 ?_
  refine W.eq (g2 := F0 mY 31 ls [.int 1835, .int 20]) rfl ?_
  refine lv_iconst (v := 5) hx hb dL_law_31 (by decide) ?_
  refine lv_isub hx hb dL_law_32 ?_
  refine lv_topi (fun v133 ev133 => ?_)
  obtain rfl : v133 = 1830 := ev133.trans (by decide)
  refine lv_icmp_gt (tgt := 1327) hx hb dL_law_33 (by decide) (fun c9 => ?_) (fun c9 => ?_)
  · exact absurd c9 (by decide)
  refine lv_aload_n hx hb dL_law_36 rfl (lv_at hl 6 rfl) ?_
  refine lv_iload hx hb dL_law_37 (lv_at hl 0 rfl) ?_
  refine va_sld hx hb hX hbl hbA hS (by unfold vp_in; decide) dL_law_39 ?_
  refine lv_topi (fun v134 ev134 => ?_)
  obtain rfl : v134 = 9 := ev134.trans (by decide)
  refine lv_bipush (v := 31) hx hb dL_law_40 (by decide) ?_
  refine lv_iand hx hb dL_law_42 ?_
  refine lv_topi (fun v135 ev135 => ?_)
  obtain rfl : v135 = 9 := ev135.trans (by decide)
  refine lv_tableIn (off := 498) (tgt := 541) hx hb dL_law_43 (by decide) (by decide) (by decide) (by decide) ?_
  refine lv_aload_n hx hb dL_law_541 rfl (lv_at hl 5 rfl) ?_
  refine lv_aload_n hx hb dL_law_542 rfl (lv_at hl 6 rfl) ?_
  refine lv_iload hx hb dL_law_543 (lv_at hl 0 rfl) ?_
  refine lv_iconst (v := 1) hx hb dL_law_545 (by decide) ?_
  refine lv_iadd hx hb dL_law_546 ?_
  refine lv_topi (fun v136 ev136 => ?_)
  obtain rfl : v136 = 21 := ev136.trans (by decide)
  refine va_sld hx hb hX hbl hbA hS (by unfold vp_in; decide) dL_law_547 ?_
  refine lv_topi (fun v137 ev137 => ?_)
  obtain rfl : v137 = 2 := ev137.trans (by decide)
  refine lv_aload_n hx hb dL_law_548 rfl (lv_at hl 6 rfl) ?_
  refine lv_iload hx hb dL_law_549 (lv_at hl 0 rfl) ?_
  refine lv_iconst (v := 2) hx hb dL_law_551 (by decide) ?_
  refine lv_iadd hx hb dL_law_552 ?_
  refine lv_topi (fun v138 ev138 => ?_)
  obtain rfl : v138 = 22 := ev138.trans (by decide)
  refine va_sld hx hb hX hbl hbA hS (by unfold vp_in; decide) dL_law_553 ?_
  refine lv_topi (fun v139 ev139 => ?_)
  obtain rfl : v139 = 1 := ev139.trans (by decide)
  refine lv_aload_n hx hb dL_law_554 rfl (lv_at hl 3 rfl) ?_
  have hPc := hP.sub (ws' := [(q16, .inr (7, [.long on112, .null])), (q1, .inr (6, [.ref al5, .int 0, .int 0, .int 0, .ref sa6, .ref sb7, .ref b8, .ref sc9])), (al5, .inr (4, [.int mc113, .ref ed30, .int 3])), (ed30, .inl (cO, 10, .inr (.inr (.inr (.inr (va_up (va_up (va_up (fun _ => none) 0 (some y32)) 1 (some y63)) 2 (some y114))))))), (y32, .inr (5, [.int 4, .int 4, .ref yw33, .ref yv34, .ref yh35, .int 0])), (yw33, .inl (cI, 4, .inl gw36)), (yv34, .inl (cI, 4, .inl gv37)), (yh35, .inl (cR, 4, .inr (.inr (.inr (.inr gh38))))), (y63, .inr (5, [.int 4, .int 4, .ref yw64, .ref yv65, .ref yh66, .int 1])), (yw64, .inl (cI, 4, .inl gw92)), (yv65, .inl (cI, 4, .inl gv93)), (yh66, .inl (cR, 4, .inr (.inr (.inr (.inr gh94))))), (y114, .inr (5, [.int 4, .int 4, .ref yw115, .ref yv116, .ref yh117, .int 2])), (yw115, .inl (cI, 4, .inl gw118)), (yv116, .inl (cI, 4, .inl gv119)), (yh117, .inl (cR, 4, .inr (.inr (.inr (.inr gh120)))))]) [16, 17, 18, 19, 2, 3, 4, 5, 6, 7, 8, 9, 20, 21, 22, 23] rfl
  have hDc := hD.sub (ws' := [(q16, .inr (7, [.long on112, .null])), (q1, .inr (6, [.ref al5, .int 0, .int 0, .int 0, .ref sa6, .ref sb7, .ref b8, .ref sc9])), (al5, .inr (4, [.int mc113, .ref ed30, .int 3])), (ed30, .inl (cO, 10, .inr (.inr (.inr (.inr (va_up (va_up (va_up (fun _ => none) 0 (some y32)) 1 (some y63)) 2 (some y114))))))), (y32, .inr (5, [.int 4, .int 4, .ref yw33, .ref yv34, .ref yh35, .int 0])), (yw33, .inl (cI, 4, .inl gw36)), (yv34, .inl (cI, 4, .inl gv37)), (yh35, .inl (cR, 4, .inr (.inr (.inr (.inr gh38))))), (y63, .inr (5, [.int 4, .int 4, .ref yw64, .ref yv65, .ref yh66, .int 1])), (yw64, .inl (cI, 4, .inl gw92)), (yv65, .inl (cI, 4, .inl gv93)), (yh66, .inl (cR, 4, .inr (.inr (.inr (.inr gh94))))), (y114, .inr (5, [.int 4, .int 4, .ref yw115, .ref yv116, .ref yh117, .int 2])), (yw115, .inl (cI, 4, .inl gw118)), (yv116, .inl (cI, 4, .inl gv119)), (yh117, .inl (cR, 4, .inr (.inr (.inr (.inr gh120)))))]) [16, 17, 18, 19, 2, 3, 4, 5, 6, 7, 8, 9, 20, 21, 22, 23] (by decide) rfl
  have hFc := va_free (wc := [(q16, .inr (7, [.long on112, .null])), (q1, .inr (6, [.ref al5, .int 0, .int 0, .int 0, .ref sa6, .ref sb7, .ref b8, .ref sc9])), (al5, .inr (4, [.int mc113, .ref ed30, .int 3])), (ed30, .inl (cO, 10, .inr (.inr (.inr (.inr (va_up (va_up (va_up (fun _ => none) 0 (some y32)) 1 (some y63)) 2 (some y114))))))), (y32, .inr (5, [.int 4, .int 4, .ref yw33, .ref yv34, .ref yh35, .int 0])), (yw33, .inl (cI, 4, .inl gw36)), (yv34, .inl (cI, 4, .inl gv37)), (yh35, .inl (cR, 4, .inr (.inr (.inr (.inr gh38))))), (y63, .inr (5, [.int 4, .int 4, .ref yw64, .ref yv65, .ref yh66, .int 1])), (yw64, .inl (cI, 4, .inl gw92)), (yv65, .inl (cI, 4, .inl gv93)), (yh66, .inl (cR, 4, .inr (.inr (.inr (.inr gh94))))), (y114, .inr (5, [.int 4, .int 4, .ref yw115, .ref yv116, .ref yh117, .int 2])), (yw115, .inl (cI, 4, .inl gw118)), (yv116, .inl (cI, 4, .inl gv119)), (yh117, .inl (cR, 4, .inr (.inr (.inr (.inr gh120)))))]) hD hS hA [16, 17, 18, 19, 2, 3, 4, 5, 6, 7, 8, 9, 20, 21, 22, 23] rfl
  have hDv := hDc.self (sz := H125.size)
  have hpre := zpre (xs' := []) (av := [.ref q1, .int 2, .int 1, .ref q16]) hPc hK (hDc.weaken (fun _ _ _ h => h)) hZ hS hFc (fun r hr => by cases hr)
  refine va_calli (vx_runSW (As := [.ref q1, .int 2, .int 1, .ref q16]) (rest := []) ⟨hx, hb, hml, hown, hts⟩ (k_LfX2 l dC dI cI cB cR cO zk q1 al5 b8 (.int 0) (.int 0) (.int 0) (.ref sa6) (.ref sb7) (.ref sc9) ed30 (va_up (va_up (va_up (fun _ => none) 0 (some y32)) 1 (some y63)) 2 (some y114)) (.int mc113) y32 yw33 yv34 yh35 y63 yw64 yv65 yh66 0 1 gw36 gv37 gw92 gv93 gh38 gh94 y114 yw115 yv116 yh117 2 gw118 gv119 gh120 q16 (.long on112) .null H125.size rfl rfl rfl hwgw36 hhgh38 hhgh94) (vx_cwSW 4 hts gL_law_L_fillRow rfl rfl rfl (by decide +kernel) ⟨Nat.le_of_ble_eq_true rfl, Nat.le_of_ble_eq_true rfl⟩) ⟨zblind, hpre⟩ rfl rfl hl.1 rfl (lv_room (Nat.le_of_ble_eq_true rfl)) dL_law_555 ⟨Nat.le_of_ble_eq_true rfl, Nat.le_of_ble_eq_true rfl⟩) hS (fun q _ h => hFc q h) hFc (fun r141 u t H140 locs ht hvm hw hB hz1 hk1 hS => ?_)
  obtain ⟨on142, gw143, gv144, gh145, ⟨hP1, hK1, hD1, hz2⟩, hhgh145⟩ := hB
  rw [ht] at hP1 hz2
  have hPD9 := va_join (wr := [(b8, .inr (1, [.ref v10, .int 0, .int 0, .int 0])), (v10, .inl (cB, 16, .inl (fun _ => 0))), (a47, .inr (8, [.int 4, .ref wa48, .ref na49])), (wa48, .inl (cI, 4, .inl fw50)), (na49, .inl (cI, 4, .inl fn51)), (a77, .inr (8, [.int 4, .ref wa78, .ref na79])), (wa78, .inl (cI, 4, .inl fw101)), (na79, .inl (cI, 4, .inl fn102)), (q11, .inr (9, [.int 0, .ref am15, .int 0, .int 0, .int 0])), (am15, .inr (4, [.int mm127, .ref em45, .int 3])), (em45, .inl (cO, 10, .inr (.inr (.inr (.inr (va_up (va_up (va_up (fun _ => none) 0 (some a47)) 1 (some a77)) 2 (some a128))))))), (a128, .inr (8, [.int 4, .ref wa129, .ref na130])), (wa129, .inl (cI, 4, .inl fw131)), (na130, .inl (cI, 4, .inl fn132))]) (w1 := [(q16, .inr (7, [.long on142, .null])), (q1, .inr (6, [.ref al5, .int 0, .int 0, .int 0, .ref sa6, .ref sb7, .ref b8, .ref sc9])), (al5, .inr (4, [.int mc113, .ref ed30, .int 3])), (ed30, .inl (cO, 10, .inr (.inr (.inr (.inr (va_up (va_up (va_up (fun _ => none) 0 (some y32)) 1 (some y63)) 2 (some y114))))))), (y32, .inr (5, [.int 4, .int 4, .ref yw33, .ref yv34, .ref yh35, .int 0])), (yw33, .inl (cI, 4, .inl gw36)), (yv34, .inl (cI, 4, .inl gv37)), (yh35, .inl (cR, 4, .inr (.inr (.inr (.inr gh38))))), (y63, .inr (5, [.int 4, .int 4, .ref yw64, .ref yv65, .ref yh66, .int 1])), (yw64, .inl (cI, 4, .inl gw92)), (yv65, .inl (cI, 4, .inl gv93)), (yh66, .inl (cR, 4, .inr (.inr (.inr (.inr gh94))))), (y114, .inr (5, [.int 4, .int 4, .ref yw115, .ref yv116, .ref yh117, .int 2])), (yw115, .inl (cI, 4, .inl gw143)), (yv116, .inl (cI, 4, .inl gv144)), (yh117, .inl (cR, 4, .inr (.inr (.inr (.inr gh145)))))]) hP hD [16, 17, 18, 19, 2, 3, 4, 5, 6, 7, 8, 9, 20, 21, 22, 23] [0, 1, 10, 11, 12, 13, 14, 15, 24, 25, 26, 27, 28, 29] rfl rfl (by decide) (by decide) hk1 hFc hP1 hD1
  clear hPc hDc hFc hDv hpre hP hD hP1 hK1 hD1
  obtain ⟨hP, hD⟩ := hPD9
  replace hz : s.heap.size + 45 ≤ H140.size := by omega
  clear hz2
  replace hP : va_P (dC, dI) vwCl [(b8, .inr (1, [.ref v10, .int 0, .int 0, .int 0])), (v10, .inl (cB, 16, .inl (fun _ => 0))), (a47, .inr (8, [.int 4, .ref wa48, .ref na49])), (wa48, .inl (cI, 4, .inl fw50)), (na49, .inl (cI, 4, .inl fn51)), (a77, .inr (8, [.int 4, .ref wa78, .ref na79])), (wa78, .inl (cI, 4, .inl fw101)), (na79, .inl (cI, 4, .inl fn102)), (q11, .inr (9, [.int 0, .ref am15, .int 0, .int 0, .int 0])), (am15, .inr (4, [.int mm127, .ref em45, .int 3])), (em45, .inl (cO, 10, .inr (.inr (.inr (.inr (va_up (va_up (va_up (fun _ => none) 0 (some a47)) 1 (some a77)) 2 (some a128))))))), (a128, .inr (8, [.int 4, .ref wa129, .ref na130])), (wa129, .inl (cI, 4, .inl fw131)), (na130, .inl (cI, 4, .inl fn132)), (q16, .inr (7, [.long on142, .null])), (q1, .inr (6, [.ref al5, .int 0, .int 0, .int 0, .ref sa6, .ref sb7, .ref b8, .ref sc9])), (al5, .inr (4, [.int mc113, .ref ed30, .int 3])), (ed30, .inl (cO, 10, .inr (.inr (.inr (.inr (va_up (va_up (va_up (fun _ => none) 0 (some y32)) 1 (some y63)) 2 (some y114))))))), (y32, .inr (5, [.int 4, .int 4, .ref yw33, .ref yv34, .ref yh35, .int 0])), (yw33, .inl (cI, 4, .inl gw36)), (yv34, .inl (cI, 4, .inl gv37)), (yh35, .inl (cR, 4, .inr (.inr (.inr (.inr gh38))))), (y63, .inr (5, [.int 4, .int 4, .ref yw64, .ref yv65, .ref yh66, .int 1])), (yw64, .inl (cI, 4, .inl gw92)), (yv65, .inl (cI, 4, .inl gv93)), (yh66, .inl (cR, 4, .inr (.inr (.inr (.inr gh94))))), (y114, .inr (5, [.int 4, .int 4, .ref yw115, .ref yv116, .ref yh117, .int 2])), (yw115, .inl (cI, 4, .inl gw143)), (yv116, .inl (cI, 4, .inl gv144)), (yh117, .inl (cR, 4, .inr (.inr (.inr (.inr gh145)))))] H140 := hP
  replace hD : va_D A [(b8, .inr (1, [.ref v10, .int 0, .int 0, .int 0])), (v10, .inl (cB, 16, .inl (fun _ => 0))), (a47, .inr (8, [.int 4, .ref wa48, .ref na49])), (wa48, .inl (cI, 4, .inl fw50)), (na49, .inl (cI, 4, .inl fn51)), (a77, .inr (8, [.int 4, .ref wa78, .ref na79])), (wa78, .inl (cI, 4, .inl fw101)), (na79, .inl (cI, 4, .inl fn102)), (q11, .inr (9, [.int 0, .ref am15, .int 0, .int 0, .int 0])), (am15, .inr (4, [.int mm127, .ref em45, .int 3])), (em45, .inl (cO, 10, .inr (.inr (.inr (.inr (va_up (va_up (va_up (fun _ => none) 0 (some a47)) 1 (some a77)) 2 (some a128))))))), (a128, .inr (8, [.int 4, .ref wa129, .ref na130])), (wa129, .inl (cI, 4, .inl fw131)), (na130, .inl (cI, 4, .inl fn132)), (q16, .inr (7, [.long on142, .null])), (q1, .inr (6, [.ref al5, .int 0, .int 0, .int 0, .ref sa6, .ref sb7, .ref b8, .ref sc9])), (al5, .inr (4, [.int mc113, .ref ed30, .int 3])), (ed30, .inl (cO, 10, .inr (.inr (.inr (.inr (va_up (va_up (va_up (fun _ => none) 0 (some y32)) 1 (some y63)) 2 (some y114))))))), (y32, .inr (5, [.int 4, .int 4, .ref yw33, .ref yv34, .ref yh35, .int 0])), (yw33, .inl (cI, 4, .inl gw36)), (yv34, .inl (cI, 4, .inl gv37)), (yh35, .inl (cR, 4, .inr (.inr (.inr (.inr gh38))))), (y63, .inr (5, [.int 4, .int 4, .ref yw64, .ref yv65, .ref yh66, .int 1])), (yw64, .inl (cI, 4, .inl gw92)), (yv65, .inl (cI, 4, .inl gv93)), (yh66, .inl (cR, 4, .inr (.inr (.inr (.inr gh94))))), (y114, .inr (5, [.int 4, .int 4, .ref yw115, .ref yv116, .ref yh117, .int 2])), (yw115, .inl (cI, 4, .inl gw143)), (yv116, .inl (cI, 4, .inl gv144)), (yh117, .inl (cR, 4, .inr (.inr (.inr (.inr gh145)))))] := hD
  refine W.widen (k := 47) (n := 206) (by omega) (by omega) ?_
  refine lv_istore (lv' := [(5, .int r141), (4, .int 20), (6, .int 2), (3, .ref q16), (2, .ref q11), (1, .ref q1), (0, .ref b)]) hx hb dL_law_558 hl (by decide) rfl (fun ls hl => ?_)
  refine lv_aload_n hx hb dL_law_560 rfl (lv_at hl 4 rfl) ?_
  refine lv_aload_n hx hb dL_law_561 rfl (lv_at hl 6 rfl) ?_
  refine lv_iload hx hb dL_law_562 (lv_at hl 1 rfl) ?_
  refine lv_iconst (v := 1) hx hb dL_law_564 (by decide) ?_
  refine lv_iadd hx hb dL_law_565 ?_
  refine lv_topi (fun v146 ev146 => ?_)
  obtain rfl : v146 = 21 := ev146.trans (by decide)
  refine va_sld hx hb hX hbl hbA hS (by unfold vp_in; decide) dL_law_566 ?_
  refine lv_topi (fun v147 ev147 => ?_)
  obtain rfl : v147 = 2 := ev147.trans (by decide)
  refine lv_aload_n hx hb dL_law_567 rfl (lv_at hl 6 rfl) ?_
  refine lv_iload hx hb dL_law_568 (lv_at hl 1 rfl) ?_
  refine lv_iconst (v := 2) hx hb dL_law_570 (by decide) ?_
  refine lv_iadd hx hb dL_law_571 ?_
  refine lv_topi (fun v148 ev148 => ?_)
  obtain rfl : v148 = 22 := ev148.trans (by decide)
  refine va_sld hx hb hX hbl hbA hS (by unfold vp_in; decide) dL_law_572 ?_
  refine lv_topi (fun v149 ev149 => ?_)
  obtain rfl : v149 = 1 := ev149.trans (by decide)
  have hPc := hP.sub (ws' := [(q11, .inr (9, [.int 0, .ref am15, .int 0, .int 0, .int 0])), (am15, .inr (4, [.int mm127, .ref em45, .int 3])), (em45, .inl (cO, 10, .inr (.inr (.inr (.inr (va_up (va_up (va_up (fun _ => none) 0 (some a47)) 1 (some a77)) 2 (some a128))))))), (a47, .inr (8, [.int 4, .ref wa48, .ref na49])), (wa48, .inl (cI, 4, .inl fw50)), (na49, .inl (cI, 4, .inl fn51)), (a77, .inr (8, [.int 4, .ref wa78, .ref na79])), (wa78, .inl (cI, 4, .inl fw101)), (na79, .inl (cI, 4, .inl fn102)), (a128, .inr (8, [.int 4, .ref wa129, .ref na130])), (wa129, .inl (cI, 4, .inl fw131)), (na130, .inl (cI, 4, .inl fn132))]) [8, 9, 10, 2, 3, 4, 5, 6, 7, 11, 12, 13] rfl
  have hDc := hD.sub (ws' := [(q11, .inr (9, [.int 0, .ref am15, .int 0, .int 0, .int 0])), (am15, .inr (4, [.int mm127, .ref em45, .int 3])), (em45, .inl (cO, 10, .inr (.inr (.inr (.inr (va_up (va_up (va_up (fun _ => none) 0 (some a47)) 1 (some a77)) 2 (some a128))))))), (a47, .inr (8, [.int 4, .ref wa48, .ref na49])), (wa48, .inl (cI, 4, .inl fw50)), (na49, .inl (cI, 4, .inl fn51)), (a77, .inr (8, [.int 4, .ref wa78, .ref na79])), (wa78, .inl (cI, 4, .inl fw101)), (na79, .inl (cI, 4, .inl fn102)), (a128, .inr (8, [.int 4, .ref wa129, .ref na130])), (wa129, .inl (cI, 4, .inl fw131)), (na130, .inl (cI, 4, .inl fn132))]) [8, 9, 10, 2, 3, 4, 5, 6, 7, 11, 12, 13] (by decide) rfl
  have hFc := va_free (wc := [(q11, .inr (9, [.int 0, .ref am15, .int 0, .int 0, .int 0])), (am15, .inr (4, [.int mm127, .ref em45, .int 3])), (em45, .inl (cO, 10, .inr (.inr (.inr (.inr (va_up (va_up (va_up (fun _ => none) 0 (some a47)) 1 (some a77)) 2 (some a128))))))), (a47, .inr (8, [.int 4, .ref wa48, .ref na49])), (wa48, .inl (cI, 4, .inl fw50)), (na49, .inl (cI, 4, .inl fn51)), (a77, .inr (8, [.int 4, .ref wa78, .ref na79])), (wa78, .inl (cI, 4, .inl fw101)), (na79, .inl (cI, 4, .inl fn102)), (a128, .inr (8, [.int 4, .ref wa129, .ref na130])), (wa129, .inl (cI, 4, .inl fw131)), (na130, .inl (cI, 4, .inl fn132))]) hD hS hA [8, 9, 10, 2, 3, 4, 5, 6, 7, 11, 12, 13] rfl
  have hDv := hDc.self (sz := H140.size)
  have hpre := zpre (xs' := []) (av := [.ref q11, .int 2, .int 1]) hPc hK (hDc.weaken (fun _ _ _ h => h)) hZ hS hFc (fun r hr => by cases hr)
  refine va_calli (va_runV (As := [.int 2, .int 1]) (rest := []) ⟨hx, hb, hml, hown, hts⟩ (k_fiM2 l dC dI cI cB cR cO zk q11 am15 (.int 0) (.int 0) (.int 0) (.int 0) em45 (va_up (va_up (va_up (fun _ => none) 0 (some a47)) 1 (some a77)) 2 (some a128)) mm127 a47 wa48 na49 a77 wa78 na79 a128 wa129 na130 fw50 fn51 fw101 fn102 fw131 fn132 H140.size hwfw50 hnfn51 rfl hwfw101 hnfn102 rfl hwfw131 hnfn132 rfl) (cwV 2 hts gL_law_X4_fillRow rfl rfl rfl (by decide +kernel) ⟨Nat.le_of_ble_eq_true rfl, Nat.le_of_ble_eq_true rfl⟩) ⟨zblind, (zrecv_9 hK hPc (q0 := 0) rfl), hpre⟩ rfl rfl hl.1 rfl (lv_room (Nat.le_of_ble_eq_true rfl)) dL_law_573 ⟨Nat.le_of_ble_eq_true rfl, Nat.le_of_ble_eq_true rfl⟩) hS (fun q _ h => hFc q h) hFc (fun r151 u t H150 locs ht hvm hw hB hz1 hk1 hS => ?_)
  obtain rfl : 3 = r151 := (show r151 = 3 from hw).symm
  obtain ⟨fw152, fn153, ⟨hP1, hK1, hD1, hz2⟩, hwfw152, hnfn153⟩ := hB
  rw [ht] at hP1 hz2
  have hPD9 := va_join (wr := [(b8, .inr (1, [.ref v10, .int 0, .int 0, .int 0])), (v10, .inl (cB, 16, .inl (fun _ => 0))), (q16, .inr (7, [.long on142, .null])), (q1, .inr (6, [.ref al5, .int 0, .int 0, .int 0, .ref sa6, .ref sb7, .ref b8, .ref sc9])), (al5, .inr (4, [.int mc113, .ref ed30, .int 3])), (ed30, .inl (cO, 10, .inr (.inr (.inr (.inr (va_up (va_up (va_up (fun _ => none) 0 (some y32)) 1 (some y63)) 2 (some y114))))))), (y32, .inr (5, [.int 4, .int 4, .ref yw33, .ref yv34, .ref yh35, .int 0])), (yw33, .inl (cI, 4, .inl gw36)), (yv34, .inl (cI, 4, .inl gv37)), (yh35, .inl (cR, 4, .inr (.inr (.inr (.inr gh38))))), (y63, .inr (5, [.int 4, .int 4, .ref yw64, .ref yv65, .ref yh66, .int 1])), (yw64, .inl (cI, 4, .inl gw92)), (yv65, .inl (cI, 4, .inl gv93)), (yh66, .inl (cR, 4, .inr (.inr (.inr (.inr gh94))))), (y114, .inr (5, [.int 4, .int 4, .ref yw115, .ref yv116, .ref yh117, .int 2])), (yw115, .inl (cI, 4, .inl gw143)), (yv116, .inl (cI, 4, .inl gv144)), (yh117, .inl (cR, 4, .inr (.inr (.inr (.inr gh145)))))]) (w1 := [(q11, .inr (9, [.int 0, .ref am15, .int 0, .int 0, .int 0])), (am15, .inr (4, [.int mm127, .ref em45, .int 3])), (em45, .inl (cO, 10, .inr (.inr (.inr (.inr (va_up (va_up (va_up (fun _ => none) 0 (some a47)) 1 (some a77)) 2 (some a128))))))), (a47, .inr (8, [.int 4, .ref wa48, .ref na49])), (wa48, .inl (cI, 4, .inl fw50)), (na49, .inl (cI, 4, .inl fn51)), (a77, .inr (8, [.int 4, .ref wa78, .ref na79])), (wa78, .inl (cI, 4, .inl fw101)), (na79, .inl (cI, 4, .inl fn102)), (a128, .inr (8, [.int 4, .ref wa129, .ref na130])), (wa129, .inl (cI, 4, .inl fw152)), (na130, .inl (cI, 4, .inl fn153))]) hP hD [8, 9, 10, 2, 3, 4, 5, 6, 7, 11, 12, 13] [0, 1, 14, 15, 16, 17, 18, 19, 20, 21, 22, 23, 24, 25, 26, 27, 28, 29] rfl rfl (by decide) (by decide) hk1 hFc hP1 hD1
  clear hPc hDc hFc hDv hpre hP hD hP1 hK1 hD1
  obtain ⟨hP, hD⟩ := hPD9
  replace hz : s.heap.size + 50 ≤ H150.size := by omega
  clear hz2
  replace hP : va_P (dC, dI) vwCl [(b8, .inr (1, [.ref v10, .int 0, .int 0, .int 0])), (v10, .inl (cB, 16, .inl (fun _ => 0))), (q16, .inr (7, [.long on142, .null])), (q1, .inr (6, [.ref al5, .int 0, .int 0, .int 0, .ref sa6, .ref sb7, .ref b8, .ref sc9])), (al5, .inr (4, [.int mc113, .ref ed30, .int 3])), (ed30, .inl (cO, 10, .inr (.inr (.inr (.inr (va_up (va_up (va_up (fun _ => none) 0 (some y32)) 1 (some y63)) 2 (some y114))))))), (y32, .inr (5, [.int 4, .int 4, .ref yw33, .ref yv34, .ref yh35, .int 0])), (yw33, .inl (cI, 4, .inl gw36)), (yv34, .inl (cI, 4, .inl gv37)), (yh35, .inl (cR, 4, .inr (.inr (.inr (.inr gh38))))), (y63, .inr (5, [.int 4, .int 4, .ref yw64, .ref yv65, .ref yh66, .int 1])), (yw64, .inl (cI, 4, .inl gw92)), (yv65, .inl (cI, 4, .inl gv93)), (yh66, .inl (cR, 4, .inr (.inr (.inr (.inr gh94))))), (y114, .inr (5, [.int 4, .int 4, .ref yw115, .ref yv116, .ref yh117, .int 2])), (yw115, .inl (cI, 4, .inl gw143)), (yv116, .inl (cI, 4, .inl gv144)), (yh117, .inl (cR, 4, .inr (.inr (.inr (.inr gh145))))), (q11, .inr (9, [.int 0, .ref am15, .int 0, .int 0, .int 0])), (am15, .inr (4, [.int mm127, .ref em45, .int 3])), (em45, .inl (cO, 10, .inr (.inr (.inr (.inr (va_up (va_up (va_up (fun _ => none) 0 (some a47)) 1 (some a77)) 2 (some a128))))))), (a47, .inr (8, [.int 4, .ref wa48, .ref na49])), (wa48, .inl (cI, 4, .inl fw50)), (na49, .inl (cI, 4, .inl fn51)), (a77, .inr (8, [.int 4, .ref wa78, .ref na79])), (wa78, .inl (cI, 4, .inl fw101)), (na79, .inl (cI, 4, .inl fn102)), (a128, .inr (8, [.int 4, .ref wa129, .ref na130])), (wa129, .inl (cI, 4, .inl fw152)), (na130, .inl (cI, 4, .inl fn153))] H150 := hP
  replace hD : va_D A [(b8, .inr (1, [.ref v10, .int 0, .int 0, .int 0])), (v10, .inl (cB, 16, .inl (fun _ => 0))), (q16, .inr (7, [.long on142, .null])), (q1, .inr (6, [.ref al5, .int 0, .int 0, .int 0, .ref sa6, .ref sb7, .ref b8, .ref sc9])), (al5, .inr (4, [.int mc113, .ref ed30, .int 3])), (ed30, .inl (cO, 10, .inr (.inr (.inr (.inr (va_up (va_up (va_up (fun _ => none) 0 (some y32)) 1 (some y63)) 2 (some y114))))))), (y32, .inr (5, [.int 4, .int 4, .ref yw33, .ref yv34, .ref yh35, .int 0])), (yw33, .inl (cI, 4, .inl gw36)), (yv34, .inl (cI, 4, .inl gv37)), (yh35, .inl (cR, 4, .inr (.inr (.inr (.inr gh38))))), (y63, .inr (5, [.int 4, .int 4, .ref yw64, .ref yv65, .ref yh66, .int 1])), (yw64, .inl (cI, 4, .inl gw92)), (yv65, .inl (cI, 4, .inl gv93)), (yh66, .inl (cR, 4, .inr (.inr (.inr (.inr gh94))))), (y114, .inr (5, [.int 4, .int 4, .ref yw115, .ref yv116, .ref yh117, .int 2])), (yw115, .inl (cI, 4, .inl gw143)), (yv116, .inl (cI, 4, .inl gv144)), (yh117, .inl (cR, 4, .inr (.inr (.inr (.inr gh145))))), (q11, .inr (9, [.int 0, .ref am15, .int 0, .int 0, .int 0])), (am15, .inr (4, [.int mm127, .ref em45, .int 3])), (em45, .inl (cO, 10, .inr (.inr (.inr (.inr (va_up (va_up (va_up (fun _ => none) 0 (some a47)) 1 (some a77)) 2 (some a128))))))), (a47, .inr (8, [.int 4, .ref wa48, .ref na49])), (wa48, .inl (cI, 4, .inl fw50)), (na49, .inl (cI, 4, .inl fn51)), (a77, .inr (8, [.int 4, .ref wa78, .ref na79])), (wa78, .inl (cI, 4, .inl fw101)), (na79, .inl (cI, 4, .inl fn102)), (a128, .inr (8, [.int 4, .ref wa129, .ref na130])), (wa129, .inl (cI, 4, .inl fw152)), (na130, .inl (cI, 4, .inl fn153))] := hD
  refine W.widen (k := 55) (n := 230) (by omega) (by omega) ?_
  refine lv_istore (lv' := [(6, .int 3), (5, .int r141), (4, .int 20), (3, .ref q16), (2, .ref q11), (1, .ref q1), (0, .ref b)]) hx hb dL_law_576 hl (by decide) rfl (fun ls hl => ?_)
  refine lv_goto (tgt := 1321) hx hb dL_law_578 (by decide) ?_
  refine lv_iinc (v := 25) (lv' := [(4, .int 25), (6, .int 3), (5, .int r141), (3, .ref q16), (2, .ref q11), (1, .ref q1), (0, .ref b)]) hx hb dL_law_1321 hl (k := 2) rfl (by decide) (by decide) rfl (fun ls hl => ?_)
  refine lv_goto (tgt := 27) hx hb dL_law_1324 (by decide) ?_
  refine lv_iload hx hb dL_law_27 (lv_at hl 0 rfl) ?_
  refine lv_aload_n hx hb dL_law_29 rfl (lv_at hl 6 rfl) ?_
  refine va_slen hx hb hX hbl hbA hS dL_law_30 ?_
  refine W.eq (g2 := F0 mY 31 ls [.int 1835, .int 25]) rfl ?_
  refine lv_iconst (v := 5) hx hb dL_law_31 (by decide) ?_
  refine lv_isub hx hb dL_law_32 ?_
  refine lv_topi (fun v154 ev154 => ?_)
  obtain rfl : v154 = 1830 := ev154.trans (by decide)
  refine lv_icmp_gt (tgt := 1327) hx hb dL_law_33 (by decide) (fun c9 => ?_) (fun c9 => ?_)
  · exact absurd c9 (by decide)
  refine lv_aload_n hx hb dL_law_36 rfl (lv_at hl 6 rfl) ?_
  refine lv_iload hx hb dL_law_37 (lv_at hl 0 rfl) ?_
  refine va_sld hx hb hX hbl hbA hS (by unfold vp_in; decide) dL_law_39 ?_
  refine lv_topi (fun v155 ev155 => ?_)
  obtain rfl : v155 = 0 := ev155.trans (by decide)
  refine lv_bipush (v := 31) hx hb dL_law_40 (by decide) ?_
  refine lv_iand hx hb dL_law_42 ?_
  refine lv_topi (fun v156 ev156 => ?_)
  obtain rfl : v156 = 0 := ev156.trans (by decide)
  refine lv_tableIn (off := 141) (tgt := 184) hx hb dL_law_43 (by decide) (by decide) (by decide) (by decide) ?_
  refine lv_aload_n hx hb dL_law_184 rfl (lv_at hl 5 rfl) ?_
  refine lv_aload_n hx hb dL_law_185 rfl (lv_at hl 6 rfl) ?_
  refine lv_iload hx hb dL_law_186 (lv_at hl 0 rfl) ?_
  refine lv_iconst (v := 1) hx hb dL_law_188 (by decide) ?_
  refine lv_iadd hx hb dL_law_189 ?_
  refine lv_topi (fun v157 ev157 => ?_)
  obtain rfl : v157 = 26 := ev157.trans (by decide)
  refine va_sld hx hb hX hbl hbA hS (by unfold vp_in; decide) dL_law_190 ?_
  refine lv_topi (fun v158 ev158 => ?_)
  obtain rfl : v158 = 4 := ev158.trans (by decide)
  refine lv_aload_n hx hb dL_law_191 rfl (lv_at hl 6 rfl) ?_
  refine lv_iload hx hb dL_law_192 (lv_at hl 0 rfl) ?_
  refine lv_iconst (v := 2) hx hb dL_law_194 (by decide) ?_
  refine lv_iadd hx hb dL_law_195 ?_
  refine lv_topi (fun v159 ev159 => ?_)
  obtain rfl : v159 = 27 := ev159.trans (by decide)
  refine va_sld hx hb hX hbl hbA hS (by unfold vp_in; decide) dL_law_196 ?_
  refine lv_topi (fun v160 ev160 => ?_)
  obtain rfl : v160 = 4 := ev160.trans (by decide)
  refine lv_aload_n hx hb dL_law_197 rfl (lv_at hl 3 rfl) ?_
  have hPc := hP.sub (ws' := [(q16, .inr (7, [.long on142, .null])), (q1, .inr (6, [.ref al5, .int 0, .int 0, .int 0, .ref sa6, .ref sb7, .ref b8, .ref sc9])), (al5, .inr (4, [.int mc113, .ref ed30, .int 3])), (ed30, .inl (cO, 10, .inr (.inr (.inr (.inr (va_up (va_up (va_up (fun _ => none) 0 (some y32)) 1 (some y63)) 2 (some y114)))))))]) [2, 3, 4, 5] rfl
  have hDc := hD.sub (ws' := [(q16, .inr (7, [.long on142, .null])), (q1, .inr (6, [.ref al5, .int 0, .int 0, .int 0, .ref sa6, .ref sb7, .ref b8, .ref sc9])), (al5, .inr (4, [.int mc113, .ref ed30, .int 3])), (ed30, .inl (cO, 10, .inr (.inr (.inr (.inr (va_up (va_up (va_up (fun _ => none) 0 (some y32)) 1 (some y63)) 2 (some y114)))))))]) [2, 3, 4, 5] (by decide) rfl
  have hFc := va_free (wc := [(q16, .inr (7, [.long on142, .null])), (q1, .inr (6, [.ref al5, .int 0, .int 0, .int 0, .ref sa6, .ref sb7, .ref b8, .ref sc9])), (al5, .inr (4, [.int mc113, .ref ed30, .int 3])), (ed30, .inl (cO, 10, .inr (.inr (.inr (.inr (va_up (va_up (va_up (fun _ => none) 0 (some y32)) 1 (some y63)) 2 (some y114)))))))]) hD hS hA [2, 3, 4, 5] rfl
  have hDv := hDc.self (sz := H150.size)
  have hpre := zpre (xs' := []) (av := [.ref q1, .int 4, .int 4, .ref q16]) hPc hK (hDc.weaken (fun _ _ _ h => h)) hZ hS hFc (fun r hr => by cases hr)
  refine va_calli (vx_runSW (As := [.ref q1, .int 4, .int 4, .ref q16]) (rest := []) ⟨hx, hb, hml, hown, hts⟩ (k_LmX3 l dC dI cI cB cR cO zk q1 al5 b8 (.int 0) (.int 0) (.int 0) (.ref sa6) (.ref sb7) (.ref sc9) ed30 (va_up (va_up (va_up (fun _ => none) 0 (some y32)) 1 (some y63)) 2 (some y114)) mc113 q16 (.long on142) .null H150.size ) (vx_cwSW 4 hts gL_law_L_make rfl rfl rfl (by decide +kernel) ⟨Nat.le_of_ble_eq_true rfl, Nat.le_of_ble_eq_true rfl⟩) ⟨zblind, hpre⟩ rfl rfl hl.1 rfl (lv_room (Nat.le_of_ble_eq_true rfl)) dL_law_198 ⟨Nat.le_of_ble_eq_true rfl, Nat.le_of_ble_eq_true rfl⟩) hS (fun q _ h => hFc q h) hFc (fun r162 u t H161 locs ht hvm hw hB hz1 hk1 hS => ?_)
  obtain ⟨on163, mc164, y165, yw166, yv167, yh168, gw169, gv170, gh171, ⟨hP1, hK1, hD1, hz2⟩, hwgw169, hhgh171⟩ := hB
  rw [ht] at hP1 hz2
  have hPD9 := va_join (wr := [(b8, .inr (1, [.ref v10, .int 0, .int 0, .int 0])), (v10, .inl (cB, 16, .inl (fun _ => 0))), (y32, .inr (5, [.int 4, .int 4, .ref yw33, .ref yv34, .ref yh35, .int 0])), (yw33, .inl (cI, 4, .inl gw36)), (yv34, .inl (cI, 4, .inl gv37)), (yh35, .inl (cR, 4, .inr (.inr (.inr (.inr gh38))))), (y63, .inr (5, [.int 4, .int 4, .ref yw64, .ref yv65, .ref yh66, .int 1])), (yw64, .inl (cI, 4, .inl gw92)), (yv65, .inl (cI, 4, .inl gv93)), (yh66, .inl (cR, 4, .inr (.inr (.inr (.inr gh94))))), (y114, .inr (5, [.int 4, .int 4, .ref yw115, .ref yv116, .ref yh117, .int 2])), (yw115, .inl (cI, 4, .inl gw143)), (yv116, .inl (cI, 4, .inl gv144)), (yh117, .inl (cR, 4, .inr (.inr (.inr (.inr gh145))))), (q11, .inr (9, [.int 0, .ref am15, .int 0, .int 0, .int 0])), (am15, .inr (4, [.int mm127, .ref em45, .int 3])), (em45, .inl (cO, 10, .inr (.inr (.inr (.inr (va_up (va_up (va_up (fun _ => none) 0 (some a47)) 1 (some a77)) 2 (some a128))))))), (a47, .inr (8, [.int 4, .ref wa48, .ref na49])), (wa48, .inl (cI, 4, .inl fw50)), (na49, .inl (cI, 4, .inl fn51)), (a77, .inr (8, [.int 4, .ref wa78, .ref na79])), (wa78, .inl (cI, 4, .inl fw101)), (na79, .inl (cI, 4, .inl fn102)), (a128, .inr (8, [.int 4, .ref wa129, .ref na130])), (wa129, .inl (cI, 4, .inl fw152)), (na130, .inl (cI, 4, .inl fn153))]) (w1 := [(q16, .inr (7, [.long on163, .null])), (q1, .inr (6, [.ref al5, .int 0, .int 0, .int 0, .ref sa6, .ref sb7, .ref b8, .ref sc9])), (al5, .inr (4, [.int mc164, .ref ed30, .int 4])), (ed30, .inl (cO, 10, .inr (.inr (.inr (.inr (va_up (va_up (va_up (va_up (fun _ => none) 0 (some y32)) 1 (some y63)) 2 (some y114)) 3 (some y165))))))), (y165, .inr (5, [.int 4, .int 4, .ref yw166, .ref yv167, .ref yh168, .int 3])), (yw166, .inl (cI, 4, .inl gw169)), (yv167, .inl (cI, 4, .inl gv170)), (yh168, .inl (cR, 4, .inr (.inr (.inr (.inr gh171)))))]) hP hD [2, 3, 4, 5] [0, 1, 6, 7, 8, 9, 10, 11, 12, 13, 14, 15, 16, 17, 18, 19, 20, 21, 22, 23, 24, 25, 26, 27, 28, 29] rfl rfl (by decide) (by decide) hk1 hFc hP1 hD1
  clear hPc hDc hFc hDv hpre hP hD hP1 hK1 hD1
  obtain ⟨hP, hD⟩ := hPD9
  replace hz : s.heap.size + 54 ≤ H161.size := by omega
  clear hz2
  replace hP : va_P (dC, dI) vwCl [(b8, .inr (1, [.ref v10, .int 0, .int 0, .int 0])), (v10, .inl (cB, 16, .inl (fun _ => 0))), (y32, .inr (5, [.int 4, .int 4, .ref yw33, .ref yv34, .ref yh35, .int 0])), (yw33, .inl (cI, 4, .inl gw36)), (yv34, .inl (cI, 4, .inl gv37)), (yh35, .inl (cR, 4, .inr (.inr (.inr (.inr gh38))))), (y63, .inr (5, [.int 4, .int 4, .ref yw64, .ref yv65, .ref yh66, .int 1])), (yw64, .inl (cI, 4, .inl gw92)), (yv65, .inl (cI, 4, .inl gv93)), (yh66, .inl (cR, 4, .inr (.inr (.inr (.inr gh94))))), (y114, .inr (5, [.int 4, .int 4, .ref yw115, .ref yv116, .ref yh117, .int 2])), (yw115, .inl (cI, 4, .inl gw143)), (yv116, .inl (cI, 4, .inl gv144)), (yh117, .inl (cR, 4, .inr (.inr (.inr (.inr gh145))))), (q11, .inr (9, [.int 0, .ref am15, .int 0, .int 0, .int 0])), (am15, .inr (4, [.int mm127, .ref em45, .int 3])), (em45, .inl (cO, 10, .inr (.inr (.inr (.inr (va_up (va_up (va_up (fun _ => none) 0 (some a47)) 1 (some a77)) 2 (some a128))))))), (a47, .inr (8, [.int 4, .ref wa48, .ref na49])), (wa48, .inl (cI, 4, .inl fw50)), (na49, .inl (cI, 4, .inl fn51)), (a77, .inr (8, [.int 4, .ref wa78, .ref na79])), (wa78, .inl (cI, 4, .inl fw101)), (na79, .inl (cI, 4, .inl fn102)), (a128, .inr (8, [.int 4, .ref wa129, .ref na130])), (wa129, .inl (cI, 4, .inl fw152)), (na130, .inl (cI, 4, .inl fn153)), (q16, .inr (7, [.long on163, .null])), (q1, .inr (6, [.ref al5, .int 0, .int 0, .int 0, .ref sa6, .ref sb7, .ref b8, .ref sc9])), (al5, .inr (4, [.int mc164, .ref ed30, .int 4])), (ed30, .inl (cO, 10, .inr (.inr (.inr (.inr (va_up (va_up (va_up (va_up (fun _ => none) 0 (some y32)) 1 (some y63)) 2 (some y114)) 3 (some y165))))))), (y165, .inr (5, [.int 4, .int 4, .ref yw166, .ref yv167, .ref yh168, .int 3])), (yw166, .inl (cI, 4, .inl gw169)), (yv167, .inl (cI, 4, .inl gv170)), (yh168, .inl (cR, 4, .inr (.inr (.inr (.inr gh171)))))] H161 := hP
  replace hD : va_D A [(b8, .inr (1, [.ref v10, .int 0, .int 0, .int 0])), (v10, .inl (cB, 16, .inl (fun _ => 0))), (y32, .inr (5, [.int 4, .int 4, .ref yw33, .ref yv34, .ref yh35, .int 0])), (yw33, .inl (cI, 4, .inl gw36)), (yv34, .inl (cI, 4, .inl gv37)), (yh35, .inl (cR, 4, .inr (.inr (.inr (.inr gh38))))), (y63, .inr (5, [.int 4, .int 4, .ref yw64, .ref yv65, .ref yh66, .int 1])), (yw64, .inl (cI, 4, .inl gw92)), (yv65, .inl (cI, 4, .inl gv93)), (yh66, .inl (cR, 4, .inr (.inr (.inr (.inr gh94))))), (y114, .inr (5, [.int 4, .int 4, .ref yw115, .ref yv116, .ref yh117, .int 2])), (yw115, .inl (cI, 4, .inl gw143)), (yv116, .inl (cI, 4, .inl gv144)), (yh117, .inl (cR, 4, .inr (.inr (.inr (.inr gh145))))), (q11, .inr (9, [.int 0, .ref am15, .int 0, .int 0, .int 0])), (am15, .inr (4, [.int mm127, .ref em45, .int 3])), (em45, .inl (cO, 10, .inr (.inr (.inr (.inr (va_up (va_up (va_up (fun _ => none) 0 (some a47)) 1 (some a77)) 2 (some a128))))))), (a47, .inr (8, [.int 4, .ref wa48, .ref na49])), (wa48, .inl (cI, 4, .inl fw50)), (na49, .inl (cI, 4, .inl fn51)), (a77, .inr (8, [.int 4, .ref wa78, .ref na79])), (wa78, .inl (cI, 4, .inl fw101)), (na79, .inl (cI, 4, .inl fn102)), (a128, .inr (8, [.int 4, .ref wa129, .ref na130])), (wa129, .inl (cI, 4, .inl fw152)), (na130, .inl (cI, 4, .inl fn153)), (q16, .inr (7, [.long on163, .null])), (q1, .inr (6, [.ref al5, .int 0, .int 0, .int 0, .ref sa6, .ref sb7, .ref b8, .ref sc9])), (al5, .inr (4, [.int mc164, .ref ed30, .int 4])), (ed30, .inl (cO, 10, .inr (.inr (.inr (.inr (va_up (va_up (va_up (va_up (fun _ => none) 0 (some y32)) 1 (some y63)) 2 (some y114)) 3 (some y165))))))), (y165, .inr (5, [.int 4, .int 4, .ref yw166, .ref yv167, .ref yh168, .int 3])), (yw166, .inl (cI, 4, .inl gw169)), (yv167, .inl (cI, 4, .inl gv170)), (yh168, .inl (cR, 4, .inr (.inr (.inr (.inr gh171)))))] := hD
  refine W.widen (k := 59) (n := 248) (by omega) (by omega) ?_
  refine lv_istore (lv' := [(5, .int r162), (4, .int 25), (6, .int 3), (3, .ref q16), (2, .ref q11), (1, .ref q1), (0, .ref b)]) hx hb dL_law_201 hl (by decide) rfl (fun ls hl => ?_)
  refine lv_aload_n hx hb dL_law_203 rfl (lv_at hl 4 rfl) ?_
  refine lv_aload_n hx hb dL_law_204 rfl (lv_at hl 6 rfl) ?_
  refine lv_iload hx hb dL_law_205 (lv_at hl 1 rfl) ?_
  refine lv_iconst (v := 1) hx hb dL_law_207 (by decide) ?_
  refine lv_iadd hx hb dL_law_208 ?_
  refine lv_topi (fun v172 ev172 => ?_)
  obtain rfl : v172 = 26 := ev172.trans (by decide)
  refine va_sld hx hb hX hbl hbA hS (by unfold vp_in; decide) dL_law_209 ?_
  refine lv_topi (fun v173 ev173 => ?_)
  obtain rfl : v173 = 4 := ev173.trans (by decide)
  refine lv_aload_n hx hb dL_law_210 rfl (lv_at hl 6 rfl) ?_
  refine lv_iload hx hb dL_law_211 (lv_at hl 1 rfl) ?_
  refine lv_iconst (v := 2) hx hb dL_law_213 (by decide) ?_
  refine lv_iadd hx hb dL_law_214 ?_
  refine lv_topi (fun v174 ev174 => ?_)
  obtain rfl : v174 = 27 := ev174.trans (by decide)
  refine va_sld hx hb hX hbl hbA hS (by unfold vp_in; decide) dL_law_215 ?_
  refine lv_topi (fun v175 ev175 => ?_)
  obtain rfl : v175 = 4 := ev175.trans (by decide)
  have hPc := hP.sub (ws' := [(q11, .inr (9, [.int 0, .ref am15, .int 0, .int 0, .int 0])), (am15, .inr (4, [.int mm127, .ref em45, .int 3])), (em45, .inl (cO, 10, .inr (.inr (.inr (.inr (va_up (va_up (va_up (fun _ => none) 0 (some a47)) 1 (some a77)) 2 (some a128)))))))]) [14, 15, 16] rfl
  have hDc := hD.sub (ws' := [(q11, .inr (9, [.int 0, .ref am15, .int 0, .int 0, .int 0])), (am15, .inr (4, [.int mm127, .ref em45, .int 3])), (em45, .inl (cO, 10, .inr (.inr (.inr (.inr (va_up (va_up (va_up (fun _ => none) 0 (some a47)) 1 (some a77)) 2 (some a128)))))))]) [14, 15, 16] (by decide) rfl
  have hFc := va_free (wc := [(q11, .inr (9, [.int 0, .ref am15, .int 0, .int 0, .int 0])), (am15, .inr (4, [.int mm127, .ref em45, .int 3])), (em45, .inl (cO, 10, .inr (.inr (.inr (.inr (va_up (va_up (va_up (fun _ => none) 0 (some a47)) 1 (some a77)) 2 (some a128)))))))]) hD hS hA [14, 15, 16] rfl
  have hDv := hDc.self (sz := H161.size)
  have hpre := zpre (xs' := []) (av := [.ref q11, .int 4, .int 4]) hPc hK (hDc.weaken (fun _ _ _ h => h)) hZ hS hFc (fun r hr => by cases hr)
  refine va_calli (va_runV (As := [.int 4, .int 4]) (rest := []) ⟨hx, hb, hml, hown, hts⟩ (k_mkM3 l dC dI cI cB cR cO zk q11 am15 (.int 0) (.int 0) (.int 0) (.int 0) em45 (va_up (va_up (va_up (fun _ => none) 0 (some a47)) 1 (some a77)) 2 (some a128)) mm127 H161.size ) (cwV 2 hts gL_law_X4_make rfl rfl rfl (by decide +kernel) ⟨Nat.le_of_ble_eq_true rfl, Nat.le_of_ble_eq_true rfl⟩) ⟨zblind, (zrecv_9 hK hPc (q0 := 0) rfl), hpre⟩ rfl rfl hl.1 rfl (lv_room (Nat.le_of_ble_eq_true rfl)) dL_law_216 ⟨Nat.le_of_ble_eq_true rfl, Nat.le_of_ble_eq_true rfl⟩) hS (fun q _ h => hFc q h) hFc (fun r177 u t H176 locs ht hvm hw hB hz1 hk1 hS => ?_)
  obtain rfl : 3 = r177 := (show r177 = 3 from hw).symm
  obtain ⟨mm178, a179, wa180, na181, fw182, fn183, ⟨hP1, hK1, hD1, hz2⟩, hwfw182, hnfn183⟩ := hB
  rw [ht] at hP1 hz2
  have hPD9 := va_join (wr := [(b8, .inr (1, [.ref v10, .int 0, .int 0, .int 0])), (v10, .inl (cB, 16, .inl (fun _ => 0))), (y32, .inr (5, [.int 4, .int 4, .ref yw33, .ref yv34, .ref yh35, .int 0])), (yw33, .inl (cI, 4, .inl gw36)), (yv34, .inl (cI, 4, .inl gv37)), (yh35, .inl (cR, 4, .inr (.inr (.inr (.inr gh38))))), (y63, .inr (5, [.int 4, .int 4, .ref yw64, .ref yv65, .ref yh66, .int 1])), (yw64, .inl (cI, 4, .inl gw92)), (yv65, .inl (cI, 4, .inl gv93)), (yh66, .inl (cR, 4, .inr (.inr (.inr (.inr gh94))))), (y114, .inr (5, [.int 4, .int 4, .ref yw115, .ref yv116, .ref yh117, .int 2])), (yw115, .inl (cI, 4, .inl gw143)), (yv116, .inl (cI, 4, .inl gv144)), (yh117, .inl (cR, 4, .inr (.inr (.inr (.inr gh145))))), (a47, .inr (8, [.int 4, .ref wa48, .ref na49])), (wa48, .inl (cI, 4, .inl fw50)), (na49, .inl (cI, 4, .inl fn51)), (a77, .inr (8, [.int 4, .ref wa78, .ref na79])), (wa78, .inl (cI, 4, .inl fw101)), (na79, .inl (cI, 4, .inl fn102)), (a128, .inr (8, [.int 4, .ref wa129, .ref na130])), (wa129, .inl (cI, 4, .inl fw152)), (na130, .inl (cI, 4, .inl fn153)), (q16, .inr (7, [.long on163, .null])), (q1, .inr (6, [.ref al5, .int 0, .int 0, .int 0, .ref sa6, .ref sb7, .ref b8, .ref sc9])), (al5, .inr (4, [.int mc164, .ref ed30, .int 4])), (ed30, .inl (cO, 10, .inr (.inr (.inr (.inr (va_up (va_up (va_up (va_up (fun _ => none) 0 (some y32)) 1 (some y63)) 2 (some y114)) 3 (some y165))))))), (y165, .inr (5, [.int 4, .int 4, .ref yw166, .ref yv167, .ref yh168, .int 3])), (yw166, .inl (cI, 4, .inl gw169)), (yv167, .inl (cI, 4, .inl gv170)), (yh168, .inl (cR, 4, .inr (.inr (.inr (.inr gh171)))))]) (w1 := [(q11, .inr (9, [.int 0, .ref am15, .int 0, .int 0, .int 0])), (am15, .inr (4, [.int mm178, .ref em45, .int 4])), (em45, .inl (cO, 10, .inr (.inr (.inr (.inr (va_up (va_up (va_up (va_up (fun _ => none) 0 (some a47)) 1 (some a77)) 2 (some a128)) 3 (some a179))))))), (a179, .inr (8, [.int 4, .ref wa180, .ref na181])), (wa180, .inl (cI, 4, .inl fw182)), (na181, .inl (cI, 4, .inl fn183))]) hP hD [14, 15, 16] [0, 1, 2, 3, 4, 5, 6, 7, 8, 9, 10, 11, 12, 13, 17, 18, 19, 20, 21, 22, 23, 24, 25, 26, 27, 28, 29, 30, 31, 32, 33] rfl rfl (by decide) (by decide) hk1 hFc hP1 hD1
  clear hPc hDc hFc hDv hpre hP hD hP1 hK1 hD1
  obtain ⟨hP, hD⟩ := hPD9
  replace hz : s.heap.size + 57 ≤ H176.size := by omega
  clear hz2
  replace hP : va_P (dC, dI) vwCl [(b8, .inr (1, [.ref v10, .int 0, .int 0, .int 0])), (v10, .inl (cB, 16, .inl (fun _ => 0))), (y32, .inr (5, [.int 4, .int 4, .ref yw33, .ref yv34, .ref yh35, .int 0])), (yw33, .inl (cI, 4, .inl gw36)), (yv34, .inl (cI, 4, .inl gv37)), (yh35, .inl (cR, 4, .inr (.inr (.inr (.inr gh38))))), (y63, .inr (5, [.int 4, .int 4, .ref yw64, .ref yv65, .ref yh66, .int 1])), (yw64, .inl (cI, 4, .inl gw92)), (yv65, .inl (cI, 4, .inl gv93)), (yh66, .inl (cR, 4, .inr (.inr (.inr (.inr gh94))))), (y114, .inr (5, [.int 4, .int 4, .ref yw115, .ref yv116, .ref yh117, .int 2])), (yw115, .inl (cI, 4, .inl gw143)), (yv116, .inl (cI, 4, .inl gv144)), (yh117, .inl (cR, 4, .inr (.inr (.inr (.inr gh145))))), (a47, .inr (8, [.int 4, .ref wa48, .ref na49])), (wa48, .inl (cI, 4, .inl fw50)), (na49, .inl (cI, 4, .inl fn51)), (a77, .inr (8, [.int 4, .ref wa78, .ref na79])), (wa78, .inl (cI, 4, .inl fw101)), (na79, .inl (cI, 4, .inl fn102)), (a128, .inr (8, [.int 4, .ref wa129, .ref na130])), (wa129, .inl (cI, 4, .inl fw152)), (na130, .inl (cI, 4, .inl fn153)), (q16, .inr (7, [.long on163, .null])), (q1, .inr (6, [.ref al5, .int 0, .int 0, .int 0, .ref sa6, .ref sb7, .ref b8, .ref sc9])), (al5, .inr (4, [.int mc164, .ref ed30, .int 4])), (ed30, .inl (cO, 10, .inr (.inr (.inr (.inr (va_up (va_up (va_up (va_up (fun _ => none) 0 (some y32)) 1 (some y63)) 2 (some y114)) 3 (some y165))))))), (y165, .inr (5, [.int 4, .int 4, .ref yw166, .ref yv167, .ref yh168, .int 3])), (yw166, .inl (cI, 4, .inl gw169)), (yv167, .inl (cI, 4, .inl gv170)), (yh168, .inl (cR, 4, .inr (.inr (.inr (.inr gh171))))), (q11, .inr (9, [.int 0, .ref am15, .int 0, .int 0, .int 0])), (am15, .inr (4, [.int mm178, .ref em45, .int 4])), (em45, .inl (cO, 10, .inr (.inr (.inr (.inr (va_up (va_up (va_up (va_up (fun _ => none) 0 (some a47)) 1 (some a77)) 2 (some a128)) 3 (some a179))))))), (a179, .inr (8, [.int 4, .ref wa180, .ref na181])), (wa180, .inl (cI, 4, .inl fw182)), (na181, .inl (cI, 4, .inl fn183))] H176 := hP
  replace hD : va_D A [(b8, .inr (1, [.ref v10, .int 0, .int 0, .int 0])), (v10, .inl (cB, 16, .inl (fun _ => 0))), (y32, .inr (5, [.int 4, .int 4, .ref yw33, .ref yv34, .ref yh35, .int 0])), (yw33, .inl (cI, 4, .inl gw36)), (yv34, .inl (cI, 4, .inl gv37)), (yh35, .inl (cR, 4, .inr (.inr (.inr (.inr gh38))))), (y63, .inr (5, [.int 4, .int 4, .ref yw64, .ref yv65, .ref yh66, .int 1])), (yw64, .inl (cI, 4, .inl gw92)), (yv65, .inl (cI, 4, .inl gv93)), (yh66, .inl (cR, 4, .inr (.inr (.inr (.inr gh94))))), (y114, .inr (5, [.int 4, .int 4, .ref yw115, .ref yv116, .ref yh117, .int 2])), (yw115, .inl (cI, 4, .inl gw143)), (yv116, .inl (cI, 4, .inl gv144)), (yh117, .inl (cR, 4, .inr (.inr (.inr (.inr gh145))))), (a47, .inr (8, [.int 4, .ref wa48, .ref na49])), (wa48, .inl (cI, 4, .inl fw50)), (na49, .inl (cI, 4, .inl fn51)), (a77, .inr (8, [.int 4, .ref wa78, .ref na79])), (wa78, .inl (cI, 4, .inl fw101)), (na79, .inl (cI, 4, .inl fn102)), (a128, .inr (8, [.int 4, .ref wa129, .ref na130])), (wa129, .inl (cI, 4, .inl fw152)), (na130, .inl (cI, 4, .inl fn153)), (q16, .inr (7, [.long on163, .null])), (q1, .inr (6, [.ref al5, .int 0, .int 0, .int 0, .ref sa6, .ref sb7, .ref b8, .ref sc9])), (al5, .inr (4, [.int mc164, .ref ed30, .int 4])), (ed30, .inl (cO, 10, .inr (.inr (.inr (.inr (va_up (va_up (va_up (va_up (fun _ => none) 0 (some y32)) 1 (some y63)) 2 (some y114)) 3 (some y165))))))), (y165, .inr (5, [.int 4, .int 4, .ref yw166, .ref yv167, .ref yh168, .int 3])), (yw166, .inl (cI, 4, .inl gw169)), (yv167, .inl (cI, 4, .inl gv170)), (yh168, .inl (cR, 4, .inr (.inr (.inr (.inr gh171))))), (q11, .inr (9, [.int 0, .ref am15, .int 0, .int 0, .int 0])), (am15, .inr (4, [.int mm178, .ref em45, .int 4])), (em45, .inl (cO, 10, .inr (.inr (.inr (.inr (va_up (va_up (va_up (va_up (fun _ => none) 0 (some a47)) 1 (some a77)) 2 (some a128)) 3 (some a179))))))), (a179, .inr (8, [.int 4, .ref wa180, .ref na181])), (wa180, .inl (cI, 4, .inl fw182)), (na181, .inl (cI, 4, .inl fn183))] := hD
  refine W.widen (k := 62) (n := 259) (by omega) (by omega) ?_
  refine lv_istore (lv' := [(6, .int 3), (5, .int r162), (4, .int 25), (3, .ref q16), (2, .ref q11), (1, .ref q1), (0, .ref b)]) hx hb dL_law_219 hl (by decide) rfl (fun ls hl => ?_)
  refine lv_goto (tgt := 1321) hx hb dL_law_221 (by decide) ?_
  refine lv_iinc (v := 30) (lv' := [(4, .int 30), (6, .int 3), (5, .int r162), (3, .ref q16), (2, .ref q11), (1, .ref q1), (0, .ref b)]) hx hb dL_law_1321 hl (k := 2) rfl (by decide) (by decide) rfl (fun ls hl => ?_)
  refine lv_goto (tgt := 27) hx hb dL_law_1324 (by decide) ?_
  refine lv_iload hx hb dL_law_27 (lv_at hl 0 rfl) ?_
  refine lv_aload_n hx hb dL_law_29 rfl (lv_at hl 6 rfl) ?_
  refine va_slen hx hb hX hbl hbA hS dL_law_30 ?_
  refine W.eq (g2 := F0 mY 31 ls [.int 1835, .int 30]) rfl ?_
  refine lv_iconst (v := 5) hx hb dL_law_31 (by decide) ?_
  refine lv_isub hx hb dL_law_32 ?_
  refine lv_topi (fun v184 ev184 => ?_)
  obtain rfl : v184 = 1830 := ev184.trans (by decide)
  refine lv_icmp_gt (tgt := 1327) hx hb dL_law_33 (by decide) (fun c9 => ?_) (fun c9 => ?_)
  · exact absurd c9 (by decide)
  refine lv_aload_n hx hb dL_law_36 rfl (lv_at hl 6 rfl) ?_
  refine lv_iload hx hb dL_law_37 (lv_at hl 0 rfl) ?_
  refine va_sld hx hb hX hbl hbA hS (by unfold vp_in; decide) dL_law_39 ?_
  refine lv_topi (fun v185 ev185 => ?_)
  obtain rfl : v185 = 9 := ev185.trans (by decide)
  refine lv_bipush (v := 31) hx hb dL_law_40 (by decide) ?_
  refine lv_iand hx hb dL_law_42 ?_
  refine lv_topi (fun v186 ev186 => ?_)
  obtain rfl : v186 = 9 := ev186.trans (by decide)
  refine lv_tableIn (off := 498) (tgt := 541) hx hb dL_law_43 (by decide) (by decide) (by decide) (by decide) ?_
  refine lv_aload_n hx hb dL_law_541 rfl (lv_at hl 5 rfl) ?_
  refine lv_aload_n hx hb dL_law_542 rfl (lv_at hl 6 rfl) ?_
  refine lv_iload hx hb dL_law_543 (lv_at hl 0 rfl) ?_
  refine lv_iconst (v := 1) hx hb dL_law_545 (by decide) ?_
  refine lv_iadd hx hb dL_law_546 ?_
  refine lv_topi (fun v187 ev187 => ?_)
  obtain rfl : v187 = 31 := ev187.trans (by decide)
  refine va_sld hx hb hX hbl hbA hS (by unfold vp_in; decide) dL_law_547 ?_
  refine lv_topi (fun v188 ev188 => ?_)
  obtain rfl : v188 = 3 := ev188.trans (by decide)
  refine lv_aload_n hx hb dL_law_548 rfl (lv_at hl 6 rfl) ?_
  refine lv_iload hx hb dL_law_549 (lv_at hl 0 rfl) ?_
  refine lv_iconst (v := 2) hx hb dL_law_551 (by decide) ?_
  refine lv_iadd hx hb dL_law_552 ?_
  refine lv_topi (fun v189 ev189 => ?_)
  obtain rfl : v189 = 32 := ev189.trans (by decide)
  refine va_sld hx hb hX hbl hbA hS (by unfold vp_in; decide) dL_law_553 ?_
  refine lv_topi (fun v190 ev190 => ?_)
  obtain rfl : v190 = 2 := ev190.trans (by decide)
  refine lv_aload_n hx hb dL_law_554 rfl (lv_at hl 3 rfl) ?_
  have hPc := hP.sub (ws' := [(q16, .inr (7, [.long on163, .null])), (q1, .inr (6, [.ref al5, .int 0, .int 0, .int 0, .ref sa6, .ref sb7, .ref b8, .ref sc9])), (al5, .inr (4, [.int mc164, .ref ed30, .int 4])), (ed30, .inl (cO, 10, .inr (.inr (.inr (.inr (va_up (va_up (va_up (va_up (fun _ => none) 0 (some y32)) 1 (some y63)) 2 (some y114)) 3 (some y165))))))), (y32, .inr (5, [.int 4, .int 4, .ref yw33, .ref yv34, .ref yh35, .int 0])), (yw33, .inl (cI, 4, .inl gw36)), (yv34, .inl (cI, 4, .inl gv37)), (yh35, .inl (cR, 4, .inr (.inr (.inr (.inr gh38))))), (y63, .inr (5, [.int 4, .int 4, .ref yw64, .ref yv65, .ref yh66, .int 1])), (yw64, .inl (cI, 4, .inl gw92)), (yv65, .inl (cI, 4, .inl gv93)), (yh66, .inl (cR, 4, .inr (.inr (.inr (.inr gh94))))), (y114, .inr (5, [.int 4, .int 4, .ref yw115, .ref yv116, .ref yh117, .int 2])), (yw115, .inl (cI, 4, .inl gw143)), (yv116, .inl (cI, 4, .inl gv144)), (yh117, .inl (cR, 4, .inr (.inr (.inr (.inr gh145))))), (y165, .inr (5, [.int 4, .int 4, .ref yw166, .ref yv167, .ref yh168, .int 3])), (yw166, .inl (cI, 4, .inl gw169)), (yv167, .inl (cI, 4, .inl gv170)), (yh168, .inl (cR, 4, .inr (.inr (.inr (.inr gh171)))))]) [23, 24, 25, 26, 2, 3, 4, 5, 6, 7, 8, 9, 10, 11, 12, 13, 27, 28, 29, 30] rfl
  have hDc := hD.sub (ws' := [(q16, .inr (7, [.long on163, .null])), (q1, .inr (6, [.ref al5, .int 0, .int 0, .int 0, .ref sa6, .ref sb7, .ref b8, .ref sc9])), (al5, .inr (4, [.int mc164, .ref ed30, .int 4])), (ed30, .inl (cO, 10, .inr (.inr (.inr (.inr (va_up (va_up (va_up (va_up (fun _ => none) 0 (some y32)) 1 (some y63)) 2 (some y114)) 3 (some y165))))))), (y32, .inr (5, [.int 4, .int 4, .ref yw33, .ref yv34, .ref yh35, .int 0])), (yw33, .inl (cI, 4, .inl gw36)), (yv34, .inl (cI, 4, .inl gv37)), (yh35, .inl (cR, 4, .inr (.inr (.inr (.inr gh38))))), (y63, .inr (5, [.int 4, .int 4, .ref yw64, .ref yv65, .ref yh66, .int 1])), (yw64, .inl (cI, 4, .inl gw92)), (yv65, .inl (cI, 4, .inl gv93)), (yh66, .inl (cR, 4, .inr (.inr (.inr (.inr gh94))))), (y114, .inr (5, [.int 4, .int 4, .ref yw115, .ref yv116, .ref yh117, .int 2])), (yw115, .inl (cI, 4, .inl gw143)), (yv116, .inl (cI, 4, .inl gv144)), (yh117, .inl (cR, 4, .inr (.inr (.inr (.inr gh145))))), (y165, .inr (5, [.int 4, .int 4, .ref yw166, .ref yv167, .ref yh168, .int 3])), (yw166, .inl (cI, 4, .inl gw169)), (yv167, .inl (cI, 4, .inl gv170)), (yh168, .inl (cR, 4, .inr (.inr (.inr (.inr gh171)))))]) [23, 24, 25, 26, 2, 3, 4, 5, 6, 7, 8, 9, 10, 11, 12, 13, 27, 28, 29, 30] (by decide) rfl
  have hFc := va_free (wc := [(q16, .inr (7, [.long on163, .null])), (q1, .inr (6, [.ref al5, .int 0, .int 0, .int 0, .ref sa6, .ref sb7, .ref b8, .ref sc9])), (al5, .inr (4, [.int mc164, .ref ed30, .int 4])), (ed30, .inl (cO, 10, .inr (.inr (.inr (.inr (va_up (va_up (va_up (va_up (fun _ => none) 0 (some y32)) 1 (some y63)) 2 (some y114)) 3 (some y165))))))), (y32, .inr (5, [.int 4, .int 4, .ref yw33, .ref yv34, .ref yh35, .int 0])), (yw33, .inl (cI, 4, .inl gw36)), (yv34, .inl (cI, 4, .inl gv37)), (yh35, .inl (cR, 4, .inr (.inr (.inr (.inr gh38))))), (y63, .inr (5, [.int 4, .int 4, .ref yw64, .ref yv65, .ref yh66, .int 1])), (yw64, .inl (cI, 4, .inl gw92)), (yv65, .inl (cI, 4, .inl gv93)), (yh66, .inl (cR, 4, .inr (.inr (.inr (.inr gh94))))), (y114, .inr (5, [.int 4, .int 4, .ref yw115, .ref yv116, .ref yh117, .int 2])), (yw115, .inl (cI, 4, .inl gw143)), (yv116, .inl (cI, 4, .inl gv144)), (yh117, .inl (cR, 4, .inr (.inr (.inr (.inr gh145))))), (y165, .inr (5, [.int 4, .int 4, .ref yw166, .ref yv167, .ref yh168, .int 3])), (yw166, .inl (cI, 4, .inl gw169)), (yv167, .inl (cI, 4, .inl gv170)), (yh168, .inl (cR, 4, .inr (.inr (.inr (.inr gh171)))))]) hD hS hA [23, 24, 25, 26, 2, 3, 4, 5, 6, 7, 8, 9, 10, 11, 12, 13, 27, 28, 29, 30] rfl
  have hDv := hDc.self (sz := H176.size)
  have hpre := zpre (xs' := []) (av := [.ref q1, .int 3, .int 2, .ref q16]) hPc hK (hDc.weaken (fun _ _ _ h => h)) hZ hS hFc (fun r hr => by cases hr)
  refine va_calli (vx_runSW (As := [.ref q1, .int 3, .int 2, .ref q16]) (rest := []) ⟨hx, hb, hml, hown, hts⟩ (k_LfX3 l dC dI cI cB cR cO zk q1 al5 b8 (.int 0) (.int 0) (.int 0) (.ref sa6) (.ref sb7) (.ref sc9) ed30 (va_up (va_up (va_up (va_up (fun _ => none) 0 (some y32)) 1 (some y63)) 2 (some y114)) 3 (some y165)) (.int mc164) y32 yw33 yv34 yh35 y63 yw64 yv65 yh66 y114 yw115 yv116 yh117 0 1 2 gw36 gv37 gw92 gv93 gw143 gv144 gh38 gh94 gh145 y165 yw166 yv167 yh168 3 gw169 gv170 gh171 q16 (.long on163) .null H176.size rfl rfl rfl rfl hwgw36 hhgh38 hhgh94 hhgh145) (vx_cwSW 4 hts gL_law_L_fillRow rfl rfl rfl (by decide +kernel) ⟨Nat.le_of_ble_eq_true rfl, Nat.le_of_ble_eq_true rfl⟩) ⟨zblind, hpre⟩ rfl rfl hl.1 rfl (lv_room (Nat.le_of_ble_eq_true rfl)) dL_law_555 ⟨Nat.le_of_ble_eq_true rfl, Nat.le_of_ble_eq_true rfl⟩) hS (fun q _ h => hFc q h) hFc (fun r192 u t H191 locs ht hvm hw hB hz1 hk1 hS => ?_)
  obtain ⟨on193, gw194, gv195, gh196, ⟨hP1, hK1, hD1, hz2⟩, hhgh196⟩ := hB
  rw [ht] at hP1 hz2
  have hPD9 := va_join (wr := [(b8, .inr (1, [.ref v10, .int 0, .int 0, .int 0])), (v10, .inl (cB, 16, .inl (fun _ => 0))), (a47, .inr (8, [.int 4, .ref wa48, .ref na49])), (wa48, .inl (cI, 4, .inl fw50)), (na49, .inl (cI, 4, .inl fn51)), (a77, .inr (8, [.int 4, .ref wa78, .ref na79])), (wa78, .inl (cI, 4, .inl fw101)), (na79, .inl (cI, 4, .inl fn102)), (a128, .inr (8, [.int 4, .ref wa129, .ref na130])), (wa129, .inl (cI, 4, .inl fw152)), (na130, .inl (cI, 4, .inl fn153)), (q11, .inr (9, [.int 0, .ref am15, .int 0, .int 0, .int 0])), (am15, .inr (4, [.int mm178, .ref em45, .int 4])), (em45, .inl (cO, 10, .inr (.inr (.inr (.inr (va_up (va_up (va_up (va_up (fun _ => none) 0 (some a47)) 1 (some a77)) 2 (some a128)) 3 (some a179))))))), (a179, .inr (8, [.int 4, .ref wa180, .ref na181])), (wa180, .inl (cI, 4, .inl fw182)), (na181, .inl (cI, 4, .inl fn183))]) (w1 := [(q16, .inr (7, [.long on193, .null])), (q1, .inr (6, [.ref al5, .int 0, .int 0, .int 0, .ref sa6, .ref sb7, .ref b8, .ref sc9])), (al5, .inr (4, [.int mc164, .ref ed30, .int 4])), (ed30, .inl (cO, 10, .inr (.inr (.inr (.inr (va_up (va_up (va_up (va_up (fun _ => none) 0 (some y32)) 1 (some y63)) 2 (some y114)) 3 (some y165))))))), (y32, .inr (5, [.int 4, .int 4, .ref yw33, .ref yv34, .ref yh35, .int 0])), (yw33, .inl (cI, 4, .inl gw36)), (yv34, .inl (cI, 4, .inl gv37)), (yh35, .inl (cR, 4, .inr (.inr (.inr (.inr gh38))))), (y63, .inr (5, [.int 4, .int 4, .ref yw64, .ref yv65, .ref yh66, .int 1])), (yw64, .inl (cI, 4, .inl gw92)), (yv65, .inl (cI, 4, .inl gv93)), (yh66, .inl (cR, 4, .inr (.inr (.inr (.inr gh94))))), (y114, .inr (5, [.int 4, .int 4, .ref yw115, .ref yv116, .ref yh117, .int 2])), (yw115, .inl (cI, 4, .inl gw143)), (yv116, .inl (cI, 4, .inl gv144)), (yh117, .inl (cR, 4, .inr (.inr (.inr (.inr gh145))))), (y165, .inr (5, [.int 4, .int 4, .ref yw166, .ref yv167, .ref yh168, .int 3])), (yw166, .inl (cI, 4, .inl gw194)), (yv167, .inl (cI, 4, .inl gv195)), (yh168, .inl (cR, 4, .inr (.inr (.inr (.inr gh196)))))]) hP hD [23, 24, 25, 26, 2, 3, 4, 5, 6, 7, 8, 9, 10, 11, 12, 13, 27, 28, 29, 30] [0, 1, 14, 15, 16, 17, 18, 19, 20, 21, 22, 31, 32, 33, 34, 35, 36] rfl rfl (by decide) (by decide) hk1 hFc hP1 hD1
  clear hPc hDc hFc hDv hpre hP hD hP1 hK1 hD1
  obtain ⟨hP, hD⟩ := hPD9
  replace hz : s.heap.size + 57 ≤ H191.size := by omega
  clear hz2
  replace hP : va_P (dC, dI) vwCl [(b8, .inr (1, [.ref v10, .int 0, .int 0, .int 0])), (v10, .inl (cB, 16, .inl (fun _ => 0))), (a47, .inr (8, [.int 4, .ref wa48, .ref na49])), (wa48, .inl (cI, 4, .inl fw50)), (na49, .inl (cI, 4, .inl fn51)), (a77, .inr (8, [.int 4, .ref wa78, .ref na79])), (wa78, .inl (cI, 4, .inl fw101)), (na79, .inl (cI, 4, .inl fn102)), (a128, .inr (8, [.int 4, .ref wa129, .ref na130])), (wa129, .inl (cI, 4, .inl fw152)), (na130, .inl (cI, 4, .inl fn153)), (q11, .inr (9, [.int 0, .ref am15, .int 0, .int 0, .int 0])), (am15, .inr (4, [.int mm178, .ref em45, .int 4])), (em45, .inl (cO, 10, .inr (.inr (.inr (.inr (va_up (va_up (va_up (va_up (fun _ => none) 0 (some a47)) 1 (some a77)) 2 (some a128)) 3 (some a179))))))), (a179, .inr (8, [.int 4, .ref wa180, .ref na181])), (wa180, .inl (cI, 4, .inl fw182)), (na181, .inl (cI, 4, .inl fn183)), (q16, .inr (7, [.long on193, .null])), (q1, .inr (6, [.ref al5, .int 0, .int 0, .int 0, .ref sa6, .ref sb7, .ref b8, .ref sc9])), (al5, .inr (4, [.int mc164, .ref ed30, .int 4])), (ed30, .inl (cO, 10, .inr (.inr (.inr (.inr (va_up (va_up (va_up (va_up (fun _ => none) 0 (some y32)) 1 (some y63)) 2 (some y114)) 3 (some y165))))))), (y32, .inr (5, [.int 4, .int 4, .ref yw33, .ref yv34, .ref yh35, .int 0])), (yw33, .inl (cI, 4, .inl gw36)), (yv34, .inl (cI, 4, .inl gv37)), (yh35, .inl (cR, 4, .inr (.inr (.inr (.inr gh38))))), (y63, .inr (5, [.int 4, .int 4, .ref yw64, .ref yv65, .ref yh66, .int 1])), (yw64, .inl (cI, 4, .inl gw92)), (yv65, .inl (cI, 4, .inl gv93)), (yh66, .inl (cR, 4, .inr (.inr (.inr (.inr gh94))))), (y114, .inr (5, [.int 4, .int 4, .ref yw115, .ref yv116, .ref yh117, .int 2])), (yw115, .inl (cI, 4, .inl gw143)), (yv116, .inl (cI, 4, .inl gv144)), (yh117, .inl (cR, 4, .inr (.inr (.inr (.inr gh145))))), (y165, .inr (5, [.int 4, .int 4, .ref yw166, .ref yv167, .ref yh168, .int 3])), (yw166, .inl (cI, 4, .inl gw194)), (yv167, .inl (cI, 4, .inl gv195)), (yh168, .inl (cR, 4, .inr (.inr (.inr (.inr gh196)))))] H191 := hP
  replace hD : va_D A [(b8, .inr (1, [.ref v10, .int 0, .int 0, .int 0])), (v10, .inl (cB, 16, .inl (fun _ => 0))), (a47, .inr (8, [.int 4, .ref wa48, .ref na49])), (wa48, .inl (cI, 4, .inl fw50)), (na49, .inl (cI, 4, .inl fn51)), (a77, .inr (8, [.int 4, .ref wa78, .ref na79])), (wa78, .inl (cI, 4, .inl fw101)), (na79, .inl (cI, 4, .inl fn102)), (a128, .inr (8, [.int 4, .ref wa129, .ref na130])), (wa129, .inl (cI, 4, .inl fw152)), (na130, .inl (cI, 4, .inl fn153)), (q11, .inr (9, [.int 0, .ref am15, .int 0, .int 0, .int 0])), (am15, .inr (4, [.int mm178, .ref em45, .int 4])), (em45, .inl (cO, 10, .inr (.inr (.inr (.inr (va_up (va_up (va_up (va_up (fun _ => none) 0 (some a47)) 1 (some a77)) 2 (some a128)) 3 (some a179))))))), (a179, .inr (8, [.int 4, .ref wa180, .ref na181])), (wa180, .inl (cI, 4, .inl fw182)), (na181, .inl (cI, 4, .inl fn183)), (q16, .inr (7, [.long on193, .null])), (q1, .inr (6, [.ref al5, .int 0, .int 0, .int 0, .ref sa6, .ref sb7, .ref b8, .ref sc9])), (al5, .inr (4, [.int mc164, .ref ed30, .int 4])), (ed30, .inl (cO, 10, .inr (.inr (.inr (.inr (va_up (va_up (va_up (va_up (fun _ => none) 0 (some y32)) 1 (some y63)) 2 (some y114)) 3 (some y165))))))), (y32, .inr (5, [.int 4, .int 4, .ref yw33, .ref yv34, .ref yh35, .int 0])), (yw33, .inl (cI, 4, .inl gw36)), (yv34, .inl (cI, 4, .inl gv37)), (yh35, .inl (cR, 4, .inr (.inr (.inr (.inr gh38))))), (y63, .inr (5, [.int 4, .int 4, .ref yw64, .ref yv65, .ref yh66, .int 1])), (yw64, .inl (cI, 4, .inl gw92)), (yv65, .inl (cI, 4, .inl gv93)), (yh66, .inl (cR, 4, .inr (.inr (.inr (.inr gh94))))), (y114, .inr (5, [.int 4, .int 4, .ref yw115, .ref yv116, .ref yh117, .int 2])), (yw115, .inl (cI, 4, .inl gw143)), (yv116, .inl (cI, 4, .inl gv144)), (yh117, .inl (cR, 4, .inr (.inr (.inr (.inr gh145))))), (y165, .inr (5, [.int 4, .int 4, .ref yw166, .ref yv167, .ref yh168, .int 3])), (yw166, .inl (cI, 4, .inl gw194)), (yv167, .inl (cI, 4, .inl gv195)), (yh168, .inl (cR, 4, .inr (.inr (.inr (.inr gh196)))))] := hD
  refine W.widen (k := 62) (n := 259) (by omega) (by omega) ?_
  refine lv_istore (lv' := [(5, .int r192), (4, .int 30), (6, .int 3), (3, .ref q16), (2, .ref q11), (1, .ref q1), (0, .ref b)]) hx hb dL_law_558 hl (by decide) rfl (fun ls hl => ?_)
  refine lv_aload_n hx hb dL_law_560 rfl (lv_at hl 4 rfl) ?_
  refine lv_aload_n hx hb dL_law_561 rfl (lv_at hl 6 rfl) ?_
  refine lv_iload hx hb dL_law_562 (lv_at hl 1 rfl) ?_
  refine lv_iconst (v := 1) hx hb dL_law_564 (by decide) ?_
  refine lv_iadd hx hb dL_law_565 ?_
  refine lv_topi (fun v197 ev197 => ?_)
  obtain rfl : v197 = 31 := ev197.trans (by decide)
  refine va_sld hx hb hX hbl hbA hS (by unfold vp_in; decide) dL_law_566 ?_
  refine lv_topi (fun v198 ev198 => ?_)
  obtain rfl : v198 = 3 := ev198.trans (by decide)
  refine lv_aload_n hx hb dL_law_567 rfl (lv_at hl 6 rfl) ?_
  refine lv_iload hx hb dL_law_568 (lv_at hl 1 rfl) ?_
  refine lv_iconst (v := 2) hx hb dL_law_570 (by decide) ?_
  refine lv_iadd hx hb dL_law_571 ?_
  refine lv_topi (fun v199 ev199 => ?_)
  obtain rfl : v199 = 32 := ev199.trans (by decide)
  refine va_sld hx hb hX hbl hbA hS (by unfold vp_in; decide) dL_law_572 ?_
  refine lv_topi (fun v200 ev200 => ?_)
  obtain rfl : v200 = 2 := ev200.trans (by decide)
  have hPc := hP.sub (ws' := [(q11, .inr (9, [.int 0, .ref am15, .int 0, .int 0, .int 0])), (am15, .inr (4, [.int mm178, .ref em45, .int 4])), (em45, .inl (cO, 10, .inr (.inr (.inr (.inr (va_up (va_up (va_up (va_up (fun _ => none) 0 (some a47)) 1 (some a77)) 2 (some a128)) 3 (some a179))))))), (a47, .inr (8, [.int 4, .ref wa48, .ref na49])), (wa48, .inl (cI, 4, .inl fw50)), (na49, .inl (cI, 4, .inl fn51)), (a77, .inr (8, [.int 4, .ref wa78, .ref na79])), (wa78, .inl (cI, 4, .inl fw101)), (na79, .inl (cI, 4, .inl fn102)), (a128, .inr (8, [.int 4, .ref wa129, .ref na130])), (wa129, .inl (cI, 4, .inl fw152)), (na130, .inl (cI, 4, .inl fn153)), (a179, .inr (8, [.int 4, .ref wa180, .ref na181])), (wa180, .inl (cI, 4, .inl fw182)), (na181, .inl (cI, 4, .inl fn183))]) [11, 12, 13, 2, 3, 4, 5, 6, 7, 8, 9, 10, 14, 15, 16] rfl
  have hDc := hD.sub (ws' := [(q11, .inr (9, [.int 0, .ref am15, .int 0, .int 0, .int 0])), (am15, .inr (4, [.int mm178, .ref em45, .int 4])), (em45, .inl (cO, 10, .inr (.inr (.inr (.inr (va_up (va_up (va_up (va_up (fun _ => none) 0 (some a47)) 1 (some a77)) 2 (some a128)) 3 (some a179))))))), (a47, .inr (8, [.int 4, .ref wa48, .ref na49])), (wa48, .inl (cI, 4, .inl fw50)), (na49, .inl (cI, 4, .inl fn51)), (a77, .inr (8, [.int 4, .ref wa78, .ref na79])), (wa78, .inl (cI, 4, .inl fw101)), (na79, .inl (cI, 4, .inl fn102)), (a128, .inr (8, [.int 4, .ref wa129, .ref na130])), (wa129, .inl (cI, 4, .inl fw152)), (na130, .inl (cI, 4, .inl fn153)), (a179, .inr (8, [.int 4, .ref wa180, .ref na181])), (wa180, .inl (cI, 4, .inl fw182)), (na181, .inl (cI, 4, .inl fn183))]) [11, 12, 13, 2, 3, 4, 5, 6, 7, 8, 9, 10, 14, 15, 16] (by decide) rfl
  have hFc := va_free (wc := [(q11, .inr (9, [.int 0, .ref am15, .int 0, .int 0, .int 0])), (am15, .inr (4, [.int mm178, .ref em45, .int 4])), (em45, .inl (cO, 10, .inr (.inr (.inr (.inr (va_up (va_up (va_up (va_up (fun _ => none) 0 (some a47)) 1 (some a77)) 2 (some a128)) 3 (some a179))))))), (a47, .inr (8, [.int 4, .ref wa48, .ref na49])), (wa48, .inl (cI, 4, .inl fw50)), (na49, .inl (cI, 4, .inl fn51)), (a77, .inr (8, [.int 4, .ref wa78, .ref na79])), (wa78, .inl (cI, 4, .inl fw101)), (na79, .inl (cI, 4, .inl fn102)), (a128, .inr (8, [.int 4, .ref wa129, .ref na130])), (wa129, .inl (cI, 4, .inl fw152)), (na130, .inl (cI, 4, .inl fn153)), (a179, .inr (8, [.int 4, .ref wa180, .ref na181])), (wa180, .inl (cI, 4, .inl fw182)), (na181, .inl (cI, 4, .inl fn183))]) hD hS hA [11, 12, 13, 2, 3, 4, 5, 6, 7, 8, 9, 10, 14, 15, 16] rfl
  have hDv := hDc.self (sz := H191.size)
  have hpre := zpre (xs' := []) (av := [.ref q11, .int 3, .int 2]) hPc hK (hDc.weaken (fun _ _ _ h => h)) hZ hS hFc (fun r hr => by cases hr)
  refine va_calli (va_runV (As := [.int 3, .int 2]) (rest := []) ⟨hx, hb, hml, hown, hts⟩ (k_fiM3 l dC dI cI cB cR cO zk q11 am15 (.int 0) (.int 0) (.int 0) (.int 0) em45 (va_up (va_up (va_up (va_up (fun _ => none) 0 (some a47)) 1 (some a77)) 2 (some a128)) 3 (some a179)) mm178 a47 wa48 na49 a77 wa78 na79 a128 wa129 na130 a179 wa180 na181 fw50 fn51 fw101 fn102 fw152 fn153 fw182 fn183 H191.size hwfw50 hnfn51 rfl hwfw101 hnfn102 rfl hwfw152 hnfn153 rfl hwfw182 hnfn183 rfl) (cwV 2 hts gL_law_X4_fillRow rfl rfl rfl (by decide +kernel) ⟨Nat.le_of_ble_eq_true rfl, Nat.le_of_ble_eq_true rfl⟩) ⟨zblind, (zrecv_9 hK hPc (q0 := 0) rfl), hpre⟩ rfl rfl hl.1 rfl (lv_room (Nat.le_of_ble_eq_true rfl)) dL_law_573 ⟨Nat.le_of_ble_eq_true rfl, Nat.le_of_ble_eq_true rfl⟩) hS (fun q _ h => hFc q h) hFc (fun r202 u t H201 locs ht hvm hw hB hz1 hk1 hS => ?_)
  obtain rfl : 4 = r202 := (show r202 = 4 from hw).symm
  obtain ⟨fw203, fn204, ⟨hP1, hK1, hD1, hz2⟩, hwfw203, hnfn204⟩ := hB
  rw [ht] at hP1 hz2
  have hPD9 := va_join (wr := [(b8, .inr (1, [.ref v10, .int 0, .int 0, .int 0])), (v10, .inl (cB, 16, .inl (fun _ => 0))), (q16, .inr (7, [.long on193, .null])), (q1, .inr (6, [.ref al5, .int 0, .int 0, .int 0, .ref sa6, .ref sb7, .ref b8, .ref sc9])), (al5, .inr (4, [.int mc164, .ref ed30, .int 4])), (ed30, .inl (cO, 10, .inr (.inr (.inr (.inr (va_up (va_up (va_up (va_up (fun _ => none) 0 (some y32)) 1 (some y63)) 2 (some y114)) 3 (some y165))))))), (y32, .inr (5, [.int 4, .int 4, .ref yw33, .ref yv34, .ref yh35, .int 0])), (yw33, .inl (cI, 4, .inl gw36)), (yv34, .inl (cI, 4, .inl gv37)), (yh35, .inl (cR, 4, .inr (.inr (.inr (.inr gh38))))), (y63, .inr (5, [.int 4, .int 4, .ref yw64, .ref yv65, .ref yh66, .int 1])), (yw64, .inl (cI, 4, .inl gw92)), (yv65, .inl (cI, 4, .inl gv93)), (yh66, .inl (cR, 4, .inr (.inr (.inr (.inr gh94))))), (y114, .inr (5, [.int 4, .int 4, .ref yw115, .ref yv116, .ref yh117, .int 2])), (yw115, .inl (cI, 4, .inl gw143)), (yv116, .inl (cI, 4, .inl gv144)), (yh117, .inl (cR, 4, .inr (.inr (.inr (.inr gh145))))), (y165, .inr (5, [.int 4, .int 4, .ref yw166, .ref yv167, .ref yh168, .int 3])), (yw166, .inl (cI, 4, .inl gw194)), (yv167, .inl (cI, 4, .inl gv195)), (yh168, .inl (cR, 4, .inr (.inr (.inr (.inr gh196)))))]) (w1 := [(q11, .inr (9, [.int 0, .ref am15, .int 0, .int 0, .int 0])), (am15, .inr (4, [.int mm178, .ref em45, .int 4])), (em45, .inl (cO, 10, .inr (.inr (.inr (.inr (va_up (va_up (va_up (va_up (fun _ => none) 0 (some a47)) 1 (some a77)) 2 (some a128)) 3 (some a179))))))), (a47, .inr (8, [.int 4, .ref wa48, .ref na49])), (wa48, .inl (cI, 4, .inl fw50)), (na49, .inl (cI, 4, .inl fn51)), (a77, .inr (8, [.int 4, .ref wa78, .ref na79])), (wa78, .inl (cI, 4, .inl fw101)), (na79, .inl (cI, 4, .inl fn102)), (a128, .inr (8, [.int 4, .ref wa129, .ref na130])), (wa129, .inl (cI, 4, .inl fw152)), (na130, .inl (cI, 4, .inl fn153)), (a179, .inr (8, [.int 4, .ref wa180, .ref na181])), (wa180, .inl (cI, 4, .inl fw203)), (na181, .inl (cI, 4, .inl fn204))]) hP hD [11, 12, 13, 2, 3, 4, 5, 6, 7, 8, 9, 10, 14, 15, 16] [0, 1, 17, 18, 19, 20, 21, 22, 23, 24, 25, 26, 27, 28, 29, 30, 31, 32, 33, 34, 35, 36] rfl rfl (by decide) (by decide) hk1 hFc hP1 hD1
  clear hPc hDc hFc hDv hpre hP hD hP1 hK1 hD1
  obtain ⟨hP, hD⟩ := hPD9
  replace hz : s.heap.size + 62 ≤ H201.size := by omega
  clear hz2
  replace hP : va_P (dC, dI) vwCl [(b8, .inr (1, [.ref v10, .int 0, .int 0, .int 0])), (v10, .inl (cB, 16, .inl (fun _ => 0))), (q16, .inr (7, [.long on193, .null])), (q1, .inr (6, [.ref al5, .int 0, .int 0, .int 0, .ref sa6, .ref sb7, .ref b8, .ref sc9])), (al5, .inr (4, [.int mc164, .ref ed30, .int 4])), (ed30, .inl (cO, 10, .inr (.inr (.inr (.inr (va_up (va_up (va_up (va_up (fun _ => none) 0 (some y32)) 1 (some y63)) 2 (some y114)) 3 (some y165))))))), (y32, .inr (5, [.int 4, .int 4, .ref yw33, .ref yv34, .ref yh35, .int 0])), (yw33, .inl (cI, 4, .inl gw36)), (yv34, .inl (cI, 4, .inl gv37)), (yh35, .inl (cR, 4, .inr (.inr (.inr (.inr gh38))))), (y63, .inr (5, [.int 4, .int 4, .ref yw64, .ref yv65, .ref yh66, .int 1])), (yw64, .inl (cI, 4, .inl gw92)), (yv65, .inl (cI, 4, .inl gv93)), (yh66, .inl (cR, 4, .inr (.inr (.inr (.inr gh94))))), (y114, .inr (5, [.int 4, .int 4, .ref yw115, .ref yv116, .ref yh117, .int 2])), (yw115, .inl (cI, 4, .inl gw143)), (yv116, .inl (cI, 4, .inl gv144)), (yh117, .inl (cR, 4, .inr (.inr (.inr (.inr gh145))))), (y165, .inr (5, [.int 4, .int 4, .ref yw166, .ref yv167, .ref yh168, .int 3])), (yw166, .inl (cI, 4, .inl gw194)), (yv167, .inl (cI, 4, .inl gv195)), (yh168, .inl (cR, 4, .inr (.inr (.inr (.inr gh196))))), (q11, .inr (9, [.int 0, .ref am15, .int 0, .int 0, .int 0])), (am15, .inr (4, [.int mm178, .ref em45, .int 4])), (em45, .inl (cO, 10, .inr (.inr (.inr (.inr (va_up (va_up (va_up (va_up (fun _ => none) 0 (some a47)) 1 (some a77)) 2 (some a128)) 3 (some a179))))))), (a47, .inr (8, [.int 4, .ref wa48, .ref na49])), (wa48, .inl (cI, 4, .inl fw50)), (na49, .inl (cI, 4, .inl fn51)), (a77, .inr (8, [.int 4, .ref wa78, .ref na79])), (wa78, .inl (cI, 4, .inl fw101)), (na79, .inl (cI, 4, .inl fn102)), (a128, .inr (8, [.int 4, .ref wa129, .ref na130])), (wa129, .inl (cI, 4, .inl fw152)), (na130, .inl (cI, 4, .inl fn153)), (a179, .inr (8, [.int 4, .ref wa180, .ref na181])), (wa180, .inl (cI, 4, .inl fw203)), (na181, .inl (cI, 4, .inl fn204))] H201 := hP
  replace hD : va_D A [(b8, .inr (1, [.ref v10, .int 0, .int 0, .int 0])), (v10, .inl (cB, 16, .inl (fun _ => 0))), (q16, .inr (7, [.long on193, .null])), (q1, .inr (6, [.ref al5, .int 0, .int 0, .int 0, .ref sa6, .ref sb7, .ref b8, .ref sc9])), (al5, .inr (4, [.int mc164, .ref ed30, .int 4])), (ed30, .inl (cO, 10, .inr (.inr (.inr (.inr (va_up (va_up (va_up (va_up (fun _ => none) 0 (some y32)) 1 (some y63)) 2 (some y114)) 3 (some y165))))))), (y32, .inr (5, [.int 4, .int 4, .ref yw33, .ref yv34, .ref yh35, .int 0])), (yw33, .inl (cI, 4, .inl gw36)), (yv34, .inl (cI, 4, .inl gv37)), (yh35, .inl (cR, 4, .inr (.inr (.inr (.inr gh38))))), (y63, .inr (5, [.int 4, .int 4, .ref yw64, .ref yv65, .ref yh66, .int 1])), (yw64, .inl (cI, 4, .inl gw92)), (yv65, .inl (cI, 4, .inl gv93)), (yh66, .inl (cR, 4, .inr (.inr (.inr (.inr gh94))))), (y114, .inr (5, [.int 4, .int 4, .ref yw115, .ref yv116, .ref yh117, .int 2])), (yw115, .inl (cI, 4, .inl gw143)), (yv116, .inl (cI, 4, .inl gv144)), (yh117, .inl (cR, 4, .inr (.inr (.inr (.inr gh145))))), (y165, .inr (5, [.int 4, .int 4, .ref yw166, .ref yv167, .ref yh168, .int 3])), (yw166, .inl (cI, 4, .inl gw194)), (yv167, .inl (cI, 4, .inl gv195)), (yh168, .inl (cR, 4, .inr (.inr (.inr (.inr gh196))))), (q11, .inr (9, [.int 0, .ref am15, .int 0, .int 0, .int 0])), (am15, .inr (4, [.int mm178, .ref em45, .int 4])), (em45, .inl (cO, 10, .inr (.inr (.inr (.inr (va_up (va_up (va_up (va_up (fun _ => none) 0 (some a47)) 1 (some a77)) 2 (some a128)) 3 (some a179))))))), (a47, .inr (8, [.int 4, .ref wa48, .ref na49])), (wa48, .inl (cI, 4, .inl fw50)), (na49, .inl (cI, 4, .inl fn51)), (a77, .inr (8, [.int 4, .ref wa78, .ref na79])), (wa78, .inl (cI, 4, .inl fw101)), (na79, .inl (cI, 4, .inl fn102)), (a128, .inr (8, [.int 4, .ref wa129, .ref na130])), (wa129, .inl (cI, 4, .inl fw152)), (na130, .inl (cI, 4, .inl fn153)), (a179, .inr (8, [.int 4, .ref wa180, .ref na181])), (wa180, .inl (cI, 4, .inl fw203)), (na181, .inl (cI, 4, .inl fn204))] := hD
  refine W.widen (k := 71) (n := 288) (by omega) (by omega) ?_
  refine lv_istore (lv' := [(6, .int 4), (5, .int r192), (4, .int 30), (3, .ref q16), (2, .ref q11), (1, .ref q1), (0, .ref b)]) hx hb dL_law_576 hl (by decide) rfl (fun ls hl => ?_)
  refine lv_goto (tgt := 1321) hx hb dL_law_578 (by decide) ?_
  refine lv_iinc (v := 35) (lv' := [(4, .int 35), (6, .int 4), (5, .int r192), (3, .ref q16), (2, .ref q11), (1, .ref q1), (0, .ref b)]) hx hb dL_law_1321 hl (k := 2) rfl (by decide) (by decide) rfl (fun ls hl => ?_)
  refine lv_goto (tgt := 27) hx hb dL_law_1324 (by decide) ?_
  have hP9 := hP.sub (ws' := [(q16, .inr (7, [.long on193, .null])), (q1, .inr (6, [.ref al5, .int 0, .int 0, .int 0, .ref sa6, .ref sb7, .ref b8, .ref sc9])), (al5, .inr (4, [.int mc164, .ref ed30, .int 4])), (ed30, .inl (cO, 10, .inr (.inr (.inr (.inr (va_up (va_up (va_up (va_up (fun _ => none) 0 (some y32)) 1 (some y63)) 2 (some y114)) 3 (some y165))))))), (b8, .inr (1, [.ref v10, .int 0, .int 0, .int 0])), (v10, .inl (cB, 16, .inl (fun _ => 0))), (y32, .inr (5, [.int 4, .int 4, .ref yw33, .ref yv34, .ref yh35, .int 0])), (yw33, .inl (cI, 4, .inl gw36)), (yv34, .inl (cI, 4, .inl gv37)), (yh35, .inl (cR, 4, .inr (.inr (.inr (.inr gh38))))), (y63, .inr (5, [.int 4, .int 4, .ref yw64, .ref yv65, .ref yh66, .int 1])), (yw64, .inl (cI, 4, .inl gw92)), (yv65, .inl (cI, 4, .inl gv93)), (yh66, .inl (cR, 4, .inr (.inr (.inr (.inr gh94))))), (y114, .inr (5, [.int 4, .int 4, .ref yw115, .ref yv116, .ref yh117, .int 2])), (yw115, .inl (cI, 4, .inl gw143)), (yv116, .inl (cI, 4, .inl gv144)), (yh117, .inl (cR, 4, .inr (.inr (.inr (.inr gh145))))), (y165, .inr (5, [.int 4, .int 4, .ref yw166, .ref yv167, .ref yh168, .int 3])), (yw166, .inl (cI, 4, .inl gw194)), (yv167, .inl (cI, 4, .inl gv195)), (yh168, .inl (cR, 4, .inr (.inr (.inr (.inr gh196))))), (q11, .inr (9, [.int 0, .ref am15, .int 0, .int 0, .int 0])), (am15, .inr (4, [.int mm178, .ref em45, .int 4])), (em45, .inl (cO, 10, .inr (.inr (.inr (.inr (va_up (va_up (va_up (va_up (fun _ => none) 0 (some a47)) 1 (some a77)) 2 (some a128)) 3 (some a179))))))), (a47, .inr (8, [.int 4, .ref wa48, .ref na49])), (wa48, .inl (cI, 4, .inl fw50)), (na49, .inl (cI, 4, .inl fn51)), (a77, .inr (8, [.int 4, .ref wa78, .ref na79])), (wa78, .inl (cI, 4, .inl fw101)), (na79, .inl (cI, 4, .inl fn102)), (a128, .inr (8, [.int 4, .ref wa129, .ref na130])), (wa129, .inl (cI, 4, .inl fw152)), (na130, .inl (cI, 4, .inl fn153)), (a179, .inr (8, [.int 4, .ref wa180, .ref na181])), (wa180, .inl (cI, 4, .inl fw203)), (na181, .inl (cI, 4, .inl fn204))]) [2, 3, 4, 5, 0, 1, 6, 7, 8, 9, 10, 11, 12, 13, 14, 15, 16, 17, 18, 19, 20, 21, 22, 23, 24, 25, 26, 27, 28, 29, 30, 31, 32, 33, 34, 35, 36] rfl
  have hD9 := hD.sub (ws' := [(q16, .inr (7, [.long on193, .null])), (q1, .inr (6, [.ref al5, .int 0, .int 0, .int 0, .ref sa6, .ref sb7, .ref b8, .ref sc9])), (al5, .inr (4, [.int mc164, .ref ed30, .int 4])), (ed30, .inl (cO, 10, .inr (.inr (.inr (.inr (va_up (va_up (va_up (va_up (fun _ => none) 0 (some y32)) 1 (some y63)) 2 (some y114)) 3 (some y165))))))), (b8, .inr (1, [.ref v10, .int 0, .int 0, .int 0])), (v10, .inl (cB, 16, .inl (fun _ => 0))), (y32, .inr (5, [.int 4, .int 4, .ref yw33, .ref yv34, .ref yh35, .int 0])), (yw33, .inl (cI, 4, .inl gw36)), (yv34, .inl (cI, 4, .inl gv37)), (yh35, .inl (cR, 4, .inr (.inr (.inr (.inr gh38))))), (y63, .inr (5, [.int 4, .int 4, .ref yw64, .ref yv65, .ref yh66, .int 1])), (yw64, .inl (cI, 4, .inl gw92)), (yv65, .inl (cI, 4, .inl gv93)), (yh66, .inl (cR, 4, .inr (.inr (.inr (.inr gh94))))), (y114, .inr (5, [.int 4, .int 4, .ref yw115, .ref yv116, .ref yh117, .int 2])), (yw115, .inl (cI, 4, .inl gw143)), (yv116, .inl (cI, 4, .inl gv144)), (yh117, .inl (cR, 4, .inr (.inr (.inr (.inr gh145))))), (y165, .inr (5, [.int 4, .int 4, .ref yw166, .ref yv167, .ref yh168, .int 3])), (yw166, .inl (cI, 4, .inl gw194)), (yv167, .inl (cI, 4, .inl gv195)), (yh168, .inl (cR, 4, .inr (.inr (.inr (.inr gh196))))), (q11, .inr (9, [.int 0, .ref am15, .int 0, .int 0, .int 0])), (am15, .inr (4, [.int mm178, .ref em45, .int 4])), (em45, .inl (cO, 10, .inr (.inr (.inr (.inr (va_up (va_up (va_up (va_up (fun _ => none) 0 (some a47)) 1 (some a77)) 2 (some a128)) 3 (some a179))))))), (a47, .inr (8, [.int 4, .ref wa48, .ref na49])), (wa48, .inl (cI, 4, .inl fw50)), (na49, .inl (cI, 4, .inl fn51)), (a77, .inr (8, [.int 4, .ref wa78, .ref na79])), (wa78, .inl (cI, 4, .inl fw101)), (na79, .inl (cI, 4, .inl fn102)), (a128, .inr (8, [.int 4, .ref wa129, .ref na130])), (wa129, .inl (cI, 4, .inl fw152)), (na130, .inl (cI, 4, .inl fn153)), (a179, .inr (8, [.int 4, .ref wa180, .ref na181])), (wa180, .inl (cI, 4, .inl fw203)), (na181, .inl (cI, 4, .inl fn204))]) [2, 3, 4, 5, 0, 1, 6, 7, 8, 9, 10, 11, 12, 13, 14, 15, 16, 17, 18, 19, 20, 21, 22, 23, 24, 25, 26, 27, 28, 29, 30, 31, 32, 33, 34, 35, 36] (by decide) rfl
  rw [hAd] at hD9 hS
  refine W.widen (k := 1000 + 3787 * 0) (n := 1000 + 164571100 * 0) (by omega) (by omega) ?_
  exact zl_loop l dC dI cI cB cR cO zk b q1 al5 b8 (.int 0) (.int 0) (.int 0) (.ref sa6) (.ref sb7) (.ref sc9) ed30 (va_up (va_up (va_up (va_up (fun _ => none) 0 (some y32)) 1 (some y63)) 2 (some y114)) 3 (some y165)) (.int mc164) y32 yw33 yv34 yh35 y63 yw64 yv65 yh66 y114 yw115 yv116 yh117 y165 yw166 yv167 yh168 0 1 2 3 gw36 gv37 gw92 gv93 gw143 gv144 gw194 gv195 gh38 gh94 gh145 gh196 rfl hwgw36 hhgh38 hhgh94 hhgh145 hhgh196 q16 q11 am15 (.int 0) (.int 0) (.int 0) em45 (va_up (va_up (va_up (va_up (fun _ => none) 0 (some a47)) 1 (some a77)) 2 (some a128)) 3 (some a179)) mm178 a47 wa48 na49 a77 wa78 na79 a128 wa129 na130 a179 wa180 na181 fw50 fn51 fw101 fn102 fw152 fn153 fw203 fn204 hwfw50 hnfn51 rfl hwfw101 hnfn102 rfl hwfw152 hnfn153 rfl hwfw203 hnfn204 rfl C1 hZ0 hK 360 0 35 (by omega) (by omega) (.long on193) .null v10 16 0 (fun _ => 0) (.int 0) (.int 0) (by decide) (by decide) (fun _ => rfl) _ _ hP9 hD9 hS (by omega) ls (lv_sub hl [6, 5, 4, 3, 0] rfl)
