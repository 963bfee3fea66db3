set_option maxHeartbeats 8000000 in
set_option maxRecDepth 100000 in
/-- the law on the script, from its entry -/
theorem zl_start (l : Launch) (dC : Nat → ClassId) (dI : Nat → Nat → Nat) (cI cB cR cO : ClassId) (zk : Nat → Nat) {p : Program} {e : Env} {s : State} {mY : MethodId} {below : List Frame} {meth : Method} {c : Code} (b : Nat) (C0 : zl_At p s mY meth c b) (hZ0 : zR zk [] (fun q => s.heap.size ≤ q) s s.heap) (hK : va_K (dC, dI) vwCl (zT cI cB cR cO) s) : W p l e zR2 s mY #[Value.ref b] below meth c s.heap [] 0 0 (zl_Z below s) (entryFrame mY ([Value.ref b] : List Value).toArray 7) := by
  have C1 := C0
  obtain ⟨hx, hb, hr, hml, hown, hts0, hX, hbl, hlocks, hNI⟩ := C0
  have hts := fun (w : Cond) (h : w ∈ wsL_law) => hts0 w (wsL_law_in w h)
  obtain ⟨A, hAd⟩ : ∃ A : Nat → Prop, A = fun q => s.heap.size ≤ q := ⟨_, rfl⟩
  have hA : ∀ q : Nat, s.heap.size ≤ q → A q := fun q h => by rw [hAd]; exact h
  have hAf : ∀ q : Nat, A q → s.heap.size ≤ q := fun q h => by rw [hAd] at h; exact h
  have hbA : ¬ A b := fun h => absurd (hAf b h) (Nat.not_le.mpr hbl)
  have hZ : zR zk [] A s s.heap := by rw [hAd]; exact hZ0
  have hP : va_P (dC, dI) vwCl [] s.heap := fun k q h => by simp at h
  have hD : va_D A [] := ⟨fun i j p q h => by simp at h, fun k q h => by simp at h⟩
  have hS : va_S A s.heap s.heap [] := va_S.rf
  have hz : s.heap.size + 0 ≤ s.heap.size := Nat.le_refl _
  have hl := lv_entry ([.ref b]) (n := 7) (Nat.le_of_ble_eq_true rfl)
  rw [lg_entry_eq]
  generalize (lg_sl ([.ref b]) ++ List.replicate (7 - (lg_sl ([.ref b])).length) Slot.unset).toArray = ls at hl ⊢
  have hl : lv_has ls 7 [(0, .ref b)] := hl
  have hP : va_P (dC, dI) vwCl [] s.heap := hP
  have hD : va_D A [] := hD
  refine zw_new (ci := 6) (fs := [.null, .int 0, .int 0, .int 0, .null, .null, .null, .null]) (C := RX1) (T := TX1) (N := 8) hx hb hts inlX1 tyX1 tyX1_ok hown (hts (.classLink RL 8 RX1) (List.mem_cons_of_mem _ zw_71)) (hts (.instantiable RX1 8) (List.mem_cons_of_mem _ zw_72)) (hts (.initialized RX1) (List.mem_cons_of_mem _ zw_41)) hK hP hD hS hA rfl (fun j hj => by rcases (show j = 0 ∨ j = 1 ∨ j = 2 ∨ j = 3 ∨ j = 4 ∨ j = 5 ∨ j = 6 ∨ j = 7 by omega) with rfl | rfl | rfl | rfl | rfl | rfl | rfl | rfl <;> rfl) (Nat.le_of_ble_eq_true rfl) (Nat.le_of_ble_eq_true rfl) dL_law_0 hz (fun q1 H2 hP hD hS hz => ?_)
  replace hP : va_P (dC, dI) vwCl [(q1, .inr (6, [.null, .int 0, .int 0, .int 0, .null, .null, .null, .null]))] H2 := hP
  replace hD : va_D A [(q1, .inr (6, [.null, .int 0, .int 0, .int 0, .null, .null, .null, .null]))] := hD
  refine W.widen (k := 1) (n := 8) (by omega) (by omega) ?_
  refine lv_dup hx hb dL_law_3 rfl ?_
  have hPc := hP.sub (ws' := [(q1, .inr (6, [.null, .int 0, .int 0, .int 0, .null, .null, .null, .null]))]) [0] rfl
  have hDc := hD.sub (ws' := [(q1, .inr (6, [.null, .int 0, .int 0, .int 0, .null, .null, .null, .null]))]) [0] (by decide) rfl
  have hFc := va_free (wc := [(q1, .inr (6, [.null, .int 0, .int 0, .int 0, .null, .null, .null, .null]))]) hD hS hA [0] rfl
  have hDv := hDc.self (sz := H2.size)
  have hpre := zpre (xs' := []) (av := [.ref q1]) hPc hK (hDc.weaken (fun _ _ _ h => h)) hZ hS hFc (fun r hr => by cases hr)
  refine va_callv (va_runI (As := []) (rest := [.ref q1]) ⟨hx, hb, hml, hown, hts⟩ (k_xin l dC dI cI cB cR cO zk q1 H2.size ) (cwI 0 hts gL_law_X1_init rfl rfl rfl (hts (.initialized RX1) (List.mem_cons_of_mem _ zw_41)) (hts (.methodLink RL 117 yX1_init) (List.mem_cons_of_mem _ zw_73)) (hts (.instanceMethod yX1_init) (List.mem_cons_of_mem _ zw_74)) rfl (by decide +kernel) ⟨Nat.le_of_ble_eq_true rfl, Nat.le_of_ble_eq_true rfl⟩) ⟨zblind, hpre⟩ rfl rfl hl.1 rfl (lv_room (Nat.le_of_ble_eq_true rfl)) dL_law_4 ⟨Nat.le_of_ble_eq_true rfl, Nat.le_of_ble_eq_true rfl⟩) hS (fun q _ h => hFc q h) hFc (fun u t H3 locs ht hvm hw hB hz1 hk1 hS => ?_)
  obtain ⟨al5, sa6, sb7, b8, sc9, v10, ⟨hP1, hK1, hD1, hz2⟩⟩ := hB
  rw [ht] at hP1 hz2
  have hPD9 := va_join (wr := []) (w1 := [(q1, .inr (6, [.ref al5, .int 0, .int 0, .int 0, .ref sa6, .ref sb7, .ref b8, .ref sc9])), (al5, .inr (4, [.int 0, .ref (zk 0), .int 0])), (b8, .inr (1, [.ref v10, .int 0, .int 0, .int 0])), (v10, .inl (cB, 16, .inl (fun _ => 0)))]) hP hD [0] [] rfl rfl (by decide) (by decide) hk1 hFc hP1 hD1
  clear hPc hDc hFc hDv hpre hP hD hP1 hK1 hD1
  obtain ⟨hP, hD⟩ := hPD9
  replace hz : s.heap.size + 14 ≤ H3.size := by omega
  clear hz2
  replace hP : va_P (dC, dI) vwCl [(q1, .inr (6, [.ref al5, .int 0, .int 0, .int 0, .ref sa6, .ref sb7, .ref b8, .ref sc9])), (al5, .inr (4, [.int 0, .ref (zk 0), .int 0])), (b8, .inr (1, [.ref v10, .int 0, .int 0, .int 0])), (v10, .inl (cB, 16, .inl (fun _ => 0)))] H3 := hP
  replace hD : va_D A [(q1, .inr (6, [.ref al5, .int 0, .int 0, .int 0, .ref sa6, .ref sb7, .ref b8, .ref sc9])), (al5, .inr (4, [.int 0, .ref (zk 0), .int 0])), (b8, .inr (1, [.ref v10, .int 0, .int 0, .int 0])), (v10, .inl (cB, 16, .inl (fun _ => 0)))] := hD
  refine W.widen (k := 14) (n := 69) (by omega) (by omega) ?_
  refine lv_astore_n (lv' := [(1, .ref q1), (0, .ref b)]) hx hb dL_law_7 rfl hl (by decide) rfl (fun ls hl => ?_)
  refine zw_new (ci := 9) (fs := [.int 0, .null, .int 0, .int 0, .int 0]) (C := RX4) (T := TX4) (N := 5) hx hb hts inlX4 tyX4 tyX4_ok hown (hts (.classLink RL 118 RX4) (List.mem_cons_of_mem _ zw_1125)) (hts (.instantiable RX4 5) (List.mem_cons_of_mem _ zw_1126)) (hts (.initialized RX4) (List.mem_cons_of_mem _ zw_50)) hK hP hD hS hA rfl (fun j hj => by rcases (show j = 0 ∨ j = 1 ∨ j = 2 ∨ j = 3 ∨ j = 4 by omega) with rfl | rfl | rfl | rfl | rfl <;> rfl) (Nat.le_of_ble_eq_true rfl) (Nat.le_of_ble_eq_true rfl) dL_law_8 hz (fun q11 H12 hP hD hS hz => ?_)
  replace hP : va_P (dC, dI) vwCl [(q1, .inr (6, [.ref al5, .int 0, .int 0, .int 0, .ref sa6, .ref sb7, .ref b8, .ref sc9])), (al5, .inr (4, [.int 0, .ref (zk 0), .int 0])), (b8, .inr (1, [.ref v10, .int 0, .int 0, .int 0])), (v10, .inl (cB, 16, .inl (fun _ => 0))), (q11, .inr (9, [.int 0, .null, .int 0, .int 0, .int 0]))] H12 := hP
  replace hD : va_D A [(q1, .inr (6, [.ref al5, .int 0, .int 0, .int 0, .ref sa6, .ref sb7, .ref b8, .ref sc9])), (al5, .inr (4, [.int 0, .ref (zk 0), .int 0])), (b8, .inr (1, [.ref v10, .int 0, .int 0, .int 0])), (v10, .inl (cB, 16, .inl (fun _ => 0))), (q11, .inr (9, [.int 0, .null, .int 0, .int 0, .int 0]))] := hD
  refine W.widen (k := 15) (n := 74) (by omega) (by omega) ?_
  refine lv_dup hx hb dL_law_11 rfl ?_
  have hPc := hP.sub (ws' := [(q11, .inr (9, [.int 0, .null, .int 0, .int 0, .int 0]))]) [4] rfl
  have hDc := hD.sub (ws' := [(q11, .inr (9, [.int 0, .null, .int 0, .int 0, .int 0]))]) [4] (by decide) rfl
  have hFc := va_free (wc := [(q11, .inr (9, [.int 0, .null, .int 0, .int 0, .int 0]))]) hD hS hA [4] rfl
  have hDv := hDc.self (sz := H12.size)
  have hpre := zpre (xs' := []) (av := [.ref q11]) hPc hK (hDc.weaken (fun _ _ _ h => h)) hZ hS hFc (fun r hr => by cases hr)
  refine va_callv (va_runI (As := []) (rest := [.ref q11]) ⟨hx, hb, hml, hown, hts⟩ (k_min l dC dI cI cB cR cO zk q11 H12.size ) (cwI 0 hts gL_law_X4_init rfl rfl rfl (hts (.initialized RX4) (List.mem_cons_of_mem _ zw_50)) (hts (.methodLink RL 120 yX4_init) (List.mem_cons_of_mem _ zw_1127)) (hts (.instanceMethod yX4_init) (List.mem_cons_of_mem _ zw_1128)) rfl (by decide +kernel) ⟨Nat.le_of_ble_eq_true rfl, Nat.le_of_ble_eq_true rfl⟩) ⟨zblind, hpre⟩ rfl rfl hl.1 rfl (lv_room (Nat.le_of_ble_eq_true rfl)) dL_law_12 ⟨Nat.le_of_ble_eq_true rfl, Nat.le_of_ble_eq_true rfl⟩) hS (fun q _ h => hFc q h) hFc (fun u t H13 locs ht hvm hw hB hz1 hk1 hS => ?_)
  obtain ⟨am15, ⟨hP1, hK1, hD1, hz2⟩⟩ := hB
  rw [ht] at hP1 hz2
  have hPD9 := va_join (wr := [(q1, .inr (6, [.ref al5, .int 0, .int 0, .int 0, .ref sa6, .ref sb7, .ref b8, .ref sc9])), (al5, .inr (4, [.int 0, .ref (zk 0), .int 0])), (b8, .inr (1, [.ref v10, .int 0, .int 0, .int 0])), (v10, .inl (cB, 16, .inl (fun _ => 0)))]) (w1 := [(q11, .inr (9, [.int 0, .ref am15, .int 0, .int 0, .int 0])), (am15, .inr (4, [.int 0, .ref (zk 0), .int 0]))]) hP hD [4] [0, 1, 2, 3] rfl rfl (by decide) (by decide) hk1 hFc hP1 hD1
  clear hPc hDc hFc hDv hpre hP hD hP1 hK1 hD1
  obtain ⟨hP, hD⟩ := hPD9
  replace hz : s.heap.size + 16 ≤ H13.size := by omega
  clear hz2
  replace hP : va_P (dC, dI) vwCl [(q1, .inr (6, [.ref al5, .int 0, .int 0, .int 0, .ref sa6, .ref sb7, .ref b8, .ref sc9])), (al5, .inr (4, [.int 0, .ref (zk 0), .int 0])), (b8, .inr (1, [.ref v10, .int 0, .int 0, .int 0])), (v10, .inl (cB, 16, .inl (fun _ => 0))), (q11, .inr (9, [.int 0, .ref am15, .int 0, .int 0, .int 0])), (am15, .inr (4, [.int 0, .ref (zk 0), .int 0]))] H13 := hP
  replace hD : va_D A [(q1, .inr (6, [.ref al5, .int 0, .int 0, .int 0, .ref sa6, .ref sb7, .ref b8, .ref sc9])), (al5, .inr (4, [.int 0, .ref (zk 0), .int 0])), (b8, .inr (1, [.ref v10, .int 0, .int 0, .int 0])), (v10, .inl (cB, 16, .inl (fun _ => 0))), (q11, .inr (9, [.int 0, .ref am15, .int 0, .int 0, .int 0])), (am15, .inr (4, [.int 0, .ref (zk 0), .int 0]))] := hD
  refine W.widen (k := 16) (n := 77) (by omega) (by omega) ?_
  refine lv_astore_n (lv' := [(2, .ref q11), (1, .ref q1), (0, .ref b)]) hx hb dL_law_15 rfl hl (by decide) rfl (fun ls hl => ?_)
  refine zw_new (ci := 7) (fs := [.long 0, .null]) (C := RX2) (T := TX2) (N := 2) hx hb hts inlX2 tyX2 tyX2_ok hown (hts (.classLink RL 14 RX2) (List.mem_cons_of_mem _ zw_770)) (hts (.instantiable RX2 2) (List.mem_cons_of_mem _ zw_771)) (hts (.initialized RX2) (List.mem_cons_of_mem _ zw_51)) hK hP hD hS hA rfl (fun j hj => by rcases (show j = 0 ∨ j = 1 by omega) with rfl | rfl <;> rfl) (Nat.le_of_ble_eq_true rfl) (Nat.le_of_ble_eq_true rfl) dL_law_16 hz (fun q16 H17 hP hD hS hz => ?_)
  replace hP : va_P (dC, dI) vwCl [(q1, .inr (6, [.ref al5, .int 0, .int 0, .int 0, .ref sa6, .ref sb7, .ref b8, .ref sc9])), (al5, .inr (4, [.int 0, .ref (zk 0), .int 0])), (b8, .inr (1, [.ref v10, .int 0, .int 0, .int 0])), (v10, .inl (cB, 16, .inl (fun _ => 0))), (q11, .inr (9, [.int 0, .ref am15, .int 0, .int 0, .int 0])), (am15, .inr (4, [.int 0, .ref (zk 0), .int 0])), (q16, .inr (7, [.long 0, .null]))] H17 := hP
  replace hD : va_D A [(q1, .inr (6, [.ref al5, .int 0, .int 0, .int 0, .ref sa6, .ref sb7, .ref b8, .ref sc9])), (al5, .inr (4, [.int 0, .ref (zk 0), .int 0])), (b8, .inr (1, [.ref v10, .int 0, .int 0, .int 0])), (v10, .inl (cB, 16, .inl (fun _ => 0))), (q11, .inr (9, [.int 0, .ref am15, .int 0, .int 0, .int 0])), (am15, .inr (4, [.int 0, .ref (zk 0), .int 0])), (q16, .inr (7, [.long 0, .null]))] := hD
  refine W.widen (k := 17) (n := 79) (by omega) (by omega) ?_
  refine lv_dup hx hb dL_law_19 rfl ?_
  have hPc := hP.sub (ws' := [(q16, .inr (7, [.long 0, .null]))]) [6] rfl
  have hDc := hD.sub (ws' := [(q16, .inr (7, [.long 0, .null]))]) [6] (by decide) rfl
  have hFc := va_free (wc := [(q16, .inr (7, [.long 0, .null]))]) hD hS hA [6] rfl
  have hDv := hDc.self (sz := H17.size)
  have hpre := zpre (xs' := []) (av := [.ref q16]) hPc hK (hDc.weaken (fun _ _ _ h => h)) hZ hS hFc (fun r hr => by cases hr)
  refine va_callv (va_runIN (As := []) (rest := [.ref q16]) ⟨hx, hb, hml, hown, hts⟩ (k_oin l dC dI cI cB cR cO zk q16 H17.size ) ⟨va_cnB 0 hts gL_law_X2_init_n121 rfl rfl rfl hNI (hts (.initialized RX2) (List.mem_cons_of_mem _ zw_51)) (by decide +kernel) ⟨Nat.le_of_ble_eq_true rfl, Nat.le_of_ble_eq_true rfl⟩, rfl, hts (.instanceMethod yX2_init) (List.mem_cons_of_mem _ zw_773)⟩ ⟨zblind, hpre⟩ rfl rfl hl.1 rfl (lv_room (Nat.le_of_ble_eq_true rfl)) dL_law_20 ⟨Nat.le_of_ble_eq_true rfl, Nat.le_of_ble_eq_true rfl⟩) hS (fun q _ h => hFc q h) hFc (fun u t H18 locs ht hvm hw hB hz1 hk1 hS => ?_)
  obtain ⟨hP1, hK1, hD1, hz2⟩ := hB
  rw [ht] at hP1 hz2
  have hPD9 := va_join (wr := [(q1, .inr (6, [.ref al5, .int 0, .int 0, .int 0, .ref sa6, .ref sb7, .ref b8, .ref sc9])), (al5, .inr (4, [.int 0, .ref (zk 0), .int 0])), (b8, .inr (1, [.ref v10, .int 0, .int 0, .int 0])), (v10, .inl (cB, 16, .inl (fun _ => 0))), (q11, .inr (9, [.int 0, .ref am15, .int 0, .int 0, .int 0])), (am15, .inr (4, [.int 0, .ref (zk 0), .int 0]))]) (w1 := [(q16, .inr (7, [.long 0, .null]))]) hP hD [6] [0, 1, 2, 3, 4, 5] rfl rfl (by decide) (by decide) hk1 hFc hP1 hD1
  clear hPc hDc hFc hDv hpre hP hD hP1 hK1 hD1
  obtain ⟨hP, hD⟩ := hPD9
  replace hz : s.heap.size + 17 ≤ H18.size := by omega
  clear hz2
  replace hP : va_P (dC, dI) vwCl [(q1, .inr (6, [.ref al5, .int 0, .int 0, .int 0, .ref sa6, .ref sb7, .ref b8, .ref sc9])), (al5, .inr (4, [.int 0, .ref (zk 0), .int 0])), (b8, .inr (1, [.ref v10, .int 0, .int 0, .int 0])), (v10, .inl (cB, 16, .inl (fun _ => 0))), (q11, .inr (9, [.int 0, .ref am15, .int 0, .int 0, .int 0])), (am15, .inr (4, [.int 0, .ref (zk 0), .int 0])), (q16, .inr (7, [.long 0, .null]))] H18 := hP
  replace hD : va_D A [(q1, .inr (6, [.ref al5, .int 0, .int 0, .int 0, .ref sa6, .ref sb7, .ref b8, .ref sc9])), (al5, .inr (4, [.int 0, .ref (zk 0), .int 0])), (b8, .inr (1, [.ref v10, .int 0, .int 0, .int 0])), (v10, .inl (cB, 16, .inl (fun _ => 0))), (q11, .inr (9, [.int 0, .ref am15, .int 0, .int 0, .int 0])), (am15, .inr (4, [.int 0, .ref (zk 0), .int 0])), (q16, .inr (7, [.long 0, .null]))] := hD
  refine W.widen (k := 17) (n := 79) (by omega) (by omega) ?_
  refine lv_astore_n (lv' := [(3, .ref q16), (2, .ref q11), (1, .ref q1), (0, .ref b)]) hx hb dL_law_23 rfl hl (by decide) rfl (fun ls hl => ?_)
  refine lv_iconst (v := 0) hx hb dL_law_24 (by decide) ?_
  refine lv_istore (lv' := [(4, .int 0), (3, .ref q16), (2, .ref q11), (1, .ref q1), (0, .ref b)]) hx hb dL_law_25 hl (by decide) rfl (fun ls hl => ?_)
  refine lv_iload hx hb dL_law_27 (lv_at hl 0 rfl) ?_
  refine lv_aload_n hx hb dL_law_29 rfl (lv_at hl 4 rfl) ?_
  refine va_slen hx hb hX hbl hbA hS dL_law_30 ?_
  refine W.eq (g2 := F0 mY 31 ls [.int 1835, .int 0]) rfl ?_
  refine lv_iconst (v := 5) hx hb dL_law_31 (by decide) ?_
  refine lv_isub hx hb dL_law_32 ?_
  refine lv_topi (fun v20 ev20 => ?_)
  obtain rfl : v20 = 1830 := ev20.trans (by decide)
  refine lv_icmp_gt (tgt := 2161) hx hb dL_law_33 (by decide) (fun c9 => ?_) (fun c9 => ?_)
  · exact absurd c9 (by decide)
  refine lv_aload_n hx hb dL_law_36 rfl (lv_at hl 4 rfl) ?_
  refine lv_iload hx hb dL_law_37 (lv_at hl 0 rfl) ?_
  refine va_sld hx hb hX hbl hbA hS (by unfold vp_in; decide) dL_law_39 ?_
  refine lv_topi (fun v21 ev21 => ?_)
  obtain rfl : v21 = 0 := ev21.trans (by decide)
  refine lv_bipush (v := 31) hx hb dL_law_40 (by decide) ?_
  refine lv_iand hx hb dL_law_42 ?_
  refine lv_topi (fun v22 ev22 => ?_)
  obtain rfl : v22 = 0 := ev22.trans (by decide)
  refine lv_tableIn (off := 141) (tgt := 184) hx hb dL_law_43 (by decide) (by decide) (by decide) (by decide) ?_
  refine lv_aload_n hx hb dL_law_184 rfl (lv_at hl 3 rfl) ?_
  refine lv_aload_n hx hb dL_law_185 rfl (lv_at hl 4 rfl) ?_
  refine lv_iload hx hb dL_law_186 (lv_at hl 0 rfl) ?_
  refine lv_iconst (v := 1) hx hb dL_law_188 (by decide) ?_
  refine lv_iadd hx hb dL_law_189 ?_
  refine lv_topi (fun v23 ev23 => ?_)
  obtain rfl : v23 = 1 := ev23.trans (by decide)
  refine va_sld hx hb hX hbl hbA hS (by unfold vp_in; decide) dL_law_190 ?_
  refine lv_topi (fun v24 ev24 => ?_)
  obtain rfl : v24 = 4 := ev24.trans (by decide)
  refine lv_aload_n hx hb dL_law_191 rfl (lv_at hl 4 rfl) ?_
  refine lv_iload hx hb dL_law_192 (lv_at hl 0 rfl) ?_
  refine lv_iconst (v := 2) hx hb dL_law_194 (by decide) ?_
  refine lv_iadd hx hb dL_law_195 ?_
  refine lv_topi (fun v25 ev25 => ?_)
  obtain rfl : v25 = 2 := ev25.trans (by decide)
  refine va_sld hx hb hX hbl hbA hS (by unfold vp_in; decide) dL_law_196 ?_
  refine lv_topi (fun v26 ev26 => ?_)
  obtain rfl : v26 = 4 := ev26.trans (by decide)
  refine lv_aload_n hx hb dL_law_197 rfl (lv_at hl 1 rfl) ?_
  have hPc := hP.sub (ws' := [(q16, .inr (7, [.long 0, .null])), (q1, .inr (6, [.ref al5, .int 0, .int 0, .int 0, .ref sa6, .ref sb7, .ref b8, .ref sc9])), (al5, .inr (4, [.int 0, .ref (zk 0), .int 0]))]) [6, 0, 1] rfl
  have hDc := hD.sub (ws' := [(q16, .inr (7, [.long 0, .null])), (q1, .inr (6, [.ref al5, .int 0, .int 0, .int 0, .ref sa6, .ref sb7, .ref b8, .ref sc9])), (al5, .inr (4, [.int 0, .ref (zk 0), .int 0]))]) [6, 0, 1] (by decide) rfl
  have hFc := va_free (wc := [(q16, .inr (7, [.long 0, .null])), (q1, .inr (6, [.ref al5, .int 0, .int 0, .int 0, .ref sa6, .ref sb7, .ref b8, .ref sc9])), (al5, .inr (4, [.int 0, .ref (zk 0), .int 0]))]) hD hS hA [6, 0, 1] rfl
  have hDv := hDc.self (sz := H18.size)
  have hpre := zpre (xs' := []) (av := [.ref q1, .int 4, .int 4, .ref q16]) hPc hK (hDc.weaken (fun _ _ _ h => h)) hZ hS hFc (fun r hr => by cases hr)
  refine va_calli (vx_runSW (As := [.ref q1, .int 4, .int 4, .ref q16]) (rest := []) ⟨hx, hb, hml, hown, hts⟩ (k_LmX0 l dC dI cI cB cR cO zk q1 al5 b8 (.int 0) (.int 0) (.int 0) (.ref sa6) (.ref sb7) (.ref sc9) 0 (fun _ => none) 0 q16 (.long 0) .null H18.size ) (vx_cwSW 4 hts gL_law_L_make rfl rfl rfl (by decide +kernel) ⟨Nat.le_of_ble_eq_true rfl, Nat.le_of_ble_eq_true rfl⟩) ⟨zblind, hpre⟩ rfl rfl hl.1 rfl (lv_room (Nat.le_of_ble_eq_true rfl)) dL_law_198 ⟨Nat.le_of_ble_eq_true rfl, Nat.le_of_ble_eq_true rfl⟩) hS (fun q _ h => hFc q h) hFc (fun r28 u t H27 locs ht hvm hw hB hz1 hk1 hS => ?_)
  obtain rfl : 0 = r28 := (show r28 = 0 from hw).symm
  obtain ⟨on29, ed30, mc31, y32, yw33, yv34, yh35, gw36, gv37, gh38, ⟨hP1, hK1, hD1, hz2⟩, hwgw36, hhgh38, rfl⟩ := hB
  rw [ht] at hP1 hz2
  have hPD9 := va_join (wr := [(b8, .inr (1, [.ref v10, .int 0, .int 0, .int 0])), (v10, .inl (cB, 16, .inl (fun _ => 0))), (q11, .inr (9, [.int 0, .ref am15, .int 0, .int 0, .int 0])), (am15, .inr (4, [.int 0, .ref (zk 0), .int 0]))]) (w1 := [(q16, .inr (7, [.long ((0 : Int32).toInt64), .null])), (q1, .inr (6, [.ref al5, .int 0, .int 0, .int 0, .ref sa6, .ref sb7, .ref b8, .ref sc9])), (al5, .inr (4, [.int mc31, .ref ed30, .int 1])), (ed30, .inl (cO, 10, .inr (.inr (.inr (.inr (va_up (fun _ => none) 0 (some y32))))))), (y32, .inr (5, [.int 4, .int 4, .ref yw33, .ref yv34, .ref yh35, .int 0])), (yw33, .inl (cI, 4, .inl gw36)), (yv34, .inl (cI, 4, .inl gv37)), (yh35, .inl (cR, 4, .inr (.inr (.inr (.inr gh38)))))]) hP hD [6, 0, 1] [2, 3, 4, 5] rfl rfl (by decide) (by decide) hk1 hFc hP1 hD1
  clear hPc hDc hFc hDv hpre hP hD hP1 hK1 hD1
  obtain ⟨hP, hD⟩ := hPD9
  replace hz : s.heap.size + 22 ≤ H27.size := by omega
  clear hz2
  replace hP : va_P (dC, dI) vwCl [(b8, .inr (1, [.ref v10, .int 0, .int 0, .int 0])), (v10, .inl (cB, 16, .inl (fun _ => 0))), (q11, .inr (9, [.int 0, .ref am15, .int 0, .int 0, .int 0])), (am15, .inr (4, [.int 0, .ref (zk 0), .int 0])), (q16, .inr (7, [.long ((0 : Int32).toInt64), .null])), (q1, .inr (6, [.ref al5, .int 0, .int 0, .int 0, .ref sa6, .ref sb7, .ref b8, .ref sc9])), (al5, .inr (4, [.int mc31, .ref ed30, .int 1])), (ed30, .inl (cO, 10, .inr (.inr (.inr (.inr (va_up (fun _ => none) 0 (some y32))))))), (y32, .inr (5, [.int 4, .int 4, .ref yw33, .ref yv34, .ref yh35, .int 0])), (yw33, .inl (cI, 4, .inl gw36)), (yv34, .inl (cI, 4, .inl gv37)), (yh35, .inl (cR, 4, .inr (.inr (.inr (.inr gh38)))))] H27 := hP
  replace hD : va_D A [(b8, .inr (1, [.ref v10, .int 0, .int 0, .int 0])), (v10, .inl (cB, 16, .inl (fun _ => 0))), (q11, .inr (9, [.int 0, .ref am15, .int 0, .int 0, .int 0])), (am15, .inr (4, [.int 0, .ref (zk 0), .int 0])), (q16, .inr (7, [.long ((0 : Int32).toInt64), .null])), (q1, .inr (6, [.ref al5, .int 0, .int 0, .int 0, .ref sa6, .ref sb7, .ref b8, .ref sc9])), (al5, .inr (4, [.int mc31, .ref ed30, .int 1])), (ed30, .inl (cO, 10, .inr (.inr (.inr (.inr (va_up (fun _ => none) 0 (some y32))))))), (y32, .inr (5, [.int 4, .int 4, .ref yw33, .ref yv34, .ref yh35, .int 0])), (yw33, .inl (cI, 4, .inl gw36)), (yv34, .inl (cI, 4, .inl gv37)), (yh35, .inl (cR, 4, .inr (.inr (.inr (.inr gh38)))))] := hD
  refine W.widen (k := 22) (n := 107) (by omega) (by omega) ?_
  refine lv_istore (lv' := [(5, .int 0), (4, .int 0), (3, .ref q16), (2, .ref q11), (1, .ref q1), (0, .ref b)]) hx hb dL_law_201 hl (by decide) rfl (fun ls hl => ?_)
  refine lv_aload_n hx hb dL_law_203 rfl (lv_at hl 3 rfl) ?_
  refine lv_aload_n hx hb dL_law_204 rfl (lv_at hl 5 rfl) ?_
  refine lv_iload hx hb dL_law_205 (lv_at hl 1 rfl) ?_
  refine lv_iconst (v := 1) hx hb dL_law_207 (by decide) ?_
  refine lv_iadd hx hb dL_law_208 ?_
  refine lv_topi (fun v39 ev39 => ?_)
  obtain rfl : v39 = 1 := ev39.trans (by decide)
  refine va_sld hx hb hX hbl hbA hS (by unfold vp_in; decide) dL_law_209 ?_
  refine lv_topi (fun v40 ev40 => ?_)
  obtain rfl : v40 = 4 := ev40.trans (by decide)
  refine lv_aload_n hx hb dL_law_210 rfl (lv_at hl 5 rfl) ?_
  refine lv_iload hx hb dL_law_211 (lv_at hl 1 rfl) ?_
  refine lv_iconst (v := 2) hx hb dL_law_213 (by decide) ?_
  refine lv_iadd hx hb dL_law_214 ?_
  refine lv_topi (fun v41 ev41 => ?_)
  obtain rfl : v41 = 2 := ev41.trans (by decide)
  refine va_sld hx hb hX hbl hbA hS (by unfold vp_in; decide) dL_law_215 ?_
  refine lv_topi (fun v42 ev42 => ?_)
  obtain rfl : v42 = 4 := ev42.trans (by decide)
  have hPc := hP.sub (ws' := [(q11, .inr (9, [.int 0, .ref am15, .int 0, .int 0, .int 0])), (am15, .inr (4, [.int 0, .ref (zk 0), .int 0]))]) [2, 3] rfl
  have hDc := hD.sub (ws' := [(q11, .inr (9, [.int 0, .ref am15, .int 0, .int 0, .int 0])), (am15, .inr (4, [.int 0, .ref (zk 0), .int 0]))]) [2, 3] (by decide) rfl
  have hFc := va_free (wc := [(q11, .inr (9, [.int 0, .ref am15, .int 0, .int 0, .int 0])), (am15, .inr (4, [.int 0, .ref (zk 0), .int 0]))]) hD hS hA [2, 3] rfl
  have hDv := hDc.self (sz := H27.size)
  have hpre := zpre (xs' := []) (av := [.ref q11, .int 4, .int 4]) hPc hK (hDc.weaken (fun _ _ _ h => h)) hZ hS hFc (fun r hr => by cases hr)
  refine va_calli (va_runV (As := [.int 4, .int 4]) (rest := []) ⟨hx, hb, hml, hown, hts⟩ (k_mkM0 l dC dI cI cB cR cO zk q11 am15 (.int 0) (.int 0) (.int 0) (.int 0) 0 (fun _ => none) 0 H27.size ) (cwV 2 hts gL_law_X4_make rfl rfl rfl (by decide +kernel) ⟨Nat.le_of_ble_eq_true rfl, Nat.le_of_ble_eq_true rfl⟩) ⟨zblind, (zrecv_9 hK hPc (q0 := 0) rfl), hpre⟩ rfl rfl hl.1 rfl (lv_room (Nat.le_of_ble_eq_true rfl)) dL_law_216 ⟨Nat.le_of_ble_eq_true rfl, Nat.le_of_ble_eq_true rfl⟩) hS (fun q _ h => hFc q h) hFc (fun r44 u t H43 locs ht hvm hw hB hz1 hk1 hS => ?_)
  obtain rfl : 0 = r44 := (show r44 = 0 from hw).symm
  obtain ⟨em45, mm46, a47, wa48, na49, fw50, fn51, ⟨hP1, hK1, hD1, hz2⟩, hwfw50, hnfn51⟩ := hB
  rw [ht] at hP1 hz2
  have hPD9 := va_join (wr := [(b8, .inr (1, [.ref v10, .int 0, .int 0, .int 0])), (v10, .inl (cB, 16, .inl (fun _ => 0))), (q16, .inr (7, [.long ((0 : Int32).toInt64), .null])), (q1, .inr (6, [.ref al5, .int 0, .int 0, .int 0, .ref sa6, .ref sb7, .ref b8, .ref sc9])), (al5, .inr (4, [.int mc31, .ref ed30, .int 1])), (ed30, .inl (cO, 10, .inr (.inr (.inr (.inr (va_up (fun _ => none) 0 (some y32))))))), (y32, .inr (5, [.int 4, .int 4, .ref yw33, .ref yv34, .ref yh35, .int 0])), (yw33, .inl (cI, 4, .inl gw36)), (yv34, .inl (cI, 4, .inl gv37)), (yh35, .inl (cR, 4, .inr (.inr (.inr (.inr gh38)))))]) (w1 := [(q11, .inr (9, [.int 0, .ref am15, .int 0, .int 0, .int 0])), (am15, .inr (4, [.int mm46, .ref em45, .int 1])), (em45, .inl (cO, 10, .inr (.inr (.inr (.inr (va_up (fun _ => none) 0 (some a47))))))), (a47, .inr (8, [.int 4, .ref wa48, .ref na49])), (wa48, .inl (cI, 4, .inl fw50)), (na49, .inl (cI, 4, .inl fn51))]) hP hD [2, 3] [0, 1, 4, 5, 6, 7, 8, 9, 10, 11] rfl rfl (by decide) (by decide) hk1 hFc hP1 hD1
  clear hPc hDc hFc hDv hpre hP hD hP1 hK1 hD1
  obtain ⟨hP, hD⟩ := hPD9
  replace hz : s.heap.size + 26 ≤ H43.size := by omega
  clear hz2
  replace hP : va_P (dC, dI) vwCl [(b8, .inr (1, [.ref v10, .int 0, .int 0, .int 0])), (v10, .inl (cB, 16, .inl (fun _ => 0))), (q16, .inr (7, [.long ((0 : Int32).toInt64), .null])), (q1, .inr (6, [.ref al5, .int 0, .int 0, .int 0, .ref sa6, .ref sb7, .ref b8, .ref sc9])), (al5, .inr (4, [.int mc31, .ref ed30, .int 1])), (ed30, .inl (cO, 10, .inr (.inr (.inr (.inr (va_up (fun _ => none) 0 (some y32))))))), (y32, .inr (5, [.int 4, .int 4, .ref yw33, .ref yv34, .ref yh35, .int 0])), (yw33, .inl (cI, 4, .inl gw36)), (yv34, .inl (cI, 4, .inl gv37)), (yh35, .inl (cR, 4, .inr (.inr (.inr (.inr gh38))))), (q11, .inr (9, [.int 0, .ref am15, .int 0, .int 0, .int 0])), (am15, .inr (4, [.int mm46, .ref em45, .int 1])), (em45, .inl (cO, 10, .inr (.inr (.inr (.inr (va_up (fun _ => none) 0 (some a47))))))), (a47, .inr (8, [.int 4, .ref wa48, .ref na49])), (wa48, .inl (cI, 4, .inl fw50)), (na49, .inl (cI, 4, .inl fn51))] H43 := hP
  replace hD : va_D A [(b8, .inr (1, [.ref v10, .int 0, .int 0, .int 0])), (v10, .inl (cB, 16, .inl (fun _ => 0))), (q16, .inr (7, [.long ((0 : Int32).toInt64), .null])), (q1, .inr (6, [.ref al5, .int 0, .int 0, .int 0, .ref sa6, .ref sb7, .ref b8, .ref sc9])), (al5, .inr (4, [.int mc31, .ref ed30, .int 1])), (ed30, .inl (cO, 10, .inr (.inr (.inr (.inr (va_up (fun _ => none) 0 (some y32))))))), (y32, .inr (5, [.int 4, .int 4, .ref yw33, .ref yv34, .ref yh35, .int 0])), (yw33, .inl (cI, 4, .inl gw36)), (yv34, .inl (cI, 4, .inl gv37)), (yh35, .inl (cR, 4, .inr (.inr (.inr (.inr gh38))))), (q11, .inr (9, [.int 0, .ref am15, .int 0, .int 0, .int 0])), (am15, .inr (4, [.int mm46, .ref em45, .int 1])), (em45, .inl (cO, 10, .inr (.inr (.inr (.inr (va_up (fun _ => none) 0 (some a47))))))), (a47, .inr (8, [.int 4, .ref wa48, .ref na49])), (wa48, .inl (cI, 4, .inl fw50)), (na49, .inl (cI, 4, .inl fn51))] := hD
  refine W.widen (k := 26) (n := 128) (by omega) (by omega) ?_
  refine lv_istore (lv' := [(6, .int 0), (5, .int 0), (4, .int 0), (3, .ref q16), (2, .ref q11), (1, .ref q1), (0, .ref b)]) hx hb dL_law_219 hl (by decide) rfl (fun ls hl => ?_)
  refine lv_aload_n hx hb dL_law_221 rfl (lv_at hl 4 rfl) ?_
  have hPc := hP.sub (ws' := [(q11, .inr (9, [.int 0, .ref am15, .int 0, .int 0, .int 0]))]) [10] rfl
  have hDc := hD.sub (ws' := [(q11, .inr (9, [.int 0, .ref am15, .int 0, .int 0, .int 0]))]) [10] (by decide) rfl
  have hFc := va_free (wc := [(q11, .inr (9, [.int 0, .ref am15, .int 0, .int 0, .int 0]))]) hD hS hA [10] rfl
  have hDv := hDc.self (sz := H43.size)
  have hpre := zpre (xs' := []) (av := [.ref q11]) hPc hK (hDc.weaken (fun _ _ _ h => h)) hZ hS hFc (fun r hr => by cases hr)
  refine va_calli (va_runV (As := []) (rest := []) ⟨hx, hb, hml, hown, hts⟩ (k_thM l dC dI cI cB cR cO zk q11 (.int 0) (.int 0) (.int 0) am15 H43.size ) (cwV 0 hts gL_law_X4_thrown rfl rfl rfl (by decide +kernel) ⟨Nat.le_of_ble_eq_true rfl, Nat.le_of_ble_eq_true rfl⟩) ⟨zblind, (zrecv_9 hK hPc (q0 := 0) rfl), hpre⟩ rfl rfl hl.1 rfl (lv_room (Nat.le_of_ble_eq_true rfl)) dL_law_222 ⟨Nat.le_of_ble_eq_true rfl, Nat.le_of_ble_eq_true rfl⟩) hS (fun q _ h => hFc q h) hFc (fun r53 u t H52 locs ht hvm hw hB hz1 hk1 hS => ?_)
  obtain rfl : 0 = r53 := (show r53 = 0 from hw).symm
  obtain ⟨hP1, hK1, hD1, hz2⟩ := hB
  rw [ht] at hP1 hz2
  have hPD9 := va_join (wr := [(b8, .inr (1, [.ref v10, .int 0, .int 0, .int 0])), (v10, .inl (cB, 16, .inl (fun _ => 0))), (q16, .inr (7, [.long ((0 : Int32).toInt64), .null])), (q1, .inr (6, [.ref al5, .int 0, .int 0, .int 0, .ref sa6, .ref sb7, .ref b8, .ref sc9])), (al5, .inr (4, [.int mc31, .ref ed30, .int 1])), (ed30, .inl (cO, 10, .inr (.inr (.inr (.inr (va_up (fun _ => none) 0 (some y32))))))), (y32, .inr (5, [.int 4, .int 4, .ref yw33, .ref yv34, .ref yh35, .int 0])), (yw33, .inl (cI, 4, .inl gw36)), (yv34, .inl (cI, 4, .inl gv37)), (yh35, .inl (cR, 4, .inr (.inr (.inr (.inr gh38))))), (am15, .inr (4, [.int mm46, .ref em45, .int 1])), (em45, .inl (cO, 10, .inr (.inr (.inr (.inr (va_up (fun _ => none) 0 (some a47))))))), (a47, .inr (8, [.int 4, .ref wa48, .ref na49])), (wa48, .inl (cI, 4, .inl fw50)), (na49, .inl (cI, 4, .inl fn51))]) (w1 := [(q11, .inr (9, [.int 0, .ref am15, .int 0, .int 0, .int 0]))]) hP hD [10] [0, 1, 2, 3, 4, 5, 6, 7, 8, 9, 11, 12, 13, 14, 15] rfl rfl (by decide) (by decide) hk1 hFc hP1 hD1
  clear hPc hDc hFc hDv hpre hP hD hP1 hK1 hD1
  obtain ⟨hP, hD⟩ := hPD9
  replace hz : s.heap.size + 26 ≤ H52.size := by omega
  clear hz2
  replace hP : va_P (dC, dI) vwCl [(b8, .inr (1, [.ref v10, .int 0, .int 0, .int 0])), (v10, .inl (cB, 16, .inl (fun _ => 0))), (q16, .inr (7, [.long ((0 : Int32).toInt64), .null])), (q1, .inr (6, [.ref al5, .int 0, .int 0, .int 0, .ref sa6, .ref sb7, .ref b8, .ref sc9])), (al5, .inr (4, [.int mc31, .ref ed30, .int 1])), (ed30, .inl (cO, 10, .inr (.inr (.inr (.inr (va_up (fun _ => none) 0 (some y32))))))), (y32, .inr (5, [.int 4, .int 4, .ref yw33, .ref yv34, .ref yh35, .int 0])), (yw33, .inl (cI, 4, .inl gw36)), (yv34, .inl (cI, 4, .inl gv37)), (yh35, .inl (cR, 4, .inr (.inr (.inr (.inr gh38))))), (am15, .inr (4, [.int mm46, .ref em45, .int 1])), (em45, .inl (cO, 10, .inr (.inr (.inr (.inr (va_up (fun _ => none) 0 (some a47))))))), (a47, .inr (8, [.int 4, .ref wa48, .ref na49])), (wa48, .inl (cI, 4, .inl fw50)), (na49, .inl (cI, 4, .inl fn51)), (q11, .inr (9, [.int 0, .ref am15, .int 0, .int 0, .int 0]))] H52 := hP
  replace hD : va_D A [(b8, .inr (1, [.ref v10, .int 0, .int 0, .int 0])), (v10, .inl (cB, 16, .inl (fun _ => 0))), (q16, .inr (7, [.long ((0 : Int32).toInt64), .null])), (q1, .inr (6, [.ref al5, .int 0, .int 0, .int 0, .ref sa6, .ref sb7, .ref b8, .ref sc9])), (al5, .inr (4, [.int mc31, .ref ed30, .int 1])), (ed30, .inl (cO, 10, .inr (.inr (.inr (.inr (va_up (fun _ => none) 0 (some y32))))))), (y32, .inr (5, [.int 4, .int 4, .ref yw33, .ref yv34, .ref yh35, .int 0])), (yw33, .inl (cI, 4, .inl gw36)), (yv34, .inl (cI, 4, .inl gv37)), (yh35, .inl (cR, 4, .inr (.inr (.inr (.inr gh38))))), (am15, .inr (4, [.int mm46, .ref em45, .int 1])), (em45, .inl (cO, 10, .inr (.inr (.inr (.inr (va_up (fun _ => none) 0 (some a47))))))), (a47, .inr (8, [.int 4, .ref wa48, .ref na49])), (wa48, .inl (cI, 4, .inl fw50)), (na49, .inl (cI, 4, .inl fn51)), (q11, .inr (9, [.int 0, .ref am15, .int 0, .int 0, .int 0]))] := hD
  refine W.widen (k := 26) (n := 128) (by omega) (by omega) ?_
  refine lv_iload hx hb dL_law_225 (lv_at hl 1 rfl) ?_
  refine lv_icmp_eq (tgt := 232) hx hb dL_law_227 (by decide) (fun c9 => ?_) (fun c9 => ?_)
  rotate_left
  · exact absurd (by decide) c9
  refine lv_iload hx hb dL_law_232 (lv_at hl 1 rfl) ?_
  refine lv_if_ne (tgt := 250) hx hb dL_law_234 (by decide) (fun c9 => ?_) (fun c9 => ?_)
  · exact absurd (by decide) c9
  refine lv_aload_n hx hb dL_law_237 rfl (lv_at hl 3 rfl) ?_
  refine va_getN (D := (dC, dI)) (ci := 7) (v := .long ((0 : Int32).toInt64)) (C := RX2) (T := TX2) (N := 2) hx hb hts inlX2 hown hK hP 2 rfl rfl 0 (by decide) (zn6 hZ) (fun _ h9 => h9) rfl dL_law_238 ?_
  refine lv_iload hx hb dL_law_241 (lv_at hl 0 rfl) ?_
  refine lv_i2l (v := (0 : Int32).toInt64) hx hb dL_law_243 rfl ?_
  refine W.lcmp hx hb dL_law_244 ?_
  refine lv_topi (fun v54 ev54 => ?_)
  obtain rfl : v54 = 0 := ev54.trans (by decide)
  refine lv_if_eq (tgt := 250) hx hb dL_law_245 (by decide) (fun c9 => ?_) (fun c9 => ?_)
  rotate_left
  · exact absurd (by decide) c9
  refine lv_goto (tgt := 2155) hx hb dL_law_250 (by decide) ?_
  refine lv_iinc (v := 5) (lv' := [(4, .int 5), (6, .int 0), (5, .int 0), (3, .ref q16), (2, .ref q11), (1, .ref q1), (0, .ref b)]) hx hb dL_law_2155 hl (k := 2) rfl (by decide) (by decide) rfl (fun ls hl => ?_)
  refine lv_goto (tgt := 27) hx hb dL_law_2158 (by decide) ?_
  refine lv_iload hx hb dL_law_27 (lv_at hl 0 rfl) ?_
  refine lv_aload_n hx hb dL_law_29 rfl (lv_at hl 6 rfl) ?_
  refine va_slen hx hb hX hbl hbA hS dL_law_30 ?_
  refine W.eq (g2 := F0 mY 31 ls [.int 1835, .int 5]) rfl ?_
  refine lv_iconst (v := 5) hx hb dL_law_31 (by decide) ?_
  refine lv_isub hx hb dL_law_32 ?_
  refine lv_topi (fun v55 ev55 => ?_)
  obtain rfl : v55 = 1830 := ev55.trans (by decide)
  refine lv_icmp_gt (tgt := 2161) hx hb dL_law_33 (by decide) (fun c9 => ?_) (fun c9 => ?_)
  · exact absurd c9 (by decide)
  refine lv_aload_n hx hb dL_law_36 rfl (lv_at hl 6 rfl) ?_
  refine lv_iload hx hb dL_law_37 (lv_at hl 0 rfl) ?_
  refine va_sld hx hb hX hbl hbA hS (by unfold vp_in; decide) dL_law_39 ?_
  refine lv_topi (fun v56 ev56 => ?_)
  obtain rfl : v56 = 0 := ev56.trans (by decide)
  refine lv_bipush (v := 31) hx hb dL_law_40 (by decide) ?_
  refine lv_iand hx hb dL_law_42 ?_
  refine lv_topi (fun v57 ev57 => ?_)
  obtain rfl : v57 = 0 := ev57.trans (by decide)
  refine lv_tableIn (off := 141) (tgt := 184) hx hb dL_law_43 (by decide) (by decide) (by decide) (by decide) ?_
  refine lv_aload_n hx hb dL_law_184 rfl (lv_at hl 5 rfl) ?_
  refine lv_aload_n hx hb dL_law_185 rfl (lv_at hl 6 rfl) ?_
  refine lv_iload hx hb dL_law_186 (lv_at hl 0 rfl) ?_
  refine lv_iconst (v := 1) hx hb dL_law_188 (by decide) ?_
  refine lv_iadd hx hb dL_law_189 ?_
  refine lv_topi (fun v58 ev58 => ?_)
  obtain rfl : v58 = 6 := ev58.trans (by decide)
  refine va_sld hx hb hX hbl hbA hS (by unfold vp_in; decide) dL_law_190 ?_
  refine lv_topi (fun v59 ev59 => ?_)
  obtain rfl : v59 = 4 := ev59.trans (by decide)
  refine lv_aload_n hx hb dL_law_191 rfl (lv_at hl 6 rfl) ?_
  refine lv_iload hx hb dL_law_192 (lv_at hl 0 rfl) ?_
  refine lv_iconst (v := 2) hx hb dL_law_194 (by decide) ?_
  refine lv_iadd hx hb dL_law_195 ?_
  refine lv_topi (fun v60 ev60 => ?_)
  obtain rfl : v60 = 7 := ev60.trans (by decide)
  refine va_sld hx hb hX hbl hbA hS (by unfold vp_in; decide) dL_law_196 ?_
  refine lv_topi (fun v61 ev61 => ?_)
  obtain rfl : v61 = 4 := ev61.trans (by decide)
  refine lv_aload_n hx hb dL_law_197 rfl (lv_at hl 3 rfl) ?_
  have hPc := hP.sub (ws' := [(q16, .inr (7, [.long ((0 : Int32).toInt64), .null])), (q1, .inr (6, [.ref al5, .int 0, .int 0, .int 0, .ref sa6, .ref sb7, .ref b8, .ref sc9])), (al5, .inr (4, [.int mc31, .ref ed30, .int 1])), (ed30, .inl (cO, 10, .inr (.inr (.inr (.inr (va_up (fun _ => none) 0 (some y32)))))))]) [2, 3, 4, 5] rfl
  have hDc := hD.sub (ws' := [(q16, .inr (7, [.long ((0 : Int32).toInt64), .null])), (q1, .inr (6, [.ref al5, .int 0, .int 0, .int 0, .ref sa6, .ref sb7, .ref b8, .ref sc9])), (al5, .inr (4, [.int mc31, .ref ed30, .int 1])), (ed30, .inl (cO, 10, .inr (.inr (.inr (.inr (va_up (fun _ => none) 0 (some y32)))))))]) [2, 3, 4, 5] (by decide) rfl
  have hFc := va_free (wc := [(q16, .inr (7, [.long ((0 : Int32).toInt64), .null])), (q1, .inr (6, [.ref al5, .int 0, .int 0, .int 0, .ref sa6, .ref sb7, .ref b8, .ref sc9])), (al5, .inr (4, [.int mc31, .ref ed30, .int 1])), (ed30, .inl (cO, 10, .inr (.inr (.inr (.inr (va_up (fun _ => none) 0 (some y32)))))))]) hD hS hA [2, 3, 4, 5] rfl
  have hDv := hDc.self (sz := H52.size)
  have hpre := zpre (xs' := []) (av := [.ref q1, .int 4, .int 4, .ref q16]) hPc hK (hDc.weaken (fun _ _ _ h => h)) hZ hS hFc (fun r hr => by cases hr)
  refine va_calli (vx_runSW (As := [.ref q1, .int 4, .int 4, .ref q16]) (rest := []) ⟨hx, hb, hml, hown, hts⟩ (k_LmX1 l dC dI cI cB cR cO zk q1 al5 b8 (.int 0) (.int 0) (.int 0) (.ref sa6) (.ref sb7) (.ref sc9) ed30 (va_up (fun _ => none) 0 (some y32)) mc31 q16 (.long ((0 : Int32).toInt64)) .null H52.size ) (vx_cwSW 4 hts gL_law_L_make rfl rfl rfl (by decide +kernel) ⟨Nat.le_of_ble_eq_true rfl, Nat.le_of_ble_eq_true rfl⟩) ⟨zblind, hpre⟩ rfl rfl hl.1 rfl (lv_room (Nat.le_of_ble_eq_true rfl)) dL_law_198 ⟨Nat.le_of_ble_eq_true rfl, Nat.le_of_ble_eq_true rfl⟩) hS (fun q _ h => hFc q h) hFc (fun r63 u t H62 locs ht hvm hw hB hz1 hk1 hS => ?_)
  obtain rfl : 0 = r63 := (show r63 = 0 from hw).symm
  obtain ⟨on64, mc65, y66, yw67, yv68, yh69, gw70, gv71, gh72, ⟨hP1, hK1, hD1, hz2⟩, hwgw70, hhgh72, rfl⟩ := hB
  rw [ht] at hP1 hz2
  have hPD9 := va_join (wr := [(b8, .inr (1, [.ref v10, .int 0, .int 0, .int 0])), (v10, .inl (cB, 16, .inl (fun _ => 0))), (y32, .inr (5, [.int 4, .int 4, .ref yw33, .ref yv34, .ref yh35, .int 0])), (yw33, .inl (cI, 4, .inl gw36)), (yv34, .inl (cI, 4, .inl gv37)), (yh35, .inl (cR, 4, .inr (.inr (.inr (.inr gh38))))), (am15, .inr (4, [.int mm46, .ref em45, .int 1])), (em45, .inl (cO, 10, .inr (.inr (.inr (.inr (va_up (fun _ => none) 0 (some a47))))))), (a47, .inr (8, [.int 4, .ref wa48, .ref na49])), (wa48, .inl (cI, 4, .inl fw50)), (na49, .inl (cI, 4, .inl fn51)), (q11, .inr (9, [.int 0, .ref am15, .int 0, .int 0, .int 0]))]) (w1 := [(q16, .inr (7, [.long ((1 : Int32).toInt64), .null])), (q1, .inr (6, [.ref al5, .int 0, .int 0, .int 0, .ref sa6, .ref sb7, .ref b8, .ref sc9])), (al5, .inr (4, [.int mc65, .ref ed30, .int 2])), (ed30, .inl (cO, 10, .inr (.inr (.inr (.inr (va_up (va_up (fun _ => none) 0 (some y32)) 1 (some y66))))))), (y66, .inr (5, [.int 4, .int 4, .ref yw67, .ref yv68, .ref yh69, .int 1])), (yw67, .inl (cI, 4, .inl gw70)), (yv68, .inl (cI, 4, .inl gv71)), (yh69, .inl (cR, 4, .inr (.inr (.inr (.inr gh72)))))]) hP hD [2, 3, 4, 5] [0, 1, 6, 7, 8, 9, 10, 11, 12, 13, 14, 15] rfl rfl (by decide) (by decide) hk1 hFc hP1 hD1
  clear hPc hDc hFc hDv hpre hP hD hP1 hK1 hD1
  obtain ⟨hP, hD⟩ := hPD9
  replace hz : s.heap.size + 30 ≤ H62.size := by omega
  clear hz2
  replace hP : va_P (dC, dI) vwCl [(b8, .inr (1, [.ref v10, .int 0, .int 0, .int 0])), (v10, .inl (cB, 16, .inl (fun _ => 0))), (y32, .inr (5, [.int 4, .int 4, .ref yw33, .ref yv34, .ref yh35, .int 0])), (yw33, .inl (cI, 4, .inl gw36)), (yv34, .inl (cI, 4, .inl gv37)), (yh35, .inl (cR, 4, .inr (.inr (.inr (.inr gh38))))), (am15, .inr (4, [.int mm46, .ref em45, .int 1])), (em45, .inl (cO, 10, .inr (.inr (.inr (.inr (va_up (fun _ => none) 0 (some a47))))))), (a47, .inr (8, [.int 4, .ref wa48, .ref na49])), (wa48, .inl (cI, 4, .inl fw50)), (na49, .inl (cI, 4, .inl fn51)), (q11, .inr (9, [.int 0, .ref am15, .int 0, .int 0, .int 0])), (q16, .inr (7, [.long ((1 : Int32).toInt64), .null])), (q1, .inr (6, [.ref al5, .int 0, .int 0, .int 0, .ref sa6, .ref sb7, .ref b8, .ref sc9])), (al5, .inr (4, [.int mc65, .ref ed30, .int 2])), (ed30, .inl (cO, 10, .inr (.inr (.inr (.inr (va_up (va_up (fun _ => none) 0 (some y32)) 1 (some y66))))))), (y66, .inr (5, [.int 4, .int 4, .ref yw67, .ref yv68, .ref yh69, .int 1])), (yw67, .inl (cI, 4, .inl gw70)), (yv68, .inl (cI, 4, .inl gv71)), (yh69, .inl (cR, 4, .inr (.inr (.inr (.inr gh72)))))] H62 := hP
  replace hD : va_D A [(b8, .inr (1, [.ref v10, .int 0, .int 0, .int 0])), (v10, .inl (cB, 16, .inl (fun _ => 0))), (y32, .inr (5, [.int 4, .int 4, .ref yw33, .ref yv34, .ref yh35, .int 0])), (yw33, .inl (cI, 4, .inl gw36)), (yv34, .inl (cI, 4, .inl gv37)), (yh35, .inl (cR, 4, .inr (.inr (.inr (.inr gh38))))), (am15, .inr (4, [.int mm46, .ref em45, .int 1])), (em45, .inl (cO, 10, .inr (.inr (.inr (.inr (va_up (fun _ => none) 0 (some a47))))))), (a47, .inr (8, [.int 4, .ref wa48, .ref na49])), (wa48, .inl (cI, 4, .inl fw50)), (na49, .inl (cI, 4, .inl fn51)), (q11, .inr (9, [.int 0, .ref am15, .int 0, .int 0, .int 0])), (q16, .inr (7, [.long ((1 : Int32).toInt64), .null])), (q1, .inr (6, [.ref al5, .int 0, .int 0, .int 0, .ref sa6, .ref sb7, .ref b8, .ref sc9])), (al5, .inr (4, [.int mc65, .ref ed30, .int 2])), (ed30, .inl (cO, 10, .inr (.inr (.inr (.inr (va_up (va_up (fun _ => none) 0 (some y32)) 1 (some y66))))))), (y66, .inr (5, [.int 4, .int 4, .ref yw67, .ref yv68, .ref yh69, .int 1])), (yw67, .inl (cI, 4, .inl gw70)), (yv68, .inl (cI, 4, .inl gv71)), (yh69, .inl (cR, 4, .inr (.inr (.inr (.inr gh72)))))] := hD
  refine W.widen (k := 30) (n := 146) (by omega) (by omega) ?_
  refine lv_istore (lv' := [(5, .int 0), (4, .int 5), (6, .int 0), (3, .ref q16), (2, .ref q11), (1, .ref q1), (0, .ref b)]) hx hb dL_law_201 hl (by decide) rfl (fun ls hl => ?_)
  refine lv_aload_n hx hb dL_law_203 rfl (lv_at hl 4 rfl) ?_
  refine lv_aload_n hx hb dL_law_204 rfl (lv_at hl 6 rfl) ?_
  refine lv_iload hx hb dL_law_205 (lv_at hl 1 rfl) ?_
  refine lv_iconst (v := 1) hx hb dL_law_207 (by decide) ?_
  refine lv_iadd hx hb dL_law_208 ?_
  refine lv_topi (fun v73 ev73 => ?_)
  obtain rfl : v73 = 6 := ev73.trans (by decide)
  refine va_sld hx hb hX hbl hbA hS (by unfold vp_in; decide) dL_law_209 ?_
  refine lv_topi (fun v74 ev74 => ?_)
  obtain rfl : v74 = 4 := ev74.trans (by decide)
  refine lv_aload_n hx hb dL_law_210 rfl (lv_at hl 6 rfl) ?_
  refine lv_iload hx hb dL_law_211 (lv_at hl 1 rfl) ?_
  refine lv_iconst (v := 2) hx hb dL_law_213 (by decide) ?_
  refine lv_iadd hx hb dL_law_214 ?_
  refine lv_topi (fun v75 ev75 => ?_)
  obtain rfl : v75 = 7 := ev75.trans (by decide)
  refine va_sld hx hb hX hbl hbA hS (by unfold vp_in; decide) dL_law_215 ?_
  refine lv_topi (fun v76 ev76 => ?_)
  obtain rfl : v76 = 4 := ev76.trans (by decide)
  have hPc := hP.sub (ws' := [(q11, .inr (9, [.int 0, .ref am15, .int 0, .int 0, .int 0])), (am15, .inr (4, [.int mm46, .ref em45, .int 1])), (em45, .inl (cO, 10, .inr (.inr (.inr (.inr (va_up (fun _ => none) 0 (some a47)))))))]) [11, 6, 7] rfl
  have hDc := hD.sub (ws' := [(q11, .inr (9, [.int 0, .ref am15, .int 0, .int 0, .int 0])), (am15, .inr (4, [.int mm46, .ref em45, .int 1])), (em45, .inl (cO, 10, .inr (.inr (.inr (.inr (va_up (fun _ => none) 0 (some a47)))))))]) [11, 6, 7] (by decide) rfl
  have hFc := va_free (wc := [(q11, .inr (9, [.int 0, .ref am15, .int 0, .int 0, .int 0])), (am15, .inr (4, [.int mm46, .ref em45, .int 1])), (em45, .inl (cO, 10, .inr (.inr (.inr (.inr (va_up (fun _ => none) 0 (some a47)))))))]) hD hS hA [11, 6, 7] rfl
  have hDv := hDc.self (sz := H62.size)
  have hpre := zpre (xs' := []) (av := [.ref q11, .int 4, .int 4]) hPc hK (hDc.weaken (fun _ _ _ h => h)) hZ hS hFc (fun r hr => by cases hr)
  refine va_calli (va_runV (As := [.int 4, .int 4]) (rest := []) ⟨hx, hb, hml, hown, hts⟩ (k_mkM1 l dC dI cI cB cR cO zk q11 am15 (.int 0) (.int 0) (.int 0) (.int 0) em45 (va_up (fun _ => none) 0 (some a47)) mm46 H62.size ) (cwV 2 hts gL_law_X4_make rfl rfl rfl (by decide +kernel) ⟨Nat.le_of_ble_eq_true rfl, Nat.le_of_ble_eq_true rfl⟩) ⟨zblind, (zrecv_9 hK hPc (q0 := 0) rfl), hpre⟩ rfl rfl hl.1 rfl (lv_room (Nat.le_of_ble_eq_true rfl)) dL_law_216 ⟨Nat.le_of_ble_eq_true rfl, Nat.le_of_ble_eq_true rfl⟩) hS (fun q _ h => hFc q h) hFc (fun r78 u t H77 locs ht hvm hw hB hz1 hk1 hS => ?_)
  obtain rfl : 1 = r78 := (show r78 = 1 from hw).symm
  obtain ⟨mm79, a80, wa81, na82, fw83, fn84, ⟨hP1, hK1, hD1, hz2⟩, hwfw83, hnfn84⟩ := hB
  rw [ht] at hP1 hz2
  have hPD9 := va_join (wr := [(b8, .inr (1, [.ref v10, .int 0, .int 0, .int 0])), (v10, .inl (cB, 16, .inl (fun _ => 0))), (y32, .inr (5, [.int 4, .int 4, .ref yw33, .ref yv34, .ref yh35, .int 0])), (yw33, .inl (cI, 4, .inl gw36)), (yv34, .inl (cI, 4, .inl gv37)), (yh35, .inl (cR, 4, .inr (.inr (.inr (.inr gh38))))), (a47, .inr (8, [.int 4, .ref wa48, .ref na49])), (wa48, .inl (cI, 4, .inl fw50)), (na49, .inl (cI, 4, .inl fn51)), (q16, .inr (7, [.long ((1 : Int32).toInt64), .null])), (q1, .inr (6, [.ref al5, .int 0, .int 0, .int 0, .ref sa6, .ref sb7, .ref b8, .ref sc9])), (al5, .inr (4, [.int mc65, .ref ed30, .int 2])), (ed30, .inl (cO, 10, .inr (.inr (.inr (.inr (va_up (va_up (fun _ => none) 0 (some y32)) 1 (some y66))))))), (y66, .inr (5, [.int 4, .int 4, .ref yw67, .ref yv68, .ref yh69, .int 1])), (yw67, .inl (cI, 4, .inl gw70)), (yv68, .inl (cI, 4, .inl gv71)), (yh69, .inl (cR, 4, .inr (.inr (.inr (.inr gh72)))))]) (w1 := [(q11, .inr (9, [.int 0, .ref am15, .int 0, .int 0, .int 0])), (am15, .inr (4, [.int mm79, .ref em45, .int 2])), (em45, .inl (cO, 10, .inr (.inr (.inr (.inr (va_up (va_up (fun _ => none) 0 (some a47)) 1 (some a80))))))), (a80, .inr (8, [.int 4, .ref wa81, .ref na82])), (wa81, .inl (cI, 4, .inl fw83)), (na82, .inl (cI, 4, .inl fn84))]) hP hD [11, 6, 7] [0, 1, 2, 3, 4, 5, 8, 9, 10, 12, 13, 14, 15, 16, 17, 18, 19] rfl rfl (by decide) (by decide) hk1 hFc hP1 hD1
  clear hPc hDc hFc hDv hpre hP hD hP1 hK1 hD1
  obtain ⟨hP, hD⟩ := hPD9
  replace hz : s.heap.size + 33 ≤ H77.size := by omega
  clear hz2
  replace hP : va_P (dC, dI) vwCl [(b8, .inr (1, [.ref v10, .int 0, .int 0, .int 0])), (v10, .inl (cB, 16, .inl (fun _ => 0))), (y32, .inr (5, [.int 4, .int 4, .ref yw33, .ref yv34, .ref yh35, .int 0])), (yw33, .inl (cI, 4, .inl gw36)), (yv34, .inl (cI, 4, .inl gv37)), (yh35, .inl (cR, 4, .inr (.inr (.inr (.inr gh38))))), (a47, .inr (8, [.int 4, .ref wa48, .ref na49])), (wa48, .inl (cI, 4, .inl fw50)), (na49, .inl (cI, 4, .inl fn51)), (q16, .inr (7, [.long ((1 : Int32).toInt64), .null])), (q1, .inr (6, [.ref al5, .int 0, .int 0, .int 0, .ref sa6, .ref sb7, .ref b8, .ref sc9])), (al5, .inr (4, [.int mc65, .ref ed30, .int 2])), (ed30, .inl (cO, 10, .inr (.inr (.inr (.inr (va_up (va_up (fun _ => none) 0 (some y32)) 1 (some y66))))))), (y66, .inr (5, [.int 4, .int 4, .ref yw67, .ref yv68, .ref yh69, .int 1])), (yw67, .inl (cI, 4, .inl gw70)), (yv68, .inl (cI, 4, .inl gv71)), (yh69, .inl (cR, 4, .inr (.inr (.inr (.inr gh72))))), (q11, .inr (9, [.int 0, .ref am15, .int 0, .int 0, .int 0])), (am15, .inr (4, [.int mm79, .ref em45, .int 2])), (em45, .inl (cO, 10, .inr (.inr (.inr (.inr (va_up (va_up (fun _ => none) 0 (some a47)) 1 (some a80))))))), (a80, .inr (8, [.int 4, .ref wa81, .ref na82])), (wa81, .inl (cI, 4, .inl fw83)), (na82, .inl (cI, 4, .inl fn84))] H77 := hP
  replace hD : va_D A [(b8, .inr (1, [.ref v10, .int 0, .int 0, .int 0])), (v10, .inl (cB, 16, .inl (fun _ => 0))), (y32, .inr (5, [.int 4, .int 4, .ref yw33, .ref yv34, .ref yh35, .int 0])), (yw33, .inl (cI, 4, .inl gw36)), (yv34, .inl (cI, 4, .inl gv37)), (yh35, .inl (cR, 4, .inr (.inr (.inr (.inr gh38))))), (a47, .inr (8, [.int 4, .ref wa48, .ref na49])), (wa48, .inl (cI, 4, .inl fw50)), (na49, .inl (cI, 4, .inl fn51)), (q16, .inr (7, [.long ((1 : Int32).toInt64), .null])), (q1, .inr (6, [.ref al5, .int 0, .int 0, .int 0, .ref sa6, .ref sb7, .ref b8, .ref sc9])), (al5, .inr (4, [.int mc65, .ref ed30, .int 2])), (ed30, .inl (cO, 10, .inr (.inr (.inr (.inr (va_up (va_up (fun _ => none) 0 (some y32)) 1 (some y66))))))), (y66, .inr (5, [.int 4, .int 4, .ref yw67, .ref yv68, .ref yh69, .int 1])), (yw67, .inl (cI, 4, .inl gw70)), (yv68, .inl (cI, 4, .inl gv71)), (yh69, .inl (cR, 4, .inr (.inr (.inr (.inr gh72))))), (q11, .inr (9, [.int 0, .ref am15, .int 0, .int 0, .int 0])), (am15, .inr (4, [.int mm79, .ref em45, .int 2])), (em45, .inl (cO, 10, .inr (.inr (.inr (.inr (va_up (va_up (fun _ => none) 0 (some a47)) 1 (some a80))))))), (a80, .inr (8, [.int 4, .ref wa81, .ref na82])), (wa81, .inl (cI, 4, .inl fw83)), (na82, .inl (cI, 4, .inl fn84))] := hD
  refine W.widen (k := 33) (n := 157) (by omega) (by omega) ?_
  refine lv_istore (lv' := [(6, .int 1), (5, .int 0), (4, .int 5), (3, .ref q16), (2, .ref q11), (1, .ref q1), (0, .ref b)]) hx hb dL_law_219 hl (by decide) rfl (fun ls hl => ?_)
  refine lv_aload_n hx hb dL_law_221 rfl (lv_at hl 4 rfl) ?_
  have hPc := hP.sub (ws' := [(q11, .inr (9, [.int 0, .ref am15, .int 0, .int 0, .int 0]))]) [17] rfl
  have hDc := hD.sub (ws' := [(q11, .inr (9, [.int 0, .ref am15, .int 0, .int 0, .int 0]))]) [17] (by decide) rfl
  have hFc := va_free (wc := [(q11, .inr (9, [.int 0, .ref am15, .int 0, .int 0, .int 0]))]) hD hS hA [17] rfl
  have hDv := hDc.self (sz := H77.size)
  have hpre := zpre (xs' := []) (av := [.ref q11]) hPc hK (hDc.weaken (fun _ _ _ h => h)) hZ hS hFc (fun r hr => by cases hr)
  refine va_calli (va_runV (As := []) (rest := []) ⟨hx, hb, hml, hown, hts⟩ (k_thM l dC dI cI cB cR cO zk q11 (.int 0) (.int 0) (.int 0) am15 H77.size ) (cwV 0 hts gL_law_X4_thrown rfl rfl rfl (by decide +kernel) ⟨Nat.le_of_ble_eq_true rfl, Nat.le_of_ble_eq_true rfl⟩) ⟨zblind, (zrecv_9 hK hPc (q0 := 0) rfl), hpre⟩ rfl rfl hl.1 rfl (lv_room (Nat.le_of_ble_eq_true rfl)) dL_law_222 ⟨Nat.le_of_ble_eq_true rfl, Nat.le_of_ble_eq_true rfl⟩) hS (fun q _ h => hFc q h) hFc (fun r86 u t H85 locs ht hvm hw hB hz1 hk1 hS => ?_)
  obtain rfl : 0 = r86 := (show r86 = 0 from hw).symm
  obtain ⟨hP1, hK1, hD1, hz2⟩ := hB
  rw [ht] at hP1 hz2
  have hPD9 := va_join (wr := [(b8, .inr (1, [.ref v10, .int 0, .int 0, .int 0])), (v10, .inl (cB, 16, .inl (fun _ => 0))), (y32, .inr (5, [.int 4, .int 4, .ref yw33, .ref yv34, .ref yh35, .int 0])), (yw33, .inl (cI, 4, .inl gw36)), (yv34, .inl (cI, 4, .inl gv37)), (yh35, .inl (cR, 4, .inr (.inr (.inr (.inr gh38))))), (a47, .inr (8, [.int 4, .ref wa48, .ref na49])), (wa48, .inl (cI, 4, .inl fw50)), (na49, .inl (cI, 4, .inl fn51)), (q16, .inr (7, [.long ((1 : Int32).toInt64), .null])), (q1, .inr (6, [.ref al5, .int 0, .int 0, .int 0, .ref sa6, .ref sb7, .ref b8, .ref sc9])), (al5, .inr (4, [.int mc65, .ref ed30, .int 2])), (ed30, .inl (cO, 10, .inr (.inr (.inr (.inr (va_up (va_up (fun _ => none) 0 (some y32)) 1 (some y66))))))), (y66, .inr (5, [.int 4, .int 4, .ref yw67, .ref yv68, .ref yh69, .int 1])), (yw67, .inl (cI, 4, .inl gw70)), (yv68, .inl (cI, 4, .inl gv71)), (yh69, .inl (cR, 4, .inr (.inr (.inr (.inr gh72))))), (am15, .inr (4, [.int mm79, .ref em45, .int 2])), (em45, .inl (cO, 10, .inr (.inr (.inr (.inr (va_up (va_up (fun _ => none) 0 (some a47)) 1 (some a80))))))), (a80, .inr (8, [.int 4, .ref wa81, .ref na82])), (wa81, .inl (cI, 4, .inl fw83)), (na82, .inl (cI, 4, .inl fn84))]) (w1 := [(q11, .inr (9, [.int 0, .ref am15, .int 0, .int 0, .int 0]))]) hP hD [17] [0, 1, 2, 3, 4, 5, 6, 7, 8, 9, 10, 11, 12, 13, 14, 15, 16, 18, 19, 20, 21, 22] rfl rfl (by decide) (by decide) hk1 hFc hP1 hD1
  clear hPc hDc hFc hDv hpre hP hD hP1 hK1 hD1
  obtain ⟨hP, hD⟩ := hPD9
  replace hz : s.heap.size + 33 ≤ H85.size := by omega
  clear hz2
  replace hP : va_P (dC, dI) vwCl [(b8, .inr (1, [.ref v10, .int 0, .int 0, .int 0])), (v10, .inl (cB, 16, .inl (fun _ => 0))), (y32, .inr (5, [.int 4, .int 4, .ref yw33, .ref yv34, .ref yh35, .int 0])), (yw33, .inl (cI, 4, .inl gw36)), (yv34, .inl (cI, 4, .inl gv37)), (yh35, .inl (cR, 4, .inr (.inr (.inr (.inr gh38))))), (a47, .inr (8, [.int 4, .ref wa48, .ref na49])), (wa48, .inl (cI, 4, .inl fw50)), (na49, .inl (cI, 4, .inl fn51)), (q16, .inr (7, [.long ((1 : Int32).toInt64), .null])), (q1, .inr (6, [.ref al5, .int 0, .int 0, .int 0, .ref sa6, .ref sb7, .ref b8, .ref sc9])), (al5, .inr (4, [.int mc65, .ref ed30, .int 2])), (ed30, .inl (cO, 10, .inr (.inr (.inr (.inr (va_up (va_up (fun _ => none) 0 (some y32)) 1 (some y66))))))), (y66, .inr (5, [.int 4, .int 4, .ref yw67, .ref yv68, .ref yh69, .int 1])), (yw67, .inl (cI, 4, .inl gw70)), (yv68, .inl (cI, 4, .inl gv71)), (yh69, .inl (cR, 4, .inr (.inr (.inr (.inr gh72))))), (am15, .inr (4, [.int mm79, .ref em45, .int 2])), (em45, .inl (cO, 10, .inr (.inr (.inr (.inr (va_up (va_up (fun _ => none) 0 (some a47)) 1 (some a80))))))), (a80, .inr (8, [.int 4, .ref wa81, .ref na82])), (wa81, .inl (cI, 4, .inl fw83)), (na82, .inl (cI, 4, .inl fn84)), (q11, .inr (9, [.int 0, .ref am15, .int 0, .int 0, .int 0]))] H85 := hP
  replace hD : va_D A [(b8, .inr (1, [.ref v10, .int 0, .int 0, .int 0])), (v10, .inl (cB, 16, .inl (fun _ => 0))), (y32, .inr (5, [.int 4, .int 4, .ref yw33, .ref yv34, .ref yh35, .int 0])), (yw33, .inl (cI, 4, .inl gw36)), (yv34, .inl (cI, 4, .inl gv37)), (yh35, .inl (cR, 4, .inr (.inr (.inr (.inr gh38))))), (a47, .inr (8, [.int 4, .ref wa48, .ref na49])), (wa48, .inl (cI, 4, .inl fw50)), (na49, .inl (cI, 4, .inl fn51)), (q16, .inr (7, [.long ((1 : Int32).toInt64), .null])), (q1, .inr (6, [.ref al5, .int 0, .int 0, .int 0, .ref sa6, .ref sb7, .ref b8, .ref sc9])), (al5, .inr (4, [.int mc65, .ref ed30, .int 2])), (ed30, .inl (cO, 10, .inr (.inr (.inr (.inr (va_up (va_up (fun _ => none) 0 (some y32)) 1 (some y66))))))), (y66, .inr (5, [.int 4, .int 4, .ref yw67, .ref yv68, .ref yh69, .int 1])), (yw67, .inl (cI, 4, .inl gw70)), (yv68, .inl (cI, 4, .inl gv71)), (yh69, .inl (cR, 4, .inr (.inr (.inr (.inr gh72))))), (am15, .inr (4, [.int mm79, .ref em45, .int 2])), (em45, .inl (cO, 10, .inr (.inr (.inr (.inr (va_up (va_up (fun _ => none) 0 (some a47)) 1 (some a80))))))), (a80, .inr (8, [.int 4, .ref wa81, .ref na82])), (wa81, .inl (cI, 4, .inl fw83)), (na82, .inl (cI, 4, .inl fn84)), (q11, .inr (9, [.int 0, .ref am15, .int 0, .int 0, .int 0]))] := hD
  refine W.widen (k := 33) (n := 157) (by omega) (by omega) ?_
  refine lv_iload hx hb dL_law_225 (lv_at hl 1 rfl) ?_
  refine lv_icmp_eq (tgt := 232) hx hb dL_law_227 (by decide) (fun c9 => ?_) (fun c9 => ?_)
  rotate_left
  · exact absurd (by decide) c9
  refine lv_iload hx hb dL_law_232 (lv_at hl 1 rfl) ?_
  refine lv_if_ne (tgt := 250) hx hb dL_law_234 (by decide) (fun c9 => ?_) (fun c9 => ?_)
  · exact absurd (by decide) c9
  refine lv_aload_n hx hb dL_law_237 rfl (lv_at hl 3 rfl) ?_
  refine va_getN (D := (dC, dI)) (ci := 7) (v := .long ((1 : Int32).toInt64)) (C := RX2) (T := TX2) (N := 2) hx hb hts inlX2 hown hK hP 9 rfl rfl 0 (by decide) (zn6 hZ) (fun _ h9 => h9) rfl dL_law_238 ?_
  refine lv_iload hx hb dL_law_241 (lv_at hl 0 rfl) ?_
  refine lv_i2l (v := (1 : Int32).toInt64) hx hb dL_law_243 rfl ?_
  refine W.lcmp hx hb dL_law_244 ?_
  refine lv_topi (fun v87 ev87 => ?_)
  obtain rfl : v87 = 0 := ev87.trans (by decide)
  refine lv_if_eq (tgt := 250) hx hb dL_law_245 (by decide) (fun c9 => ?_) (fun c9 => ?_)
  rotate_left
  · exact absurd (by decide) c9
  refine lv_goto (tgt := 2155) hx hb dL_law_250 (by decide) ?_
  refine lv_iinc (v := 10) (lv' := [(4, .int 10), (6, .int 1), (5, .int 0), (3, .ref q16), (2, .ref q11), (1, .ref q1), (0, .ref b)]) hx hb dL_law_2155 hl (k := 2) rfl (by decide) (by decide) rfl (fun ls hl => ?_)
  refine lv_goto (tgt := 27) hx hb dL_law_2158 (by decide) ?_
  refine lv_iload hx hb dL_law_27 (lv_at hl 0 rfl) ?_
  refine lv_aload_n hx hb dL_law_29 rfl (lv_at hl 6 rfl) ?_
  refine va_slen hx hb hX hbl hbA hS dL_law_30 ?_
  refine W.eq (g2 := F0 mY 31 ls [.int 1835, .int 10]) rfl ?_
  refine lv_iconst (v := 5) hx hb dL_law_31 (by decide) ?_
  refine lv_isub hx hb dL_law_32 ?_
  refine lv_topi (fun v88 ev88 => ?_)
  obtain rfl : v88 = 1830 := ev88.trans (by decide)
  refine lv_icmp_gt (tgt := 2161) hx hb dL_law_33 (by decide) (fun c9 => ?_) (fun c9 => ?_)
  · exact absurd c9 (by decide)
  refine lv_aload_n hx hb dL_law_36 rfl (lv_at hl 6 rfl) ?_
  refine lv_iload hx hb dL_law_37 (lv_at hl 0 rfl) ?_
  refine va_sld hx hb hX hbl hbA hS (by unfold vp_in; decide) dL_law_39 ?_
  refine lv_topi (fun v89 ev89 => ?_)
  obtain rfl : v89 = 9 := ev89.trans (by decide)
  refine lv_bipush (v := 31) hx hb dL_law_40 (by decide) ?_
  refine lv_iand hx hb dL_law_42 ?_
  refine lv_topi (fun v90 ev90 => ?_)
  obtain rfl : v90 = 9 := ev90.trans (by decide)
  refine lv_tableIn (off := 730) (tgt := 773) hx hb dL_law_43 (by decide) (by decide) (by decide) (by decide) ?_
  refine lv_aload_n hx hb dL_law_773 rfl (lv_at hl 5 rfl) ?_
  refine lv_aload_n hx hb dL_law_774 rfl (lv_at hl 6 rfl) ?_
  refine lv_iload hx hb dL_law_775 (lv_at hl 0 rfl) ?_
  refine lv_iconst (v := 1) hx hb dL_law_777 (by decide) ?_
  refine lv_iadd hx hb dL_law_778 ?_
  refine lv_topi (fun v91 ev91 => ?_)
  obtain rfl : v91 = 11 := ev91.trans (by decide)
  refine va_sld hx hb hX hbl hbA hS (by unfold vp_in; decide) dL_law_779 ?_
  refine lv_topi (fun v92 ev92 => ?_)
  obtain rfl : v92 = 1 := ev92.trans (by decide)
  refine lv_aload_n hx hb dL_law_780 rfl (lv_at hl 6 rfl) ?_
  refine lv_iload hx hb dL_law_781 (lv_at hl 0 rfl) ?_
  refine lv_iconst (v := 2) hx hb dL_law_783 (by decide) ?_
  refine lv_iadd hx hb dL_law_784 ?_
  refine lv_topi (fun v93 ev93 => ?_)
  obtain rfl : v93 = 12 := ev93.trans (by decide)
  refine va_sld hx hb hX hbl hbA hS (by unfold vp_in; decide) dL_law_785 ?_
  refine lv_topi (fun v94 ev94 => ?_)
  obtain rfl : v94 = 0 := ev94.trans (by decide)
  refine lv_aload_n hx hb dL_law_786 rfl (lv_at hl 3 rfl) ?_
  have hPc := hP.sub (ws' := [(q16, .inr (7, [.long ((1 : Int32).toInt64), .null])), (q1, .inr (6, [.ref al5, .int 0, .int 0, .int 0, .ref sa6, .ref sb7, .ref b8, .ref sc9])), (al5, .inr (4, [.int mc65, .ref ed30, .int 2])), (ed30, .inl (cO, 10, .inr (.inr (.inr (.inr (va_up (va_up (fun _ => none) 0 (some y32)) 1 (some y66))))))), (y32, .inr (5, [.int 4, .int 4, .ref yw33, .ref yv34, .ref yh35, .int 0])), (yw33, .inl (cI, 4, .inl gw36)), (yv34, .inl (cI, 4, .inl gv37)), (yh35, .inl (cR, 4, .inr (.inr (.inr (.inr gh38))))), (y66, .inr (5, [.int 4, .int 4, .ref yw67, .ref yv68, .ref yh69, .int 1])), (yw67, .inl (cI, 4, .inl gw70)), (yv68, .inl (cI, 4, .inl gv71)), (yh69, .inl (cR, 4, .inr (.inr (.inr (.inr gh72)))))]) [9, 10, 11, 12, 2, 3, 4, 5, 13, 14, 15, 16] rfl
  have hDc := hD.sub (ws' := [(q16, .inr (7, [.long ((1 : Int32).toInt64), .null])), (q1, .inr (6, [.ref al5, .int 0, .int 0, .int 0, .ref sa6, .ref sb7, .ref b8, .ref sc9])), (al5, .inr (4, [.int mc65, .ref ed30, .int 2])), (ed30, .inl (cO, 10, .inr (.inr (.inr (.inr (va_up (va_up (fun _ => none) 0 (some y32)) 1 (some y66))))))), (y32, .inr (5, [.int 4, .int 4, .ref yw33, .ref yv34, .ref yh35, .int 0])), (yw33, .inl (cI, 4, .inl gw36)), (yv34, .inl (cI, 4, .inl gv37)), (yh35, .inl (cR, 4, .inr (.inr (.inr (.inr gh38))))), (y66, .inr (5, [.int 4, .int 4, .ref yw67, .ref yv68, .ref yh69, .int 1])), (yw67, .inl (cI, 4, .inl gw70)), (yv68, .inl (cI, 4, .inl gv71)), (yh69, .inl (cR, 4, .inr (.inr (.inr (.inr gh72)))))]) [9, 10, 11, 12, 2, 3, 4, 5, 13, 14, 15, 16] (by decide) rfl
  have hFc := va_free (wc := [(q16, .inr (7, [.long ((1 : Int32).toInt64), .null])), (q1, .inr (6, [.ref al5, .int 0, .int 0, .int 0, .ref sa6, .ref sb7, .ref b8, .ref sc9])), (al5, .inr (4, [.int mc65, .ref ed30, .int 2])), (ed30, .inl (cO, 10, .inr (.inr (.inr (.inr (va_up (va_up (fun _ => none) 0 (some y32)) 1 (some y66))))))), (y32, .inr (5, [.int 4, .int 4, .ref yw33, .ref yv34, .ref yh35, .int 0])), (yw33, .inl (cI, 4, .inl gw36)), (yv34, .inl (cI, 4, .inl gv37)), (yh35, .inl (cR, 4, .inr (.inr (.inr (.inr gh38))))), (y66, .inr (5, [.int 4, .int 4, .ref yw67, .ref yv68, .ref yh69, .int 1])), (yw67, .inl (cI, 4, .inl gw70)), (yv68, .inl (cI, 4, .inl gv71)), (yh69, .inl (cR, 4, .inr (.inr (.inr (.inr gh72)))))]) hD hS hA [9, 10, 11, 12, 2, 3, 4, 5, 13, 14, 15, 16] rfl
  have hDv := hDc.self (sz := H85.size)
  have hpre := zpre (xs' := []) (av := [.ref q1, .int 1, .int 0, .ref q16]) hPc hK (hDc.weaken (fun _ _ _ h => h)) hZ hS hFc (fun r hr => by cases hr)
  refine va_calli (vx_runSW (As := [.ref q1, .int 1, .int 0, .ref q16]) (rest := []) ⟨hx, hb, hml, hown, hts⟩ (k_LfX1 l dC dI cI cB cR cO zk q1 al5 b8 (.int 0) (.int 0) (.int 0) (.ref sa6) (.ref sb7) (.ref sc9) ed30 (va_up (va_up (fun _ => none) 0 (some y32)) 1 (some y66)) (.int mc65) y32 yw33 yv34 yh35 0 gw36 gv37 gh38 y66 yw67 yv68 yh69 1 gw70 gv71 gh72 q16 (.long ((1 : Int32).toInt64)) .null H85.size rfl rfl hwgw36 hhgh38) (vx_cwSW 4 hts gL_law_L_fillRow rfl rfl rfl (by decide +kernel) ⟨Nat.le_of_ble_eq_true rfl, Nat.le_of_ble_eq_true rfl⟩) ⟨zblind, hpre⟩ rfl rfl hl.1 rfl (lv_room (Nat.le_of_ble_eq_true rfl)) dL_law_787 ⟨Nat.le_of_ble_eq_true rfl, Nat.le_of_ble_eq_true rfl⟩) hS (fun q _ h => hFc q h) hFc (fun r96 u t H95 locs ht hvm hw hB hz1 hk1 hS => ?_)
  obtain rfl : 0 = r96 := (show r96 = 0 from hw).symm
  obtain ⟨on97, gw98, gv99, gh100, ⟨hP1, hK1, hD1, hz2⟩, hhgh100, rfl⟩ := hB
  rw [ht] at hP1 hz2
  have hPD9 := va_join (wr := [(b8, .inr (1, [.ref v10, .int 0, .int 0, .int 0])), (v10, .inl (cB, 16, .inl (fun _ => 0))), (a47, .inr (8, [.int 4, .ref wa48, .ref na49])), (wa48, .inl (cI, 4, .inl fw50)), (na49, .inl (cI, 4, .inl fn51)), (am15, .inr (4, [.int mm79, .ref em45, .int 2])), (em45, .inl (cO, 10, .inr (.inr (.inr (.inr (va_up (va_up (fun _ => none) 0 (some a47)) 1 (some a80))))))), (a80, .inr (8, [.int 4, .ref wa81, .ref na82])), (wa81, .inl (cI, 4, .inl fw83)), (na82, .inl (cI, 4, .inl fn84)), (q11, .inr (9, [.int 0, .ref am15, .int 0, .int 0, .int 0]))]) (w1 := [(q16, .inr (7, [.long ((2 : Int32).toInt64), .null])), (q1, .inr (6, [.ref al5, .int 0, .int 0, .int 0, .ref sa6, .ref sb7, .ref b8, .ref sc9])), (al5, .inr (4, [.int mc65, .ref ed30, .int 2])), (ed30, .inl (cO, 10, .inr (.inr (.inr (.inr (va_up (va_up (fun _ => none) 0 (some y32)) 1 (some y66))))))), (y32, .inr (5, [.int 4, .int 4, .ref yw33, .ref yv34, .ref yh35, .int 0])), (yw33, .inl (cI, 4, .inl gw36)), (yv34, .inl (cI, 4, .inl gv37)), (yh35, .inl (cR, 4, .inr (.inr (.inr (.inr gh38))))), (y66, .inr (5, [.int 4, .int 4, .ref yw67, .ref yv68, .ref yh69, .int 1])), (yw67, .inl (cI, 4, .inl gw98)), (yv68, .inl (cI, 4, .inl gv99)), (yh69, .inl (cR, 4, .inr (.inr (.inr (.inr gh100)))))]) hP hD [9, 10, 11, 12, 2, 3, 4, 5, 13, 14, 15, 16] [0, 1, 6, 7, 8, 17, 18, 19, 20, 21, 22] rfl rfl (by decide) (by decide) hk1 hFc hP1 hD1
  clear hPc hDc hFc hDv hpre hP hD hP1 hK1 hD1
  obtain ⟨hP, hD⟩ := hPD9
  replace hz : s.heap.size + 33 ≤ H95.size := by omega
  clear hz2
  replace hP : va_P (dC, dI) vwCl [(b8, .inr (1, [.ref v10, .int 0, .int 0, .int 0])), (v10, .inl (cB, 16, .inl (fun _ => 0))), (a47, .inr (8, [.int 4, .ref wa48, .ref na49])), (wa48, .inl (cI, 4, .inl fw50)), (na49, .inl (cI, 4, .inl fn51)), (am15, .inr (4, [.int mm79, .ref em45, .int 2])), (em45, .inl (cO, 10, .inr (.inr (.inr (.inr (va_up (va_up (fun _ => none) 0 (some a47)) 1 (some a80))))))), (a80, .inr (8, [.int 4, .ref wa81, .ref na82])), (wa81, .inl (cI, 4, .inl fw83)), (na82, .inl (cI, 4, .inl fn84)), (q11, .inr (9, [.int 0, .ref am15, .int 0, .int 0, .int 0])), (q16, .inr (7, [.long ((2 : Int32).toInt64), .null])), (q1, .inr (6, [.ref al5, .int 0, .int 0, .int 0, .ref sa6, .ref sb7, .ref b8, .ref sc9])), (al5, .inr (4, [.int mc65, .ref ed30, .int 2])), (ed30, .inl (cO, 10, .inr (.inr (.inr (.inr (va_up (va_up (fun _ => none) 0 (some y32)) 1 (some y66))))))), (y32, .inr (5, [.int 4, .int 4, .ref yw33, .ref yv34, .ref yh35, .int 0])), (yw33, .inl (cI, 4, .inl gw36)), (yv34, .inl (cI, 4, .inl gv37)), (yh35, .inl (cR, 4, .inr (.inr (.inr (.inr gh38))))), (y66, .inr (5, [.int 4, .int 4, .ref yw67, .ref yv68, .ref yh69, .int 1])), (yw67, .inl (cI, 4, .inl gw98)), (yv68, .inl (cI, 4, .inl gv99)), (yh69, .inl (cR, 4, .inr (.inr (.inr (.inr gh100)))))] H95 := hP
  replace hD : va_D A [(b8, .inr (1, [.ref v10, .int 0, .int 0, .int 0])), (v10, .inl (cB, 16, .inl (fun _ => 0))), (a47, .inr (8, [.int 4, .ref wa48, .ref na49])), (wa48, .inl (cI, 4, .inl fw50)), (na49, .inl (cI, 4, .inl fn51)), (am15, .inr (4, [.int mm79, .ref em45, .int 2])), (em45, .inl (cO, 10, .inr (.inr (.inr (.inr (va_up (va_up (fun _ => none) 0 (some a47)) 1 (some a80))))))), (a80, .inr (8, [.int 4, .ref wa81, .ref na82])), (wa81, .inl (cI, 4, .inl fw83)), (na82, .inl (cI, 4, .inl fn84)), (q11, .inr (9, [.int 0, .ref am15, .int 0, .int 0, .int 0])), (q16, .inr (7, [.long ((2 : Int32).toInt64), .null])), (q1, .inr (6, [.ref al5, .int 0, .int 0, .int 0, .ref sa6, .ref sb7, .ref b8, .ref sc9])), (al5, .inr (4, [.int mc65, .ref ed30, .int 2])), (ed30, .inl (cO, 10, .inr (.inr (.inr (.inr (va_up (va_up (fun _ => none) 0 (some y32)) 1 (some y66))))))), (y32, .inr (5, [.int 4, .int 4, .ref yw33, .ref yv34, .ref yh35, .int 0])), (yw33, .inl (cI, 4, .inl gw36)), (yv34, .inl (cI, 4, .inl gv37)), (yh35, .inl (cR, 4, .inr (.inr (.inr (.inr gh38))))), (y66, .inr (5, [.int 4, .int 4, .ref yw67, .ref yv68, .ref yh69, .int 1])), (yw67, .inl (cI, 4, .inl gw98)), (yv68, .inl (cI, 4, .inl gv99)), (yh69, .inl (cR, 4, .inr (.inr (.inr (.inr gh100)))))] := hD
  refine W.widen (k := 33) (n := 157) (by omega) (by omega) ?_
  refine lv_istore (lv' := [(5, .int 0), (4, .int 10), (6, .int 1), (3, .ref q16), (2, .ref q11), (1, .ref q1), (0, .ref b)]) hx hb dL_law_790 hl (by decide) rfl (fun ls hl => ?_)
  refine lv_aload_n hx hb dL_law_792 rfl (lv_at hl 4 rfl) ?_
  refine lv_aload_n hx hb dL_law_793 rfl (lv_at hl 6 rfl) ?_
  refine lv_iload hx hb dL_law_794 (lv_at hl 1 rfl) ?_
  refine lv_iconst (v := 1) hx hb dL_law_796 (by decide) ?_
  refine lv_iadd hx hb dL_law_797 ?_
  refine lv_topi (fun v101 ev101 => ?_)
  obtain rfl : v101 = 11 := ev101.trans (by decide)
  refine va_sld hx hb hX hbl hbA hS (by unfold vp_in; decide) dL_law_798 ?_
  refine lv_topi (fun v102 ev102 => ?_)
  obtain rfl : v102 = 1 := ev102.trans (by decide)
  refine lv_aload_n hx hb dL_law_799 rfl (lv_at hl 6 rfl) ?_
  refine lv_iload hx hb dL_law_800 (lv_at hl 1 rfl) ?_
  refine lv_iconst (v := 2) hx hb dL_law_802 (by decide) ?_
  refine lv_iadd hx hb dL_law_803 ?_
  refine lv_topi (fun v103 ev103 => ?_)
  obtain rfl : v103 = 12 := ev103.trans (by decide)
  refine va_sld hx hb hX hbl hbA hS (by unfold vp_in; decide) dL_law_804 ?_
  refine lv_topi (fun v104 ev104 => ?_)
  obtain rfl : v104 = 0 := ev104.trans (by decide)
  have hPc := hP.sub (ws' := [(q11, .inr (9, [.int 0, .ref am15, .int 0, .int 0, .int 0])), (am15, .inr (4, [.int mm79, .ref em45, .int 2])), (em45, .inl (cO, 10, .inr (.inr (.inr (.inr (va_up (va_up (fun _ => none) 0 (some a47)) 1 (some a80))))))), (a47, .inr (8, [.int 4, .ref wa48, .ref na49])), (wa48, .inl (cI, 4, .inl fw50)), (na49, .inl (cI, 4, .inl fn51)), (a80, .inr (8, [.int 4, .ref wa81, .ref na82])), (wa81, .inl (cI, 4, .inl fw83)), (na82, .inl (cI, 4, .inl fn84))]) [10, 5, 6, 2, 3, 4, 7, 8, 9] rfl
  have hDc := hD.sub (ws' := [(q11, .inr (9, [.int 0, .ref am15, .int 0, .int 0, .int 0])), (am15, .inr (4, [.int mm79, .ref em45, .int 2])), (em45, .inl (cO, 10, .inr (.inr (.inr (.inr (va_up (va_up (fun _ => none) 0 (some a47)) 1 (some a80))))))), (a47, .inr (8, [.int 4, .ref wa48, .ref na49])), (wa48, .inl (cI, 4, .inl fw50)), (na49, .inl (cI, 4, .inl fn51)), (a80, .inr (8, [.int 4, .ref wa81, .ref na82])), (wa81, .inl (cI, 4, .inl fw83)), (na82, .inl (cI, 4, .inl fn84))]) [10, 5, 6, 2, 3, 4, 7, 8, 9] (by decide) rfl
  have hFc := va_free (wc := [(q11, .inr (9, [.int 0, .ref am15, .int 0, .int 0, .int 0])), (am15, .inr (4, [.int mm79, .ref em45, .int 2])), (em45, .inl (cO, 10, .inr (.inr (.inr (.inr (va_up (va_up (fun _ => none) 0 (some a47)) 1 (some a80))))))), (a47, .inr (8, [.int 4, .ref wa48, .ref na49])), (wa48, .inl (cI, 4, .inl fw50)), (na49, .inl (cI, 4, .inl fn51)), (a80, .inr (8, [.int 4, .ref wa81, .ref na82])), (wa81, .inl (cI, 4, .inl fw83)), (na82, .inl (cI, 4, .inl fn84))]) hD hS hA [10, 5, 6, 2, 3, 4, 7, 8, 9] rfl
  have hDv := hDc.self (sz := H95.size)
  have hpre := zpre (xs' := []) (av := [.ref q11, .int 1, .int 0]) hPc hK (hDc.weaken (fun _ _ _ h => h)) hZ hS hFc (fun r hr => by cases hr)
  refine va_calli (va_runV (As := [.int 1, .int 0]) (rest := []) ⟨hx, hb, hml, hown, hts⟩ (k_fiM1 l dC dI cI cB cR cO zk q11 am15 (.int 0) (.int 0) (.int 0) (.int 0) em45 (va_up (va_up (fun _ => none) 0 (some a47)) 1 (some a80)) mm79 a47 wa48 na49 a80 wa81 na82 fw50 fn51 fw83 fn84 H95.size hwfw50 hnfn51 rfl hwfw83 hnfn84 rfl) (cwV 2 hts gL_law_X4_fillRow rfl rfl rfl (by decide +kernel) ⟨Nat.le_of_ble_eq_true rfl, Nat.le_of_ble_eq_true rfl⟩) ⟨zblind, (zrecv_9 hK hPc (q0 := 0) rfl), hpre⟩ rfl rfl hl.1 rfl (lv_room (Nat.le_of_ble_eq_true rfl)) dL_law_805 ⟨Nat.le_of_ble_eq_true rfl, Nat.le_of_ble_eq_true rfl⟩) hS (fun q _ h => hFc q h) hFc (fun r106 u t H105 locs ht hvm hw hB hz1 hk1 hS => ?_)
  obtain rfl : 2 = r106 := (show r106 = 2 from hw).symm
  obtain ⟨fw107, fn108, ⟨hP1, hK1, hD1, hz2⟩, hwfw107, hnfn108⟩ := hB
  rw [ht] at hP1 hz2
  have hPD9 := va_join (wr := [(b8, .inr (1, [.ref v10, .int 0, .int 0, .int 0])), (v10, .inl (cB, 16, .inl (fun _ => 0))), (q16, .inr (7, [.long ((2 : Int32).toInt64), .null])), (q1, .inr (6, [.ref al5, .int 0, .int 0, .int 0, .ref sa6, .ref sb7, .ref b8, .ref sc9])), (al5, .inr (4, [.int mc65, .ref ed30, .int 2])), (ed30, .inl (cO, 10, .inr (.inr (.inr (.inr (va_up (va_up (fun _ => none) 0 (some y32)) 1 (some y66))))))), (y32, .inr (5, [.int 4, .int 4, .ref yw33, .ref yv34, .ref yh35, .int 0])), (yw33, .inl (cI, 4, .inl gw36)), (yv34, .inl (cI, 4, .inl gv37)), (yh35, .inl (cR, 4, .inr (.inr (.inr (.inr gh38))))), (y66, .inr (5, [.int 4, .int 4, .ref yw67, .ref yv68, .ref yh69, .int 1])), (yw67, .inl (cI, 4, .inl gw98)), (yv68, .inl (cI, 4, .inl gv99)), (yh69, .inl (cR, 4, .inr (.inr (.inr (.inr gh100)))))]) (w1 := [(q11, .inr (9, [.int 0, .ref am15, .int 0, .int 0, .int 0])), (am15, .inr (4, [.int mm79, .ref em45, .int 2])), (em45, .inl (cO, 10, .inr (.inr (.inr (.inr (va_up (va_up (fun _ => none) 0 (some a47)) 1 (some a80))))))), (a47, .inr (8, [.int 4, .ref wa48, .ref na49])), (wa48, .inl (cI, 4, .inl fw50)), (na49, .inl (cI, 4, .inl fn51)), (a80, .inr (8, [.int 4, .ref wa81, .ref na82])), (wa81, .inl (cI, 4, .inl fw107)), (na82, .inl (cI, 4, .inl fn108))]) hP hD [10, 5, 6, 2, 3, 4, 7, 8, 9] [0, 1, 11, 12, 13, 14, 15, 16, 17, 18, 19, 20, 21, 22] rfl rfl (by decide) (by decide) hk1 hFc hP1 hD1
  clear hPc hDc hFc hDv hpre hP hD hP1 hK1 hD1
  obtain ⟨hP, hD⟩ := hPD9
  replace hz : s.heap.size + 38 ≤ H105.size := by omega
  clear hz2
  replace hP : va_P (dC, dI) vwCl [(b8, .inr (1, [.ref v10, .int 0, .int 0, .int 0])), (v10, .inl (cB, 16, .inl (fun _ => 0))), (q16, .inr (7, [.long ((2 : Int32).toInt64), .null])), (q1, .inr (6, [.ref al5, .int 0, .int 0, .int 0, .ref sa6, .ref sb7, .ref b8, .ref sc9])), (al5, .inr (4, [.int mc65, .ref ed30, .int 2])), (ed30, .inl (cO, 10, .inr (.inr (.inr (.inr (va_up (va_up (fun _ => none) 0 (some y32)) 1 (some y66))))))), (y32, .inr (5, [.int 4, .int 4, .ref yw33, .ref yv34, .ref yh35, .int 0])), (yw33, .inl (cI, 4, .inl gw36)), (yv34, .inl (cI, 4, .inl gv37)), (yh35, .inl (cR, 4, .inr (.inr (.inr (.inr gh38))))), (y66, .inr (5, [.int 4, .int 4, .ref yw67, .ref yv68, .ref yh69, .int 1])), (yw67, .inl (cI, 4, .inl gw98)), (yv68, .inl (cI, 4, .inl gv99)), (yh69, .inl (cR, 4, .inr (.inr (.inr (.inr gh100))))), (q11, .inr (9, [.int 0, .ref am15, .int 0, .int 0, .int 0])), (am15, .inr (4, [.int mm79, .ref em45, .int 2])), (em45, .inl (cO, 10, .inr (.inr (.inr (.inr (va_up (va_up (fun _ => none) 0 (some a47)) 1 (some a80))))))), (a47, .inr (8, [.int 4, .ref wa48, .ref na49])), (wa48, .inl (cI, 4, .inl fw50)), (na49, .inl (cI, 4, .inl fn51)), (a80, .inr (8, [.int 4, .ref wa81, .ref na82])), (wa81, .inl (cI, 4, .inl fw107)), (na82, .inl (cI, 4, .inl fn108))] H105 := hP
  replace hD : va_D A [(b8, .inr (1, [.ref v10, .int 0, .int 0, .int 0])), (v10, .inl (cB, 16, .inl (fun _ => 0))), (q16, .inr (7, [.long ((2 : Int32).toInt64), .null])), (q1, .inr (6, [.ref al5, .int 0, .int 0, .int 0, .ref sa6, .ref sb7, .ref b8, .ref sc9])), (al5, .inr (4, [.int mc65, .ref ed30, .int 2])), (ed30, .inl (cO, 10, .inr (.inr (.inr (.inr (va_up (va_up (fun _ => none) 0 (some y32)) 1 (some y66))))))), (y32, .inr (5, [.int 4, .int 4, .ref yw33, .ref yv34, .ref yh35, .int 0])), (yw33, .inl (cI, 4, .inl gw36)), (yv34, .inl (cI, 4, .inl gv37)), (yh35, .inl (cR, 4, .inr (.inr (.inr (.inr gh38))))), (y66, .inr (5, [.int 4, .int 4, .ref yw67, .ref yv68, .ref yh69, .int 1])), (yw67, .inl (cI, 4, .inl gw98)), (yv68, .inl (cI, 4, .inl gv99)), (yh69, .inl (cR, 4, .inr (.inr (.inr (.inr gh100))))), (q11, .inr (9, [.int 0, .ref am15, .int 0, .int 0, .int 0])), (am15, .inr (4, [.int mm79, .ref em45, .int 2])), (em45, .inl (cO, 10, .inr (.inr (.inr (.inr (va_up (va_up (fun _ => none) 0 (some a47)) 1 (some a80))))))), (a47, .inr (8, [.int 4, .ref wa48, .ref na49])), (wa48, .inl (cI, 4, .inl fw50)), (na49, .inl (cI, 4, .inl fn51)), (a80, .inr (8, [.int 4, .ref wa81, .ref na82])), (wa81, .inl (cI, 4, .inl fw107)), (na82, .inl (cI, 4, .inl fn108))] := hD
  refine W.widen (k := 40) (n := 177) (by omega) (by omega) ?_
  refine lv_istore (lv' := [(6, .int 2), (5, .int 0), (4, .int 10), (3, .ref q16), (2, .ref q11), (1, .ref q1), (0, .ref b)]) hx hb dL_law_808 hl (by decide) rfl (fun ls hl => ?_)
  refine lv_aload_n hx hb dL_law_810 rfl (lv_at hl 4 rfl) ?_
  have hPc := hP.sub (ws' := [(q11, .inr (9, [.int 0, .ref am15, .int 0, .int 0, .int 0]))]) [14] rfl
  have hDc := hD.sub (ws' := [(q11, .inr (9, [.int 0, .ref am15, .int 0, .int 0, .int 0]))]) [14] (by decide) rfl
  have hFc := va_free (wc := [(q11, .inr (9, [.int 0, .ref am15, .int 0, .int 0, .int 0]))]) hD hS hA [14] rfl
  have hDv := hDc.self (sz := H105.size)
  have hpre := zpre (xs' := []) (av := [.ref q11]) hPc hK (hDc.weaken (fun _ _ _ h => h)) hZ hS hFc (fun r hr => by cases hr)
  refine va_calli (va_runV (As := []) (rest := []) ⟨hx, hb, hml, hown, hts⟩ (k_thM l dC dI cI cB cR cO zk q11 (.int 0) (.int 0) (.int 0) am15 H105.size ) (cwV 0 hts gL_law_X4_thrown rfl rfl rfl (by decide +kernel) ⟨Nat.le_of_ble_eq_true rfl, Nat.le_of_ble_eq_true rfl⟩) ⟨zblind, (zrecv_9 hK hPc (q0 := 0) rfl), hpre⟩ rfl rfl hl.1 rfl (lv_room (Nat.le_of_ble_eq_true rfl)) dL_law_811 ⟨Nat.le_of_ble_eq_true rfl, Nat.le_of_ble_eq_true rfl⟩) hS (fun q _ h => hFc q h) hFc (fun r110 u t H109 locs ht hvm hw hB hz1 hk1 hS => ?_)
  obtain rfl : 0 = r110 := (show r110 = 0 from hw).symm
  obtain ⟨hP1, hK1, hD1, hz2⟩ := hB
  rw [ht] at hP1 hz2
  have hPD9 := va_join (wr := [(b8, .inr (1, [.ref v10, .int 0, .int 0, .int 0])), (v10, .inl (cB, 16, .inl (fun _ => 0))), (q16, .inr (7, [.long ((2 : Int32).toInt64), .null])), (q1, .inr (6, [.ref al5, .int 0, .int 0, .int 0, .ref sa6, .ref sb7, .ref b8, .ref sc9])), (al5, .inr (4, [.int mc65, .ref ed30, .int 2])), (ed30, .inl (cO, 10, .inr (.inr (.inr (.inr (va_up (va_up (fun _ => none) 0 (some y32)) 1 (some y66))))))), (y32, .inr (5, [.int 4, .int 4, .ref yw33, .ref yv34, .ref yh35, .int 0])), (yw33, .inl (cI, 4, .inl gw36)), (yv34, .inl (cI, 4, .inl gv37)), (yh35, .inl (cR, 4, .inr (.inr (.inr (.inr gh38))))), (y66, .inr (5, [.int 4, .int 4, .ref yw67, .ref yv68, .ref yh69, .int 1])), (yw67, .inl (cI, 4, .inl gw98)), (yv68, .inl (cI, 4, .inl gv99)), (yh69, .inl (cR, 4, .inr (.inr (.inr (.inr gh100))))), (am15, .inr (4, [.int mm79, .ref em45, .int 2])), (em45, .inl (cO, 10, .inr (.inr (.inr (.inr (va_up (va_up (fun _ => none) 0 (some a47)) 1 (some a80))))))), (a47, .inr (8, [.int 4, .ref wa48, .ref na49])), (wa48, .inl (cI, 4, .inl fw50)), (na49, .inl (cI, 4, .inl fn51)), (a80, .inr (8, [.int 4, .ref wa81, .ref na82])), (wa81, .inl (cI, 4, .inl fw107)), (na82, .inl (cI, 4, .inl fn108))]) (w1 := [(q11, .inr (9, [.int 0, .ref am15, .int 0, .int 0, .int 0]))]) hP hD [14] [0, 1, 2, 3, 4, 5, 6, 7, 8, 9, 10, 11, 12, 13, 15, 16, 17, 18, 19, 20, 21, 22] rfl rfl (by decide) (by decide) hk1 hFc hP1 hD1
  clear hPc hDc hFc hDv hpre hP hD hP1 hK1 hD1
  obtain ⟨hP, hD⟩ := hPD9
  replace hz : s.heap.size + 38 ≤ H109.size := by omega
  clear hz2
  replace hP : va_P (dC, dI) vwCl [(b8, .inr (1, [.ref v10, .int 0, .int 0, .int 0])), (v10, .inl (cB, 16, .inl (fun _ => 0))), (q16, .inr (7, [.long ((2 : Int32).toInt64), .null])), (q1, .inr (6, [.ref al5, .int 0, .int 0, .int 0, .ref sa6, .ref sb7, .ref b8, .ref sc9])), (al5, .inr (4, [.int mc65, .ref ed30, .int 2])), (ed30, .inl (cO, 10, .inr (.inr (.inr (.inr (va_up (va_up (fun _ => none) 0 (some y32)) 1 (some y66))))))), (y32, .inr (5, [.int 4, .int 4, .ref yw33, .ref yv34, .ref yh35, .int 0])), (yw33, .inl (cI, 4, .inl gw36)), (yv34, .inl (cI, 4, .inl gv37)), (yh35, .inl (cR, 4, .inr (.inr (.inr (.inr gh38))))), (y66, .inr (5, [.int 4, .int 4, .ref yw67, .ref yv68, .ref yh69, .int 1])), (yw67, .inl (cI, 4, .inl gw98)), (yv68, .inl (cI, 4, .inl gv99)), (yh69, .inl (cR, 4, .inr (.inr (.inr (.inr gh100))))), (am15, .inr (4, [.int mm79, .ref em45, .int 2])), (em45, .inl (cO, 10, .inr (.inr (.inr (.inr (va_up (va_up (fun _ => none) 0 (some a47)) 1 (some a80))))))), (a47, .inr (8, [.int 4, .ref wa48, .ref na49])), (wa48, .inl (cI, 4, .inl fw50)), (na49, .inl (cI, 4, .inl fn51)), (a80, .inr (8, [.int 4, .ref wa81, .ref na82])), (wa81, .inl (cI, 4, .inl fw107)), (na82, .inl (cI, 4, .inl fn108)), (q11, .inr (9, [.int 0, .ref am15, .int 0, .int 0, .int 0]))] H109 := hP
  replace hD : va_D A [(b8, .inr (1, [.ref v10, .int 0, .int 0, .int 0])), (v10, .inl (cB, 16, .inl (fun _ => 0))), (q16, .inr (7, [.long ((2 : Int32).toInt64), .null])), (q1, .inr (6, [.ref al5, .int 0, .int 0, .int 0, .ref sa6, .ref sb7, .ref b8, .ref sc9])), (al5, .inr (4, [.int mc65, .ref ed30, .int 2])), (ed30, .inl (cO, 10, .inr (.inr (.inr (.inr (va_up (va_up (fun _ => none) 0 (some y32)) 1 (some y66))))))), (y32, .inr (5, [.int 4, .int 4, .ref yw33, .ref yv34, .ref yh35, .int 0])), (yw33, .inl (cI, 4, .inl gw36)), (yv34, .inl (cI, 4, .inl gv37)), (yh35, .inl (cR, 4, .inr (.inr (.inr (.inr gh38))))), (y66, .inr (5, [.int 4, .int 4, .ref yw67, .ref yv68, .ref yh69, .int 1])), (yw67, .inl (cI, 4, .inl gw98)), (yv68, .inl (cI, 4, .inl gv99)), (yh69, .inl (cR, 4, .inr (.inr (.inr (.inr gh100))))), (am15, .inr (4, [.int mm79, .ref em45, .int 2])), (em45, .inl (cO, 10, .inr (.inr (.inr (.inr (va_up (va_up (fun _ => none) 0 (some a47)) 1 (some a80))))))), (a47, .inr (8, [.int 4, .ref wa48, .ref na49])), (wa48, .inl (cI, 4, .inl fw50)), (na49, .inl (cI, 4, .inl fn51)), (a80, .inr (8, [.int 4, .ref wa81, .ref na82])), (wa81, .inl (cI, 4, .inl fw107)), (na82, .inl (cI, 4, .inl fn108)), (q11, .inr (9, [.int 0, .ref am15, .int 0, .int 0, .int 0]))] := hD
  refine W.widen (k := 40) (n := 177) (by omega) (by omega) ?_
  refine lv_iload hx hb dL_law_814 (lv_at hl 1 rfl) ?_
  refine lv_icmp_eq (tgt := 821) hx hb dL_law_816 (by decide) (fun c9 => ?_) (fun c9 => ?_)
  rotate_left
  · exact absurd (by decide) c9
  refine lv_iload hx hb dL_law_821 (lv_at hl 1 rfl) ?_
  refine lv_if_ne (tgt := 839) hx hb dL_law_823 (by decide) (fun c9 => ?_) (fun c9 => ?_)
  · exact absurd (by decide) c9
  refine lv_aload_n hx hb dL_law_826 rfl (lv_at hl 3 rfl) ?_
  refine va_getN (D := (dC, dI)) (ci := 7) (v := .long ((2 : Int32).toInt64)) (C := RX2) (T := TX2) (N := 2) hx hb hts inlX2 hown hK hP 2 rfl rfl 0 (by decide) (zn6 hZ) (fun _ h9 => h9) rfl dL_law_827 ?_
  refine lv_iload hx hb dL_law_830 (lv_at hl 0 rfl) ?_
  refine lv_i2l (v := (2 : Int32).toInt64) hx hb dL_law_832 rfl ?_
  refine W.lcmp hx hb dL_law_833 ?_
  refine lv_topi (fun v111 ev111 => ?_)
  obtain rfl : v111 = 0 := ev111.trans (by decide)
  refine lv_if_eq (tgt := 839) hx hb dL_law_834 (by decide) (fun c9 => ?_) (fun c9 => ?_)
  rotate_left
  · exact absurd (by decide) c9
  refine lv_goto (tgt := 2155) hx hb dL_law_839 (by decide) ?_
  refine lv_iinc (v := 15) (lv' := [(4, .int 15), (6, .int 2), (5, .int 0), (3, .ref q16), (2, .ref q11), (1, .ref q1), (0, .ref b)]) hx hb dL_law_2155 hl (k := 2) rfl (by decide) (by decide) rfl (fun ls hl => ?_)
  refine lv_goto (tgt := 27) hx hb dL_law_2158 (by decide) ?_
  refine lv_iload hx hb dL_law_27 (lv_at hl 0 rfl) ?_
  refine lv_aload_n hx hb dL_law_29 rfl (lv_at hl 6 rfl) ?_
  refine va_slen hx hb hX hbl hbA hS dL_law_30 ?_
  refine W.eq (g2 := F0 mY 31 ls [.int 1835, .int 15]) rfl ?_
  refine lv_iconst (v := 5) hx hb dL_law_31 (by decide) ?_
  refine lv_isub hx hb dL_law_32 ?_
  refine lv_topi (fun v112 ev112 => ?_)
  obtain rfl : v112 = 1830 := ev112.trans (by decide)
  refine lv_icmp_gt (tgt := 2161) hx hb dL_law_33 (by decide) (fun c9 => ?_) (fun c9 => ?_)
  · exact absurd c9 (by decide)
  refine lv_aload_n hx hb dL_law_36 rfl (lv_at hl 6 rfl) ?_
  refine lv_iload hx hb dL_law_37 (lv_at hl 0 rfl) ?_
  refine va_sld hx hb hX hbl hbA hS (by unfold vp_in; decide) dL_law_39 ?_
  refine lv_topi (fun v113 ev113 => ?_)
  obtain rfl : v113 = 0 := ev113.trans (by decide)
  refine lv_bipush (v := 31) hx hb dL_law_40 (by decide) ?_
  refine lv_iand hx hb dL_law_42 ?_
  refine lv_topi (fun v114 ev114 => ?_)
  obtain rfl : v114 = 0 := ev114.trans (by decide)
  refine lv_tableIn (off := 141) (tgt := 184) hx hb dL_law_43 (by decide) (by decide) (by decide) (by decide) ?_
  refine lv_aload_n hx hb dL_law_184 rfl (lv_at hl 5 rfl) ?_
  refine lv_aload_n hx hb dL_law_185 rfl (lv_at hl 6 rfl) ?_
  refine lv_iload hx hb dL_law_186 (lv_at hl 0 rfl) ?_
  refine lv_iconst (v := 1) hx hb dL_law_188 (by decide) ?_
  refine lv_iadd hx hb dL_law_189 ?_
  refine lv_topi (fun v115 ev115 => ?_)
  obtain rfl : v115 = 16 := ev115.trans (by decide)
  refine va_sld hx hb hX hbl hbA hS (by unfold vp_in; decide) dL_law_190 ?_
  refine lv_topi (fun v116 ev116 => ?_)
  obtain rfl : v116 = 4 := ev116.trans (by decide)
  refine lv_aload_n hx hb dL_law_191 rfl (lv_at hl 6 rfl) ?_
  refine lv_iload hx hb dL_law_192 (lv_at hl 0 rfl) ?_
  refine lv_iconst (v := 2) hx hb dL_law_194 (by decide) ?_
  refine lv_iadd hx hb dL_law_195 ?_
  refine lv_topi (fun v117 ev117 => ?_)
  obtain rfl : v117 = 17 := ev117.trans (by decide)
  refine va_sld hx hb hX hbl hbA hS (by unfold vp_in; decide) dL_law_196 ?_
  refine lv_topi (fun v118 ev118 => ?_)
  obtain rfl : v118 = 4 := ev118.trans (by decide)
  refine lv_aload_n hx hb dL_law_197 rfl (lv_at hl 3 rfl) ?_
  have hPc := hP.sub (ws' := [(q16, .inr (7, [.long ((2 : Int32).toInt64), .null])), (q1, .inr (6, [.ref al5, .int 0, .int 0, .int 0, .ref sa6, .ref sb7, .ref b8, .ref sc9])), (al5, .inr (4, [.int mc65, .ref ed30, .int 2])), (ed30, .inl (cO, 10, .inr (.inr (.inr (.inr (va_up (va_up (fun _ => none) 0 (some y32)) 1 (some y66)))))))]) [2, 3, 4, 5] rfl
  have hDc := hD.sub (ws' := [(q16, .inr (7, [.long ((2 : Int32).toInt64), .null])), (q1, .inr (6, [.ref al5, .int 0, .int 0, .int 0, .ref sa6, .ref sb7, .ref b8, .ref sc9])), (al5, .inr (4, [.int mc65, .ref ed30, .int 2])), (ed30, .inl (cO, 10, .inr (.inr (.inr (.inr (va_up (va_up (fun _ => none) 0 (some y32)) 1 (some y66)))))))]) [2, 3, 4, 5] (by decide) rfl
  have hFc := va_free (wc := [(q16, .inr (7, [.long ((2 : Int32).toInt64), .null])), (q1, .inr (6, [.ref al5, .int 0, .int 0, .int 0, .ref sa6, .ref sb7, .ref b8, .ref sc9])), (al5, .inr (4, [.int mc65, .ref ed30, .int 2])), (ed30, .inl (cO, 10, .inr (.inr (.inr (.inr (va_up (va_up (fun _ => none) 0 (some y32)) 1 (some y66)))))))]) hD hS hA [2, 3, 4, 5] rfl
  have hDv := hDc.self (sz := H109.size)
  have hpre := zpre (xs' := []) (av := [.ref q1, .int 4, .int 4, .ref q16]) hPc hK (hDc.weaken (fun _ _ _ h => h)) hZ hS hFc (fun r hr => by cases hr)
  refine va_calli (vx_runSW (As := [.ref q1, .int 4, .int 4, .ref q16]) (rest := []) ⟨hx, hb, hml, hown, hts⟩ (k_LmX2 l dC dI cI cB cR cO zk q1 al5 b8 (.int 0) (.int 0) (.int 0) (.ref sa6) (.ref sb7) (.ref sc9) ed30 (va_up (va_up (fun _ => none) 0 (some y32)) 1 (some y66)) mc65 q16 (.long ((2 : Int32).toInt64)) .null H109.size ) (vx_cwSW 4 hts gL_law_L_make rfl rfl rfl (by decide +kernel) ⟨Nat.le_of_ble_eq_true rfl, Nat.le_of_ble_eq_true rfl⟩) ⟨zblind, hpre⟩ rfl rfl hl.1 rfl (lv_room (Nat.le_of_ble_eq_true rfl)) dL_law_198 ⟨Nat.le_of_ble_eq_true rfl, Nat.le_of_ble_eq_true rfl⟩) hS (fun q _ h => hFc q h) hFc (fun r120 u t H119 locs ht hvm hw hB hz1 hk1 hS => ?_)
  obtain rfl : 0 = r120 := (show r120 = 0 from hw).symm
  obtain ⟨on121, mc122, y123, yw124, yv125, yh126, gw127, gv128, gh129, ⟨hP1, hK1, hD1, hz2⟩, hwgw127, hhgh129, rfl⟩ := hB
  rw [ht] at hP1 hz2
  have hPD9 := va_join (wr := [(b8, .inr (1, [.ref v10, .int 0, .int 0, .int 0])), (v10, .inl (cB, 16, .inl (fun _ => 0))), (y32, .inr (5, [.int 4, .int 4, .ref yw33, .ref yv34, .ref yh35, .int 0])), (yw33, .inl (cI, 4, .inl gw36)), (yv34, .inl (cI, 4, .inl gv37)), (yh35, .inl (cR, 4, .inr (.inr (.inr (.inr gh38))))), (y66, .inr (5, [.int 4, .int 4, .ref yw67, .ref yv68, .ref yh69, .int 1])), (yw67, .inl (cI, 4, .inl gw98)), (yv68, .inl (cI, 4, .inl gv99)), (yh69, .inl (cR, 4, .inr (.inr (.inr (.inr gh100))))), (am15, .inr (4, [.int mm79, .ref em45, .int 2])), (em45, .inl (cO, 10, .inr (.inr (.inr (.inr (va_up (va_up (fun _ => none) 0 (some a47)) 1 (some a80))))))), (a47, .inr (8, [.int 4, .ref wa48, .ref na49])), (wa48, .inl (cI, 4, .inl fw50)), (na49, .inl (cI, 4, .inl fn51)), (a80, .inr (8, [.int 4, .ref wa81, .ref na82])), (wa81, .inl (cI, 4, .inl fw107)), (na82, .inl (cI, 4, .inl fn108)), (q11, .inr (9, [.int 0, .ref am15, .int 0, .int 0, .int 0]))]) (w1 := [(q16, .inr (7, [.long ((2 : Int32).toInt64), .null])), (q1, .inr (6, [.ref al5, .int 0, .int 0, .int 0, .ref sa6, .ref sb7, .ref b8, .ref sc9])), (al5, .inr (4, [.int mc122, .ref ed30, .int 3])), (ed30, .inl (cO, 10, .inr (.inr (.inr (.inr (va_up (va_up (va_up (fun _ => none) 0 (some y32)) 1 (some y66)) 2 (some y123))))))), (y123, .inr (5, [.int 4, .int 4, .ref yw124, .ref yv125, .ref yh126, .int 2])), (yw124, .inl (cI, 4, .inl gw127)), (yv125, .inl (cI, 4, .inl gv128)), (yh126, .inl (cR, 4, .inr (.inr (.inr (.inr gh129)))))]) hP hD [2, 3, 4, 5] [0, 1, 6, 7, 8, 9, 10, 11, 12, 13, 14, 15, 16, 17, 18, 19, 20, 21, 22] rfl rfl (by decide) (by decide) hk1 hFc hP1 hD1
  clear hPc hDc hFc hDv hpre hP hD hP1 hK1 hD1
  obtain ⟨hP, hD⟩ := hPD9
  replace hz : s.heap.size + 42 ≤ H119.size := by omega
  clear hz2
  replace hP : va_P (dC, dI) vwCl [(b8, .inr (1, [.ref v10, .int 0, .int 0, .int 0])), (v10, .inl (cB, 16, .inl (fun _ => 0))), (y32, .inr (5, [.int 4, .int 4, .ref yw33, .ref yv34, .ref yh35, .int 0])), (yw33, .inl (cI, 4, .inl gw36)), (yv34, .inl (cI, 4, .inl gv37)), (yh35, .inl (cR, 4, .inr (.inr (.inr (.inr gh38))))), (y66, .inr (5, [.int 4, .int 4, .ref yw67, .ref yv68, .ref yh69, .int 1])), (yw67, .inl (cI, 4, .inl gw98)), (yv68, .inl (cI, 4, .inl gv99)), (yh69, .inl (cR, 4, .inr (.inr (.inr (.inr gh100))))), (am15, .inr (4, [.int mm79, .ref em45, .int 2])), (em45, .inl (cO, 10, .inr (.inr (.inr (.inr (va_up (va_up (fun _ => none) 0 (some a47)) 1 (some a80))))))), (a47, .inr (8, [.int 4, .ref wa48, .ref na49])), (wa48, .inl (cI, 4, .inl fw50)), (na49, .inl (cI, 4, .inl fn51)), (a80, .inr (8, [.int 4, .ref wa81, .ref na82])), (wa81, .inl (cI, 4, .inl fw107)), (na82, .inl (cI, 4, .inl fn108)), (q11, .inr (9, [.int 0, .ref am15, .int 0, .int 0, .int 0])), (q16, .inr (7, [.long ((2 : Int32).toInt64), .null])), (q1, .inr (6, [.ref al5, .int 0, .int 0, .int 0, .ref sa6, .ref sb7, .ref b8, .ref sc9])), (al5, .inr (4, [.int mc122, .ref ed30, .int 3])), (ed30, .inl (cO, 10, .inr (.inr (.inr (.inr (va_up (va_up (va_up (fun _ => none) 0 (some y32)) 1 (some y66)) 2 (some y123))))))), (y123, .inr (5, [.int 4, .int 4, .ref yw124, .ref yv125, .ref yh126, .int 2])), (yw124, .inl (cI, 4, .inl gw127)), (yv125, .inl (cI, 4, .inl gv128)), (yh126, .inl (cR, 4, .inr (.inr (.inr (.inr gh129)))))] H119 := hP
  replace hD : va_D A [(b8, .inr (1, [.ref v10, .int 0, .int 0, .int 0])), (v10, .inl (cB, 16, .inl (fun _ => 0))), (y32, .inr (5, [.int 4, .int 4, .ref yw33, .ref yv34, .ref yh35, .int 0])), (yw33, .inl (cI, 4, .inl gw36)), (yv34, .inl (cI, 4, .inl gv37)), (yh35, .inl (cR, 4, .inr (.inr (.inr (.inr gh38))))), (y66, .inr (5, [.int 4, .int 4, .ref yw67, .ref yv68, .ref yh69, .int 1])), (yw67, .inl (cI, 4, .inl gw98)), (yv68, .inl (cI, 4, .inl gv99)), (yh69, .inl (cR, 4, .inr (.inr (.inr (.inr gh100))))), (am15, .inr (4, [.int mm79, .ref em45, .int 2])), (em45, .inl (cO, 10, .inr (.inr (.inr (.inr (va_up (va_up (fun _ => none) 0 (some a47)) 1 (some a80))))))), (a47, .inr (8, [.int 4, .ref wa48, .ref na49])), (wa48, .inl (cI, 4, .inl fw50)), (na49, .inl (cI, 4, .inl fn51)), (a80, .inr (8, [.int 4, .ref wa81, .ref na82])), (wa81, .inl (cI, 4, .inl fw107)), (na82, .inl (cI, 4, .inl fn108)), (q11, .inr (9, [.int 0, .ref am15, .int 0, .int 0, .int 0])), (q16, .inr (7, [.long ((2 : Int32).toInt64), .null])), (q1, .inr (6, [.ref al5, .int 0, .int 0, .int 0, .ref sa6, .ref sb7, .ref b8, .ref sc9])), (al5, .inr (4, [.int mc122, .ref ed30, .int 3])), (ed30, .inl (cO, 10, .inr (.inr (.inr (.inr (va_up (va_up (va_up (fun _ => none) 0 (some y32)) 1 (some y66)) 2 (some y123))))))), (y123, .inr (5, [.int 4, .int 4, .ref yw124, .ref yv125, .ref yh126, .int 2])), (yw124, .inl (cI, 4, .inl gw127)), (yv125, .inl (cI, 4, .inl gv128)), (yh126, .inl (cR, 4, .inr (.inr (.inr (.inr gh129)))))] := hD
  refine W.widen (k := 44) (n := 195) (by omega) (by omega) ?_
  refine lv_istore (lv' := [(5, .int 0), (4, .int 15), (6, .int 2), (3, .ref q16), (2, .ref q11), (1, .ref q1), (0, .ref b)]) hx hb dL_law_201 hl (by decide) rfl (fun ls hl => ?_)
  refine lv_aload_n hx hb dL_law_203 rfl (lv_at hl 4 rfl) ?_
  refine lv_aload_n hx hb dL_law_204 rfl (lv_at hl 6 rfl) ?_
  refine lv_iload hx hb dL_law_205 (lv_at hl 1 rfl) ?_
  refine lv_iconst (v := 1) hx hb dL_law_207 (by decide) ?_
  refine lv_iadd hx hb dL_law_208 ?_
  refine lv_topi (fun v130 ev130 => ?_)
  obtain rfl : v130 = 16 := ev130.trans (by decide)
  refine va_sld hx hb hX hbl hbA hS (by unfold vp_in; decide) dL_law_209 ?_
  refine lv_topi (fun v131 ev131 => ?_)
  obtain rfl : v131 = 4 := ev131.trans (by decide)
  refine lv_aload_n hx hb dL_law_210 rfl (lv_at hl 6 rfl) ?_
  refine lv_iload hx hb dL_law_211 (lv_at hl 1 rfl) ?_
  refine lv_iconst (v := 2) hx hb dL_law_213 (by decide) ?_
  refine lv_iadd hx hb dL_law_214 ?_
  refine lv_topi (fun v132 ev132 => ?_)
  obtain rfl : v132 = 17 := ev132.trans (by decide)
  refine va_sld hx hb hX hbl hbA hS (by unfold vp_in; decide) dL_law_215 ?_
  refine lv_topi (fun v133 ev133 => ?_)
  obtain rfl : v133 = 4 := ev133.trans (by decide)
  have hPc := hP.sub (ws' := [(q11, .inr (9, [.int 0, .ref am15, .int 0, .int 0, .int 0])), (am15, .inr (4, [.int mm79, .ref em45, .int 2])), (em45, .inl (cO, 10, .inr (.inr (.inr (.inr (va_up (va_up (fun _ => none) 0 (some a47)) 1 (some a80)))))))]) [18, 10, 11] rfl
  have hDc := hD.sub (ws' := [(q11, .inr (9, [.int 0, .ref am15, .int 0, .int 0, .int 0])), (am15, .inr (4, [.int mm79, .ref em45, .int 2])), (em45, .inl (cO, 10, .inr (.inr (.inr (.inr (va_up (va_up (fun _ => none) 0 (some a47)) 1 (some a80)))))))]) [18, 10, 11] (by decide) rfl
  have hFc := va_free (wc := [(q11, .inr (9, [.int 0, .ref am15, .int 0, .int 0, .int 0])), (am15, .inr (4, [.int mm79, .ref em45, .int 2])), (em45, .inl (cO, 10, .inr (.inr (.inr (.inr (va_up (va_up (fun _ => none) 0 (some a47)) 1 (some a80)))))))]) hD hS hA [18, 10, 11] rfl
  have hDv := hDc.self (sz := H119.size)
  have hpre := zpre (xs' := []) (av := [.ref q11, .int 4, .int 4]) hPc hK (hDc.weaken (fun _ _ _ h => h)) hZ hS hFc (fun r hr => by cases hr)
  refine va_calli (va_runV (As := [.int 4, .int 4]) (rest := []) ⟨hx, hb, hml, hown, hts⟩ (k_mkM2 l dC dI cI cB cR cO zk q11 am15 (.int 0) (.int 0) (.int 0) (.int 0) em45 (va_up (va_up (fun _ => none) 0 (some a47)) 1 (some a80)) mm79 H119.size ) (cwV 2 hts gL_law_X4_make rfl rfl rfl (by decide +kernel) ⟨Nat.le_of_ble_eq_true rfl, Nat.le_of_ble_eq_true rfl⟩) ⟨zblind, (zrecv_9 hK hPc (q0 := 0) rfl), hpre⟩ rfl rfl hl.1 rfl (lv_room (Nat.le_of_ble_eq_true rfl)) dL_law_216 ⟨Nat.le_of_ble_eq_true rfl, Nat.le_of_ble_eq_true rfl⟩) hS (fun q _ h => hFc q h) hFc (fun r135 u t H134 locs ht hvm hw hB hz1 hk1 hS => ?_)
  obtain rfl : 2 = r135 := (show r135 = 2 from hw).symm
  obtain ⟨mm136, a137, wa138, na139, fw140, fn141, ⟨hP1, hK1, hD1, hz2⟩, hwfw140, hnfn141⟩ := hB
  rw [ht] at hP1 hz2
  have hPD9 := va_join (wr := [(b8, .inr (1, [.ref v10, .int 0, .int 0, .int 0])), (v10, .inl (cB, 16, .inl (fun _ => 0))), (y32, .inr (5, [.int 4, .int 4, .ref yw33, .ref yv34, .ref yh35, .int 0])), (yw33, .inl (cI, 4, .inl gw36)), (yv34, .inl (cI, 4, .inl gv37)), (yh35, .inl (cR, 4, .inr (.inr (.inr (.inr gh38))))), (y66, .inr (5, [.int 4, .int 4, .ref yw67, .ref yv68, .ref yh69, .int 1])), (yw67, .inl (cI, 4, .inl gw98)), (yv68, .inl (cI, 4, .inl gv99)), (yh69, .inl (cR, 4, .inr (.inr (.inr (.inr gh100))))), (a47, .inr (8, [.int 4, .ref wa48, .ref na49])), (wa48, .inl (cI, 4, .inl fw50)), (na49, .inl (cI, 4, .inl fn51)), (a80, .inr (8, [.int 4, .ref wa81, .ref na82])), (wa81, .inl (cI, 4, .inl fw107)), (na82, .inl (cI, 4, .inl fn108)), (q16, .inr (7, [.long ((2 : Int32).toInt64), .null])), (q1, .inr (6, [.ref al5, .int 0, .int 0, .int 0, .ref sa6, .ref sb7, .ref b8, .ref sc9])), (al5, .inr (4, [.int mc122, .ref ed30, .int 3])), (ed30, .inl (cO, 10, .inr (.inr (.inr (.inr (va_up (va_up (va_up (fun _ => none) 0 (some y32)) 1 (some y66)) 2 (some y123))))))), (y123, .inr (5, [.int 4, .int 4, .ref yw124, .ref yv125, .ref yh126, .int 2])), (yw124, .inl (cI, 4, .inl gw127)), (yv125, .inl (cI, 4, .inl gv128)), (yh126, .inl (cR, 4, .inr (.inr (.inr (.inr gh129)))))]) (w1 := [(q11, .inr (9, [.int 0, .ref am15, .int 0, .int 0, .int 0])), (am15, .inr (4, [.int mm136, .ref em45, .int 3])), (em45, .inl (cO, 10, .inr (.inr (.inr (.inr (va_up (va_up (va_up (fun _ => none) 0 (some a47)) 1 (some a80)) 2 (some a137))))))), (a137, .inr (8, [.int 4, .ref wa138, .ref na139])), (wa138, .inl (cI, 4, .inl fw140)), (na139, .inl (cI, 4, .inl fn141))]) hP hD [18, 10, 11] [0, 1, 2, 3, 4, 5, 6, 7, 8, 9, 12, 13, 14, 15, 16, 17, 19, 20, 21, 22, 23, 24, 25, 26] rfl rfl (by decide) (by decide) hk1 hFc hP1 hD1
  clear hPc hDc hFc hDv hpre hP hD hP1 hK1 hD1
  obtain ⟨hP, hD⟩ := hPD9
  replace hz : s.heap.size + 45 ≤ H134.size := by omega
  clear hz2
  replace hP : va_P (dC, dI) vwCl [(b8, .inr (1, [.ref v10, .int 0, .int 0, .int 0])), (v10, .inl (cB, 16, .inl (fun _ => 0))), (y32, .inr (5, [.int 4, .int 4, .ref yw33, .ref yv34, .ref yh35, .int 0])), (yw33, .inl (cI, 4, .inl gw36)), (yv34, .inl (cI, 4, .inl gv37)), (yh35, .inl (cR, 4, .inr (.inr (.inr (.inr gh38))))), (y66, .inr (5, [.int 4, .int 4, .ref yw67, .ref yv68, .ref yh69, .int 1])), (yw67, .inl (cI, 4, .inl gw98)), (yv68, .inl (cI, 4, .inl gv99)), (yh69, .inl (cR, 4, .inr (.inr (.inr (.inr gh100))))), (a47, .inr (8, [.int 4, .ref wa48, .ref na49])), (wa48, .inl (cI, 4, .inl fw50)), (na49, .inl (cI, 4, .inl fn51)), (a80, .inr (8, [.int 4, .ref wa81, .ref na82])), (wa81, .inl (cI, 4, .inl fw107)), (na82, .inl (cI, 4, .inl fn108)), (q16, .inr (7, [.long ((2 : Int32).toInt64), .null])), (q1, .inr (6, [.ref al5, .int 0, .int 0, .int 0, .ref sa6, .ref sb7, .ref b8, .ref sc9])), (al5, .inr (4, [.int mc122, .ref ed30, .int 3])), (ed30, .inl (cO, 10, .inr (.inr (.inr (.inr (va_up (va_up (va_up (fun _ => none) 0 (some y32)) 1 (some y66)) 2 (some y123))))))), (y123, .inr (5, [.int 4, .int 4, .ref yw124, .ref yv125, .ref yh126, .int 2])), (yw124, .inl (cI, 4, .inl gw127)), (yv125, .inl (cI, 4, .inl gv128)), (yh126, .inl (cR, 4, .inr (.inr (.inr (.inr gh129))))), (q11, .inr (9, [.int 0, .ref am15, .int 0, .int 0, .int 0])), (am15, .inr (4, [.int mm136, .ref em45, .int 3])), (em45, .inl (cO, 10, .inr (.inr (.inr (.inr (va_up (va_up (va_up (fun _ => none) 0 (some a47)) 1 (some a80)) 2 (some a137))))))), (a137, .inr (8, [.int 4, .ref wa138, .ref na139])), (wa138, .inl (cI, 4, .inl fw140)), (na139, .inl (cI, 4, .inl fn141))] H134 := hP
  replace hD : va_D A [(b8, .inr (1, [.ref v10, .int 0, .int 0, .int 0])), (v10, .inl (cB, 16, .inl (fun _ => 0))), (y32, .inr (5, [.int 4, .int 4, .ref yw33, .ref yv34, .ref yh35, .int 0])), (yw33, .inl (cI, 4, .inl gw36)), (yv34, .inl (cI, 4, .inl gv37)), (yh35, .inl (cR, 4, .inr (.inr (.inr (.inr gh38))))), (y66, .inr (5, [.int 4, .int 4, .ref yw67, .ref yv68, .ref yh69, .int 1])), (yw67, .inl (cI, 4, .inl gw98)), (yv68, .inl (cI, 4, .inl gv99)), (yh69, .inl (cR, 4, .inr (.inr (.inr (.inr gh100))))), (a47, .inr (8, [.int 4, .ref wa48, .ref na49])), (wa48, .inl (cI, 4, .inl fw50)), (na49, .inl (cI, 4, .inl fn51)), (a80, .inr (8, [.int 4, .ref wa81, .ref na82])), (wa81, .inl (cI, 4, .inl fw107)), (na82, .inl (cI, 4, .inl fn108)), (q16, .inr (7, [.long ((2 : Int32).toInt64), .null])), (q1, .inr (6, [.ref al5, .int 0, .int 0, .int 0, .ref sa6, .ref sb7, .ref b8, .ref sc9])), (al5, .inr (4, [.int mc122, .ref ed30, .int 3])), (ed30, .inl (cO, 10, .inr (.inr (.inr (.inr (va_up (va_up (va_up (fun _ => none) 0 (some y32)) 1 (some y66)) 2 (some y123))))))), (y123, .inr (5, [.int 4, .int 4, .ref yw124, .ref yv125, .ref yh126, .int 2])), (yw124, .inl (cI, 4, .inl gw127)), (yv125, .inl (cI, 4, .inl gv128)), (yh126, .inl (cR, 4, .inr (.inr (.inr (.inr gh129))))), (q11, .inr (9, [.int 0, .ref am15, .int 0, .int 0, .int 0])), (am15, .inr (4, [.int mm136, .ref em45, .int 3])), (em45, .inl (cO, 10, .inr (.inr (.inr (.inr (va_up (va_up (va_up (fun _ => none) 0 (some a47)) 1 (some a80)) 2 (some a137))))))), (a137, .inr (8, [.int 4, .ref wa138, .ref na139])), (wa138, .inl (cI, 4, .inl fw140)), (na139, .inl (cI, 4, .inl fn141))] := hD
  refine W.widen (k := 47) (n := 206) (by omega) (by omega) ?_
  refine lv_istore (lv' := [(6, .int 2), (5, .int 0), (4, .int 15), (3, .ref q16), (2, .ref q11), (1, .ref q1), (0, .ref b)]) hx hb dL_law_219 hl (by decide) rfl (fun ls hl => ?_)
  refine lv_aload_n hx hb dL_law_221 rfl (lv_at hl 4 rfl) ?_
  have hPc := hP.sub (ws' := [(q11, .inr (9, [.int 0, .ref am15, .int 0, .int 0, .int 0]))]) [24] rfl
  have hDc := hD.sub (ws' := [(q11, .inr (9, [.int 0, .ref am15, .int 0, .int 0, .int 0]))]) [24] (by decide) rfl
  have hFc := va_free (wc := [(q11, .inr (9, [.int 0, .ref am15, .int 0, .int 0, .int 0]))]) hD hS hA [24] rfl
  have hDv := hDc.self (sz := H134.size)
  have hpre := zpre (xs' := []) (av := [.ref q11]) hPc hK (hDc.weaken (fun _ _ _ h => h)) hZ hS hFc (fun r hr => by cases hr)
  refine va_calli (va_runV (As := []) (rest := []) ⟨hx, hb, hml, hown, hts⟩ (k_thM l dC dI cI cB cR cO zk q11 (.int 0) (.int 0) (.int 0) am15 H134.size ) (cwV 0 hts gL_law_X4_thrown rfl rfl rfl (by decide +kernel) ⟨Nat.le_of_ble_eq_true rfl, Nat.le_of_ble_eq_true rfl⟩) ⟨zblind, (zrecv_9 hK hPc (q0 := 0) rfl), hpre⟩ rfl rfl hl.1 rfl (lv_room (Nat.le_of_ble_eq_true rfl)) dL_law_222 ⟨Nat.le_of_ble_eq_true rfl, Nat.le_of_ble_eq_true rfl⟩) hS (fun q _ h => hFc q h) hFc (fun r143 u t H142 locs ht hvm hw hB hz1 hk1 hS => ?_)
  obtain rfl : 0 = r143 := (show r143 = 0 from hw).symm
  obtain ⟨hP1, hK1, hD1, hz2⟩ := hB
  rw [ht] at hP1 hz2
  have hPD9 := va_join (wr := [(b8, .inr (1, [.ref v10, .int 0, .int 0, .int 0])), (v10, .inl (cB, 16, .inl (fun _ => 0))), (y32, .inr (5, [.int 4, .int 4, .ref yw33, .ref yv34, .ref yh35, .int 0])), (yw33, .inl (cI, 4, .inl gw36)), (yv34, .inl (cI, 4, .inl gv37)), (yh35, .inl (cR, 4, .inr (.inr (.inr (.inr gh38))))), (y66, .inr (5, [.int 4, .int 4, .ref yw67, .ref yv68, .ref yh69, .int 1])), (yw67, .inl (cI, 4, .inl gw98)), (yv68, .inl (cI, 4, .inl gv99)), (yh69, .inl (cR, 4, .inr (.inr (.inr (.inr gh100))))), (a47, .inr (8, [.int 4, .ref wa48, .ref na49])), (wa48, .inl (cI, 4, .inl fw50)), (na49, .inl (cI, 4, .inl fn51)), (a80, .inr (8, [.int 4, .ref wa81, .ref na82])), (wa81, .inl (cI, 4, .inl fw107)), (na82, .inl (cI, 4, .inl fn108)), (q16, .inr (7, [.long ((2 : Int32).toInt64), .null])), (q1, .inr (6, [.ref al5, .int 0, .int 0, .int 0, .ref sa6, .ref sb7, .ref b8, .ref sc9])), (al5, .inr (4, [.int mc122, .ref ed30, .int 3])), (ed30, .inl (cO, 10, .inr (.inr (.inr (.inr (va_up (va_up (va_up (fun _ => none) 0 (some y32)) 1 (some y66)) 2 (some y123))))))), (y123, .inr (5, [.int 4, .int 4, .ref yw124, .ref yv125, .ref yh126, .int 2])), (yw124, .inl (cI, 4, .inl gw127)), (yv125, .inl (cI, 4, .inl gv128)), (yh126, .inl (cR, 4, .inr (.inr (.inr (.inr gh129))))), (am15, .inr (4, [.int mm136, .ref em45, .int 3])), (em45, .inl (cO, 10, .inr (.inr (.inr (.inr (va_up (va_up (va_up (fun _ => none) 0 (some a47)) 1 (some a80)) 2 (some a137))))))), (a137, .inr (8, [.int 4, .ref wa138, .ref na139])), (wa138, .inl (cI, 4, .inl fw140)), (na139, .inl (cI, 4, .inl fn141))]) (w1 := [(q11, .inr (9, [.int 0, .ref am15, .int 0, .int 0, .int 0]))]) hP hD [24] [0, 1, 2, 3, 4, 5, 6, 7, 8, 9, 10, 11, 12, 13, 14, 15, 16, 17, 18, 19, 20, 21, 22, 23, 25, 26, 27, 28, 29] rfl rfl (by decide) (by decide) hk1 hFc hP1 hD1
  clear hPc hDc hFc hDv hpre hP hD hP1 hK1 hD1
  obtain ⟨hP, hD⟩ := hPD9
  replace hz : s.heap.size + 45 ≤ H142.size := by omega
  clear hz2
  replace hP : va_P (dC, dI) vwCl [(b8, .inr (1, [.ref v10, .int 0, .int 0, .int 0])), (v10, .inl (cB, 16, .inl (fun _ => 0))), (y32, .inr (5, [.int 4, .int 4, .ref yw33, .ref yv34, .ref yh35, .int 0])), (yw33, .inl (cI, 4, .inl gw36)), (yv34, .inl (cI, 4, .inl gv37)), (yh35, .inl (cR, 4, .inr (.inr (.inr (.inr gh38))))), (y66, .inr (5, [.int 4, .int 4, .ref yw67, .ref yv68, .ref yh69, .int 1])), (yw67, .inl (cI, 4, .inl gw98)), (yv68, .inl (cI, 4, .inl gv99)), (yh69, .inl (cR, 4, .inr (.inr (.inr (.inr gh100))))), (a47, .inr (8, [.int 4, .ref wa48, .ref na49])), (wa48, .inl (cI, 4, .inl fw50)), (na49, .inl (cI, 4, .inl fn51)), (a80, .inr (8, [.int 4, .ref wa81, .ref na82])), (wa81, .inl (cI, 4, .inl fw107)), (na82, .inl (cI, 4, .inl fn108)), (q16, .inr (7, [.long ((2 : Int32).toInt64), .null])), (q1, .inr (6, [.ref al5, .int 0, .int 0, .int 0, .ref sa6, .ref sb7, .ref b8, .ref sc9])), (al5, .inr (4, [.int mc122, .ref ed30, .int 3])), (ed30, .inl (cO, 10, .inr (.inr (.inr (.inr (va_up (va_up (va_up (fun _ => none) 0 (some y32)) 1 (some y66)) 2 (some y123))))))), (y123, .inr (5, [.int 4, .int 4, .ref yw124, .ref yv125, .ref yh126, .int 2])), (yw124, .inl (cI, 4, .inl gw127)), (yv125, .inl (cI, 4, .inl gv128)), (yh126, .inl (cR, 4, .inr (.inr (.inr (.inr gh129))))), (am15, .inr (4, [.int mm136, .ref em45, .int 3])), (em45, .inl (cO, 10, .inr (.inr (.inr (.inr (va_up (va_up (va_up (fun _ => none) 0 (some a47)) 1 (some a80)) 2 (some a137))))))), (a137, .inr (8, [.int 4, .ref wa138, .ref na139])), (wa138, .inl (cI, 4, .inl fw140)), (na139, .inl (cI, 4, .inl fn141)), (q11, .inr (9, [.int 0, .ref am15, .int 0, .int 0, .int 0]))] H142 := hP
  replace hD : va_D A [(b8, .inr (1, [.ref v10, .int 0, .int 0, .int 0])), (v10, .inl (cB, 16, .inl (fun _ => 0))), (y32, .inr (5, [.int 4, .int 4, .ref yw33, .ref yv34, .ref yh35, .int 0])), (yw33, .inl (cI, 4, .inl gw36)), (yv34, .inl (cI, 4, .inl gv37)), (yh35, .inl (cR, 4, .inr (.inr (.inr (.inr gh38))))), (y66, .inr (5, [.int 4, .int 4, .ref yw67, .ref yv68, .ref yh69, .int 1])), (yw67, .inl (cI, 4, .inl gw98)), (yv68, .inl (cI, 4, .inl gv99)), (yh69, .inl (cR, 4, .inr (.inr (.inr (.inr gh100))))), (a47, .inr (8, [.int 4, .ref wa48, .ref na49])), (wa48, .inl (cI, 4, .inl fw50)), (na49, .inl (cI, 4, .inl fn51)), (a80, .inr (8, [.int 4, .ref wa81, .ref na82])), (wa81, .inl (cI, 4, .inl fw107)), (na82, .inl (cI, 4, .inl fn108)), (q16, .inr (7, [.long ((2 : Int32).toInt64), .null])), (q1, .inr (6, [.ref al5, .int 0, .int 0, .int 0, .ref sa6, .ref sb7, .ref b8, .ref sc9])), (al5, .inr (4, [.int mc122, .ref ed30, .int 3])), (ed30, .inl (cO, 10, .inr (.inr (.inr (.inr (va_up (va_up (va_up (fun _ => none) 0 (some y32)) 1 (some y66)) 2 (some y123))))))), (y123, .inr (5, [.int 4, .int 4, .ref yw124, .ref yv125, .ref yh126, .int 2])), (yw124, .inl (cI, 4, .inl gw127)), (yv125, .inl (cI, 4, .inl gv128)), (yh126, .inl (cR, 4, .inr (.inr (.inr (.inr gh129))))), (am15, .inr (4, [.int mm136, .ref em45, .int 3])), (em45, .inl (cO, 10, .inr (.inr (.inr (.inr (va_up (va_up (va_up (fun _ => none) 0 (some a47)) 1 (some a80)) 2 (some a137))))))), (a137, .inr (8, [.int 4, .ref wa138, .ref na139])), (wa138, .inl (cI, 4, .inl fw140)), (na139, .inl (cI, 4, .inl fn141)), (q11, .inr (9, [.int 0, .ref am15, .int 0, .int 0, .int 0]))] := hD
  refine W.widen (k := 47) (n := 206) (by omega) (by omega) ?_
  refine lv_iload hx hb dL_law_225 (lv_at hl 1 rfl) ?_
  refine lv_icmp_eq (tgt := 232) hx hb dL_law_227 (by decide) (fun c9 => ?_) (fun c9 => ?_)
  rotate_left
  · exact absurd (by decide) c9
  refine lv_iload hx hb dL_law_232 (lv_at hl 1 rfl) ?_
  refine lv_if_ne (tgt := 250) hx hb dL_law_234 (by decide) (fun c9 => ?_) (fun c9 => ?_)
  · exact absurd (by decide) c9
  refine lv_aload_n hx hb dL_law_237 rfl (lv_at hl 3 rfl) ?_
  refine va_getN (D := (dC, dI)) (ci := 7) (v := .long ((2 : Int32).toInt64)) (C := RX2) (T := TX2) (N := 2) hx hb hts inlX2 hown hK hP 16 rfl rfl 0 (by decide) (zn6 hZ) (fun _ h9 => h9) rfl dL_law_238 ?_
  refine lv_iload hx hb dL_law_241 (lv_at hl 0 rfl) ?_
  refine lv_i2l (v := (2 : Int32).toInt64) hx hb dL_law_243 rfl ?_
  refine W.lcmp hx hb dL_law_244 ?_
  refine lv_topi (fun v144 ev144 => ?_)
  obtain rfl : v144 = 0 := ev144.trans (by decide)
  refine lv_if_eq (tgt := 250) hx hb dL_law_245 (by decide) (fun c9 => ?_) (fun c9 => ?_)
  rotate_left
  · exact absurd (by decide) c9
  refine lv_goto (tgt := 2155) hx hb dL_law_250 (by decide) ?_
  refine lv_iinc (v := 20) (lv' := [(4, .int 20), (6, .int 2), (5, .int 0), (3, .ref q16), (2, .ref q11), (1, .ref q1), (0, .ref b)]) hx hb dL_law_2155 hl (k := 2) rfl (by decide) (by decide) rfl (fun ls hl => ?_)
  refine lv_goto (tgt := 27) hx hb dL_law_2158 (by decide) ?_
  refine lv_iload hx hb dL_law_27 (lv_at hl 0 rfl) ?_
  refine lv_aload_n hx hb dL_law_29 rfl (lv_at hl 6 rfl) ?_
  refine va_slen hx hb hX hbl hbA hS dL_law_30 ?_
  refine W.eq (g2 := F0 mY 31 ls [.int 1835, .int 20]) rfl ?_
  refine lv_iconst (v := 5) hx hb dL_law_31 (by decide) ?_
  refine lv_isub hx hb dL_law_32 ?_
  refine lv_topi (fun v145 ev145 => ?_)
  obtain rfl : v145 = 1830 := ev145.trans (by decide)
  refine lv_icmp_gt (tgt := 2161) hx hb dL_law_33 (by decide) (fun c9 => ?_) (fun c9 => ?_)
  · exact absurd c9 (by decide)
  refine lv_aload_n hx hb dL_law_36 rfl (lv_at hl 6 rfl) ?_
  refine lv_iload hx hb dL_law_37 (lv_at hl 0 rfl) ?_
  refine va_sld hx hb hX hbl hbA hS (by unfold vp_in; decide) dL_law_39 ?_
  refine lv_topi (fun v146 ev146 => ?_)
  obtain rfl : v146 = 9 := ev146.trans (by decide)
  refine lv_bipush (v := 31) hx hb dL_law_40 (by decide) ?_
  refine lv_iand hx hb dL_law_42 ?_
  refine lv_topi (fun v147 ev147 => ?_)
  obtain rfl : v147 = 9 := ev147.trans (by decide)
  refine lv_tableIn (off := 730) (tgt := 773) hx hb dL_law_43 (by decide) (by decide) (by decide) (by decide) ?_
  refine lv_aload_n hx hb dL_law_773 rfl (lv_at hl 5 rfl) ?_
  refine lv_aload_n hx hb dL_law_774 rfl (lv_at hl 6 rfl) ?_
  refine lv_iload hx hb dL_law_775 (lv_at hl 0 rfl) ?_
  refine lv_iconst (v := 1) hx hb dL_law_777 (by decide) ?_
  refine lv_iadd hx hb dL_law_778 ?_
  refine lv_topi (fun v148 ev148 => ?_)
  obtain rfl : v148 = 21 := ev148.trans (by decide)
  refine va_sld hx hb hX hbl hbA hS (by unfold vp_in; decide) dL_law_779 ?_
  refine lv_topi (fun v149 ev149 => ?_)
  obtain rfl : v149 = 2 := ev149.trans (by decide)
  refine lv_aload_n hx hb dL_law_780 rfl (lv_at hl 6 rfl) ?_
  refine lv_iload hx hb dL_law_781 (lv_at hl 0 rfl) ?_
  refine lv_iconst (v := 2) hx hb dL_law_783 (by decide) ?_
  refine lv_iadd hx hb dL_law_784 ?_
  refine lv_topi (fun v150 ev150 => ?_)
  obtain rfl : v150 = 22 := ev150.trans (by decide)
  refine va_sld hx hb hX hbl hbA hS (by unfold vp_in; decide) dL_law_785 ?_
  refine lv_topi (fun v151 ev151 => ?_)
  obtain rfl : v151 = 1 := ev151.trans (by decide)
  refine lv_aload_n hx hb dL_law_786 rfl (lv_at hl 3 rfl) ?_
  have hPc := hP.sub (ws' := [(q16, .inr (7, [.long ((2 : Int32).toInt64), .null])), (q1, .inr (6, [.ref al5, .int 0, .int 0, .int 0, .ref sa6, .ref sb7, .ref b8, .ref sc9])), (al5, .inr (4, [.int mc122, .ref ed30, .int 3])), (ed30, .inl (cO, 10, .inr (.inr (.inr (.inr (va_up (va_up (va_up (fun _ => none) 0 (some y32)) 1 (some y66)) 2 (some y123))))))), (y32, .inr (5, [.int 4, .int 4, .ref yw33, .ref yv34, .ref yh35, .int 0])), (yw33, .inl (cI, 4, .inl gw36)), (yv34, .inl (cI, 4, .inl gv37)), (yh35, .inl (cR, 4, .inr (.inr (.inr (.inr gh38))))), (y66, .inr (5, [.int 4, .int 4, .ref yw67, .ref yv68, .ref yh69, .int 1])), (yw67, .inl (cI, 4, .inl gw98)), (yv68, .inl (cI, 4, .inl gv99)), (yh69, .inl (cR, 4, .inr (.inr (.inr (.inr gh100))))), (y123, .inr (5, [.int 4, .int 4, .ref yw124, .ref yv125, .ref yh126, .int 2])), (yw124, .inl (cI, 4, .inl gw127)), (yv125, .inl (cI, 4, .inl gv128)), (yh126, .inl (cR, 4, .inr (.inr (.inr (.inr gh129)))))]) [16, 17, 18, 19, 2, 3, 4, 5, 6, 7, 8, 9, 20, 21, 22, 23] rfl
  have hDc := hD.sub (ws' := [(q16, .inr (7, [.long ((2 : Int32).toInt64), .null])), (q1, .inr (6, [.ref al5, .int 0, .int 0, .int 0, .ref sa6, .ref sb7, .ref b8, .ref sc9])), (al5, .inr (4, [.int mc122, .ref ed30, .int 3])), (ed30, .inl (cO, 10, .inr (.inr (.inr (.inr (va_up (va_up (va_up (fun _ => none) 0 (some y32)) 1 (some y66)) 2 (some y123))))))), (y32, .inr (5, [.int 4, .int 4, .ref yw33, .ref yv34, .ref yh35, .int 0])), (yw33, .inl (cI, 4, .inl gw36)), (yv34, .inl (cI, 4, .inl gv37)), (yh35, .inl (cR, 4, .inr (.inr (.inr (.inr gh38))))), (y66, .inr (5, [.int 4, .int 4, .ref yw67, .ref yv68, .ref yh69, .int 1])), (yw67, .inl (cI, 4, .inl gw98)), (yv68, .inl (cI, 4, .inl gv99)), (yh69, .inl (cR, 4, .inr (.inr (.inr (.inr gh100))))), (y123, .inr (5, [.int 4, .int 4, .ref yw124, .ref yv125, .ref yh126, .int 2])), (yw124, .inl (cI, 4, .inl gw127)), (yv125, .inl (cI, 4, .inl gv128)), (yh126, .inl (cR, 4, .inr (.inr (.inr (.inr gh129)))))]) [16, 17, 18, 19, 2, 3, 4, 5, 6, 7, 8, 9, 20, 21, 22, 23] (by decide) rfl
  have hFc := va_free (wc := [(q16, .inr (7, [.long ((2 : Int32).toInt64), .null])), (q1, .inr (6, [.ref al5, .int 0, .int 0, .int 0, .ref sa6, .ref sb7, .ref b8, .ref sc9])), (al5, .inr (4, [.int mc122, .ref ed30, .int 3])), (ed30, .inl (cO, 10, .inr (.inr (.inr (.inr (va_up (va_up (va_up (fun _ => none) 0 (some y32)) 1 (some y66)) 2 (some y123))))))), (y32, .inr (5, [.int 4, .int 4, .ref yw33, .ref yv34, .ref yh35, .int 0])), (yw33, .inl (cI, 4, .inl gw36)), (yv34, .inl (cI, 4, .inl gv37)), (yh35, .inl (cR, 4, .inr (.inr (.inr (.inr gh38))))), (y66, .inr (5, [.int 4, .int 4, .ref yw67, .ref yv68, .ref yh69, .int 1])), (yw67, .inl (cI, 4, .inl gw98)), (yv68, .inl (cI, 4, .inl gv99)), (yh69, .inl (cR, 4, .inr (.inr (.inr (.inr gh100))))), (y123, .inr (5, [.int 4, .int 4, .ref yw124, .ref yv125, .ref yh126, .int 2])), (yw124, .inl (cI, 4, .inl gw127)), (yv125, .inl (cI, 4, .inl gv128)), (yh126, .inl (cR, 4, .inr (.inr (.inr (.inr gh129)))))]) hD hS hA [16, 17, 18, 19, 2, 3, 4, 5, 6, 7, 8, 9, 20, 21, 22, 23] rfl
  have hDv := hDc.self (sz := H142.size)
  have hpre := zpre (xs' := []) (av := [.ref q1, .int 2, .int 1, .ref q16]) hPc hK (hDc.weaken (fun _ _ _ h => h)) hZ hS hFc (fun r hr => by cases hr)
  refine va_calli (vx_runSW (As := [.ref q1, .int 2, .int 1, .ref q16]) (rest := []) ⟨hx, hb, hml, hown, hts⟩ (k_LfX2 l dC dI cI cB cR cO zk q1 al5 b8 (.int 0) (.int 0) (.int 0) (.ref sa6) (.ref sb7) (.ref sc9) ed30 (va_up (va_up (va_up (fun _ => none) 0 (some y32)) 1 (some y66)) 2 (some y123)) (.int mc122) y32 yw33 yv34 yh35 y66 yw67 yv68 yh69 0 1 gw36 gv37 gw98 gv99 gh38 gh100 y123 yw124 yv125 yh126 2 gw127 gv128 gh129 q16 (.long ((2 : Int32).toInt64)) .null H142.size rfl rfl rfl hwgw36 hhgh38 hhgh100) (vx_cwSW 4 hts gL_law_L_fillRow rfl rfl rfl (by decide +kernel) ⟨Nat.le_of_ble_eq_true rfl, Nat.le_of_ble_eq_true rfl⟩) ⟨zblind, hpre⟩ rfl rfl hl.1 rfl (lv_room (Nat.le_of_ble_eq_true rfl)) dL_law_787 ⟨Nat.le_of_ble_eq_true rfl, Nat.le_of_ble_eq_true rfl⟩) hS (fun q _ h => hFc q h) hFc (fun r153 u t H152 locs ht hvm hw hB hz1 hk1 hS => ?_)
  obtain rfl : 0 = r153 := (show r153 = 0 from hw).symm
  obtain ⟨on154, gw155, gv156, gh157, ⟨hP1, hK1, hD1, hz2⟩, hhgh157, rfl⟩ := hB
  rw [ht] at hP1 hz2
  have hPD9 := va_join (wr := [(b8, .inr (1, [.ref v10, .int 0, .int 0, .int 0])), (v10, .inl (cB, 16, .inl (fun _ => 0))), (a47, .inr (8, [.int 4, .ref wa48, .ref na49])), (wa48, .inl (cI, 4, .inl fw50)), (na49, .inl (cI, 4, .inl fn51)), (a80, .inr (8, [.int 4, .ref wa81, .ref na82])), (wa81, .inl (cI, 4, .inl fw107)), (na82, .inl (cI, 4, .inl fn108)), (am15, .inr (4, [.int mm136, .ref em45, .int 3])), (em45, .inl (cO, 10, .inr (.inr (.inr (.inr (va_up (va_up (va_up (fun _ => none) 0 (some a47)) 1 (some a80)) 2 (some a137))))))), (a137, .inr (8, [.int 4, .ref wa138, .ref na139])), (wa138, .inl (cI, 4, .inl fw140)), (na139, .inl (cI, 4, .inl fn141)), (q11, .inr (9, [.int 0, .ref am15, .int 0, .int 0, .int 0]))]) (w1 := [(q16, .inr (7, [.long ((3 : Int32).toInt64), .null])), (q1, .inr (6, [.ref al5, .int 0, .int 0, .int 0, .ref sa6, .ref sb7, .ref b8, .ref sc9])), (al5, .inr (4, [.int mc122, .ref ed30, .int 3])), (ed30, .inl (cO, 10, .inr (.inr (.inr (.inr (va_up (va_up (va_up (fun _ => none) 0 (some y32)) 1 (some y66)) 2 (some y123))))))), (y32, .inr (5, [.int 4, .int 4, .ref yw33, .ref yv34, .ref yh35, .int 0])), (yw33, .inl (cI, 4, .inl gw36)), (yv34, .inl (cI, 4, .inl gv37)), (yh35, .inl (cR, 4, .inr (.inr (.inr (.inr gh38))))), (y66, .inr (5, [.int 4, .int 4, .ref yw67, .ref yv68, .ref yh69, .int 1])), (yw67, .inl (cI, 4, .inl gw98)), (yv68, .inl (cI, 4, .inl gv99)), (yh69, .inl (cR, 4, .inr (.inr (.inr (.inr gh100))))), (y123, .inr (5, [.int 4, .int 4, .ref yw124, .ref yv125, .ref yh126, .int 2])), (yw124, .inl (cI, 4, .inl gw155)), (yv125, .inl (cI, 4, .inl gv156)), (yh126, .inl (cR, 4, .inr (.inr (.inr (.inr gh157)))))]) hP hD [16, 17, 18, 19, 2, 3, 4, 5, 6, 7, 8, 9, 20, 21, 22, 23] [0, 1, 10, 11, 12, 13, 14, 15, 24, 25, 26, 27, 28, 29] rfl rfl (by decide) (by decide) hk1 hFc hP1 hD1
  clear hPc hDc hFc hDv hpre hP hD hP1 hK1 hD1
  obtain ⟨hP, hD⟩ := hPD9
  replace hz : s.heap.size + 45 ≤ H152.size := by omega
  clear hz2
  replace hP : va_P (dC, dI) vwCl [(b8, .inr (1, [.ref v10, .int 0, .int 0, .int 0])), (v10, .inl (cB, 16, .inl (fun _ => 0))), (a47, .inr (8, [.int 4, .ref wa48, .ref na49])), (wa48, .inl (cI, 4, .inl fw50)), (na49, .inl (cI, 4, .inl fn51)), (a80, .inr (8, [.int 4, .ref wa81, .ref na82])), (wa81, .inl (cI, 4, .inl fw107)), (na82, .inl (cI, 4, .inl fn108)), (am15, .inr (4, [.int mm136, .ref em45, .int 3])), (em45, .inl (cO, 10, .inr (.inr (.inr (.inr (va_up (va_up (va_up (fun _ => none) 0 (some a47)) 1 (some a80)) 2 (some a137))))))), (a137, .inr (8, [.int 4, .ref wa138, .ref na139])), (wa138, .inl (cI, 4, .inl fw140)), (na139, .inl (cI, 4, .inl fn141)), (q11, .inr (9, [.int 0, .ref am15, .int 0, .int 0, .int 0])), (q16, .inr (7, [.long ((3 : Int32).toInt64), .null])), (q1, .inr (6, [.ref al5, .int 0, .int 0, .int 0, .ref sa6, .ref sb7, .ref b8, .ref sc9])), (al5, .inr (4, [.int mc122, .ref ed30, .int 3])), (ed30, .inl (cO, 10, .inr (.inr (.inr (.inr (va_up (va_up (va_up (fun _ => none) 0 (some y32)) 1 (some y66)) 2 (some y123))))))), (y32, .inr (5, [.int 4, .int 4, .ref yw33, .ref yv34, .ref yh35, .int 0])), (yw33, .inl (cI, 4, .inl gw36)), (yv34, .inl (cI, 4, .inl gv37)), (yh35, .inl (cR, 4, .inr (.inr (.inr (.inr gh38))))), (y66, .inr (5, [.int 4, .int 4, .ref yw67, .ref yv68, .ref yh69, .int 1])), (yw67, .inl (cI, 4, .inl gw98)), (yv68, .inl (cI, 4, .inl gv99)), (yh69, .inl (cR, 4, .inr (.inr (.inr (.inr gh100))))), (y123, .inr (5, [.int 4, .int 4, .ref yw124, .ref yv125, .ref yh126, .int 2])), (yw124, .inl (cI, 4, .inl gw155)), (yv125, .inl (cI, 4, .inl gv156)), (yh126, .inl (cR, 4, .inr (.inr (.inr (.inr gh157)))))] H152 := hP
  replace hD : va_D A [(b8, .inr (1, [.ref v10, .int 0, .int 0, .int 0])), (v10, .inl (cB, 16, .inl (fun _ => 0))), (a47, .inr (8, [.int 4, .ref wa48, .ref na49])), (wa48, .inl (cI, 4, .inl fw50)), (na49, .inl (cI, 4, .inl fn51)), (a80, .inr (8, [.int 4, .ref wa81, .ref na82])), (wa81, .inl (cI, 4, .inl fw107)), (na82, .inl (cI, 4, .inl fn108)), (am15, .inr (4, [.int mm136, .ref em45, .int 3])), (em45, .inl (cO, 10, .inr (.inr (.inr (.inr (va_up (va_up (va_up (fun _ => none) 0 (some a47)) 1 (some a80)) 2 (some a137))))))), (a137, .inr (8, [.int 4, .ref wa138, .ref na139])), (wa138, .inl (cI, 4, .inl fw140)), (na139, .inl (cI, 4, .inl fn141)), (q11, .inr (9, [.int 0, .ref am15, .int 0, .int 0, .int 0])), (q16, .inr (7, [.long ((3 : Int32).toInt64), .null])), (q1, .inr (6, [.ref al5, .int 0, .int 0, .int 0, .ref sa6, .ref sb7, .ref b8, .ref sc9])), (al5, .inr (4, [.int mc122, .ref ed30, .int 3])), (ed30, .inl (cO, 10, .inr (.inr (.inr (.inr (va_up (va_up (va_up (fun _ => none) 0 (some y32)) 1 (some y66)) 2 (some y123))))))), (y32, .inr (5, [.int 4, .int 4, .ref yw33, .ref yv34, .ref yh35, .int 0])), (yw33, .inl (cI, 4, .inl gw36)), (yv34, .inl (cI, 4, .inl gv37)), (yh35, .inl (cR, 4, .inr (.inr (.inr (.inr gh38))))), (y66, .inr (5, [.int 4, .int 4, .ref yw67, .ref yv68, .ref yh69, .int 1])), (yw67, .inl (cI, 4, .inl gw98)), (yv68, .inl (cI, 4, .inl gv99)), (yh69, .inl (cR, 4, .inr (.inr (.inr (.inr gh100))))), (y123, .inr (5, [.int 4, .int 4, .ref yw124, .ref yv125, .ref yh126, .int 2])), (yw124, .inl (cI, 4, .inl gw155)), (yv125, .inl (cI, 4, .inl gv156)), (yh126, .inl (cR, 4, .inr (.inr (.inr (.inr gh157)))))] := hD
  refine W.widen (k := 47) (n := 206) (by omega) (by omega) ?_
  refine lv_istore (lv' := [(5, .int 0), (4, .int 20), (6, .int 2), (3, .ref q16), (2, .ref q11), (1, .ref q1), (0, .ref b)]) hx hb dL_law_790 hl (by decide) rfl (fun ls hl => ?_)
  refine lv_aload_n hx hb dL_law_792 rfl (lv_at hl 4 rfl) ?_
  refine lv_aload_n hx hb dL_law_793 rfl (lv_at hl 6 rfl) ?_
  refine lv_iload hx hb dL_law_794 (lv_at hl 1 rfl) ?_
  refine lv_iconst (v := 1) hx hb dL_law_796 (by decide) ?_
  refine lv_iadd hx hb dL_law_797 ?_
  refine lv_topi (fun v158 ev158 => ?_)
  obtain rfl : v158 = 21 := ev158.trans (by decide)
  refine va_sld hx hb hX hbl hbA hS (by unfold vp_in; decide) dL_law_798 ?_
  refine lv_topi (fun v159 ev159 => ?_)
  obtain rfl : v159 = 2 := ev159.trans (by decide)
  refine lv_aload_n hx hb dL_law_799 rfl (lv_at hl 6 rfl) ?_
  refine lv_iload hx hb dL_law_800 (lv_at hl 1 rfl) ?_
  refine lv_iconst (v := 2) hx hb dL_law_802 (by decide) ?_
  refine lv_iadd hx hb dL_law_803 ?_
  refine lv_topi (fun v160 ev160 => ?_)
  obtain rfl : v160 = 22 := ev160.trans (by decide)
  refine va_sld hx hb hX hbl hbA hS (by unfold vp_in; decide) dL_law_804 ?_
  refine lv_topi (fun v161 ev161 => ?_)
  obtain rfl : v161 = 1 := ev161.trans (by decide)
  have hPc := hP.sub (ws' := [(q11, .inr (9, [.int 0, .ref am15, .int 0, .int 0, .int 0])), (am15, .inr (4, [.int mm136, .ref em45, .int 3])), (em45, .inl (cO, 10, .inr (.inr (.inr (.inr (va_up (va_up (va_up (fun _ => none) 0 (some a47)) 1 (some a80)) 2 (some a137))))))), (a47, .inr (8, [.int 4, .ref wa48, .ref na49])), (wa48, .inl (cI, 4, .inl fw50)), (na49, .inl (cI, 4, .inl fn51)), (a80, .inr (8, [.int 4, .ref wa81, .ref na82])), (wa81, .inl (cI, 4, .inl fw107)), (na82, .inl (cI, 4, .inl fn108)), (a137, .inr (8, [.int 4, .ref wa138, .ref na139])), (wa138, .inl (cI, 4, .inl fw140)), (na139, .inl (cI, 4, .inl fn141))]) [13, 8, 9, 2, 3, 4, 5, 6, 7, 10, 11, 12] rfl
  have hDc := hD.sub (ws' := [(q11, .inr (9, [.int 0, .ref am15, .int 0, .int 0, .int 0])), (am15, .inr (4, [.int mm136, .ref em45, .int 3])), (em45, .inl (cO, 10, .inr (.inr (.inr (.inr (va_up (va_up (va_up (fun _ => none) 0 (some a47)) 1 (some a80)) 2 (some a137))))))), (a47, .inr (8, [.int 4, .ref wa48, .ref na49])), (wa48, .inl (cI, 4, .inl fw50)), (na49, .inl (cI, 4, .inl fn51)), (a80, .inr (8, [.int 4, .ref wa81, .ref na82])), (wa81, .inl (cI, 4, .inl fw107)), (na82, .inl (cI, 4, .inl fn108)), (a137, .inr (8, [.int 4, .ref wa138, .ref na139])), (wa138, .inl (cI, 4, .inl fw140)), (na139, .inl (cI, 4, .inl fn141))]) [13, 8, 9, 2, 3, 4, 5, 6, 7, 10, 11, 12] (by decide) rfl
  have hFc := va_free (wc := [(q11, .inr (9, [.int 0, .ref am15, .int 0, .int 0, .int 0])), (am15, .inr (4, [.int mm136, .ref em45, .int 3])), (em45, .inl (cO, 10, .inr (.inr (.inr (.inr (va_up (va_up (va_up (fun _ => none) 0 (some a47)) 1 (some a80)) 2 (some a137))))))), (a47, .inr (8, [.int 4, .ref wa48, .ref na49])), (wa48, .inl (cI, 4, .inl fw50)), (na49, .inl (cI, 4, .inl fn51)), (a80, .inr (8, [.int 4, .ref wa81, .ref na82])), (wa81, .inl (cI, 4, .inl fw107)), (na82, .inl (cI, 4, .inl fn108)), (a137, .inr (8, [.int 4, .ref wa138, .ref na139])), (wa138, .inl (cI, 4, .inl fw140)), (na139, .inl (cI, 4, .inl fn141))]) hD hS hA [13, 8, 9, 2, 3, 4, 5, 6, 7, 10, 11, 12] rfl
  have hDv := hDc.self (sz := H152.size)
  have hpre := zpre (xs' := []) (av := [.ref q11, .int 2, .int 1]) hPc hK (hDc.weaken (fun _ _ _ h => h)) hZ hS hFc (fun r hr => by cases hr)
  refine va_calli (va_runV (As := [.int 2, .int 1]) (rest := []) ⟨hx, hb, hml, hown, hts⟩ (k_fiM2 l dC dI cI cB cR cO zk q11 am15 (.int 0) (.int 0) (.int 0) (.int 0) em45 (va_up (va_up (va_up (fun _ => none) 0 (some a47)) 1 (some a80)) 2 (some a137)) mm136 a47 wa48 na49 a80 wa81 na82 a137 wa138 na139 fw50 fn51 fw107 fn108 fw140 fn141 H152.size hwfw50 hnfn51 rfl hwfw107 hnfn108 rfl hwfw140 hnfn141 rfl) (cwV 2 hts gL_law_X4_fillRow rfl rfl rfl (by decide +kernel) ⟨Nat.le_of_ble_eq_true rfl, Nat.le_of_ble_eq_true rfl⟩) ⟨zblind, (zrecv_9 hK hPc (q0 := 0) rfl), hpre⟩ rfl rfl hl.1 rfl (lv_room (Nat.le_of_ble_eq_true rfl)) dL_law_805 ⟨Nat.le_of_ble_eq_true rfl, Nat.le_of_ble_eq_true rfl⟩) hS (fun q _ h => hFc q h) hFc (fun r163 u t H162 locs ht hvm hw hB hz1 hk1 hS => ?_)
  obtain rfl : 3 = r163 := (show r163 = 3 from hw).symm
  obtain ⟨fw164, fn165, ⟨hP1, hK1, hD1, hz2⟩, hwfw164, hnfn165⟩ := hB
  rw [ht] at hP1 hz2
  have hPD9 := va_join (wr := [(b8, .inr (1, [.ref v10, .int 0, .int 0, .int 0])), (v10, .inl (cB, 16, .inl (fun _ => 0))), (q16, .inr (7, [.long ((3 : Int32).toInt64), .null])), (q1, .inr (6, [.ref al5, .int 0, .int 0, .int 0, .ref sa6, .ref sb7, .ref b8, .ref sc9])), (al5, .inr (4, [.int mc122, .ref ed30, .int 3])), (ed30, .inl (cO, 10, .inr (.inr (.inr (.inr (va_up (va_up (va_up (fun _ => none) 0 (some y32)) 1 (some y66)) 2 (some y123))))))), (y32, .inr (5, [.int 4, .int 4, .ref yw33, .ref yv34, .ref yh35, .int 0])), (yw33, .inl (cI, 4, .inl gw36)), (yv34, .inl (cI, 4, .inl gv37)), (yh35, .inl (cR, 4, .inr (.inr (.inr (.inr gh38))))), (y66, .inr (5, [.int 4, .int 4, .ref yw67, .ref yv68, .ref yh69, .int 1])), (yw67, .inl (cI, 4, .inl gw98)), (yv68, .inl (cI, 4, .inl gv99)), (yh69, .inl (cR, 4, .inr (.inr (.inr (.inr gh100))))), (y123, .inr (5, [.int 4, .int 4, .ref yw124, .ref yv125, .ref yh126, .int 2])), (yw124, .inl (cI, 4, .inl gw155)), (yv125, .inl (cI, 4, .inl gv156)), (yh126, .inl (cR, 4, .inr (.inr (.inr (.inr gh157)))))]) (w1 := [(q11, .inr (9, [.int 0, .ref am15, .int 0, .int 0, .int 0])), (am15, .inr (4, [.int mm136, .ref em45, .int 3])), (em45, .inl (cO, 10, .inr (.inr (.inr (.inr (va_up (va_up (va_up (fun _ => none) 0 (some a47)) 1 (some a80)) 2 (some a137))))))), (a47, .inr (8, [.int 4, .ref wa48, .ref na49])), (wa48, .inl (cI, 4, .inl fw50)), (na49, .inl (cI, 4, .inl fn51)), (a80, .inr (8, [.int 4, .ref wa81, .ref na82])), (wa81, .inl (cI, 4, .inl fw107)), (na82, .inl (cI, 4, .inl fn108)), (a137, .inr (8, [.int 4, .ref wa138, .ref na139])), (wa138, .inl (cI, 4, .inl fw164)), (na139, .inl (cI, 4, .inl fn165))]) hP hD [13, 8, 9, 2, 3, 4, 5, 6, 7, 10, 11, 12] [0, 1, 14, 15, 16, 17, 18, 19, 20, 21, 22, 23, 24, 25, 26, 27, 28, 29] rfl rfl (by decide) (by decide) hk1 hFc hP1 hD1
  clear hPc hDc hFc hDv hpre hP hD hP1 hK1 hD1
  obtain ⟨hP, hD⟩ := hPD9
  replace hz : s.heap.size + 50 ≤ H162.size := by omega
  clear hz2
  replace hP : va_P (dC, dI) vwCl [(b8, .inr (1, [.ref v10, .int 0, .int 0, .int 0])), (v10, .inl (cB, 16, .inl (fun _ => 0))), (q16, .inr (7, [.long ((3 : Int32).toInt64), .null])), (q1, .inr (6, [.ref al5, .int 0, .int 0, .int 0, .ref sa6, .ref sb7, .ref b8, .ref sc9])), (al5, .inr (4, [.int mc122, .ref ed30, .int 3])), (ed30, .inl (cO, 10, .inr (.inr (.inr (.inr (va_up (va_up (va_up (fun _ => none) 0 (some y32)) 1 (some y66)) 2 (some y123))))))), (y32, .inr (5, [.int 4, .int 4, .ref yw33, .ref yv34, .ref yh35, .int 0])), (yw33, .inl (cI, 4, .inl gw36)), (yv34, .inl (cI, 4, .inl gv37)), (yh35, .inl (cR, 4, .inr (.inr (.inr (.inr gh38))))), (y66, .inr (5, [.int 4, .int 4, .ref yw67, .ref yv68, .ref yh69, .int 1])), (yw67, .inl (cI, 4, .inl gw98)), (yv68, .inl (cI, 4, .inl gv99)), (yh69, .inl (cR, 4, .inr (.inr (.inr (.inr gh100))))), (y123, .inr (5, [.int 4, .int 4, .ref yw124, .ref yv125, .ref yh126, .int 2])), (yw124, .inl (cI, 4, .inl gw155)), (yv125, .inl (cI, 4, .inl gv156)), (yh126, .inl (cR, 4, .inr (.inr (.inr (.inr gh157))))), (q11, .inr (9, [.int 0, .ref am15, .int 0, .int 0, .int 0])), (am15, .inr (4, [.int mm136, .ref em45, .int 3])), (em45, .inl (cO, 10, .inr (.inr (.inr (.inr (va_up (va_up (va_up (fun _ => none) 0 (some a47)) 1 (some a80)) 2 (some a137))))))), (a47, .inr (8, [.int 4, .ref wa48, .ref na49])), (wa48, .inl (cI, 4, .inl fw50)), (na49, .inl (cI, 4, .inl fn51)), (a80, .inr (8, [.int 4, .ref wa81, .ref na82])), (wa81, .inl (cI, 4, .inl fw107)), (na82, .inl (cI, 4, .inl fn108)), (a137, .inr (8, [.int 4, .ref wa138, .ref na139])), (wa138, .inl (cI, 4, .inl fw164)), (na139, .inl (cI, 4, .inl fn165))] H162 := hP
  replace hD : va_D A [(b8, .inr (1, [.ref v10, .int 0, .int 0, .int 0])), (v10, .inl (cB, 16, .inl (fun _ => 0))), (q16, .inr (7, [.long ((3 : Int32).toInt64), .null])), (q1, .inr (6, [.ref al5, .int 0, .int 0, .int 0, .ref sa6, .ref sb7, .ref b8, .ref sc9])), (al5, .inr (4, [.int mc122, .ref ed30, .int 3])), (ed30, .inl (cO, 10, .inr (.inr (.inr (.inr (va_up (va_up (va_up (fun _ => none) 0 (some y32)) 1 (some y66)) 2 (some y123))))))), (y32, .inr (5, [.int 4, .int 4, .ref yw33, .ref yv34, .ref yh35, .int 0])), (yw33, .inl (cI, 4, .inl gw36)), (yv34, .inl (cI, 4, .inl gv37)), (yh35, .inl (cR, 4, .inr (.inr (.inr (.inr gh38))))), (y66, .inr (5, [.int 4, .int 4, .ref yw67, .ref yv68, .ref yh69, .int 1])), (yw67, .inl (cI, 4, .inl gw98)), (yv68, .inl (cI, 4, .inl gv99)), (yh69, .inl (cR, 4, .inr (.inr (.inr (.inr gh100))))), (y123, .inr (5, [.int 4, .int 4, .ref yw124, .ref yv125, .ref yh126, .int 2])), (yw124, .inl (cI, 4, .inl gw155)), (yv125, .inl (cI, 4, .inl gv156)), (yh126, .inl (cR, 4, .inr (.inr (.inr (.inr gh157))))), (q11, .inr (9, [.int 0, .ref am15, .int 0, .int 0, .int 0])), (am15, .inr (4, [.int mm136, .ref em45, .int 3])), (em45, .inl (cO, 10, .inr (.inr (.inr (.inr (va_up (va_up (va_up (fun _ => none) 0 (some a47)) 1 (some a80)) 2 (some a137))))))), (a47, .inr (8, [.int 4, .ref wa48, .ref na49])), (wa48, .inl (cI, 4, .inl fw50)), (na49, .inl (cI, 4, .inl fn51)), (a80, .inr (8, [.int 4, .ref wa81, .ref na82])), (wa81, .inl (cI, 4, .inl fw107)), (na82, .inl (cI, 4, .inl fn108)), (a137, .inr (8, [.int 4, .ref wa138, .ref na139])), (wa138, .inl (cI, 4, .inl fw164)), (na139, .inl (cI, 4, .inl fn165))] := hD
  refine W.widen (k := 55) (n := 230) (by omega) (by omega) ?_
  refine lv_istore (lv' := [(6, .int 3), (5, .int 0), (4, .int 20), (3, .ref q16), (2, .ref q11), (1, .ref q1), (0, .ref b)]) hx hb dL_law_808 hl (by decide) rfl (fun ls hl => ?_)
  refine lv_aload_n hx hb dL_law_810 rfl (lv_at hl 4 rfl) ?_
  have hPc := hP.sub (ws' := [(q11, .inr (9, [.int 0, .ref am15, .int 0, .int 0, .int 0]))]) [18] rfl
  have hDc := hD.sub (ws' := [(q11, .inr (9, [.int 0, .ref am15, .int 0, .int 0, .int 0]))]) [18] (by decide) rfl
  have hFc := va_free (wc := [(q11, .inr (9, [.int 0, .ref am15, .int 0, .int 0, .int 0]))]) hD hS hA [18] rfl
  have hDv := hDc.self (sz := H162.size)
  have hpre := zpre (xs' := []) (av := [.ref q11]) hPc hK (hDc.weaken (fun _ _ _ h => h)) hZ hS hFc (fun r hr => by cases hr)
  refine va_calli (va_runV (As := []) (rest := []) ⟨hx, hb, hml, hown, hts⟩ (k_thM l dC dI cI cB cR cO zk q11 (.int 0) (.int 0) (.int 0) am15 H162.size ) (cwV 0 hts gL_law_X4_thrown rfl rfl rfl (by decide +kernel) ⟨Nat.le_of_ble_eq_true rfl, Nat.le_of_ble_eq_true rfl⟩) ⟨zblind, (zrecv_9 hK hPc (q0 := 0) rfl), hpre⟩ rfl rfl hl.1 rfl (lv_room (Nat.le_of_ble_eq_true rfl)) dL_law_811 ⟨Nat.le_of_ble_eq_true rfl, Nat.le_of_ble_eq_true rfl⟩) hS (fun q _ h => hFc q h) hFc (fun r167 u t H166 locs ht hvm hw hB hz1 hk1 hS => ?_)
  obtain rfl : 0 = r167 := (show r167 = 0 from hw).symm
  obtain ⟨hP1, hK1, hD1, hz2⟩ := hB
  rw [ht] at hP1 hz2
  have hPD9 := va_join (wr := [(b8, .inr (1, [.ref v10, .int 0, .int 0, .int 0])), (v10, .inl (cB, 16, .inl (fun _ => 0))), (q16, .inr (7, [.long ((3 : Int32).toInt64), .null])), (q1, .inr (6, [.ref al5, .int 0, .int 0, .int 0, .ref sa6, .ref sb7, .ref b8, .ref sc9])), (al5, .inr (4, [.int mc122, .ref ed30, .int 3])), (ed30, .inl (cO, 10, .inr (.inr (.inr (.inr (va_up (va_up (va_up (fun _ => none) 0 (some y32)) 1 (some y66)) 2 (some y123))))))), (y32, .inr (5, [.int 4, .int 4, .ref yw33, .ref yv34, .ref yh35, .int 0])), (yw33, .inl (cI, 4, .inl gw36)), (yv34, .inl (cI, 4, .inl gv37)), (yh35, .inl (cR, 4, .inr (.inr (.inr (.inr gh38))))), (y66, .inr (5, [.int 4, .int 4, .ref yw67, .ref yv68, .ref yh69, .int 1])), (yw67, .inl (cI, 4, .inl gw98)), (yv68, .inl (cI, 4, .inl gv99)), (yh69, .inl (cR, 4, .inr (.inr (.inr (.inr gh100))))), (y123, .inr (5, [.int 4, .int 4, .ref yw124, .ref yv125, .ref yh126, .int 2])), (yw124, .inl (cI, 4, .inl gw155)), (yv125, .inl (cI, 4, .inl gv156)), (yh126, .inl (cR, 4, .inr (.inr (.inr (.inr gh157))))), (am15, .inr (4, [.int mm136, .ref em45, .int 3])), (em45, .inl (cO, 10, .inr (.inr (.inr (.inr (va_up (va_up (va_up (fun _ => none) 0 (some a47)) 1 (some a80)) 2 (some a137))))))), (a47, .inr (8, [.int 4, .ref wa48, .ref na49])), (wa48, .inl (cI, 4, .inl fw50)), (na49, .inl (cI, 4, .inl fn51)), (a80, .inr (8, [.int 4, .ref wa81, .ref na82])), (wa81, .inl (cI, 4, .inl fw107)), (na82, .inl (cI, 4, .inl fn108)), (a137, .inr (8, [.int 4, .ref wa138, .ref na139])), (wa138, .inl (cI, 4, .inl fw164)), (na139, .inl (cI, 4, .inl fn165))]) (w1 := [(q11, .inr (9, [.int 0, .ref am15, .int 0, .int 0, .int 0]))]) hP hD [18] [0, 1, 2, 3, 4, 5, 6, 7, 8, 9, 10, 11, 12, 13, 14, 15, 16, 17, 19, 20, 21, 22, 23, 24, 25, 26, 27, 28, 29] rfl rfl (by decide) (by decide) hk1 hFc hP1 hD1
  clear hPc hDc hFc hDv hpre hP hD hP1 hK1 hD1
  obtain ⟨hP, hD⟩ := hPD9
  replace hz : s.heap.size + 50 ≤ H166.size := by omega
  clear hz2
  replace hP : va_P (dC, dI) vwCl [(b8, .inr (1, [.ref v10, .int 0, .int 0, .int 0])), (v10, .inl (cB, 16, .inl (fun _ => 0))), (q16, .inr (7, [.long ((3 : Int32).toInt64), .null])), (q1, .inr (6, [.ref al5, .int 0, .int 0, .int 0, .ref sa6, .ref sb7, .ref b8, .ref sc9])), (al5, .inr (4, [.int mc122, .ref ed30, .int 3])), (ed30, .inl (cO, 10, .inr (.inr (.inr (.inr (va_up (va_up (va_up (fun _ => none) 0 (some y32)) 1 (some y66)) 2 (some y123))))))), (y32, .inr (5, [.int 4, .int 4, .ref yw33, .ref yv34, .ref yh35, .int 0])), (yw33, .inl (cI, 4, .inl gw36)), (yv34, .inl (cI, 4, .inl gv37)), (yh35, .inl (cR, 4, .inr (.inr (.inr (.inr gh38))))), (y66, .inr (5, [.int 4, .int 4, .ref yw67, .ref yv68, .ref yh69, .int 1])), (yw67, .inl (cI, 4, .inl gw98)), (yv68, .inl (cI, 4, .inl gv99)), (yh69, .inl (cR, 4, .inr (.inr (.inr (.inr gh100))))), (y123, .inr (5, [.int 4, .int 4, .ref yw124, .ref yv125, .ref yh126, .int 2])), (yw124, .inl (cI, 4, .inl gw155)), (yv125, .inl (cI, 4, .inl gv156)), (yh126, .inl (cR, 4, .inr (.inr (.inr (.inr gh157))))), (am15, .inr (4, [.int mm136, .ref em45, .int 3])), (em45, .inl (cO, 10, .inr (.inr (.inr (.inr (va_up (va_up (va_up (fun _ => none) 0 (some a47)) 1 (some a80)) 2 (some a137))))))), (a47, .inr (8, [.int 4, .ref wa48, .ref na49])), (wa48, .inl (cI, 4, .inl fw50)), (na49, .inl (cI, 4, .inl fn51)), (a80, .inr (8, [.int 4, .ref wa81, .ref na82])), (wa81, .inl (cI, 4, .inl fw107)), (na82, .inl (cI, 4, .inl fn108)), (a137, .inr (8, [.int 4, .ref wa138, .ref na139])), (wa138, .inl (cI, 4, .inl fw164)), (na139, .inl (cI, 4, .inl fn165)), (q11, .inr (9, [.int 0, .ref am15, .int 0, .int 0, .int 0]))] H166 := hP
  replace hD : va_D A [(b8, .inr (1, [.ref v10, .int 0, .int 0, .int 0])), (v10, .inl (cB, 16, .inl (fun _ => 0))), (q16, .inr (7, [.long ((3 : Int32).toInt64), .null])), (q1, .inr (6, [.ref al5, .int 0, .int 0, .int 0, .ref sa6, .ref sb7, .ref b8, .ref sc9])), (al5, .inr (4, [.int mc122, .ref ed30, .int 3])), (ed30, .inl (cO, 10, .inr (.inr (.inr (.inr (va_up (va_up (va_up (fun _ => none) 0 (some y32)) 1 (some y66)) 2 (some y123))))))), (y32, .inr (5, [.int 4, .int 4, .ref yw33, .ref yv34, .ref yh35, .int 0])), (yw33, .inl (cI, 4, .inl gw36)), (yv34, .inl (cI, 4, .inl gv37)), (yh35, .inl (cR, 4, .inr (.inr (.inr (.inr gh38))))), (y66, .inr (5, [.int 4, .int 4, .ref yw67, .ref yv68, .ref yh69, .int 1])), (yw67, .inl (cI, 4, .inl gw98)), (yv68, .inl (cI, 4, .inl gv99)), (yh69, .inl (cR, 4, .inr (.inr (.inr (.inr gh100))))), (y123, .inr (5, [.int 4, .int 4, .ref yw124, .ref yv125, .ref yh126, .int 2])), (yw124, .inl (cI, 4, .inl gw155)), (yv125, .inl (cI, 4, .inl gv156)), (yh126, .inl (cR, 4, .inr (.inr (.inr (.inr gh157))))), (am15, .inr (4, [.int mm136, .ref em45, .int 3])), (em45, .inl (cO, 10, .inr (.inr (.inr (.inr (va_up (va_up (va_up (fun _ => none) 0 (some a47)) 1 (some a80)) 2 (some a137))))))), (a47, .inr (8, [.int 4, .ref wa48, .ref na49])), (wa48, .inl (cI, 4, .inl fw50)), (na49, .inl (cI, 4, .inl fn51)), (a80, .inr (8, [.int 4, .ref wa81, .ref na82])), (wa81, .inl (cI, 4, .inl fw107)), (na82, .inl (cI, 4, .inl fn108)), (a137, .inr (8, [.int 4, .ref wa138, .ref na139])), (wa138, .inl (cI, 4, .inl fw164)), (na139, .inl (cI, 4, .inl fn165)), (q11, .inr (9, [.int 0, .ref am15, .int 0, .int 0, .int 0]))] := hD
  refine W.widen (k := 55) (n := 230) (by omega) (by omega) ?_
  refine lv_iload hx hb dL_law_814 (lv_at hl 1 rfl) ?_
  refine lv_icmp_eq (tgt := 821) hx hb dL_law_816 (by decide) (fun c9 => ?_) (fun c9 => ?_)
  rotate_left
  · exact absurd (by decide) c9
  refine lv_iload hx hb dL_law_821 (lv_at hl 1 rfl) ?_
  refine lv_if_ne (tgt := 839) hx hb dL_law_823 (by decide) (fun c9 => ?_) (fun c9 => ?_)
  · exact absurd (by decide) c9
  refine lv_aload_n hx hb dL_law_826 rfl (lv_at hl 3 rfl) ?_
  refine va_getN (D := (dC, dI)) (ci := 7) (v := .long ((3 : Int32).toInt64)) (C := RX2) (T := TX2) (N := 2) hx hb hts inlX2 hown hK hP 2 rfl rfl 0 (by decide) (zn6 hZ) (fun _ h9 => h9) rfl dL_law_827 ?_
  refine lv_iload hx hb dL_law_830 (lv_at hl 0 rfl) ?_
  refine lv_i2l (v := (3 : Int32).toInt64) hx hb dL_law_832 rfl ?_
  refine W.lcmp hx hb dL_law_833 ?_
  refine lv_topi (fun v168 ev168 => ?_)
  obtain rfl : v168 = 0 := ev168.trans (by decide)
  refine lv_if_eq (tgt := 839) hx hb dL_law_834 (by decide) (fun c9 => ?_) (fun c9 => ?_)
  rotate_left
  · exact absurd (by decide) c9
  refine lv_goto (tgt := 2155) hx hb dL_law_839 (by decide) ?_
  refine lv_iinc (v := 25) (lv' := [(4, .int 25), (6, .int 3), (5, .int 0), (3, .ref q16), (2, .ref q11), (1, .ref q1), (0, .ref b)]) hx hb dL_law_2155 hl (k := 2) rfl (by decide) (by decide) rfl (fun ls hl => ?_)
  refine lv_goto (tgt := 27) hx hb dL_law_2158 (by decide) ?_
  refine lv_iload hx hb dL_law_27 (lv_at hl 0 rfl) ?_
  refine lv_aload_n hx hb dL_law_29 rfl (lv_at hl 6 rfl) ?_
  refine va_slen hx hb hX hbl hbA hS dL_law_30 ?_
  refine W.eq (g2 := F0 mY 31 ls [.int 1835, .int 25]) rfl ?_
  refine lv_iconst (v := 5) hx hb dL_law_31 (by decide) ?_
  refine lv_isub hx hb dL_law_32 ?_
  refine lv_topi (fun v169 ev169 => ?_)
  obtain rfl : v169 = 1830 := ev169.trans (by decide)
  refine lv_icmp_gt (tgt := 2161) hx hb dL_law_33 (by decide) (fun c9 => ?_) (fun c9 => ?_)
  · exact absurd c9 (by decide)
  refine lv_aload_n hx hb dL_law_36 rfl (lv_at hl 6 rfl) ?_
  refine lv_iload hx hb dL_law_37 (lv_at hl 0 rfl) ?_
  refine va_sld hx hb hX hbl hbA hS (by unfold vp_in; decide) dL_law_39 ?_
  refine lv_topi (fun v170 ev170 => ?_)
  obtain rfl : v170 = 0 := ev170.trans (by decide)
  refine lv_bipush (v := 31) hx hb dL_law_40 (by decide) ?_
  refine lv_iand hx hb dL_law_42 ?_
  refine lv_topi (fun v171 ev171 => ?_)
  obtain rfl : v171 = 0 := ev171.trans (by decide)
  refine lv_tableIn (off := 141) (tgt := 184) hx hb dL_law_43 (by decide) (by decide) (by decide) (by decide) ?_
  refine lv_aload_n hx hb dL_law_184 rfl (lv_at hl 5 rfl) ?_
  refine lv_aload_n hx hb dL_law_185 rfl (lv_at hl 6 rfl) ?_
  refine lv_iload hx hb dL_law_186 (lv_at hl 0 rfl) ?_
  refine lv_iconst (v := 1) hx hb dL_law_188 (by decide) ?_
  refine lv_iadd hx hb dL_law_189 ?_
  refine lv_topi (fun v172 ev172 => ?_)
  obtain rfl : v172 = 26 := ev172.trans (by decide)
  refine va_sld hx hb hX hbl hbA hS (by unfold vp_in; decide) dL_law_190 ?_
  refine lv_topi (fun v173 ev173 => ?_)
  obtain rfl : v173 = 4 := ev173.trans (by decide)
  refine lv_aload_n hx hb dL_law_191 rfl (lv_at hl 6 rfl) ?_
  refine lv_iload hx hb dL_law_192 (lv_at hl 0 rfl) ?_
  refine lv_iconst (v := 2) hx hb dL_law_194 (by decide) ?_
  refine lv_iadd hx hb dL_law_195 ?_
  refine lv_topi (fun v174 ev174 => ?_)
  obtain rfl : v174 = 27 := ev174.trans (by decide)
  refine va_sld hx hb hX hbl hbA hS (by unfold vp_in; decide) dL_law_196 ?_
  refine lv_topi (fun v175 ev175 => ?_)
  obtain rfl : v175 = 4 := ev175.trans (by decide)
  refine lv_aload_n hx hb dL_law_197 rfl (lv_at hl 3 rfl) ?_
  have hPc := hP.sub (ws' := [(q16, .inr (7, [.long ((3 : Int32).toInt64), .null])), (q1, .inr (6, [.ref al5, .int 0, .int 0, .int 0, .ref sa6, .ref sb7, .ref b8, .ref sc9])), (al5, .inr (4, [.int mc122, .ref ed30, .int 3])), (ed30, .inl (cO, 10, .inr (.inr (.inr (.inr (va_up (va_up (va_up (fun _ => none) 0 (some y32)) 1 (some y66)) 2 (some y123)))))))]) [2, 3, 4, 5] rfl
  have hDc := hD.sub (ws' := [(q16, .inr (7, [.long ((3 : Int32).toInt64), .null])), (q1, .inr (6, [.ref al5, .int 0, .int 0, .int 0, .ref sa6, .ref sb7, .ref b8, .ref sc9])), (al5, .inr (4, [.int mc122, .ref ed30, .int 3])), (ed30, .inl (cO, 10, .inr (.inr (.inr (.inr (va_up (va_up (va_up (fun _ => none) 0 (some y32)) 1 (some y66)) 2 (some y123)))))))]) [2, 3, 4, 5] (by decide) rfl
  have hFc := va_free (wc := [(q16, .inr (7, [.long ((3 : Int32).toInt64), .null])), (q1, .inr (6, [.ref al5, .int 0, .int 0, .int 0, .ref sa6, .ref sb7, .ref b8, .ref sc9])), (al5, .inr (4, [.int mc122, .ref ed30, .int 3])), (ed30, .inl (cO, 10, .inr (.inr (.inr (.inr (va_up (va_up (va_up (fun _ => none) 0 (some y32)) 1 (some y66)) 2 (some y123)))))))]) hD hS hA [2, 3, 4, 5] rfl
  have hDv := hDc.self (sz := H166.size)
  have hpre := zpre (xs' := []) (av := [.ref q1, .int 4, .int 4, .ref q16]) hPc hK (hDc.weaken (fun _ _ _ h => h)) hZ hS hFc (fun r hr => by cases hr)
  refine va_calli (vx_runSW (As := [.ref q1, .int 4, .int 4, .ref q16]) (rest := []) ⟨hx, hb, hml, hown, hts⟩ (k_LmX3 l dC dI cI cB cR cO zk q1 al5 b8 (.int 0) (.int 0) (.int 0) (.ref sa6) (.ref sb7) (.ref sc9) ed30 (va_up (va_up (va_up (fun _ => none) 0 (some y32)) 1 (some y66)) 2 (some y123)) mc122 q16 (.long ((3 : Int32).toInt64)) .null H166.size ) (vx_cwSW 4 hts gL_law_L_make rfl rfl rfl (by decide +kernel) ⟨Nat.le_of_ble_eq_true rfl, Nat.le_of_ble_eq_true rfl⟩) ⟨zblind, hpre⟩ rfl rfl hl.1 rfl (lv_room (Nat.le_of_ble_eq_true rfl)) dL_law_198 ⟨Nat.le_of_ble_eq_true rfl, Nat.le_of_ble_eq_true rfl⟩) hS (fun q _ h => hFc q h) hFc (fun r177 u t H176 locs ht hvm hw hB hz1 hk1 hS => ?_)
  obtain rfl : 0 = r177 := (show r177 = 0 from hw).symm
  obtain ⟨on178, mc179, y180, yw181, yv182, yh183, gw184, gv185, gh186, ⟨hP1, hK1, hD1, hz2⟩, hwgw184, hhgh186, rfl⟩ := hB
  rw [ht] at hP1 hz2
  have hPD9 := va_join (wr := [(b8, .inr (1, [.ref v10, .int 0, .int 0, .int 0])), (v10, .inl (cB, 16, .inl (fun _ => 0))), (y32, .inr (5, [.int 4, .int 4, .ref yw33, .ref yv34, .ref yh35, .int 0])), (yw33, .inl (cI, 4, .inl gw36)), (yv34, .inl (cI, 4, .inl gv37)), (yh35, .inl (cR, 4, .inr (.inr (.inr (.inr gh38))))), (y66, .inr (5, [.int 4, .int 4, .ref yw67, .ref yv68, .ref yh69, .int 1])), (yw67, .inl (cI, 4, .inl gw98)), (yv68, .inl (cI, 4, .inl gv99)), (yh69, .inl (cR, 4, .inr (.inr (.inr (.inr gh100))))), (y123, .inr (5, [.int 4, .int 4, .ref yw124, .ref yv125, .ref yh126, .int 2])), (yw124, .inl (cI, 4, .inl gw155)), (yv125, .inl (cI, 4, .inl gv156)), (yh126, .inl (cR, 4, .inr (.inr (.inr (.inr gh157))))), (am15, .inr (4, [.int mm136, .ref em45, .int 3])), (em45, .inl (cO, 10, .inr (.inr (.inr (.inr (va_up (va_up (va_up (fun _ => none) 0 (some a47)) 1 (some a80)) 2 (some a137))))))), (a47, .inr (8, [.int 4, .ref wa48, .ref na49])), (wa48, .inl (cI, 4, .inl fw50)), (na49, .inl (cI, 4, .inl fn51)), (a80, .inr (8, [.int 4, .ref wa81, .ref na82])), (wa81, .inl (cI, 4, .inl fw107)), (na82, .inl (cI, 4, .inl fn108)), (a137, .inr (8, [.int 4, .ref wa138, .ref na139])), (wa138, .inl (cI, 4, .inl fw164)), (na139, .inl (cI, 4, .inl fn165)), (q11, .inr (9, [.int 0, .ref am15, .int 0, .int 0, .int 0]))]) (w1 := [(q16, .inr (7, [.long ((3 : Int32).toInt64), .null])), (q1, .inr (6, [.ref al5, .int 0, .int 0, .int 0, .ref sa6, .ref sb7, .ref b8, .ref sc9])), (al5, .inr (4, [.int mc179, .ref ed30, .int 4])), (ed30, .inl (cO, 10, .inr (.inr (.inr (.inr (va_up (va_up (va_up (va_up (fun _ => none) 0 (some y32)) 1 (some y66)) 2 (some y123)) 3 (some y180))))))), (y180, .inr (5, [.int 4, .int 4, .ref yw181, .ref yv182, .ref yh183, .int 3])), (yw181, .inl (cI, 4, .inl gw184)), (yv182, .inl (cI, 4, .inl gv185)), (yh183, .inl (cR, 4, .inr (.inr (.inr (.inr gh186)))))]) hP hD [2, 3, 4, 5] [0, 1, 6, 7, 8, 9, 10, 11, 12, 13, 14, 15, 16, 17, 18, 19, 20, 21, 22, 23, 24, 25, 26, 27, 28, 29] rfl rfl (by decide) (by decide) hk1 hFc hP1 hD1
  clear hPc hDc hFc hDv hpre hP hD hP1 hK1 hD1
  obtain ⟨hP, hD⟩ := hPD9
  replace hz : s.heap.size + 54 ≤ H176.size := by omega
  clear hz2
  replace hP : va_P (dC, dI) vwCl [(b8, .inr (1, [.ref v10, .int 0, .int 0, .int 0])), (v10, .inl (cB, 16, .inl (fun _ => 0))), (y32, .inr (5, [.int 4, .int 4, .ref yw33, .ref yv34, .ref yh35, .int 0])), (yw33, .inl (cI, 4, .inl gw36)), (yv34, .inl (cI, 4, .inl gv37)), (yh35, .inl (cR, 4, .inr (.inr (.inr (.inr gh38))))), (y66, .inr (5, [.int 4, .int 4, .ref yw67, .ref yv68, .ref yh69, .int 1])), (yw67, .inl (cI, 4, .inl gw98)), (yv68, .inl (cI, 4, .inl gv99)), (yh69, .inl (cR, 4, .inr (.inr (.inr (.inr gh100))))), (y123, .inr (5, [.int 4, .int 4, .ref yw124, .ref yv125, .ref yh126, .int 2])), (yw124, .inl (cI, 4, .inl gw155)), (yv125, .inl (cI, 4, .inl gv156)), (yh126, .inl (cR, 4, .inr (.inr (.inr (.inr gh157))))), (am15, .inr (4, [.int mm136, .ref em45, .int 3])), (em45, .inl (cO, 10, .inr (.inr (.inr (.inr (va_up (va_up (va_up (fun _ => none) 0 (some a47)) 1 (some a80)) 2 (some a137))))))), (a47, .inr (8, [.int 4, .ref wa48, .ref na49])), (wa48, .inl (cI, 4, .inl fw50)), (na49, .inl (cI, 4, .inl fn51)), (a80, .inr (8, [.int 4, .ref wa81, .ref na82])), (wa81, .inl (cI, 4, .inl fw107)), (na82, .inl (cI, 4, .inl fn108)), (a137, .inr (8, [.int 4, .ref wa138, .ref na139])), (wa138, .inl (cI, 4, .inl fw164)), (na139, .inl (cI, 4, .inl fn165)), (q11, .inr (9, [.int 0, .ref am15, .int 0, .int 0, .int 0])), (q16, .inr (7, [.long ((3 : Int32).toInt64), .null])), (q1, .inr (6, [.ref al5, .int 0, .int 0, .int 0, .ref sa6, .ref sb7, .ref b8, .ref sc9])), (al5, .inr (4, [.int mc179, .ref ed30, .int 4])), (ed30, .inl (cO, 10, .inr (.inr (.inr (.inr (va_up (va_up (va_up (va_up (fun _ => none) 0 (some y32)) 1 (some y66)) 2 (some y123)) 3 (some y180))))))), (y180, .inr (5, [.int 4, .int 4, .ref yw181, .ref yv182, .ref yh183, .int 3])), (yw181, .inl (cI, 4, .inl gw184)), (yv182, .inl (cI, 4, .inl gv185)), (yh183, .inl (cR, 4, .inr (.inr (.inr (.inr gh186)))))] H176 := hP
  replace hD : va_D A [(b8, .inr (1, [.ref v10, .int 0, .int 0, .int 0])), (v10, .inl (cB, 16, .inl (fun _ => 0))), (y32, .inr (5, [.int 4, .int 4, .ref yw33, .ref yv34, .ref yh35, .int 0])), (yw33, .inl (cI, 4, .inl gw36)), (yv34, .inl (cI, 4, .inl gv37)), (yh35, .inl (cR, 4, .inr (.inr (.inr (.inr gh38))))), (y66, .inr (5, [.int 4, .int 4, .ref yw67, .ref yv68, .ref yh69, .int 1])), (yw67, .inl (cI, 4, .inl gw98)), (yv68, .inl (cI, 4, .inl gv99)), (yh69, .inl (cR, 4, .inr (.inr (.inr (.inr gh100))))), (y123, .inr (5, [.int 4, .int 4, .ref yw124, .ref yv125, .ref yh126, .int 2])), (yw124, .inl (cI, 4, .inl gw155)), (yv125, .inl (cI, 4, .inl gv156)), (yh126, .inl (cR, 4, .inr (.inr (.inr (.inr gh157))))), (am15, .inr (4, [.int mm136, .ref em45, .int 3])), (em45, .inl (cO, 10, .inr (.inr (.inr (.inr (va_up (va_up (va_up (fun _ => none) 0 (some a47)) 1 (some a80)) 2 (some a137))))))), (a47, .inr (8, [.int 4, .ref wa48, .ref na49])), (wa48, .inl (cI, 4, .inl fw50)), (na49, .inl (cI, 4, .inl fn51)), (a80, .inr (8, [.int 4, .ref wa81, .ref na82])), (wa81, .inl (cI, 4, .inl fw107)), (na82, .inl (cI, 4, .inl fn108)), (a137, .inr (8, [.int 4, .ref wa138, .ref na139])), (wa138, .inl (cI, 4, .inl fw164)), (na139, .inl (cI, 4, .inl fn165)), (q11, .inr (9, [.int 0, .ref am15, .int 0, .int 0, .int 0])), (q16, .inr (7, [.long ((3 : Int32).toInt64), .null])), (q1, .inr (6, [.ref al5, .int 0, .int 0, .int 0, .ref sa6, .ref sb7, .ref b8, .ref sc9])), (al5, .inr (4, [.int mc179, .ref ed30, .int 4])), (ed30, .inl (cO, 10, .inr (.inr (.inr (.inr (va_up (va_up (va_up (va_up (fun _ => none) 0 (some y32)) 1 (some y66)) 2 (some y123)) 3 (some y180))))))), (y180, .inr (5, [.int 4, .int 4, .ref yw181, .ref yv182, .ref yh183, .int 3])), (yw181, .inl (cI, 4, .inl gw184)), (yv182, .inl (cI, 4, .inl gv185)), (yh183, .inl (cR, 4, .inr (.inr (.inr (.inr gh186)))))] := hD
  refine W.widen (k := 59) (n := 248) (by omega) (by omega) ?_
  refine lv_istore (lv' := [(5, .int 0), (4, .int 25), (6, .int 3), (3, .ref q16), (2, .ref q11), (1, .ref q1), (0, .ref b)]) hx hb dL_law_201 hl (by decide) rfl (fun ls hl => ?_)
  refine lv_aload_n hx hb dL_law_203 rfl (lv_at hl 4 rfl) ?_
  refine lv_aload_n hx hb dL_law_204 rfl (lv_at hl 6 rfl) ?_
  refine lv_iload hx hb dL_law_205 (lv_at hl 1 rfl) ?_
  refine lv_iconst (v := 1) hx hb dL_law_207 (by decide) ?_
  refine lv_iadd hx hb dL_law_208 ?_
  refine lv_topi (fun v187 ev187 => ?_)
  obtain rfl : v187 = 26 := ev187.trans (by decide)
  refine va_sld hx hb hX hbl hbA hS (by unfold vp_in; decide) dL_law_209 ?_
  refine lv_topi (fun v188 ev188 => ?_)
  obtain rfl : v188 = 4 := ev188.trans (by decide)
  refine lv_aload_n hx hb dL_law_210 rfl (lv_at hl 6 rfl) ?_
  refine lv_iload hx hb dL_law_211 (lv_at hl 1 rfl) ?_
  refine lv_iconst (v := 2) hx hb dL_law_213 (by decide) ?_
  refine lv_iadd hx hb dL_law_214 ?_
  refine lv_topi (fun v189 ev189 => ?_)
  obtain rfl : v189 = 27 := ev189.trans (by decide)
  refine va_sld hx hb hX hbl hbA hS (by unfold vp_in; decide) dL_law_215 ?_
  refine lv_topi (fun v190 ev190 => ?_)
  obtain rfl : v190 = 4 := ev190.trans (by decide)
  have hPc := hP.sub (ws' := [(q11, .inr (9, [.int 0, .ref am15, .int 0, .int 0, .int 0])), (am15, .inr (4, [.int mm136, .ref em45, .int 3])), (em45, .inl (cO, 10, .inr (.inr (.inr (.inr (va_up (va_up (va_up (fun _ => none) 0 (some a47)) 1 (some a80)) 2 (some a137)))))))]) [25, 14, 15] rfl
  have hDc := hD.sub (ws' := [(q11, .inr (9, [.int 0, .ref am15, .int 0, .int 0, .int 0])), (am15, .inr (4, [.int mm136, .ref em45, .int 3])), (em45, .inl (cO, 10, .inr (.inr (.inr (.inr (va_up (va_up (va_up (fun _ => none) 0 (some a47)) 1 (some a80)) 2 (some a137)))))))]) [25, 14, 15] (by decide) rfl
  have hFc := va_free (wc := [(q11, .inr (9, [.int 0, .ref am15, .int 0, .int 0, .int 0])), (am15, .inr (4, [.int mm136, .ref em45, .int 3])), (em45, .inl (cO, 10, .inr (.inr (.inr (.inr (va_up (va_up (va_up (fun _ => none) 0 (some a47)) 1 (some a80)) 2 (some a137)))))))]) hD hS hA [25, 14, 15] rfl
  have hDv := hDc.self (sz := H176.size)
  have hpre := zpre (xs' := []) (av := [.ref q11, .int 4, .int 4]) hPc hK (hDc.weaken (fun _ _ _ h => h)) hZ hS hFc (fun r hr => by cases hr)
  refine va_calli (va_runV (As := [.int 4, .int 4]) (rest := []) ⟨hx, hb, hml, hown, hts⟩ (k_mkM3 l dC dI cI cB cR cO zk q11 am15 (.int 0) (.int 0) (.int 0) (.int 0) em45 (va_up (va_up (va_up (fun _ => none) 0 (some a47)) 1 (some a80)) 2 (some a137)) mm136 H176.size ) (cwV 2 hts gL_law_X4_make rfl rfl rfl (by decide +kernel) ⟨Nat.le_of_ble_eq_true rfl, Nat.le_of_ble_eq_true rfl⟩) ⟨zblind, (zrecv_9 hK hPc (q0 := 0) rfl), hpre⟩ rfl rfl hl.1 rfl (lv_room (Nat.le_of_ble_eq_true rfl)) dL_law_216 ⟨Nat.le_of_ble_eq_true rfl, Nat.le_of_ble_eq_true rfl⟩) hS (fun q _ h => hFc q h) hFc (fun r192 u t H191 locs ht hvm hw hB hz1 hk1 hS => ?_)
  obtain rfl : 3 = r192 := (show r192 = 3 from hw).symm
  obtain ⟨mm193, a194, wa195, na196, fw197, fn198, ⟨hP1, hK1, hD1, hz2⟩, hwfw197, hnfn198⟩ := hB
  rw [ht] at hP1 hz2
  have hPD9 := va_join (wr := [(b8, .inr (1, [.ref v10, .int 0, .int 0, .int 0])), (v10, .inl (cB, 16, .inl (fun _ => 0))), (y32, .inr (5, [.int 4, .int 4, .ref yw33, .ref yv34, .ref yh35, .int 0])), (yw33, .inl (cI, 4, .inl gw36)), (yv34, .inl (cI, 4, .inl gv37)), (yh35, .inl (cR, 4, .inr (.inr (.inr (.inr gh38))))), (y66, .inr (5, [.int 4, .int 4, .ref yw67, .ref yv68, .ref yh69, .int 1])), (yw67, .inl (cI, 4, .inl gw98)), (yv68, .inl (cI, 4, .inl gv99)), (yh69, .inl (cR, 4, .inr (.inr (.inr (.inr gh100))))), (y123, .inr (5, [.int 4, .int 4, .ref yw124, .ref yv125, .ref yh126, .int 2])), (yw124, .inl (cI, 4, .inl gw155)), (yv125, .inl (cI, 4, .inl gv156)), (yh126, .inl (cR, 4, .inr (.inr (.inr (.inr gh157))))), (a47, .inr (8, [.int 4, .ref wa48, .ref na49])), (wa48, .inl (cI, 4, .inl fw50)), (na49, .inl (cI, 4, .inl fn51)), (a80, .inr (8, [.int 4, .ref wa81, .ref na82])), (wa81, .inl (cI, 4, .inl fw107)), (na82, .inl (cI, 4, .inl fn108)), (a137, .inr (8, [.int 4, .ref wa138, .ref na139])), (wa138, .inl (cI, 4, .inl fw164)), (na139, .inl (cI, 4, .inl fn165)), (q16, .inr (7, [.long ((3 : Int32).toInt64), .null])), (q1, .inr (6, [.ref al5, .int 0, .int 0, .int 0, .ref sa6, .ref sb7, .ref b8, .ref sc9])), (al5, .inr (4, [.int mc179, .ref ed30, .int 4])), (ed30, .inl (cO, 10, .inr (.inr (.inr (.inr (va_up (va_up (va_up (va_up (fun _ => none) 0 (some y32)) 1 (some y66)) 2 (some y123)) 3 (some y180))))))), (y180, .inr (5, [.int 4, .int 4, .ref yw181, .ref yv182, .ref yh183, .int 3])), (yw181, .inl (cI, 4, .inl gw184)), (yv182, .inl (cI, 4, .inl gv185)), (yh183, .inl (cR, 4, .inr (.inr (.inr (.inr gh186)))))]) (w1 := [(q11, .inr (9, [.int 0, .ref am15, .int 0, .int 0, .int 0])), (am15, .inr (4, [.int mm193, .ref em45, .int 4])), (em45, .inl (cO, 10, .inr (.inr (.inr (.inr (va_up (va_up (va_up (va_up (fun _ => none) 0 (some a47)) 1 (some a80)) 2 (some a137)) 3 (some a194))))))), (a194, .inr (8, [.int 4, .ref wa195, .ref na196])), (wa195, .inl (cI, 4, .inl fw197)), (na196, .inl (cI, 4, .inl fn198))]) hP hD [25, 14, 15] [0, 1, 2, 3, 4, 5, 6, 7, 8, 9, 10, 11, 12, 13, 16, 17, 18, 19, 20, 21, 22, 23, 24, 26, 27, 28, 29, 30, 31, 32, 33] rfl rfl (by decide) (by decide) hk1 hFc hP1 hD1
  clear hPc hDc hFc hDv hpre hP hD hP1 hK1 hD1
  obtain ⟨hP, hD⟩ := hPD9
  replace hz : s.heap.size + 57 ≤ H191.size := by omega
  clear hz2
  replace hP : va_P (dC, dI) vwCl [(b8, .inr (1, [.ref v10, .int 0, .int 0, .int 0])), (v10, .inl (cB, 16, .inl (fun _ => 0))), (y32, .inr (5, [.int 4, .int 4, .ref yw33, .ref yv34, .ref yh35, .int 0])), (yw33, .inl (cI, 4, .inl gw36)), (yv34, .inl (cI, 4, .inl gv37)), (yh35, .inl (cR, 4, .inr (.inr (.inr (.inr gh38))))), (y66, .inr (5, [.int 4, .int 4, .ref yw67, .ref yv68, .ref yh69, .int 1])), (yw67, .inl (cI, 4, .inl gw98)), (yv68, .inl (cI, 4, .inl gv99)), (yh69, .inl (cR, 4, .inr (.inr (.inr (.inr gh100))))), (y123, .inr (5, [.int 4, .int 4, .ref yw124, .ref yv125, .ref yh126, .int 2])), (yw124, .inl (cI, 4, .inl gw155)), (yv125, .inl (cI, 4, .inl gv156)), (yh126, .inl (cR, 4, .inr (.inr (.inr (.inr gh157))))), (a47, .inr (8, [.int 4, .ref wa48, .ref na49])), (wa48, .inl (cI, 4, .inl fw50)), (na49, .inl (cI, 4, .inl fn51)), (a80, .inr (8, [.int 4, .ref wa81, .ref na82])), (wa81, .inl (cI, 4, .inl fw107)), (na82, .inl (cI, 4, .inl fn108)), (a137, .inr (8, [.int 4, .ref wa138, .ref na139])), (wa138, .inl (cI, 4, .inl fw164)), (na139, .inl (cI, 4, .inl fn165)), (q16, .inr (7, [.long ((3 : Int32).toInt64), .null])), (q1, .inr (6, [.ref al5, .int 0, .int 0, .int 0, .ref sa6, .ref sb7, .ref b8, .ref sc9])), (al5, .inr (4, [.int mc179, .ref ed30, .int 4])), (ed30, .inl (cO, 10, .inr (.inr (.inr (.inr (va_up (va_up (va_up (va_up (fun _ => none) 0 (some y32)) 1 (some y66)) 2 (some y123)) 3 (some y180))))))), (y180, .inr (5, [.int 4, .int 4, .ref yw181, .ref yv182, .ref yh183, .int 3])), (yw181, .inl (cI, 4, .inl gw184)), (yv182, .inl (cI, 4, .inl gv185)), (yh183, .inl (cR, 4, .inr (.inr (.inr (.inr gh186))))), (q11, .inr (9, [.int 0, .ref am15, .int 0, .int 0, .int 0])), (am15, .inr (4, [.int mm193, .ref em45, .int 4])), (em45, .inl (cO, 10, .inr (.inr (.inr (.inr (va_up (va_up (va_up (va_up (fun _ => none) 0 (some a47)) 1 (some a80)) 2 (some a137)) 3 (some a194))))))), (a194, .inr (8, [.int 4, .ref wa195, .ref na196])), (wa195, .inl (cI, 4, .inl fw197)), (na196, .inl (cI, 4, .inl fn198))] H191 := hP
  replace hD : va_D A [(b8, .inr (1, [.ref v10, .int 0, .int 0, .int 0])), (v10, .inl (cB, 16, .inl (fun _ => 0))), (y32, .inr (5, [.int 4, .int 4, .ref yw33, .ref yv34, .ref yh35, .int 0])), (yw33, .inl (cI, 4, .inl gw36)), (yv34, .inl (cI, 4, .inl gv37)), (yh35, .inl (cR, 4, .inr (.inr (.inr (.inr gh38))))), (y66, .inr (5, [.int 4, .int 4, .ref yw67, .ref yv68, .ref yh69, .int 1])), (yw67, .inl (cI, 4, .inl gw98)), (yv68, .inl (cI, 4, .inl gv99)), (yh69, .inl (cR, 4, .inr (.inr (.inr (.inr gh100))))), (y123, .inr (5, [.int 4, .int 4, .ref yw124, .ref yv125, .ref yh126, .int 2])), (yw124, .inl (cI, 4, .inl gw155)), (yv125, .inl (cI, 4, .inl gv156)), (yh126, .inl (cR, 4, .inr (.inr (.inr (.inr gh157))))), (a47, .inr (8, [.int 4, .ref wa48, .ref na49])), (wa48, .inl (cI, 4, .inl fw50)), (na49, .inl (cI, 4, .inl fn51)), (a80, .inr (8, [.int 4, .ref wa81, .ref na82])), (wa81, .inl (cI, 4, .inl fw107)), (na82, .inl (cI, 4, .inl fn108)), (a137, .inr (8, [.int 4, .ref wa138, .ref na139])), (wa138, .inl (cI, 4, .inl fw164)), (na139, .inl (cI, 4, .inl fn165)), (q16, .inr (7, [.long ((3 : Int32).toInt64), .null])), (q1, .inr (6, [.ref al5, .int 0, .int 0, .int 0, .ref sa6, .ref sb7, .ref b8, .ref sc9])), (al5, .inr (4, [.int mc179, .ref ed30, .int 4])), (ed30, .inl (cO, 10, .inr (.inr (.inr (.inr (va_up (va_up (va_up (va_up (fun _ => none) 0 (some y32)) 1 (some y66)) 2 (some y123)) 3 (some y180))))))), (y180, .inr (5, [.int 4, .int 4, .ref yw181, .ref yv182, .ref yh183, .int 3])), (yw181, .inl (cI, 4, .inl gw184)), (yv182, .inl (cI, 4, .inl gv185)), (yh183, .inl (cR, 4, .inr (.inr (.inr (.inr gh186))))), (q11, .inr (9, [.int 0, .ref am15, .int 0, .int 0, .int 0])), (am15, .inr (4, [.int mm193, .ref em45, .int 4])), (em45, .inl (cO, 10, .inr (.inr (.inr (.inr (va_up (va_up (va_up (va_up (fun _ => none) 0 (some a47)) 1 (some a80)) 2 (some a137)) 3 (some a194))))))), (a194, .inr (8, [.int 4, .ref wa195, .ref na196])), (wa195, .inl (cI, 4, .inl fw197)), (na196, .inl (cI, 4, .inl fn198))] := hD
  refine W.widen (k := 62) (n := 259) (by omega) (by omega) ?_
  refine lv_istore (lv' := [(6, .int 3), (5, .int 0), (4, .int 25), (3, .ref q16), (2, .ref q11), (1, .ref q1), (0, .ref b)]) hx hb dL_law_219 hl (by decide) rfl (fun ls hl => ?_)
  refine lv_aload_n hx hb dL_law_221 rfl (lv_at hl 4 rfl) ?_
  have hPc := hP.sub (ws' := [(q11, .inr (9, [.int 0, .ref am15, .int 0, .int 0, .int 0]))]) [31] rfl
  have hDc := hD.sub (ws' := [(q11, .inr (9, [.int 0, .ref am15, .int 0, .int 0, .int 0]))]) [31] (by decide) rfl
  have hFc := va_free (wc := [(q11, .inr (9, [.int 0, .ref am15, .int 0, .int 0, .int 0]))]) hD hS hA [31] rfl
  have hDv := hDc.self (sz := H191.size)
  have hpre := zpre (xs' := []) (av := [.ref q11]) hPc hK (hDc.weaken (fun _ _ _ h => h)) hZ hS hFc (fun r hr => by cases hr)
  refine va_calli (va_runV (As := []) (rest := []) ⟨hx, hb, hml, hown, hts⟩ (k_thM l dC dI cI cB cR cO zk q11 (.int 0) (.int 0) (.int 0) am15 H191.size ) (cwV 0 hts gL_law_X4_thrown rfl rfl rfl (by decide +kernel) ⟨Nat.le_of_ble_eq_true rfl, Nat.le_of_ble_eq_true rfl⟩) ⟨zblind, (zrecv_9 hK hPc (q0 := 0) rfl), hpre⟩ rfl rfl hl.1 rfl (lv_room (Nat.le_of_ble_eq_true rfl)) dL_law_222 ⟨Nat.le_of_ble_eq_true rfl, Nat.le_of_ble_eq_true rfl⟩) hS (fun q _ h => hFc q h) hFc (fun r200 u t H199 locs ht hvm hw hB hz1 hk1 hS => ?_)
  obtain rfl : 0 = r200 := (show r200 = 0 from hw).symm
  obtain ⟨hP1, hK1, hD1, hz2⟩ := hB
  rw [ht] at hP1 hz2
  have hPD9 := va_join (wr := [(b8, .inr (1, [.ref v10, .int 0, .int 0, .int 0])), (v10, .inl (cB, 16, .inl (fun _ => 0))), (y32, .inr (5, [.int 4, .int 4, .ref yw33, .ref yv34, .ref yh35, .int 0])), (yw33, .inl (cI, 4, .inl gw36)), (yv34, .inl (cI, 4, .inl gv37)), (yh35, .inl (cR, 4, .inr (.inr (.inr (.inr gh38))))), (y66, .inr (5, [.int 4, .int 4, .ref yw67, .ref yv68, .ref yh69, .int 1])), (yw67, .inl (cI, 4, .inl gw98)), (yv68, .inl (cI, 4, .inl gv99)), (yh69, .inl (cR, 4, .inr (.inr (.inr (.inr gh100))))), (y123, .inr (5, [.int 4, .int 4, .ref yw124, .ref yv125, .ref yh126, .int 2])), (yw124, .inl (cI, 4, .inl gw155)), (yv125, .inl (cI, 4, .inl gv156)), (yh126, .inl (cR, 4, .inr (.inr (.inr (.inr gh157))))), (a47, .inr (8, [.int 4, .ref wa48, .ref na49])), (wa48, .inl (cI, 4, .inl fw50)), (na49, .inl (cI, 4, .inl fn51)), (a80, .inr (8, [.int 4, .ref wa81, .ref na82])), (wa81, .inl (cI, 4, .inl fw107)), (na82, .inl (cI, 4, .inl fn108)), (a137, .inr (8, [.int 4, .ref wa138, .ref na139])), (wa138, .inl (cI, 4, .inl fw164)), (na139, .inl (cI, 4, .inl fn165)), (q16, .inr (7, [.long ((3 : Int32).toInt64), .null])), (q1, .inr (6, [.ref al5, .int 0, .int 0, .int 0, .ref sa6, .ref sb7, .ref b8, .ref sc9])), (al5, .inr (4, [.int mc179, .ref ed30, .int 4])), (ed30, .inl (cO, 10, .inr (.inr (.inr (.inr (va_up (va_up (va_up (va_up (fun _ => none) 0 (some y32)) 1 (some y66)) 2 (some y123)) 3 (some y180))))))), (y180, .inr (5, [.int 4, .int 4, .ref yw181, .ref yv182, .ref yh183, .int 3])), (yw181, .inl (cI, 4, .inl gw184)), (yv182, .inl (cI, 4, .inl gv185)), (yh183, .inl (cR, 4, .inr (.inr (.inr (.inr gh186))))), (am15, .inr (4, [.int mm193, .ref em45, .int 4])), (em45, .inl (cO, 10, .inr (.inr (.inr (.inr (va_up (va_up (va_up (va_up (fun _ => none) 0 (some a47)) 1 (some a80)) 2 (some a137)) 3 (some a194))))))), (a194, .inr (8, [.int 4, .ref wa195, .ref na196])), (wa195, .inl (cI, 4, .inl fw197)), (na196, .inl (cI, 4, .inl fn198))]) (w1 := [(q11, .inr (9, [.int 0, .ref am15, .int 0, .int 0, .int 0]))]) hP hD [31] [0, 1, 2, 3, 4, 5, 6, 7, 8, 9, 10, 11, 12, 13, 14, 15, 16, 17, 18, 19, 20, 21, 22, 23, 24, 25, 26, 27, 28, 29, 30, 32, 33, 34, 35, 36] rfl rfl (by decide) (by decide) hk1 hFc hP1 hD1
  clear hPc hDc hFc hDv hpre hP hD hP1 hK1 hD1
  obtain ⟨hP, hD⟩ := hPD9
  replace hz : s.heap.size + 57 ≤ H199.size := by omega
  clear hz2
  replace hP : va_P (dC, dI) vwCl [(b8, .inr (1, [.ref v10, .int 0, .int 0, .int 0])), (v10, .inl (cB, 16, .inl (fun _ => 0))), (y32, .inr (5, [.int 4, .int 4, .ref yw33, .ref yv34, .ref yh35, .int 0])), (yw33, .inl (cI, 4, .inl gw36)), (yv34, .inl (cI, 4, .inl gv37)), (yh35, .inl (cR, 4, .inr (.inr (.inr (.inr gh38))))), (y66, .inr (5, [.int 4, .int 4, .ref yw67, .ref yv68, .ref yh69, .int 1])), (yw67, .inl (cI, 4, .inl gw98)), (yv68, .inl (cI, 4, .inl gv99)), (yh69, .inl (cR, 4, .inr (.inr (.inr (.inr gh100))))), (y123, .inr (5, [.int 4, .int 4, .ref yw124, .ref yv125, .ref yh126, .int 2])), (yw124, .inl (cI, 4, .inl gw155)), (yv125, .inl (cI, 4, .inl gv156)), (yh126, .inl (cR, 4, .inr (.inr (.inr (.inr gh157))))), (a47, .inr (8, [.int 4, .ref wa48, .ref na49])), (wa48, .inl (cI, 4, .inl fw50)), (na49, .inl (cI, 4, .inl fn51)), (a80, .inr (8, [.int 4, .ref wa81, .ref na82])), (wa81, .inl (cI, 4, .inl fw107)), (na82, .inl (cI, 4, .inl fn108)), (a137, .inr (8, [.int 4, .ref wa138, .ref na139])), (wa138, .inl (cI, 4, .inl fw164)), (na139, .inl (cI, 4, .inl fn165)), (q16, .inr (7, [.long ((3 : Int32).toInt64), .null])), (q1, .inr (6, [.ref al5, .int 0, .int 0, .int 0, .ref sa6, .ref sb7, .ref b8, .ref sc9])), (al5, .inr (4, [.int mc179, .ref ed30, .int 4])), (ed30, .inl (cO, 10, .inr (.inr (.inr (.inr (va_up (va_up (va_up (va_up (fun _ => none) 0 (some y32)) 1 (some y66)) 2 (some y123)) 3 (some y180))))))), (y180, .inr (5, [.int 4, .int 4, .ref yw181, .ref yv182, .ref yh183, .int 3])), (yw181, .inl (cI, 4, .inl gw184)), (yv182, .inl (cI, 4, .inl gv185)), (yh183, .inl (cR, 4, .inr (.inr (.inr (.inr gh186))))), (am15, .inr (4, [.int mm193, .ref em45, .int 4])), (em45, .inl (cO, 10, .inr (.inr (.inr (.inr (va_up (va_up (va_up (va_up (fun _ => none) 0 (some a47)) 1 (some a80)) 2 (some a137)) 3 (some a194))))))), (a194, .inr (8, [.int 4, .ref wa195, .ref na196])), (wa195, .inl (cI, 4, .inl fw197)), (na196, .inl (cI, 4, .inl fn198)), (q11, .inr (9, [.int 0, .ref am15, .int 0, .int 0, .int 0]))] H199 := hP
  replace hD : va_D A [(b8, .inr (1, [.ref v10, .int 0, .int 0, .int 0])), (v10, .inl (cB, 16, .inl (fun _ => 0))), (y32, .inr (5, [.int 4, .int 4, .ref yw33, .ref yv34, .ref yh35, .int 0])), (yw33, .inl (cI, 4, .inl gw36)), (yv34, .inl (cI, 4, .inl gv37)), (yh35, .inl (cR, 4, .inr (.inr (.inr (.inr gh38))))), (y66, .inr (5, [.int 4, .int 4, .ref yw67, .ref yv68, .ref yh69, .int 1])), (yw67, .inl (cI, 4, .inl gw98)), (yv68, .inl (cI, 4, .inl gv99)), (yh69, .inl (cR, 4, .inr (.inr (.inr (.inr gh100))))), (y123, .inr (5, [.int 4, .int 4, .ref yw124, .ref yv125, .ref yh126, .int 2])), (yw124, .inl (cI, 4, .inl gw155)), (yv125, .inl (cI, 4, .inl gv156)), (yh126, .inl (cR, 4, .inr (.inr (.inr (.inr gh157))))), (a47, .inr (8, [.int 4, .ref wa48, .ref na49])), (wa48, .inl (cI, 4, .inl fw50)), (na49, .inl (cI, 4, .inl fn51)), (a80, .inr (8, [.int 4, .ref wa81, .ref na82])), (wa81, .inl (cI, 4, .inl fw107)), (na82, .inl (cI, 4, .inl fn108)), (a137, .inr (8, [.int 4, .ref wa138, .ref na139])), (wa138, .inl (cI, 4, .inl fw164)), (na139, .inl (cI, 4, .inl fn165)), (q16, .inr (7, [.long ((3 : Int32).toInt64), .null])), (q1, .inr (6, [.ref al5, .int 0, .int 0, .int 0, .ref sa6, .ref sb7, .ref b8, .ref sc9])), (al5, .inr (4, [.int mc179, .ref ed30, .int 4])), (ed30, .inl (cO, 10, .inr (.inr (.inr (.inr (va_up (va_up (va_up (va_up (fun _ => none) 0 (some y32)) 1 (some y66)) 2 (some y123)) 3 (some y180))))))), (y180, .inr (5, [.int 4, .int 4, .ref yw181, .ref yv182, .ref yh183, .int 3])), (yw181, .inl (cI, 4, .inl gw184)), (yv182, .inl (cI, 4, .inl gv185)), (yh183, .inl (cR, 4, .inr (.inr (.inr (.inr gh186))))), (am15, .inr (4, [.int mm193, .ref em45, .int 4])), (em45, .inl (cO, 10, .inr (.inr (.inr (.inr (va_up (va_up (va_up (va_up (fun _ => none) 0 (some a47)) 1 (some a80)) 2 (some a137)) 3 (some a194))))))), (a194, .inr (8, [.int 4, .ref wa195, .ref na196])), (wa195, .inl (cI, 4, .inl fw197)), (na196, .inl (cI, 4, .inl fn198)), (q11, .inr (9, [.int 0, .ref am15, .int 0, .int 0, .int 0]))] := hD
  refine W.widen (k := 62) (n := 259) (by omega) (by omega) ?_
  refine lv_iload hx hb dL_law_225 (lv_at hl 1 rfl) ?_
  refine lv_icmp_eq (tgt := 232) hx hb dL_law_227 (by decide) (fun c9 => ?_) (fun c9 => ?_)
  rotate_left
  · exact absurd (by decide) c9
  refine lv_iload hx hb dL_law_232 (lv_at hl 1 rfl) ?_
  refine lv_if_ne (tgt := 250) hx hb dL_law_234 (by decide) (fun c9 => ?_) (fun c9 => ?_)
  · exact absurd (by decide) c9
  refine lv_aload_n hx hb dL_law_237 rfl (lv_at hl 3 rfl) ?_
  refine va_getN (D := (dC, dI)) (ci := 7) (v := .long ((3 : Int32).toInt64)) (C := RX2) (T := TX2) (N := 2) hx hb hts inlX2 hown hK hP 23 rfl rfl 0 (by decide) (zn6 hZ) (fun _ h9 => h9) rfl dL_law_238 ?_
  refine lv_iload hx hb dL_law_241 (lv_at hl 0 rfl) ?_
  refine lv_i2l (v := (3 : Int32).toInt64) hx hb dL_law_243 rfl ?_
  refine W.lcmp hx hb dL_law_244 ?_
  refine lv_topi (fun v201 ev201 => ?_)
  obtain rfl : v201 = 0 := ev201.trans (by decide)
  refine lv_if_eq (tgt := 250) hx hb dL_law_245 (by decide) (fun c9 => ?_) (fun c9 => ?_)
  rotate_left
  · exact absurd (by decide) c9
  refine lv_goto (tgt := 2155) hx hb dL_law_250 (by decide) ?_
  refine lv_iinc (v := 30) (lv' := [(4, .int 30), (6, .int 3), (5, .int 0), (3, .ref q16), (2, .ref q11), (1, .ref q1), (0, .ref b)]) hx hb dL_law_2155 hl (k := 2) rfl (by decide) (by decide) rfl (fun ls hl => ?_)
  refine lv_goto (tgt := 27) hx hb dL_law_2158 (by decide) ?_
  refine lv_iload hx hb dL_law_27 (lv_at hl 0 rfl) ?_
  refine lv_aload_n hx hb dL_law_29 rfl (lv_at hl 6 rfl) ?_
  refine va_slen hx hb hX hbl hbA hS dL_law_30 ?_
  refine W.eq (g2 := F0 mY 31 ls [.int 1835, .int 30]) rfl ?_
  refine lv_iconst (v := 5) hx hb dL_law_31 (by decide) ?_
  refine lv_isub hx hb dL_law_32 ?_
  refine lv_topi (fun v202 ev202 => ?_)
  obtain rfl : v202 = 1830 := ev202.trans (by decide)
  refine lv_icmp_gt (tgt := 2161) hx hb dL_law_33 (by decide) (fun c9 => ?_) (fun c9 => ?_)
  · exact absurd c9 (by decide)
  refine lv_aload_n hx hb dL_law_36 rfl (lv_at hl 6 rfl) ?_
  refine lv_iload hx hb dL_law_37 (lv_at hl 0 rfl) ?_
  refine va_sld hx hb hX hbl hbA hS (by unfold vp_in; decide) dL_law_39 ?_
  refine lv_topi (fun v203 ev203 => ?_)
  obtain rfl : v203 = 9 := ev203.trans (by decide)
  refine lv_bipush (v := 31) hx hb dL_law_40 (by decide) ?_
  refine lv_iand hx hb dL_law_42 ?_
  refine lv_topi (fun v204 ev204 => ?_)
  obtain rfl : v204 = 9 := ev204.trans (by decide)
  refine lv_tableIn (off := 730) (tgt := 773) hx hb dL_law_43 (by decide) (by decide) (by decide) (by decide) ?_
  refine lv_aload_n hx hb dL_law_773 rfl (lv_at hl 5 rfl) ?_
  refine lv_aload_n hx hb dL_law_774 rfl (lv_at hl 6 rfl) ?_
  refine lv_iload hx hb dL_law_775 (lv_at hl 0 rfl) ?_
  refine lv_iconst (v := 1) hx hb dL_law_777 (by decide) ?_
  refine lv_iadd hx hb dL_law_778 ?_
  refine lv_topi (fun v205 ev205 => ?_)
  obtain rfl : v205 = 31 := ev205.trans (by decide)
  refine va_sld hx hb hX hbl hbA hS (by unfold vp_in; decide) dL_law_779 ?_
  refine lv_topi (fun v206 ev206 => ?_)
  obtain rfl : v206 = 3 := ev206.trans (by decide)
  refine lv_aload_n hx hb dL_law_780 rfl (lv_at hl 6 rfl) ?_
  refine lv_iload hx hb dL_law_781 (lv_at hl 0 rfl) ?_
  refine lv_iconst (v := 2) hx hb dL_law_783 (by decide) ?_
  refine lv_iadd hx hb dL_law_784 ?_
  refine lv_topi (fun v207 ev207 => ?_)
  obtain rfl : v207 = 32 := ev207.trans (by decide)
  refine va_sld hx hb hX hbl hbA hS (by unfold vp_in; decide) dL_law_785 ?_
  refine lv_topi (fun v208 ev208 => ?_)
  obtain rfl : v208 = 2 := ev208.trans (by decide)
  refine lv_aload_n hx hb dL_law_786 rfl (lv_at hl 3 rfl) ?_
  have hPc := hP.sub (ws' := [(q16, .inr (7, [.long ((3 : Int32).toInt64), .null])), (q1, .inr (6, [.ref al5, .int 0, .int 0, .int 0, .ref sa6, .ref sb7, .ref b8, .ref sc9])), (al5, .inr (4, [.int mc179, .ref ed30, .int 4])), (ed30, .inl (cO, 10, .inr (.inr (.inr (.inr (va_up (va_up (va_up (va_up (fun _ => none) 0 (some y32)) 1 (some y66)) 2 (some y123)) 3 (some y180))))))), (y32, .inr (5, [.int 4, .int 4, .ref yw33, .ref yv34, .ref yh35, .int 0])), (yw33, .inl (cI, 4, .inl gw36)), (yv34, .inl (cI, 4, .inl gv37)), (yh35, .inl (cR, 4, .inr (.inr (.inr (.inr gh38))))), (y66, .inr (5, [.int 4, .int 4, .ref yw67, .ref yv68, .ref yh69, .int 1])), (yw67, .inl (cI, 4, .inl gw98)), (yv68, .inl (cI, 4, .inl gv99)), (yh69, .inl (cR, 4, .inr (.inr (.inr (.inr gh100))))), (y123, .inr (5, [.int 4, .int 4, .ref yw124, .ref yv125, .ref yh126, .int 2])), (yw124, .inl (cI, 4, .inl gw155)), (yv125, .inl (cI, 4, .inl gv156)), (yh126, .inl (cR, 4, .inr (.inr (.inr (.inr gh157))))), (y180, .inr (5, [.int 4, .int 4, .ref yw181, .ref yv182, .ref yh183, .int 3])), (yw181, .inl (cI, 4, .inl gw184)), (yv182, .inl (cI, 4, .inl gv185)), (yh183, .inl (cR, 4, .inr (.inr (.inr (.inr gh186)))))]) [23, 24, 25, 26, 2, 3, 4, 5, 6, 7, 8, 9, 10, 11, 12, 13, 27, 28, 29, 30] rfl
  have hDc := hD.sub (ws' := [(q16, .inr (7, [.long ((3 : Int32).toInt64), .null])), (q1, .inr (6, [.ref al5, .int 0, .int 0, .int 0, .ref sa6, .ref sb7, .ref b8, .ref sc9])), (al5, .inr (4, [.int mc179, .ref ed30, .int 4])), (ed30, .inl (cO, 10, .inr (.inr (.inr (.inr (va_up (va_up (va_up (va_up (fun _ => none) 0 (some y32)) 1 (some y66)) 2 (some y123)) 3 (some y180))))))), (y32, .inr (5, [.int 4, .int 4, .ref yw33, .ref yv34, .ref yh35, .int 0])), (yw33, .inl (cI, 4, .inl gw36)), (yv34, .inl (cI, 4, .inl gv37)), (yh35, .inl (cR, 4, .inr (.inr (.inr (.inr gh38))))), (y66, .inr (5, [.int 4, .int 4, .ref yw67, .ref yv68, .ref yh69, .int 1])), (yw67, .inl (cI, 4, .inl gw98)), (yv68, .inl (cI, 4, .inl gv99)), (yh69, .inl (cR, 4, .inr (.inr (.inr (.inr gh100))))), (y123, .inr (5, [.int 4, .int 4, .ref yw124, .ref yv125, .ref yh126, .int 2])), (yw124, .inl (cI, 4, .inl gw155)), (yv125, .inl (cI, 4, .inl gv156)), (yh126, .inl (cR, 4, .inr (.inr (.inr (.inr gh157))))), (y180, .inr (5, [.int 4, .int 4, .ref yw181, .ref yv182, .ref yh183, .int 3])), (yw181, .inl (cI, 4, .inl gw184)), (yv182, .inl (cI, 4, .inl gv185)), (yh183, .inl (cR, 4, .inr (.inr (.inr (.inr gh186)))))]) [23, 24, 25, 26, 2, 3, 4, 5, 6, 7, 8, 9, 10, 11, 12, 13, 27, 28, 29, 30] (by decide) rfl
  have hFc := va_free (wc := [(q16, .inr (7, [.long ((3 : Int32).toInt64), .null])), (q1, .inr (6, [.ref al5, .int 0, .int 0, .int 0, .ref sa6, .ref sb7, .ref b8, .ref sc9])), (al5, .inr (4, [.int mc179, .ref ed30, .int 4])), (ed30, .inl (cO, 10, .inr (.inr (.inr (.inr (va_up (va_up (va_up (va_up (fun _ => none) 0 (some y32)) 1 (some y66)) 2 (some y123)) 3 (some y180))))))), (y32, .inr (5, [.int 4, .int 4, .ref yw33, .ref yv34, .ref yh35, .int 0])), (yw33, .inl (cI, 4, .inl gw36)), (yv34, .inl (cI, 4, .inl gv37)), (yh35, .inl (cR, 4, .inr (.inr (.inr (.inr gh38))))), (y66, .inr (5, [.int 4, .int 4, .ref yw67, .ref yv68, .ref yh69, .int 1])), (yw67, .inl (cI, 4, .inl gw98)), (yv68, .inl (cI, 4, .inl gv99)), (yh69, .inl (cR, 4, .inr (.inr (.inr (.inr gh100))))), (y123, .inr (5, [.int 4, .int 4, .ref yw124, .ref yv125, .ref yh126, .int 2])), (yw124, .inl (cI, 4, .inl gw155)), (yv125, .inl (cI, 4, .inl gv156)), (yh126, .inl (cR, 4, .inr (.inr (.inr (.inr gh157))))), (y180, .inr (5, [.int 4, .int 4, .ref yw181, .ref yv182, .ref yh183, .int 3])), (yw181, .inl (cI, 4, .inl gw184)), (yv182, .inl (cI, 4, .inl gv185)), (yh183, .inl (cR, 4, .inr (.inr (.inr (.inr gh186)))))]) hD hS hA [23, 24, 25, 26, 2, 3, 4, 5, 6, 7, 8, 9, 10, 11, 12, 13, 27, 28, 29, 30] rfl
  have hDv := hDc.self (sz := H199.size)
  have hpre := zpre (xs' := []) (av := [.ref q1, .int 3, .int 2, .ref q16]) hPc hK (hDc.weaken (fun _ _ _ h => h)) hZ hS hFc (fun r hr => by cases hr)
  refine va_calli (vx_runSW (As := [.ref q1, .int 3, .int 2, .ref q16]) (rest := []) ⟨hx, hb, hml, hown, hts⟩ (k_LfX3 l dC dI cI cB cR cO zk q1 al5 b8 (.int 0) (.int 0) (.int 0) (.ref sa6) (.ref sb7) (.ref sc9) ed30 (va_up (va_up (va_up (va_up (fun _ => none) 0 (some y32)) 1 (some y66)) 2 (some y123)) 3 (some y180)) (.int mc179) y32 yw33 yv34 yh35 y66 yw67 yv68 yh69 y123 yw124 yv125 yh126 0 1 2 gw36 gv37 gw98 gv99 gw155 gv156 gh38 gh100 gh157 y180 yw181 yv182 yh183 3 gw184 gv185 gh186 q16 (.long ((3 : Int32).toInt64)) .null H199.size rfl rfl rfl rfl hwgw36 hhgh38 hhgh100 hhgh157) (vx_cwSW 4 hts gL_law_L_fillRow rfl rfl rfl (by decide +kernel) ⟨Nat.le_of_ble_eq_true rfl, Nat.le_of_ble_eq_true rfl⟩) ⟨zblind, hpre⟩ rfl rfl hl.1 rfl (lv_room (Nat.le_of_ble_eq_true rfl)) dL_law_787 ⟨Nat.le_of_ble_eq_true rfl, Nat.le_of_ble_eq_true rfl⟩) hS (fun q _ h => hFc q h) hFc (fun r210 u t H209 locs ht hvm hw hB hz1 hk1 hS => ?_)
  obtain rfl : 0 = r210 := (show r210 = 0 from hw).symm
  obtain ⟨on211, gw212, gv213, gh214, ⟨hP1, hK1, hD1, hz2⟩, hhgh214, rfl⟩ := hB
  rw [ht] at hP1 hz2
  have hPD9 := va_join (wr := [(b8, .inr (1, [.ref v10, .int 0, .int 0, .int 0])), (v10, .inl (cB, 16, .inl (fun _ => 0))), (a47, .inr (8, [.int 4, .ref wa48, .ref na49])), (wa48, .inl (cI, 4, .inl fw50)), (na49, .inl (cI, 4, .inl fn51)), (a80, .inr (8, [.int 4, .ref wa81, .ref na82])), (wa81, .inl (cI, 4, .inl fw107)), (na82, .inl (cI, 4, .inl fn108)), (a137, .inr (8, [.int 4, .ref wa138, .ref na139])), (wa138, .inl (cI, 4, .inl fw164)), (na139, .inl (cI, 4, .inl fn165)), (am15, .inr (4, [.int mm193, .ref em45, .int 4])), (em45, .inl (cO, 10, .inr (.inr (.inr (.inr (va_up (va_up (va_up (va_up (fun _ => none) 0 (some a47)) 1 (some a80)) 2 (some a137)) 3 (some a194))))))), (a194, .inr (8, [.int 4, .ref wa195, .ref na196])), (wa195, .inl (cI, 4, .inl fw197)), (na196, .inl (cI, 4, .inl fn198)), (q11, .inr (9, [.int 0, .ref am15, .int 0, .int 0, .int 0]))]) (w1 := [(q16, .inr (7, [.long ((4 : Int32).toInt64), .null])), (q1, .inr (6, [.ref al5, .int 0, .int 0, .int 0, .ref sa6, .ref sb7, .ref b8, .ref sc9])), (al5, .inr (4, [.int mc179, .ref ed30, .int 4])), (ed30, .inl (cO, 10, .inr (.inr (.inr (.inr (va_up (va_up (va_up (va_up (fun _ => none) 0 (some y32)) 1 (some y66)) 2 (some y123)) 3 (some y180))))))), (y32, .inr (5, [.int 4, .int 4, .ref yw33, .ref yv34, .ref yh35, .int 0])), (yw33, .inl (cI, 4, .inl gw36)), (yv34, .inl (cI, 4, .inl gv37)), (yh35, .inl (cR, 4, .inr (.inr (.inr (.inr gh38))))), (y66, .inr (5, [.int 4, .int 4, .ref yw67, .ref yv68, .ref yh69, .int 1])), (yw67, .inl (cI, 4, .inl gw98)), (yv68, .inl (cI, 4, .inl gv99)), (yh69, .inl (cR, 4, .inr (.inr (.inr (.inr gh100))))), (y123, .inr (5, [.int 4, .int 4, .ref yw124, .ref yv125, .ref yh126, .int 2])), (yw124, .inl (cI, 4, .inl gw155)), (yv125, .inl (cI, 4, .inl gv156)), (yh126, .inl (cR, 4, .inr (.inr (.inr (.inr gh157))))), (y180, .inr (5, [.int 4, .int 4, .ref yw181, .ref yv182, .ref yh183, .int 3])), (yw181, .inl (cI, 4, .inl gw212)), (yv182, .inl (cI, 4, .inl gv213)), (yh183, .inl (cR, 4, .inr (.inr (.inr (.inr gh214)))))]) hP hD [23, 24, 25, 26, 2, 3, 4, 5, 6, 7, 8, 9, 10, 11, 12, 13, 27, 28, 29, 30] [0, 1, 14, 15, 16, 17, 18, 19, 20, 21, 22, 31, 32, 33, 34, 35, 36] rfl rfl (by decide) (by decide) hk1 hFc hP1 hD1
  clear hPc hDc hFc hDv hpre hP hD hP1 hK1 hD1
  obtain ⟨hP, hD⟩ := hPD9
  replace hz : s.heap.size + 57 ≤ H209.size := by omega
  clear hz2
  replace hP : va_P (dC, dI) vwCl [(b8, .inr (1, [.ref v10, .int 0, .int 0, .int 0])), (v10, .inl (cB, 16, .inl (fun _ => 0))), (a47, .inr (8, [.int 4, .ref wa48, .ref na49])), (wa48, .inl (cI, 4, .inl fw50)), (na49, .inl (cI, 4, .inl fn51)), (a80, .inr (8, [.int 4, .ref wa81, .ref na82])), (wa81, .inl (cI, 4, .inl fw107)), (na82, .inl (cI, 4, .inl fn108)), (a137, .inr (8, [.int 4, .ref wa138, .ref na139])), (wa138, .inl (cI, 4, .inl fw164)), (na139, .inl (cI, 4, .inl fn165)), (am15, .inr (4, [.int mm193, .ref em45, .int 4])), (em45, .inl (cO, 10, .inr (.inr (.inr (.inr (va_up (va_up (va_up (va_up (fun _ => none) 0 (some a47)) 1 (some a80)) 2 (some a137)) 3 (some a194))))))), (a194, .inr (8, [.int 4, .ref wa195, .ref na196])), (wa195, .inl (cI, 4, .inl fw197)), (na196, .inl (cI, 4, .inl fn198)), (q11, .inr (9, [.int 0, .ref am15, .int 0, .int 0, .int 0])), (q16, .inr (7, [.long ((4 : Int32).toInt64), .null])), (q1, .inr (6, [.ref al5, .int 0, .int 0, .int 0, .ref sa6, .ref sb7, .ref b8, .ref sc9])), (al5, .inr (4, [.int mc179, .ref ed30, .int 4])), (ed30, .inl (cO, 10, .inr (.inr (.inr (.inr (va_up (va_up (va_up (va_up (fun _ => none) 0 (some y32)) 1 (some y66)) 2 (some y123)) 3 (some y180))))))), (y32, .inr (5, [.int 4, .int 4, .ref yw33, .ref yv34, .ref yh35, .int 0])), (yw33, .inl (cI, 4, .inl gw36)), (yv34, .inl (cI, 4, .inl gv37)), (yh35, .inl (cR, 4, .inr (.inr (.inr (.inr gh38))))), (y66, .inr (5, [.int 4, .int 4, .ref yw67, .ref yv68, .ref yh69, .int 1])), (yw67, .inl (cI, 4, .inl gw98)), (yv68, .inl (cI, 4, .inl gv99)), (yh69, .inl (cR, 4, .inr (.inr (.inr (.inr gh100))))), (y123, .inr (5, [.int 4, .int 4, .ref yw124, .ref yv125, .ref yh126, .int 2])), (yw124, .inl (cI, 4, .inl gw155)), (yv125, .inl (cI, 4, .inl gv156)), (yh126, .inl (cR, 4, .inr (.inr (.inr (.inr gh157))))), (y180, .inr (5, [.int 4, .int 4, .ref yw181, .ref yv182, .ref yh183, .int 3])), (yw181, .inl (cI, 4, .inl gw212)), (yv182, .inl (cI, 4, .inl gv213)), (yh183, .inl (cR, 4, .inr (.inr (.inr (.inr gh214)))))] H209 := hP
  replace hD : va_D A [(b8, .inr (1, [.ref v10, .int 0, .int 0, .int 0])), (v10, .inl (cB, 16, .inl (fun _ => 0))), (a47, .inr (8, [.int 4, .ref wa48, .ref na49])), (wa48, .inl (cI, 4, .inl fw50)), (na49, .inl (cI, 4, .inl fn51)), (a80, .inr (8, [.int 4, .ref wa81, .ref na82])), (wa81, .inl (cI, 4, .inl fw107)), (na82, .inl (cI, 4, .inl fn108)), (a137, .inr (8, [.int 4, .ref wa138, .ref na139])), (wa138, .inl (cI, 4, .inl fw164)), (na139, .inl (cI, 4, .inl fn165)), (am15, .inr (4, [.int mm193, .ref em45, .int 4])), (em45, .inl (cO, 10, .inr (.inr (.inr (.inr (va_up (va_up (va_up (va_up (fun _ => none) 0 (some a47)) 1 (some a80)) 2 (some a137)) 3 (some a194))))))), (a194, .inr (8, [.int 4, .ref wa195, .ref na196])), (wa195, .inl (cI, 4, .inl fw197)), (na196, .inl (cI, 4, .inl fn198)), (q11, .inr (9, [.int 0, .ref am15, .int 0, .int 0, .int 0])), (q16, .inr (7, [.long ((4 : Int32).toInt64), .null])), (q1, .inr (6, [.ref al5, .int 0, .int 0, .int 0, .ref sa6, .ref sb7, .ref b8, .ref sc9])), (al5, .inr (4, [.int mc179, .ref ed30, .int 4])), (ed30, .inl (cO, 10, .inr (.inr (.inr (.inr (va_up (va_up (va_up (va_up (fun _ => none) 0 (some y32)) 1 (some y66)) 2 (some y123)) 3 (some y180))))))), (y32, .inr (5, [.int 4, .int 4, .ref yw33, .ref yv34, .ref yh35, .int 0])), (yw33, .inl (cI, 4, .inl gw36)), (yv34, .inl (cI, 4, .inl gv37)), (yh35, .inl (cR, 4, .inr (.inr (.inr (.inr gh38))))), (y66, .inr (5, [.int 4, .int 4, .ref yw67, .ref yv68, .ref yh69, .int 1])), (yw67, .inl (cI, 4, .inl gw98)), (yv68, .inl (cI, 4, .inl gv99)), (yh69, .inl (cR, 4, .inr (.inr (.inr (.inr gh100))))), (y123, .inr (5, [.int 4, .int 4, .ref yw124, .ref yv125, .ref yh126, .int 2])), (yw124, .inl (cI, 4, .inl gw155)), (yv125, .inl (cI, 4, .inl gv156)), (yh126, .inl (cR, 4, .inr (.inr (.inr (.inr gh157))))), (y180, .inr (5, [.int 4, .int 4, .ref yw181, .ref yv182, .ref yh183, .int 3])), (yw181, .inl (cI, 4, .inl gw212)), (yv182, .inl (cI, 4, .inl gv213)), (yh183, .inl (cR, 4, .inr (.inr (.inr (.inr gh214)))))] := hD
  refine W.widen (k := 62) (n := 259) (by omega) (by omega) ?_
  refine lv_istore (lv' := [(5, .int 0), (4, .int 30), (6, .int 3), (3, .ref q16), (2, .ref q11), (1, .ref q1), (0, .ref b)]) hx hb dL_law_790 hl (by decide) rfl (fun ls hl => ?_)
  refine lv_aload_n hx hb dL_law_792 rfl (lv_at hl 4 rfl) ?_
  refine lv_aload_n hx hb dL_law_793 rfl (lv_at hl 6 rfl) ?_
  refine lv_iload hx hb dL_law_794 (lv_at hl 1 rfl) ?_
  refine lv_iconst (v := 1) hx hb dL_law_796 (by decide) ?_
  refine lv_iadd hx hb dL_law_797 ?_
  refine lv_topi (fun v215 ev215 => ?_)
  obtain rfl : v215 = 31 := ev215.trans (by decide)
  refine va_sld hx hb hX hbl hbA hS (by unfold vp_in; decide) dL_law_798 ?_
  refine lv_topi (fun v216 ev216 => ?_)
  obtain rfl : v216 = 3 := ev216.trans (by decide)
  refine lv_aload_n hx hb dL_law_799 rfl (lv_at hl 6 rfl) ?_
  refine lv_iload hx hb dL_law_800 (lv_at hl 1 rfl) ?_
  refine lv_iconst (v := 2) hx hb dL_law_802 (by decide) ?_
  refine lv_iadd hx hb dL_law_803 ?_
  refine lv_topi (fun v217 ev217 => ?_)
  obtain rfl : v217 = 32 := ev217.trans (by decide)
  refine va_sld hx hb hX hbl hbA hS (by unfold vp_in; decide) dL_law_804 ?_
  refine lv_topi (fun v218 ev218 => ?_)
  obtain rfl : v218 = 2 := ev218.trans (by decide)
  have hPc := hP.sub (ws' := [(q11, .inr (9, [.int 0, .ref am15, .int 0, .int 0, .int 0])), (am15, .inr (4, [.int mm193, .ref em45, .int 4])), (em45, .inl (cO, 10, .inr (.inr (.inr (.inr (va_up (va_up (va_up (va_up (fun _ => none) 0 (some a47)) 1 (some a80)) 2 (some a137)) 3 (some a194))))))), (a47, .inr (8, [.int 4, .ref wa48, .ref na49])), (wa48, .inl (cI, 4, .inl fw50)), (na49, .inl (cI, 4, .inl fn51)), (a80, .inr (8, [.int 4, .ref wa81, .ref na82])), (wa81, .inl (cI, 4, .inl fw107)), (na82, .inl (cI, 4, .inl fn108)), (a137, .inr (8, [.int 4, .ref wa138, .ref na139])), (wa138, .inl (cI, 4, .inl fw164)), (na139, .inl (cI, 4, .inl fn165)), (a194, .inr (8, [.int 4, .ref wa195, .ref na196])), (wa195, .inl (cI, 4, .inl fw197)), (na196, .inl (cI, 4, .inl fn198))]) [16, 11, 12, 2, 3, 4, 5, 6, 7, 8, 9, 10, 13, 14, 15] rfl
  have hDc := hD.sub (ws' := [(q11, .inr (9, [.int 0, .ref am15, .int 0, .int 0, .int 0])), (am15, .inr (4, [.int mm193, .ref em45, .int 4])), (em45, .inl (cO, 10, .inr (.inr (.inr (.inr (va_up (va_up (va_up (va_up (fun _ => none) 0 (some a47)) 1 (some a80)) 2 (some a137)) 3 (some a194))))))), (a47, .inr (8, [.int 4, .ref wa48, .ref na49])), (wa48, .inl (cI, 4, .inl fw50)), (na49, .inl (cI, 4, .inl fn51)), (a80, .inr (8, [.int 4, .ref wa81, .ref na82])), (wa81, .inl (cI, 4, .inl fw107)), (na82, .inl (cI, 4, .inl fn108)), (a137, .inr (8, [.int 4, .ref wa138, .ref na139])), (wa138, .inl (cI, 4, .inl fw164)), (na139, .inl (cI, 4, .inl fn165)), (a194, .inr (8, [.int 4, .ref wa195, .ref na196])), (wa195, .inl (cI, 4, .inl fw197)), (na196, .inl (cI, 4, .inl fn198))]) [16, 11, 12, 2, 3, 4, 5, 6, 7, 8, 9, 10, 13, 14, 15] (by decide) rfl
  have hFc := va_free (wc := [(q11, .inr (9, [.int 0, .ref am15, .int 0, .int 0, .int 0])), (am15, .inr (4, [.int mm193, .ref em45, .int 4])), (em45, .inl (cO, 10, .inr (.inr (.inr (.inr (va_up (va_up (va_up (va_up (fun _ => none) 0 (some a47)) 1 (some a80)) 2 (some a137)) 3 (some a194))))))), (a47, .inr (8, [.int 4, .ref wa48, .ref na49])), (wa48, .inl (cI, 4, .inl fw50)), (na49, .inl (cI, 4, .inl fn51)), (a80, .inr (8, [.int 4, .ref wa81, .ref na82])), (wa81, .inl (cI, 4, .inl fw107)), (na82, .inl (cI, 4, .inl fn108)), (a137, .inr (8, [.int 4, .ref wa138, .ref na139])), (wa138, .inl (cI, 4, .inl fw164)), (na139, .inl (cI, 4, .inl fn165)), (a194, .inr (8, [.int 4, .ref wa195, .ref na196])), (wa195, .inl (cI, 4, .inl fw197)), (na196, .inl (cI, 4, .inl fn198))]) hD hS hA [16, 11, 12, 2, 3, 4, 5, 6, 7, 8, 9, 10, 13, 14, 15] rfl
  have hDv := hDc.self (sz := H209.size)
  have hpre := zpre (xs' := []) (av := [.ref q11, .int 3, .int 2]) hPc hK (hDc.weaken (fun _ _ _ h => h)) hZ hS hFc (fun r hr => by cases hr)
  refine va_calli (va_runV (As := [.int 3, .int 2]) (rest := []) ⟨hx, hb, hml, hown, hts⟩ (k_fiM3 l dC dI cI cB cR cO zk q11 am15 (.int 0) (.int 0) (.int 0) (.int 0) em45 (va_up (va_up (va_up (va_up (fun _ => none) 0 (some a47)) 1 (some a80)) 2 (some a137)) 3 (some a194)) mm193 a47 wa48 na49 a80 wa81 na82 a137 wa138 na139 a194 wa195 na196 fw50 fn51 fw107 fn108 fw164 fn165 fw197 fn198 H209.size hwfw50 hnfn51 rfl hwfw107 hnfn108 rfl hwfw164 hnfn165 rfl hwfw197 hnfn198 rfl) (cwV 2 hts gL_law_X4_fillRow rfl rfl rfl (by decide +kernel) ⟨Nat.le_of_ble_eq_true rfl, Nat.le_of_ble_eq_true rfl⟩) ⟨zblind, (zrecv_9 hK hPc (q0 := 0) rfl), hpre⟩ rfl rfl hl.1 rfl (lv_room (Nat.le_of_ble_eq_true rfl)) dL_law_805 ⟨Nat.le_of_ble_eq_true rfl, Nat.le_of_ble_eq_true rfl⟩) hS (fun q _ h => hFc q h) hFc (fun r220 u t H219 locs ht hvm hw hB hz1 hk1 hS => ?_)
  obtain rfl : 4 = r220 := (show r220 = 4 from hw).symm
  obtain ⟨fw221, fn222, ⟨hP1, hK1, hD1, hz2⟩, hwfw221, hnfn222⟩ := hB
  rw [ht] at hP1 hz2
  have hPD9 := va_join (wr := [(b8, .inr (1, [.ref v10, .int 0, .int 0, .int 0])), (v10, .inl (cB, 16, .inl (fun _ => 0))), (q16, .inr (7, [.long ((4 : Int32).toInt64), .null])), (q1, .inr (6, [.ref al5, .int 0, .int 0, .int 0, .ref sa6, .ref sb7, .ref b8, .ref sc9])), (al5, .inr (4, [.int mc179, .ref ed30, .int 4])), (ed30, .inl (cO, 10, .inr (.inr (.inr (.inr (va_up (va_up (va_up (va_up (fun _ => none) 0 (some y32)) 1 (some y66)) 2 (some y123)) 3 (some y180))))))), (y32, .inr (5, [.int 4, .int 4, .ref yw33, .ref yv34, .ref yh35, .int 0])), (yw33, .inl (cI, 4, .inl gw36)), (yv34, .inl (cI, 4, .inl gv37)), (yh35, .inl (cR, 4, .inr (.inr (.inr (.inr gh38))))), (y66, .inr (5, [.int 4, .int 4, .ref yw67, .ref yv68, .ref yh69, .int 1])), (yw67, .inl (cI, 4, .inl gw98)), (yv68, .inl (cI, 4, .inl gv99)), (yh69, .inl (cR, 4, .inr (.inr (.inr (.inr gh100))))), (y123, .inr (5, [.int 4, .int 4, .ref yw124, .ref yv125, .ref yh126, .int 2])), (yw124, .inl (cI, 4, .inl gw155)), (yv125, .inl (cI, 4, .inl gv156)), (yh126, .inl (cR, 4, .inr (.inr (.inr (.inr gh157))))), (y180, .inr (5, [.int 4, .int 4, .ref yw181, .ref yv182, .ref yh183, .int 3])), (yw181, .inl (cI, 4, .inl gw212)), (yv182, .inl (cI, 4, .inl gv213)), (yh183, .inl (cR, 4, .inr (.inr (.inr (.inr gh214)))))]) (w1 := [(q11, .inr (9, [.int 0, .ref am15, .int 0, .int 0, .int 0])), (am15, .inr (4, [.int mm193, .ref em45, .int 4])), (em45, .inl (cO, 10, .inr (.inr (.inr (.inr (va_up (va_up (va_up (va_up (fun _ => none) 0 (some a47)) 1 (some a80)) 2 (some a137)) 3 (some a194))))))), (a47, .inr (8, [.int 4, .ref wa48, .ref na49])), (wa48, .inl (cI, 4, .inl fw50)), (na49, .inl (cI, 4, .inl fn51)), (a80, .inr (8, [.int 4, .ref wa81, .ref na82])), (wa81, .inl (cI, 4, .inl fw107)), (na82, .inl (cI, 4, .inl fn108)), (a137, .inr (8, [.int 4, .ref wa138, .ref na139])), (wa138, .inl (cI, 4, .inl fw164)), (na139, .inl (cI, 4, .inl fn165)), (a194, .inr (8, [.int 4, .ref wa195, .ref na196])), (wa195, .inl (cI, 4, .inl fw221)), (na196, .inl (cI, 4, .inl fn222))]) hP hD [16, 11, 12, 2, 3, 4, 5, 6, 7, 8, 9, 10, 13, 14, 15] [0, 1, 17, 18, 19, 20, 21, 22, 23, 24, 25, 26, 27, 28, 29, 30, 31, 32, 33, 34, 35, 36] rfl rfl (by decide) (by decide) hk1 hFc hP1 hD1
  clear hPc hDc hFc hDv hpre hP hD hP1 hK1 hD1
  obtain ⟨hP, hD⟩ := hPD9
  replace hz : s.heap.size + 62 ≤ H219.size := by omega
  clear hz2
  replace hP : va_P (dC, dI) vwCl [(b8, .inr (1, [.ref v10, .int 0, .int 0, .int 0])), (v10, .inl (cB, 16, .inl (fun _ => 0))), (q16, .inr (7, [.long ((4 : Int32).toInt64), .null])), (q1, .inr (6, [.ref al5, .int 0, .int 0, .int 0, .ref sa6, .ref sb7, .ref b8, .ref sc9])), (al5, .inr (4, [.int mc179, .ref ed30, .int 4])), (ed30, .inl (cO, 10, .inr (.inr (.inr (.inr (va_up (va_up (va_up (va_up (fun _ => none) 0 (some y32)) 1 (some y66)) 2 (some y123)) 3 (some y180))))))), (y32, .inr (5, [.int 4, .int 4, .ref yw33, .ref yv34, .ref yh35, .int 0])), (yw33, .inl (cI, 4, .inl gw36)), (yv34, .inl (cI, 4, .inl gv37)), (yh35, .inl (cR, 4, .inr (.inr (.inr (.inr gh38))))), (y66, .inr (5, [.int 4, .int 4, .ref yw67, .ref yv68, .ref yh69, .int 1])), (yw67, .inl (cI, 4, .inl gw98)), (yv68, .inl (cI, 4, .inl gv99)), (yh69, .inl (cR, 4, .inr (.inr (.inr (.inr gh100))))), (y123, .inr (5, [.int 4, .int 4, .ref yw124, .ref yv125, .ref yh126, .int 2])), (yw124, .inl (cI, 4, .inl gw155)), (yv125, .inl (cI, 4, .inl gv156)), (yh126, .inl (cR, 4, .inr (.inr (.inr (.inr gh157))))), (y180, .inr (5, [.int 4, .int 4, .ref yw181, .ref yv182, .ref yh183, .int 3])), (yw181, .inl (cI, 4, .inl gw212)), (yv182, .inl (cI, 4, .inl gv213)), (yh183, .inl (cR, 4, .inr (.inr (.inr (.inr gh214))))), (q11, .inr (9, [.int 0, .ref am15, .int 0, .int 0, .int 0])), (am15, .inr (4, [.int mm193, .ref em45, .int 4])), (em45, .inl (cO, 10, .inr (.inr (.inr (.inr (va_up (va_up (va_up (va_up (fun _ => none) 0 (some a47)) 1 (some a80)) 2 (some a137)) 3 (some a194))))))), (a47, .inr (8, [.int 4, .ref wa48, .ref na49])), (wa48, .inl (cI, 4, .inl fw50)), (na49, .inl (cI, 4, .inl fn51)), (a80, .inr (8, [.int 4, .ref wa81, .ref na82])), (wa81, .inl (cI, 4, .inl fw107)), (na82, .inl (cI, 4, .inl fn108)), (a137, .inr (8, [.int 4, .ref wa138, .ref na139])), (wa138, .inl (cI, 4, .inl fw164)), (na139, .inl (cI, 4, .inl fn165)), (a194, .inr (8, [.int 4, .ref wa195, .ref na196])), (wa195, .inl (cI, 4, .inl fw221)), (na196, .inl (cI, 4, .inl fn222))] H219 := hP
  replace hD : va_D A [(b8, .inr (1, [.ref v10, .int 0, .int 0, .int 0])), (v10, .inl (cB, 16, .inl (fun _ => 0))), (q16, .inr (7, [.long ((4 : Int32).toInt64), .null])), (q1, .inr (6, [.ref al5, .int 0, .int 0, .int 0, .ref sa6, .ref sb7, .ref b8, .ref sc9])), (al5, .inr (4, [.int mc179, .ref ed30, .int 4])), (ed30, .inl (cO, 10, .inr (.inr (.inr (.inr (va_up (va_up (va_up (va_up (fun _ => none) 0 (some y32)) 1 (some y66)) 2 (some y123)) 3 (some y180))))))), (y32, .inr (5, [.int 4, .int 4, .ref yw33, .ref yv34, .ref yh35, .int 0])), (yw33, .inl (cI, 4, .inl gw36)), (yv34, .inl (cI, 4, .inl gv37)), (yh35, .inl (cR, 4, .inr (.inr (.inr (.inr gh38))))), (y66, .inr (5, [.int 4, .int 4, .ref yw67, .ref yv68, .ref yh69, .int 1])), (yw67, .inl (cI, 4, .inl gw98)), (yv68, .inl (cI, 4, .inl gv99)), (yh69, .inl (cR, 4, .inr (.inr (.inr (.inr gh100))))), (y123, .inr (5, [.int 4, .int 4, .ref yw124, .ref yv125, .ref yh126, .int 2])), (yw124, .inl (cI, 4, .inl gw155)), (yv125, .inl (cI, 4, .inl gv156)), (yh126, .inl (cR, 4, .inr (.inr (.inr (.inr gh157))))), (y180, .inr (5, [.int 4, .int 4, .ref yw181, .ref yv182, .ref yh183, .int 3])), (yw181, .inl (cI, 4, .inl gw212)), (yv182, .inl (cI, 4, .inl gv213)), (yh183, .inl (cR, 4, .inr (.inr (.inr (.inr gh214))))), (q11, .inr (9, [.int 0, .ref am15, .int 0, .int 0, .int 0])), (am15, .inr (4, [.int mm193, .ref em45, .int 4])), (em45, .inl (cO, 10, .inr (.inr (.inr (.inr (va_up (va_up (va_up (va_up (fun _ => none) 0 (some a47)) 1 (some a80)) 2 (some a137)) 3 (some a194))))))), (a47, .inr (8, [.int 4, .ref wa48, .ref na49])), (wa48, .inl (cI, 4, .inl fw50)), (na49, .inl (cI, 4, .inl fn51)), (a80, .inr (8, [.int 4, .ref wa81, .ref na82])), (wa81, .inl (cI, 4, .inl fw107)), (na82, .inl (cI, 4, .inl fn108)), (a137, .inr (8, [.int 4, .ref wa138, .ref na139])), (wa138, .inl (cI, 4, .inl fw164)), (na139, .inl (cI, 4, .inl fn165)), (a194, .inr (8, [.int 4, .ref wa195, .ref na196])), (wa195, .inl (cI, 4, .inl fw221)), (na196, .inl (cI, 4, .inl fn222))] := hD
  refine W.widen (k := 71) (n := 288) (by omega) (by omega) ?_
  refine lv_istore (lv' := [(6, .int 4), (5, .int 0), (4, .int 30), (3, .ref q16), (2, .ref q11), (1, .ref q1), (0, .ref b)]) hx hb dL_law_808 hl (by decide) rfl (fun ls hl => ?_)
  refine lv_aload_n hx hb dL_law_810 rfl (lv_at hl 4 rfl) ?_
  have hPc := hP.sub (ws' := [(q11, .inr (9, [.int 0, .ref am15, .int 0, .int 0, .int 0]))]) [22] rfl
  have hDc := hD.sub (ws' := [(q11, .inr (9, [.int 0, .ref am15, .int 0, .int 0, .int 0]))]) [22] (by decide) rfl
  have hFc := va_free (wc := [(q11, .inr (9, [.int 0, .ref am15, .int 0, .int 0, .int 0]))]) hD hS hA [22] rfl
  have hDv := hDc.self (sz := H219.size)
  have hpre := zpre (xs' := []) (av := [.ref q11]) hPc hK (hDc.weaken (fun _ _ _ h => h)) hZ hS hFc (fun r hr => by cases hr)
  refine va_calli (va_runV (As := []) (rest := []) ⟨hx, hb, hml, hown, hts⟩ (k_thM l dC dI cI cB cR cO zk q11 (.int 0) (.int 0) (.int 0) am15 H219.size ) (cwV 0 hts gL_law_X4_thrown rfl rfl rfl (by decide +kernel) ⟨Nat.le_of_ble_eq_true rfl, Nat.le_of_ble_eq_true rfl⟩) ⟨zblind, (zrecv_9 hK hPc (q0 := 0) rfl), hpre⟩ rfl rfl hl.1 rfl (lv_room (Nat.le_of_ble_eq_true rfl)) dL_law_811 ⟨Nat.le_of_ble_eq_true rfl, Nat.le_of_ble_eq_true rfl⟩) hS (fun q _ h => hFc q h) hFc (fun r224 u t H223 locs ht hvm hw hB hz1 hk1 hS => ?_)
  obtain rfl : 0 = r224 := (show r224 = 0 from hw).symm
  obtain ⟨hP1, hK1, hD1, hz2⟩ := hB
  rw [ht] at hP1 hz2
  have hPD9 := va_join (wr := [(b8, .inr (1, [.ref v10, .int 0, .int 0, .int 0])), (v10, .inl (cB, 16, .inl (fun _ => 0))), (q16, .inr (7, [.long ((4 : Int32).toInt64), .null])), (q1, .inr (6, [.ref al5, .int 0, .int 0, .int 0, .ref sa6, .ref sb7, .ref b8, .ref sc9])), (al5, .inr (4, [.int mc179, .ref ed30, .int 4])), (ed30, .inl (cO, 10, .inr (.inr (.inr (.inr (va_up (va_up (va_up (va_up (fun _ => none) 0 (some y32)) 1 (some y66)) 2 (some y123)) 3 (some y180))))))), (y32, .inr (5, [.int 4, .int 4, .ref yw33, .ref yv34, .ref yh35, .int 0])), (yw33, .inl (cI, 4, .inl gw36)), (yv34, .inl (cI, 4, .inl gv37)), (yh35, .inl (cR, 4, .inr (.inr (.inr (.inr gh38))))), (y66, .inr (5, [.int 4, .int 4, .ref yw67, .ref yv68, .ref yh69, .int 1])), (yw67, .inl (cI, 4, .inl gw98)), (yv68, .inl (cI, 4, .inl gv99)), (yh69, .inl (cR, 4, .inr (.inr (.inr (.inr gh100))))), (y123, .inr (5, [.int 4, .int 4, .ref yw124, .ref yv125, .ref yh126, .int 2])), (yw124, .inl (cI, 4, .inl gw155)), (yv125, .inl (cI, 4, .inl gv156)), (yh126, .inl (cR, 4, .inr (.inr (.inr (.inr gh157))))), (y180, .inr (5, [.int 4, .int 4, .ref yw181, .ref yv182, .ref yh183, .int 3])), (yw181, .inl (cI, 4, .inl gw212)), (yv182, .inl (cI, 4, .inl gv213)), (yh183, .inl (cR, 4, .inr (.inr (.inr (.inr gh214))))), (am15, .inr (4, [.int mm193, .ref em45, .int 4])), (em45, .inl (cO, 10, .inr (.inr (.inr (.inr (va_up (va_up (va_up (va_up (fun _ => none) 0 (some a47)) 1 (some a80)) 2 (some a137)) 3 (some a194))))))), (a47, .inr (8, [.int 4, .ref wa48, .ref na49])), (wa48, .inl (cI, 4, .inl fw50)), (na49, .inl (cI, 4, .inl fn51)), (a80, .inr (8, [.int 4, .ref wa81, .ref na82])), (wa81, .inl (cI, 4, .inl fw107)), (na82, .inl (cI, 4, .inl fn108)), (a137, .inr (8, [.int 4, .ref wa138, .ref na139])), (wa138, .inl (cI, 4, .inl fw164)), (na139, .inl (cI, 4, .inl fn165)), (a194, .inr (8, [.int 4, .ref wa195, .ref na196])), (wa195, .inl (cI, 4, .inl fw221)), (na196, .inl (cI, 4, .inl fn222))]) (w1 := [(q11, .inr (9, [.int 0, .ref am15, .int 0, .int 0, .int 0]))]) hP hD [22] [0, 1, 2, 3, 4, 5, 6, 7, 8, 9, 10, 11, 12, 13, 14, 15, 16, 17, 18, 19, 20, 21, 23, 24, 25, 26, 27, 28, 29, 30, 31, 32, 33, 34, 35, 36] rfl rfl (by decide) (by decide) hk1 hFc hP1 hD1
  clear hPc hDc hFc hDv hpre hP hD hP1 hK1 hD1
  obtain ⟨hP, hD⟩ := hPD9
  replace hz : s.heap.size + 62 ≤ H223.size := by omega
  clear hz2
  replace hP : va_P (dC, dI) vwCl [(b8, .inr (1, [.ref v10, .int 0, .int 0, .int 0])), (v10, .inl (cB, 16, .inl (fun _ => 0))), (q16, .inr (7, [.long ((4 : Int32).toInt64), .null])), (q1, .inr (6, [.ref al5, .int 0, .int 0, .int 0, .ref sa6, .ref sb7, .ref b8, .ref sc9])), (al5, .inr (4, [.int mc179, .ref ed30, .int 4])), (ed30, .inl (cO, 10, .inr (.inr (.inr (.inr (va_up (va_up (va_up (va_up (fun _ => none) 0 (some y32)) 1 (some y66)) 2 (some y123)) 3 (some y180))))))), (y32, .inr (5, [.int 4, .int 4, .ref yw33, .ref yv34, .ref yh35, .int 0])), (yw33, .inl (cI, 4, .inl gw36)), (yv34, .inl (cI, 4, .inl gv37)), (yh35, .inl (cR, 4, .inr (.inr (.inr (.inr gh38))))), (y66, .inr (5, [.int 4, .int 4, .ref yw67, .ref yv68, .ref yh69, .int 1])), (yw67, .inl (cI, 4, .inl gw98)), (yv68, .inl (cI, 4, .inl gv99)), (yh69, .inl (cR, 4, .inr (.inr (.inr (.inr gh100))))), (y123, .inr (5, [.int 4, .int 4, .ref yw124, .ref yv125, .ref yh126, .int 2])), (yw124, .inl (cI, 4, .inl gw155)), (yv125, .inl (cI, 4, .inl gv156)), (yh126, .inl (cR, 4, .inr (.inr (.inr (.inr gh157))))), (y180, .inr (5, [.int 4, .int 4, .ref yw181, .ref yv182, .ref yh183, .int 3])), (yw181, .inl (cI, 4, .inl gw212)), (yv182, .inl (cI, 4, .inl gv213)), (yh183, .inl (cR, 4, .inr (.inr (.inr (.inr gh214))))), (am15, .inr (4, [.int mm193, .ref em45, .int 4])), (em45, .inl (cO, 10, .inr (.inr (.inr (.inr (va_up (va_up (va_up (va_up (fun _ => none) 0 (some a47)) 1 (some a80)) 2 (some a137)) 3 (some a194))))))), (a47, .inr (8, [.int 4, .ref wa48, .ref na49])), (wa48, .inl (cI, 4, .inl fw50)), (na49, .inl (cI, 4, .inl fn51)), (a80, .inr (8, [.int 4, .ref wa81, .ref na82])), (wa81, .inl (cI, 4, .inl fw107)), (na82, .inl (cI, 4, .inl fn108)), (a137, .inr (8, [.int 4, .ref wa138, .ref na139])), (wa138, .inl (cI, 4, .inl fw164)), (na139, .inl (cI, 4, .inl fn165)), (a194, .inr (8, [.int 4, .ref wa195, .ref na196])), (wa195, .inl (cI, 4, .inl fw221)), (na196, .inl (cI, 4, .inl fn222)), (q11, .inr (9, [.int 0, .ref am15, .int 0, .int 0, .int 0]))] H223 := hP
  replace hD : va_D A [(b8, .inr (1, [.ref v10, .int 0, .int 0, .int 0])), (v10, .inl (cB, 16, .inl (fun _ => 0))), (q16, .inr (7, [.long ((4 : Int32).toInt64), .null])), (q1, .inr (6, [.ref al5, .int 0, .int 0, .int 0, .ref sa6, .ref sb7, .ref b8, .ref sc9])), (al5, .inr (4, [.int mc179, .ref ed30, .int 4])), (ed30, .inl (cO, 10, .inr (.inr (.inr (.inr (va_up (va_up (va_up (va_up (fun _ => none) 0 (some y32)) 1 (some y66)) 2 (some y123)) 3 (some y180))))))), (y32, .inr (5, [.int 4, .int 4, .ref yw33, .ref yv34, .ref yh35, .int 0])), (yw33, .inl (cI, 4, .inl gw36)), (yv34, .inl (cI, 4, .inl gv37)), (yh35, .inl (cR, 4, .inr (.inr (.inr (.inr gh38))))), (y66, .inr (5, [.int 4, .int 4, .ref yw67, .ref yv68, .ref yh69, .int 1])), (yw67, .inl (cI, 4, .inl gw98)), (yv68, .inl (cI, 4, .inl gv99)), (yh69, .inl (cR, 4, .inr (.inr (.inr (.inr gh100))))), (y123, .inr (5, [.int 4, .int 4, .ref yw124, .ref yv125, .ref yh126, .int 2])), (yw124, .inl (cI, 4, .inl gw155)), (yv125, .inl (cI, 4, .inl gv156)), (yh126, .inl (cR, 4, .inr (.inr (.inr (.inr gh157))))), (y180, .inr (5, [.int 4, .int 4, .ref yw181, .ref yv182, .ref yh183, .int 3])), (yw181, .inl (cI, 4, .inl gw212)), (yv182, .inl (cI, 4, .inl gv213)), (yh183, .inl (cR, 4, .inr (.inr (.inr (.inr gh214))))), (am15, .inr (4, [.int mm193, .ref em45, .int 4])), (em45, .inl (cO, 10, .inr (.inr (.inr (.inr (va_up (va_up (va_up (va_up (fun _ => none) 0 (some a47)) 1 (some a80)) 2 (some a137)) 3 (some a194))))))), (a47, .inr (8, [.int 4, .ref wa48, .ref na49])), (wa48, .inl (cI, 4, .inl fw50)), (na49, .inl (cI, 4, .inl fn51)), (a80, .inr (8, [.int 4, .ref wa81, .ref na82])), (wa81, .inl (cI, 4, .inl fw107)), (na82, .inl (cI, 4, .inl fn108)), (a137, .inr (8, [.int 4, .ref wa138, .ref na139])), (wa138, .inl (cI, 4, .inl fw164)), (na139, .inl (cI, 4, .inl fn165)), (a194, .inr (8, [.int 4, .ref wa195, .ref na196])), (wa195, .inl (cI, 4, .inl fw221)), (na196, .inl (cI, 4, .inl fn222)), (q11, .inr (9, [.int 0, .ref am15, .int 0, .int 0, .int 0]))] := hD
  refine W.widen (k := 71) (n := 288) (by omega) (by omega) ?_
  refine lv_iload hx hb dL_law_814 (lv_at hl 1 rfl) ?_
  refine lv_icmp_eq (tgt := 821) hx hb dL_law_816 (by decide) (fun c9 => ?_) (fun c9 => ?_)
  rotate_left
  · exact absurd (by decide) c9
  refine lv_iload hx hb dL_law_821 (lv_at hl 1 rfl) ?_
  refine lv_if_ne (tgt := 839) hx hb dL_law_823 (by decide) (fun c9 => ?_) (fun c9 => ?_)
  · exact absurd (by decide) c9
  refine lv_aload_n hx hb dL_law_826 rfl (lv_at hl 3 rfl) ?_
  refine va_getN (D := (dC, dI)) (ci := 7) (v := .long ((4 : Int32).toInt64)) (C := RX2) (T := TX2) (N := 2) hx hb hts inlX2 hown hK hP 2 rfl rfl 0 (by decide) (zn6 hZ) (fun _ h9 => h9) rfl dL_law_827 ?_
  refine lv_iload hx hb dL_law_830 (lv_at hl 0 rfl) ?_
  refine lv_i2l (v := (4 : Int32).toInt64) hx hb dL_law_832 rfl ?_
  refine W.lcmp hx hb dL_law_833 ?_
  refine lv_topi (fun v225 ev225 => ?_)
  obtain rfl : v225 = 0 := ev225.trans (by decide)
  refine lv_if_eq (tgt := 839) hx hb dL_law_834 (by decide) (fun c9 => ?_) (fun c9 => ?_)
  rotate_left
  · exact absurd (by decide) c9
  refine lv_goto (tgt := 2155) hx hb dL_law_839 (by decide) ?_
  refine lv_iinc (v := 35) (lv' := [(4, .int 35), (6, .int 4), (5, .int 0), (3, .ref q16), (2, .ref q11), (1, .ref q1), (0, .ref b)]) hx hb dL_law_2155 hl (k := 2) rfl (by decide) (by decide) rfl (fun ls hl => ?_)
  refine lv_goto (tgt := 27) hx hb dL_law_2158 (by decide) ?_
  have hP9 := hP.sub (ws' := [(q16, .inr (7, [.long ((4 : Int32).toInt64), .null])), (q1, .inr (6, [.ref al5, .int 0, .int 0, .int 0, .ref sa6, .ref sb7, .ref b8, .ref sc9])), (al5, .inr (4, [.int mc179, .ref ed30, .int 4])), (ed30, .inl (cO, 10, .inr (.inr (.inr (.inr (va_up (va_up (va_up (va_up (fun _ => none) 0 (some y32)) 1 (some y66)) 2 (some y123)) 3 (some y180))))))), (b8, .inr (1, [.ref v10, .int 0, .int 0, .int 0])), (v10, .inl (cB, 16, .inl (fun _ => 0))), (y32, .inr (5, [.int 4, .int 4, .ref yw33, .ref yv34, .ref yh35, .int 0])), (yw33, .inl (cI, 4, .inl gw36)), (yv34, .inl (cI, 4, .inl gv37)), (yh35, .inl (cR, 4, .inr (.inr (.inr (.inr gh38))))), (y66, .inr (5, [.int 4, .int 4, .ref yw67, .ref yv68, .ref yh69, .int 1])), (yw67, .inl (cI, 4, .inl gw98)), (yv68, .inl (cI, 4, .inl gv99)), (yh69, .inl (cR, 4, .inr (.inr (.inr (.inr gh100))))), (y123, .inr (5, [.int 4, .int 4, .ref yw124, .ref yv125, .ref yh126, .int 2])), (yw124, .inl (cI, 4, .inl gw155)), (yv125, .inl (cI, 4, .inl gv156)), (yh126, .inl (cR, 4, .inr (.inr (.inr (.inr gh157))))), (y180, .inr (5, [.int 4, .int 4, .ref yw181, .ref yv182, .ref yh183, .int 3])), (yw181, .inl (cI, 4, .inl gw212)), (yv182, .inl (cI, 4, .inl gv213)), (yh183, .inl (cR, 4, .inr (.inr (.inr (.inr gh214))))), (q11, .inr (9, [.int 0, .ref am15, .int 0, .int 0, .int 0])), (am15, .inr (4, [.int mm193, .ref em45, .int 4])), (em45, .inl (cO, 10, .inr (.inr (.inr (.inr (va_up (va_up (va_up (va_up (fun _ => none) 0 (some a47)) 1 (some a80)) 2 (some a137)) 3 (some a194))))))), (a47, .inr (8, [.int 4, .ref wa48, .ref na49])), (wa48, .inl (cI, 4, .inl fw50)), (na49, .inl (cI, 4, .inl fn51)), (a80, .inr (8, [.int 4, .ref wa81, .ref na82])), (wa81, .inl (cI, 4, .inl fw107)), (na82, .inl (cI, 4, .inl fn108)), (a137, .inr (8, [.int 4, .ref wa138, .ref na139])), (wa138, .inl (cI, 4, .inl fw164)), (na139, .inl (cI, 4, .inl fn165)), (a194, .inr (8, [.int 4, .ref wa195, .ref na196])), (wa195, .inl (cI, 4, .inl fw221)), (na196, .inl (cI, 4, .inl fn222))]) [2, 3, 4, 5, 0, 1, 6, 7, 8, 9, 10, 11, 12, 13, 14, 15, 16, 17, 18, 19, 20, 21, 36, 22, 23, 24, 25, 26, 27, 28, 29, 30, 31, 32, 33, 34, 35] rfl
  have hD9 := hD.sub (ws' := [(q16, .inr (7, [.long ((4 : Int32).toInt64), .null])), (q1, .inr (6, [.ref al5, .int 0, .int 0, .int 0, .ref sa6, .ref sb7, .ref b8, .ref sc9])), (al5, .inr (4, [.int mc179, .ref ed30, .int 4])), (ed30, .inl (cO, 10, .inr (.inr (.inr (.inr (va_up (va_up (va_up (va_up (fun _ => none) 0 (some y32)) 1 (some y66)) 2 (some y123)) 3 (some y180))))))), (b8, .inr (1, [.ref v10, .int 0, .int 0, .int 0])), (v10, .inl (cB, 16, .inl (fun _ => 0))), (y32, .inr (5, [.int 4, .int 4, .ref yw33, .ref yv34, .ref yh35, .int 0])), (yw33, .inl (cI, 4, .inl gw36)), (yv34, .inl (cI, 4, .inl gv37)), (yh35, .inl (cR, 4, .inr (.inr (.inr (.inr gh38))))), (y66, .inr (5, [.int 4, .int 4, .ref yw67, .ref yv68, .ref yh69, .int 1])), (yw67, .inl (cI, 4, .inl gw98)), (yv68, .inl (cI, 4, .inl gv99)), (yh69, .inl (cR, 4, .inr (.inr (.inr (.inr gh100))))), (y123, .inr (5, [.int 4, .int 4, .ref yw124, .ref yv125, .ref yh126, .int 2])), (yw124, .inl (cI, 4, .inl gw155)), (yv125, .inl (cI, 4, .inl gv156)), (yh126, .inl (cR, 4, .inr (.inr (.inr (.inr gh157))))), (y180, .inr (5, [.int 4, .int 4, .ref yw181, .ref yv182, .ref yh183, .int 3])), (yw181, .inl (cI, 4, .inl gw212)), (yv182, .inl (cI, 4, .inl gv213)), (yh183, .inl (cR, 4, .inr (.inr (.inr (.inr gh214))))), (q11, .inr (9, [.int 0, .ref am15, .int 0, .int 0, .int 0])), (am15, .inr (4, [.int mm193, .ref em45, .int 4])), (em45, .inl (cO, 10, .inr (.inr (.inr (.inr (va_up (va_up (va_up (va_up (fun _ => none) 0 (some a47)) 1 (some a80)) 2 (some a137)) 3 (some a194))))))), (a47, .inr (8, [.int 4, .ref wa48, .ref na49])), (wa48, .inl (cI, 4, .inl fw50)), (na49, .inl (cI, 4, .inl fn51)), (a80, .inr (8, [.int 4, .ref wa81, .ref na82])), (wa81, .inl (cI, 4, .inl fw107)), (na82, .inl (cI, 4, .inl fn108)), (a137, .inr (8, [.int 4, .ref wa138, .ref na139])), (wa138, .inl (cI, 4, .inl fw164)), (na139, .inl (cI, 4, .inl fn165)), (a194, .inr (8, [.int 4, .ref wa195, .ref na196])), (wa195, .inl (cI, 4, .inl fw221)), (na196, .inl (cI, 4, .inl fn222))]) [2, 3, 4, 5, 0, 1, 6, 7, 8, 9, 10, 11, 12, 13, 14, 15, 16, 17, 18, 19, 20, 21, 36, 22, 23, 24, 25, 26, 27, 28, 29, 30, 31, 32, 33, 34, 35] (by decide) rfl
  rw [hAd] at hD9 hS
  refine W.widen (k := 1000 + 3787 * 0) (n := 1000 + 164571100 * 0) (by omega) (by omega) ?_
  exact zl_loop l dC dI cI cB cR cO zk b q1 al5 b8 (.int 0) (.int 0) (.int 0) (.ref sa6) (.ref sb7) (.ref sc9) ed30 (va_up (va_up (va_up (va_up (fun _ => none) 0 (some y32)) 1 (some y66)) 2 (some y123)) 3 (some y180)) (.int mc179) y32 yw33 yv34 yh35 y66 yw67 yv68 yh69 y123 yw124 yv125 yh126 y180 yw181 yv182 yh183 0 1 2 3 gw36 gv37 gw98 gv99 gw155 gv156 gw212 gv213 gh38 gh100 gh157 gh214 rfl hwgw36 hhgh38 hhgh100 hhgh157 hhgh214 q16 q11 am15 (.int 0) (.int 0) (.int 0) em45 (va_up (va_up (va_up (va_up (fun _ => none) 0 (some a47)) 1 (some a80)) 2 (some a137)) 3 (some a194)) mm193 a47 wa48 na49 a80 wa81 na82 a137 wa138 na139 a194 wa195 na196 fw50 fn51 fw107 fn108 fw164 fn165 fw221 fn222 hwfw50 hnfn51 rfl hwfw107 hnfn108 rfl hwfw164 hnfn165 rfl hwfw221 hnfn222 rfl C1 hZ0 hK 360 0 35 (by omega) (by omega) (.long ((4 : Int32).toInt64)) .null v10 16 0 (fun _ => 0) (.int 0) (.int 0) (by decide) (by decide) (fun _ => rfl) _ _ hP9 hD9 hS (by omega) ls (lv_sub hl [6, 5, 4, 3, 0] rfl)
