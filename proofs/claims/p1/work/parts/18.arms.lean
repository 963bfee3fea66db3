/-- house: six numbers, or none -/
theorem zl_h29 (l : Launch) (dC : Nat → ClassId) (dI : Nat → Nat → Nat) (cI cB cR cO : ClassId) (zk : Nat → Nat) {p : Program} {e : Env} {s : State} {mY : MethodId} {below : List Frame} {meth : Method} {c : Code} (b : Nat) (xs : Nat → Int32) (hfl : l.stackTraces = false) (C0 : zl_At p s mY meth c b 5 xs) (hZ0 : zR zk [] (fun q => s.heap.size ≤ q) s s.heap) (hK : va_K (dC, dI) vwCl (zT cI cB cR cO) s) (ou xo al b1 : Nat) (x4 x5 x7 : Value) (mc : Int32) (mo am : Nat) (mm : Int32) (H : Heap) (locs : List Loc) (hP : va_P (dC, dI) vwCl [(ou, .inr (7, [.long 0, .null])), (xo, .inr (6, [.ref al, .int 0, .int 0, .int 0, x4, x5, .ref b1, x7])), (al, .inr (4, [.int mc, .ref (zk 0), .int 0])), (mo, .inr (9, [.int 0, .ref am, .int 0, .int 0, .int 0])), (am, .inr (4, [.int mm, .ref (zk 0), .int 0]))] H) (hD : va_D (fun q => s.heap.size ≤ q) [(ou, .inr (7, [.long 0, .null])), (xo, .inr (6, [.ref al, .int 0, .int 0, .int 0, x4, x5, .ref b1, x7])), (al, .inr (4, [.int mc, .ref (zk 0), .int 0])), (mo, .inr (9, [.int 0, .ref am, .int 0, .int 0, .int 0])), (am, .inr (4, [.int mm, .ref (zk 0), .int 0]))]) (hS : va_S (fun q => s.heap.size ≤ q) s.heap H locs) (ls : Array Slot) (hl : lv_has ls 7 [(4, .int 0), (3, .ref ou), (2, .ref mo), (1, .ref xo), (0, .ref b)]) : W p l e room_1 s mY #[Value.ref b] below meth c H locs 17 79 (lw_Z below #[Value.ref b] s) (F0 mY 2071 ls []) := by
  by_cases hp : (xs 1).toInt < 0 ∨ 5 < (xs 1).toInt
  · exact zl_a_houseO l dC dI cI cB cR cO zk b xs hfl C0 hZ0 hK ou xo al b1 x4 x5 x7 mc mo am mm (xs 1) rfl hp H locs hP hD hS ls hl
  · rcases zsix5 (xs 1) hp with h | h | h | h | h | h
    · exact zl_a_house0 l dC dI cI cB cR cO zk b xs hfl C0 hZ0 hK ou xo al b1 x4 x5 x7 mc mo am mm h H locs hP hD hS ls hl
    · exact zl_a_house1 l dC dI cI cB cR cO zk b xs hfl C0 hZ0 hK ou xo al b1 x4 x5 x7 mc mo am mm h H locs hP hD hS ls hl
    · exact zl_a_house2 l dC dI cI cB cR cO zk b xs hfl C0 hZ0 hK ou xo al b1 x4 x5 x7 mc mo am mm h H locs hP hD hS ls hl
    · exact zl_a_house3 l dC dI cI cB cR cO zk b xs hfl C0 hZ0 hK ou xo al b1 x4 x5 x7 mc mo am mm h H locs hP hD hS ls hl
    · exact zl_a_house4 l dC dI cI cB cR cO zk b xs hfl C0 hZ0 hK ou xo al b1 x4 x5 x7 mc mo am mm h H locs hP hD hS ls hl
    · exact zl_a_house5 l dC dI cI cB cR cO zk b xs hfl C0 hZ0 hK ou xo al b1 x4 x5 x7 mc mo am mm h H locs hP hD hS ls hl

/-- make: what it refuses, five lengths, a row of things or not -/
theorem zl_h0 (l : Launch) (dC : Nat → ClassId) (dI : Nat → Nat → Nat) (cI cB cR cO : ClassId) (zk : Nat → Nat) {p : Program} {e : Env} {s : State} {mY : MethodId} {below : List Frame} {meth : Method} {c : Code} (b : Nat) (xs : Nat → Int32) (hfl : l.stackTraces = false) (C0 : zl_At p s mY meth c b 5 xs) (hZ0 : zR zk [] (fun q => s.heap.size ≤ q) s s.heap) (hK : va_K (dC, dI) vwCl (zT cI cB cR cO) s) (ou xo al b1 : Nat) (x4 x5 x7 : Value) (mc : Int32) (mo am : Nat) (mm : Int32) (H : Heap) (locs : List Loc) (hP : va_P (dC, dI) vwCl [(ou, .inr (7, [.long 0, .null])), (xo, .inr (6, [.ref al, .int 0, .int 0, .int 0, x4, x5, .ref b1, x7])), (al, .inr (4, [.int mc, .ref (zk 0), .int 0])), (mo, .inr (9, [.int 0, .ref am, .int 0, .int 0, .int 0])), (am, .inr (4, [.int mm, .ref (zk 0), .int 0]))] H) (hD : va_D (fun q => s.heap.size ≤ q) [(ou, .inr (7, [.long 0, .null])), (xo, .inr (6, [.ref al, .int 0, .int 0, .int 0, x4, x5, .ref b1, x7])), (al, .inr (4, [.int mc, .ref (zk 0), .int 0])), (mo, .inr (9, [.int 0, .ref am, .int 0, .int 0, .int 0])), (am, .inr (4, [.int mm, .ref (zk 0), .int 0]))]) (hS : va_S (fun q => s.heap.size ≤ q) s.heap H locs) (ls : Array Slot) (hl : lv_has ls 7 [(4, .int 0), (3, .ref ou), (2, .ref mo), (1, .ref xo), (0, .ref b)]) : W p l e room_1 s mY #[Value.ref b] below meth c H locs 17 79 (lw_Z below #[Value.ref b] s) (F0 mY 184 ls []) := by
  by_cases hp : xs 1 < 0 ∨ ¬ xs 1 ≤ 4
  · exact zl_a_makeK l dC dI cI cB cR cO zk b xs hfl C0 hZ0 hK ou xo al b1 x4 x5 x7 mc mo am mm (xs 1) (xs 2) rfl rfl hp H locs hP hD hS ls hl
  have hk0 : ¬ xs 1 < 0 := fun h => hp (Or.inl h)
  have hk4 : xs 1 ≤ 4 := Decidable.of_not_not fun h => hp (Or.inr h)
  by_cases hq : xs 2 < 0 ∨ ¬ xs 2 ≤ 4
  · exact zl_a_makeL l dC dI cI cB cR cO zk b xs hfl C0 hZ0 hK ou xo al b1 x4 x5 x7 mc mo am mm (xs 1) (xs 2) rfl rfl hk0 hk4 hq H locs hP hD hS ls hl
  by_cases hkd : xs 1 = 4
  · rcases zfive (xs 2) hq with h | h | h | h | h
    · exact zl_a_make04 l dC dI cI cB cR cO zk b xs hfl C0 hZ0 hK ou xo al b1 x4 x5 x7 mc mo am mm hkd h H locs hP hD hS ls hl
    · exact zl_a_make14 l dC dI cI cB cR cO zk b xs hfl C0 hZ0 hK ou xo al b1 x4 x5 x7 mc mo am mm hkd h H locs hP hD hS ls hl
    · exact zl_a_make24 l dC dI cI cB cR cO zk b xs hfl C0 hZ0 hK ou xo al b1 x4 x5 x7 mc mo am mm hkd h H locs hP hD hS ls hl
    · exact zl_a_make34 l dC dI cI cB cR cO zk b xs hfl C0 hZ0 hK ou xo al b1 x4 x5 x7 mc mo am mm hkd h H locs hP hD hS ls hl
    · exact zl_a_make44 l dC dI cI cB cR cO zk b xs hfl C0 hZ0 hK ou xo al b1 x4 x5 x7 mc mo am mm hkd h H locs hP hD hS ls hl
  · rcases zfive (xs 2) hq with h | h | h | h | h
    · exact zl_a_make0s l dC dI cI cB cR cO zk b xs hfl C0 hZ0 hK ou xo al b1 x4 x5 x7 mc mo am mm (xs 1) rfl h hk0 hk4 hkd H locs hP hD hS ls hl
    · exact zl_a_make1s l dC dI cI cB cR cO zk b xs hfl C0 hZ0 hK ou xo al b1 x4 x5 x7 mc mo am mm (xs 1) rfl h hk0 hk4 hkd H locs hP hD hS ls hl
    · exact zl_a_make2s l dC dI cI cB cR cO zk b xs hfl C0 hZ0 hK ou xo al b1 x4 x5 x7 mc mo am mm (xs 1) rfl h hk0 hk4 hkd H locs hP hD hS ls hl
    · exact zl_a_make3s l dC dI cI cB cR cO zk b xs hfl C0 hZ0 hK ou xo al b1 x4 x5 x7 mc mo am mm (xs 1) rfl h hk0 hk4 hkd H locs hP hD hS ls hl
    · exact zl_a_make4s l dC dI cI cB cR cO zk b xs hfl C0 hZ0 hK ou xo al b1 x4 x5 x7 mc mo am mm (xs 1) rfl h hk0 hk4 hkd H locs hP hD hS ls hl

set_option maxHeartbeats 8000000 in
set_option maxRecDepth 100000 in
/-- a script of five ints: one call -/
theorem zl_five (l : Launch) (dC : Nat → ClassId) (dI : Nat → Nat → Nat) (cI cB cR cO : ClassId) (zk : Nat → Nat) {p : Program} {e : Env} {s : State} {mY : MethodId} {below : List Frame} {meth : Method} {c : Code} (b : Nat) (xs : Nat → Int32) (hfl : l.stackTraces = false) (C0 : zl_At p s mY meth c b 5 xs) (hZ0 : zR zk [] (fun q => s.heap.size ≤ q) s s.heap) (hK : va_K (dC, dI) vwCl (zT cI cB cR cO) s) : W p l e room_1 s mY #[Value.ref b] below meth c s.heap [] 0 0 (lw_Z below #[Value.ref b] s) (entryFrame mY ([Value.ref b] : List Value).toArray 7) := by
  have C1 := C0
  obtain ⟨hx, hb, hr, hml, hown, hts0, hX, hbl, hlocks, hNI⟩ := C0
  have hts := fun (w : Cond) (h : w ∈ wsL_law) => hts0 w (wsL_law_in w h)
  obtain ⟨A, hAd⟩ : ∃ A : Nat → Prop, A = fun q => s.heap.size ≤ q := ⟨_, rfl⟩
  have hA : ∀ q : Nat, s.heap.size ≤ q → A q := fun q h => by rw [hAd]; exact h
  have hAf : ∀ q : Nat, A q → s.heap.size ≤ q := fun q h => by rw [hAd] at h; exact h
  have hbA : ¬ A b := fun h => absurd (hAf b h) (Nat.not_le.mpr hbl)
  have hZ : zR zk [] A s s.heap := by rw [hAd]; exact hZ0
  have hP : va_P (dC, dI) vwCl [] s.heap := fun k q h => by simp at h
  have hD : va_D A [] := ⟨fun i j p q h => by simp at h, fun k q h => by simp at h⟩
  have hS : va_S A s.heap s.heap [] := va_S.rf
  have hz : s.heap.size + 0 ≤ s.heap.size := Nat.le_refl _
  have hl := lv_entry ([.ref b]) (n := 7) (Nat.le_of_ble_eq_true rfl)
  rw [lg_entry_eq]
  generalize (lg_sl ([.ref b]) ++ List.replicate (7 - (lg_sl ([.ref b])).length) Slot.unset).toArray = ls at hl ⊢
  have hl : lv_has ls 7 [(0, .ref b)] := hl
  have hP : va_P (dC, dI) vwCl [] s.heap := hP
  have hD : va_D A [] := hD
  refine zw_new (ci := 6) (fs := [.null, .int 0, .int 0, .int 0, .null, .null, .null, .null]) (C := RX1) (T := TX1) (N := 8) hx hb hts inlX1 tyX1 tyX1_ok hown (hts (.classLink RL 8 RX1) (List.mem_cons_of_mem _ zw_65)) (hts (.instantiable RX1 8) (List.mem_cons_of_mem _ zw_66)) (hts (.initialized RX1) (List.mem_cons_of_mem _ zw_35)) hK hP hD hS hA rfl (fun j hj => by rcases (show j = 0 ∨ j = 1 ∨ j = 2 ∨ j = 3 ∨ j = 4 ∨ j = 5 ∨ j = 6 ∨ j = 7 by omega) with rfl | rfl | rfl | rfl | rfl | rfl | rfl | rfl <;> rfl) (Nat.le_of_ble_eq_true rfl) (Nat.le_of_ble_eq_true rfl) dL_law_0 hz (fun q1 H2 hP hD hS hz => ?_)
  replace hP : va_P (dC, dI) vwCl [(q1, .inr (6, [.null, .int 0, .int 0, .int 0, .null, .null, .null, .null]))] H2 := hP
  replace hD : va_D A [(q1, .inr (6, [.null, .int 0, .int 0, .int 0, .null, .null, .null, .null]))] := hD
  refine W.widen (k := 1) (n := 8) (by omega) (by omega) ?_
  refine lv_dup hx hb dL_law_3 rfl ?_
  have hPc := hP.sub (ws' := [(q1, .inr (6, [.null, .int 0, .int 0, .int 0, .null, .null, .null, .null]))]) [0] rfl
  have hDc := hD.sub (ws' := [(q1, .inr (6, [.null, .int 0, .int 0, .int 0, .null, .null, .null, .null]))]) [0] (by decide) rfl
  have hFc := va_free (wc := [(q1, .inr (6, [.null, .int 0, .int 0, .int 0, .null, .null, .null, .null]))]) hD hS hA [0] rfl
  have hDv := hDc.self (sz := H2.size)
  have hpre := zpre (xs' := []) (av := [.ref q1]) hPc hK (hDc.weaken (fun _ _ _ h => h)) hZ hS hFc (fun r hr => by cases hr)
  refine va_callv (va_runI (As := []) (rest := [.ref q1]) ⟨hx, hb, hml, hown, hts⟩ (k_xin l dC dI cI cB cR cO zk q1 H2.size ) (cwI 0 hts gL_law_X1_init rfl rfl rfl (hts (.initialized RX1) (List.mem_cons_of_mem _ zw_35)) (hts (.methodLink RL 117 yX1_init) (List.mem_cons_of_mem _ zw_67)) (hts (.instanceMethod yX1_init) (List.mem_cons_of_mem _ zw_68)) rfl (by decide +kernel) ⟨Nat.le_of_ble_eq_true rfl, Nat.le_of_ble_eq_true rfl⟩) ⟨zblind, hpre⟩ rfl rfl hl.1 rfl (lv_room (Nat.le_of_ble_eq_true rfl)) dL_law_4 ⟨Nat.le_of_ble_eq_true rfl, Nat.le_of_ble_eq_true rfl⟩) hS (fun q _ h => hFc q h) hFc (fun u t H3 locs ht hvm hw hB hz1 hk1 hS => ?_)
  obtain ⟨al5, sa6, sb7, b8, sc9, v10, ⟨hP1, hK1, hD1, hz2⟩⟩ := hB
  rw [ht] at hP1 hz2
  have hPD9 := va_join (wr := []) (w1 := [(q1, .inr (6, [.ref al5, .int 0, .int 0, .int 0, .ref sa6, .ref sb7, .ref b8, .ref sc9])), (al5, .inr (4, [.int 0, .ref (zk 0), .int 0])), (b8, .inr (1, [.ref v10, .int 0, .int 0, .int 0])), (v10, .inl (cB, 16, .inl (fun _ => 0)))]) hP hD [0] [] rfl rfl (by decide) (by decide) hk1 hFc hP1 hD1
  clear hPc hDc hFc hDv hpre hP hD hP1 hK1 hD1
  obtain ⟨hP, hD⟩ := hPD9
  replace hz : s.heap.size + 14 ≤ H3.size := by omega
  clear hz2
  replace hP : va_P (dC, dI) vwCl [(q1, .inr (6, [.ref al5, .int 0, .int 0, .int 0, .ref sa6, .ref sb7, .ref b8, .ref sc9])), (al5, .inr (4, [.int 0, .ref (zk 0), .int 0])), (b8, .inr (1, [.ref v10, .int 0, .int 0, .int 0])), (v10, .inl (cB, 16, .inl (fun _ => 0)))] H3 := hP
  replace hD : va_D A [(q1, .inr (6, [.ref al5, .int 0, .int 0, .int 0, .ref sa6, .ref sb7, .ref b8, .ref sc9])), (al5, .inr (4, [.int 0, .ref (zk 0), .int 0])), (b8, .inr (1, [.ref v10, .int 0, .int 0, .int 0])), (v10, .inl (cB, 16, .inl (fun _ => 0)))] := hD
  refine W.widen (k := 14) (n := 69) (by omega) (by omega) ?_
  refine lv_astore_n (lv' := [(1, .ref q1), (0, .ref b)]) hx hb dL_law_7 rfl hl (by decide) rfl (fun ls hl => ?_)
  refine zw_new (ci := 9) (fs := [.int 0, .null, .int 0, .int 0, .int 0]) (C := RX4) (T := TX4) (N := 5) hx hb hts inlX4 tyX4 tyX4_ok hown (hts (.classLink RL 118 RX4) (List.mem_cons_of_mem _ zw_1119)) (hts (.instantiable RX4 5) (List.mem_cons_of_mem _ zw_1120)) (hts (.initialized RX4) (List.mem_cons_of_mem _ zw_44)) hK hP hD hS hA rfl (fun j hj => by rcases (show j = 0 ∨ j = 1 ∨ j = 2 ∨ j = 3 ∨ j = 4 by omega) with rfl | rfl | rfl | rfl | rfl <;> rfl) (Nat.le_of_ble_eq_true rfl) (Nat.le_of_ble_eq_true rfl) dL_law_8 hz (fun q11 H12 hP hD hS hz => ?_)
  replace hP : va_P (dC, dI) vwCl [(q1, .inr (6, [.ref al5, .int 0, .int 0, .int 0, .ref sa6, .ref sb7, .ref b8, .ref sc9])), (al5, .inr (4, [.int 0, .ref (zk 0), .int 0])), (b8, .inr (1, [.ref v10, .int 0, .int 0, .int 0])), (v10, .inl (cB, 16, .inl (fun _ => 0))), (q11, .inr (9, [.int 0, .null, .int 0, .int 0, .int 0]))] H12 := hP
  replace hD : va_D A [(q1, .inr (6, [.ref al5, .int 0, .int 0, .int 0, .ref sa6, .ref sb7, .ref b8, .ref sc9])), (al5, .inr (4, [.int 0, .ref (zk 0), .int 0])), (b8, .inr (1, [.ref v10, .int 0, .int 0, .int 0])), (v10, .inl (cB, 16, .inl (fun _ => 0))), (q11, .inr (9, [.int 0, .null, .int 0, .int 0, .int 0]))] := hD
  refine W.widen (k := 15) (n := 74) (by omega) (by omega) ?_
  refine lv_dup hx hb dL_law_11 rfl ?_
  have hPc := hP.sub (ws' := [(q11, .inr (9, [.int 0, .null, .int 0, .int 0, .int 0]))]) [4] rfl
  have hDc := hD.sub (ws' := [(q11, .inr (9, [.int 0, .null, .int 0, .int 0, .int 0]))]) [4] (by decide) rfl
  have hFc := va_free (wc := [(q11, .inr (9, [.int 0, .null, .int 0, .int 0, .int 0]))]) hD hS hA [4] rfl
  have hDv := hDc.self (sz := H12.size)
  have hpre := zpre (xs' := []) (av := [.ref q11]) hPc hK (hDc.weaken (fun _ _ _ h => h)) hZ hS hFc (fun r hr => by cases hr)
  refine va_callv (va_runI (As := []) (rest := [.ref q11]) ⟨hx, hb, hml, hown, hts⟩ (k_min l dC dI cI cB cR cO zk q11 H12.size ) (cwI 0 hts gL_law_X4_init rfl rfl rfl (hts (.initialized RX4) (List.mem_cons_of_mem _ zw_44)) (hts (.methodLink RL 120 yX4_init) (List.mem_cons_of_mem _ zw_1121)) (hts (.instanceMethod yX4_init) (List.mem_cons_of_mem _ zw_1122)) rfl (by decide +kernel) ⟨Nat.le_of_ble_eq_true rfl, Nat.le_of_ble_eq_true rfl⟩) ⟨zblind, hpre⟩ rfl rfl hl.1 rfl (lv_room (Nat.le_of_ble_eq_true rfl)) dL_law_12 ⟨Nat.le_of_ble_eq_true rfl, Nat.le_of_ble_eq_true rfl⟩) hS (fun q _ h => hFc q h) hFc (fun u t H13 locs ht hvm hw hB hz1 hk1 hS => ?_)
  obtain ⟨am15, ⟨hP1, hK1, hD1, hz2⟩⟩ := hB
  rw [ht] at hP1 hz2
  have hPD9 := va_join (wr := [(q1, .inr (6, [.ref al5, .int 0, .int 0, .int 0, .ref sa6, .ref sb7, .ref b8, .ref sc9])), (al5, .inr (4, [.int 0, .ref (zk 0), .int 0])), (b8, .inr (1, [.ref v10, .int 0, .int 0, .int 0])), (v10, .inl (cB, 16, .inl (fun _ => 0)))]) (w1 := [(q11, .inr (9, [.int 0, .ref am15, .int 0, .int 0, .int 0])), (am15, .inr (4, [.int 0, .ref (zk 0), .int 0]))]) hP hD [4] [0, 1, 2, 3] rfl rfl (by decide) (by decide) hk1 hFc hP1 hD1
  clear hPc hDc hFc hDv hpre hP hD hP1 hK1 hD1
  obtain ⟨hP, hD⟩ := hPD9
  replace hz : s.heap.size + 16 ≤ H13.size := by omega
  clear hz2
  replace hP : va_P (dC, dI) vwCl [(q1, .inr (6, [.ref al5, .int 0, .int 0, .int 0, .ref sa6, .ref sb7, .ref b8, .ref sc9])), (al5, .inr (4, [.int 0, .ref (zk 0), .int 0])), (b8, .inr (1, [.ref v10, .int 0, .int 0, .int 0])), (v10, .inl (cB, 16, .inl (fun _ => 0))), (q11, .inr (9, [.int 0, .ref am15, .int 0, .int 0, .int 0])), (am15, .inr (4, [.int 0, .ref (zk 0), .int 0]))] H13 := hP
  replace hD : va_D A [(q1, .inr (6, [.ref al5, .int 0, .int 0, .int 0, .ref sa6, .ref sb7, .ref b8, .ref sc9])), (al5, .inr (4, [.int 0, .ref (zk 0), .int 0])), (b8, .inr (1, [.ref v10, .int 0, .int 0, .int 0])), (v10, .inl (cB, 16, .inl (fun _ => 0))), (q11, .inr (9, [.int 0, .ref am15, .int 0, .int 0, .int 0])), (am15, .inr (4, [.int 0, .ref (zk 0), .int 0]))] := hD
  refine W.widen (k := 16) (n := 77) (by omega) (by omega) ?_
  refine lv_astore_n (lv' := [(2, .ref q11), (1, .ref q1), (0, .ref b)]) hx hb dL_law_15 rfl hl (by decide) rfl (fun ls hl => ?_)
  refine zw_new (ci := 7) (fs := [.long 0, .null]) (C := RX2) (T := TX2) (N := 2) hx hb hts inlX2 tyX2 tyX2_ok hown (hts (.classLink RL 14 RX2) (List.mem_cons_of_mem _ zw_764)) (hts (.instantiable RX2 2) (List.mem_cons_of_mem _ zw_765)) (hts (.initialized RX2) (List.mem_cons_of_mem _ zw_45)) hK hP hD hS hA rfl (fun j hj => by rcases (show j = 0 ∨ j = 1 by omega) with rfl | rfl <;> rfl) (Nat.le_of_ble_eq_true rfl) (Nat.le_of_ble_eq_true rfl) dL_law_16 hz (fun q16 H17 hP hD hS hz => ?_)
  replace hP : va_P (dC, dI) vwCl [(q1, .inr (6, [.ref al5, .int 0, .int 0, .int 0, .ref sa6, .ref sb7, .ref b8, .ref sc9])), (al5, .inr (4, [.int 0, .ref (zk 0), .int 0])), (b8, .inr (1, [.ref v10, .int 0, .int 0, .int 0])), (v10, .inl (cB, 16, .inl (fun _ => 0))), (q11, .inr (9, [.int 0, .ref am15, .int 0, .int 0, .int 0])), (am15, .inr (4, [.int 0, .ref (zk 0), .int 0])), (q16, .inr (7, [.long 0, .null]))] H17 := hP
  replace hD : va_D A [(q1, .inr (6, [.ref al5, .int 0, .int 0, .int 0, .ref sa6, .ref sb7, .ref b8, .ref sc9])), (al5, .inr (4, [.int 0, .ref (zk 0), .int 0])), (b8, .inr (1, [.ref v10, .int 0, .int 0, .int 0])), (v10, .inl (cB, 16, .inl (fun _ => 0))), (q11, .inr (9, [.int 0, .ref am15, .int 0, .int 0, .int 0])), (am15, .inr (4, [.int 0, .ref (zk 0), .int 0])), (q16, .inr (7, [.long 0, .null]))] := hD
  refine W.widen (k := 17) (n := 79) (by omega) (by omega) ?_
  refine lv_dup hx hb dL_law_19 rfl ?_
  have hPc := hP.sub (ws' := [(q16, .inr (7, [.long 0, .null]))]) [6] rfl
  have hDc := hD.sub (ws' := [(q16, .inr (7, [.long 0, .null]))]) [6] (by decide) rfl
  have hFc := va_free (wc := [(q16, .inr (7, [.long 0, .null]))]) hD hS hA [6] rfl
  have hDv := hDc.self (sz := H17.size)
  have hpre := zpre (xs' := []) (av := [.ref q16]) hPc hK (hDc.weaken (fun _ _ _ h => h)) hZ hS hFc (fun r hr => by cases hr)
  refine va_callv (va_runIN (As := []) (rest := [.ref q16]) ⟨hx, hb, hml, hown, hts⟩ (k_oin l dC dI cI cB cR cO zk q16 H17.size ) ⟨va_cnB 0 hts gL_law_X2_init_n121 rfl rfl rfl hNI (hts (.initialized RX2) (List.mem_cons_of_mem _ zw_45)) (by decide +kernel) ⟨Nat.le_of_ble_eq_true rfl, Nat.le_of_ble_eq_true rfl⟩, rfl, hts (.instanceMethod yX2_init) (List.mem_cons_of_mem _ zw_767)⟩ ⟨zblind, hpre⟩ rfl rfl hl.1 rfl (lv_room (Nat.le_of_ble_eq_true rfl)) dL_law_20 ⟨Nat.le_of_ble_eq_true rfl, Nat.le_of_ble_eq_true rfl⟩) hS (fun q _ h => hFc q h) hFc (fun u t H18 locs ht hvm hw hB hz1 hk1 hS => ?_)
  obtain ⟨hP1, hK1, hD1, hz2⟩ := hB
  rw [ht] at hP1 hz2
  have hPD9 := va_join (wr := [(q1, .inr (6, [.ref al5, .int 0, .int 0, .int 0, .ref sa6, .ref sb7, .ref b8, .ref sc9])), (al5, .inr (4, [.int 0, .ref (zk 0), .int 0])), (b8, .inr (1, [.ref v10, .int 0, .int 0, .int 0])), (v10, .inl (cB, 16, .inl (fun _ => 0))), (q11, .inr (9, [.int 0, .ref am15, .int 0, .int 0, .int 0])), (am15, .inr (4, [.int 0, .ref (zk 0), .int 0]))]) (w1 := [(q16, .inr (7, [.long 0, .null]))]) hP hD [6] [0, 1, 2, 3, 4, 5] rfl rfl (by decide) (by decide) hk1 hFc hP1 hD1
  clear hPc hDc hFc hDv hpre hP hD hP1 hK1 hD1
  obtain ⟨hP, hD⟩ := hPD9
  replace hz : s.heap.size + 17 ≤ H18.size := by omega
  clear hz2
  replace hP : va_P (dC, dI) vwCl [(q1, .inr (6, [.ref al5, .int 0, .int 0, .int 0, .ref sa6, .ref sb7, .ref b8, .ref sc9])), (al5, .inr (4, [.int 0, .ref (zk 0), .int 0])), (b8, .inr (1, [.ref v10, .int 0, .int 0, .int 0])), (v10, .inl (cB, 16, .inl (fun _ => 0))), (q11, .inr (9, [.int 0, .ref am15, .int 0, .int 0, .int 0])), (am15, .inr (4, [.int 0, .ref (zk 0), .int 0])), (q16, .inr (7, [.long 0, .null]))] H18 := hP
  replace hD : va_D A [(q1, .inr (6, [.ref al5, .int 0, .int 0, .int 0, .ref sa6, .ref sb7, .ref b8, .ref sc9])), (al5, .inr (4, [.int 0, .ref (zk 0), .int 0])), (b8, .inr (1, [.ref v10, .int 0, .int 0, .int 0])), (v10, .inl (cB, 16, .inl (fun _ => 0))), (q11, .inr (9, [.int 0, .ref am15, .int 0, .int 0, .int 0])), (am15, .inr (4, [.int 0, .ref (zk 0), .int 0])), (q16, .inr (7, [.long 0, .null]))] := hD
  refine W.widen (k := 17) (n := 79) (by omega) (by omega) ?_
  refine lv_astore_n (lv' := [(3, .ref q16), (2, .ref q11), (1, .ref q1), (0, .ref b)]) hx hb dL_law_23 rfl hl (by decide) rfl (fun ls hl => ?_)
  refine lv_iconst (v := 0) hx hb dL_law_24 (by decide) ?_
  refine lv_istore (lv' := [(4, .int 0), (3, .ref q16), (2, .ref q11), (1, .ref q1), (0, .ref b)]) hx hb dL_law_25 hl (by decide) rfl (fun ls hl => ?_)
  refine lv_iload hx hb dL_law_27 (lv_at hl 0 rfl) ?_
  refine lv_aload_n hx hb dL_law_29 rfl (lv_at hl 4 rfl) ?_
  refine va_slen hx hb hX hbl hbA hS dL_law_30 ?_
  refine W.eq (g2 := F0 mY 31 ls [.int 5, .int 0]) rfl ?_
  refine lv_iconst (v := 5) hx hb dL_law_31 (by decide) ?_
  refine lv_isub hx hb dL_law_32 ?_
  refine lv_topi (fun v20 ev20 => ?_)
  obtain rfl : v20 = 0 := ev20.trans (by decide)
  refine lv_icmp_gt (tgt := 2161) hx hb dL_law_33 (by decide) (fun c9 => ?_) (fun c9 => ?_)
  · exact absurd c9 (by decide)
  have hP9 := hP.sub (ws' := [(q16, .inr (7, [.long 0, .null])), (q1, .inr (6, [.ref al5, .int 0, .int 0, .int 0, .ref sa6, .ref sb7, .ref b8, .ref sc9])), (al5, .inr (4, [.int 0, .ref (zk 0), .int 0])), (q11, .inr (9, [.int 0, .ref am15, .int 0, .int 0, .int 0])), (am15, .inr (4, [.int 0, .ref (zk 0), .int 0]))]) [6, 0, 1, 4, 5] rfl
  have hD9 := hD.sub (ws' := [(q16, .inr (7, [.long 0, .null])), (q1, .inr (6, [.ref al5, .int 0, .int 0, .int 0, .ref sa6, .ref sb7, .ref b8, .ref sc9])), (al5, .inr (4, [.int 0, .ref (zk 0), .int 0])), (q11, .inr (9, [.int 0, .ref am15, .int 0, .int 0, .int 0])), (am15, .inr (4, [.int 0, .ref (zk 0), .int 0]))]) [6, 0, 1, 4, 5] (by decide) rfl
  rw [hAd] at hD9
  have hl9 := lv_sub hl [0, 1, 2, 3, 4] rfl
  refine lv_aload_n hx hb dL_law_36 rfl (lv_at hl 4 rfl) ?_
  refine lv_iload hx hb dL_law_37 (lv_at hl 0 rfl) ?_
  refine va_sld hx hb hX hbl hbA hS (by unfold vp_in; decide) dL_law_39 ?_
  refine lv_topi (fun xs0 exs0 => ?_)
  refine lv_bipush (v := 31) hx hb dL_law_40 (by decide) ?_
  refine lv_iand hx hb dL_law_42 ?_
  refine lv_topi (fun v9 ev9 => ?_)
  obtain ⟨k9, hk9, e9⟩ := zand31 xs0
  have e8 : v9 = Int32.ofNat k9 := ev9.trans e9
  clear ev9 e9
  subst v9
  rw [hAd] at hS
  rcases (show k9 = 0 ∨ k9 = 1 ∨ k9 = 2 ∨ k9 = 3 ∨ k9 = 4 ∨ k9 = 5 ∨ k9 = 6 ∨ k9 = 7 ∨ k9 = 8 ∨ k9 = 9 ∨ k9 = 10 ∨ k9 = 11 ∨ k9 = 12 ∨ k9 = 13 ∨ k9 = 14 ∨ k9 = 15 ∨ k9 = 16 ∨ k9 = 17 ∨ k9 = 18 ∨ k9 = 19 ∨ k9 = 20 ∨ k9 = 21 ∨ k9 = 22 ∨ k9 = 23 ∨ k9 = 24 ∨ k9 = 25 ∨ k9 = 26 ∨ k9 = 27 ∨ k9 = 28 ∨ k9 = 29 ∨ k9 = 30 ∨ k9 = 31 by omega) with rfl | rfl | rfl | rfl | rfl | rfl | rfl | rfl | rfl | rfl | rfl | rfl | rfl | rfl | rfl | rfl | rfl | rfl | rfl | rfl | rfl | rfl | rfl | rfl | rfl | rfl | rfl | rfl | rfl | rfl | rfl | rfl
  · refine lv_tableIn (off := 141) (tgt := 184) hx hb dL_law_43 (by decide) (by decide) (by decide) (by decide) ?_
    exact zl_h0 l dC dI cI cB cR cO zk b xs hfl C1 hZ0 hK q16 q1 al5 b8 (.ref sa6) (.ref sb7) (.ref sc9) 0 q11 am15 0 _ _ hP9 hD9 hS ls hl9
  · refine lv_tableIn (off := 210) (tgt := 253) hx hb dL_law_43 (by decide) (by decide) (by decide) (by decide) ?_
    exact zl_a_drop l dC dI cI cB cR cO zk b xs hfl C1 hZ0 hK q16 q1 al5 b8 (.ref sa6) (.ref sb7) (.ref sc9) 0 q11 am15 0   _ _ hP9 hD9 hS ls hl9
  · refine lv_tableIn (off := 255) (tgt := 298) hx hb dL_law_43 (by decide) (by decide) (by decide) (by decide) ?_
    exact zl_a_empty l dC dI cI cB cR cO zk b xs hfl C1 hZ0 hK q16 q1 al5 b8 (.ref sa6) (.ref sb7) (.ref sc9) 0 q11 am15 0   _ _ hP9 hD9 hS ls hl9
  · refine lv_tableIn (off := 268) (tgt := 311) hx hb dL_law_43 (by decide) (by decide) (by decide) (by decide) ?_
    exact zl_a_put l dC dI cI cB cR cO zk b xs hfl C1 hZ0 hK q16 q1 al5 b8 (.ref sa6) (.ref sb7) (.ref sc9) 0 q11 am15 0 (xs 1) (xs 2) (xs 3) rfl rfl rfl _ _ hP9 hD9 hS ls hl9
  · refine lv_tableIn (off := 349) (tgt := 392) hx hb dL_law_43 (by decide) (by decide) (by decide) (by decide) ?_
    exact zl_a_say l dC dI cI cB cR cO zk b xs hfl C1 hZ0 hK q16 q1 al5 b8 (.ref sa6) (.ref sb7) (.ref sc9) 0 q11 am15 0 (xs 1) (xs 2) (xs 3) rfl rfl rfl _ _ hP9 hD9 hS ls hl9
  · refine lv_tableIn (off := 430) (tgt := 473) hx hb dL_law_43 (by decide) (by decide) (by decide) (by decide) ?_
    exact zl_a_none l dC dI cI cB cR cO zk b xs hfl C1 hZ0 hK q16 q1 al5 b8 (.ref sa6) (.ref sb7) (.ref sc9) 0 q11 am15 0 (xs 1) (xs 2) rfl rfl _ _ hP9 hD9 hS ls hl9
  · refine lv_tableIn (off := 499) (tgt := 542) hx hb dL_law_43 (by decide) (by decide) (by decide) (by decide) ?_
    exact zl_a_hang l dC dI cI cB cR cO zk b xs hfl C1 hZ0 hK q16 q1 al5 b8 (.ref sa6) (.ref sb7) (.ref sc9) 0 q11 am15 0 (xs 1) (xs 2) (xs 3) rfl rfl rfl _ _ hP9 hD9 hS ls hl9
  · refine lv_tableIn (off := 580) (tgt := 623) hx hb dL_law_43 (by decide) (by decide) (by decide) (by decide) ?_
    exact zl_a_swap l dC dI cI cB cR cO zk b xs hfl C1 hZ0 hK q16 q1 al5 b8 (.ref sa6) (.ref sb7) (.ref sc9) 0 q11 am15 0 (xs 1) (xs 2) (xs 3) rfl rfl rfl _ _ hP9 hD9 hS ls hl9
  · refine lv_tableIn (off := 661) (tgt := 704) hx hb dL_law_43 (by decide) (by decide) (by decide) (by decide) ?_
    exact zl_a_fill l dC dI cI cB cR cO zk b xs hfl C1 hZ0 hK q16 q1 al5 b8 (.ref sa6) (.ref sb7) (.ref sc9) 0 q11 am15 0 (xs 1) (xs 2) rfl rfl _ _ hP9 hD9 hS ls hl9
  · refine lv_tableIn (off := 730) (tgt := 773) hx hb dL_law_43 (by decide) (by decide) (by decide) (by decide) ?_
    exact zl_a_fillRow l dC dI cI cB cR cO zk b xs hfl C1 hZ0 hK q16 q1 al5 b8 (.ref sa6) (.ref sb7) (.ref sc9) 0 q11 am15 0 (xs 1) (xs 2) rfl rfl _ _ hP9 hD9 hS ls hl9
  · refine lv_tableIn (off := 799) (tgt := 842) hx hb dL_law_43 (by decide) (by decide) (by decide) (by decide) ?_
    exact zl_a_setAll l dC dI cI cB cR cO zk b xs hfl C1 hZ0 hK q16 q1 al5 b8 (.ref sa6) (.ref sb7) (.ref sc9) 0 q11 am15 0 (xs 1) (xs 2) (xs 3) (xs 4) rfl rfl rfl rfl _ _ hP9 hD9 hS ls hl9
  · refine lv_tableIn (off := 892) (tgt := 935) hx hb dL_law_43 (by decide) (by decide) (by decide) (by decide) ?_
    exact zl_a_setRows l dC dI cI cB cR cO zk b xs hfl C1 hZ0 hK q16 q1 al5 b8 (.ref sa6) (.ref sb7) (.ref sc9) 0 q11 am15 0 (xs 1) (xs 2) rfl rfl _ _ hP9 hD9 hS ls hl9
  · refine lv_tableIn (off := 961) (tgt := 1004) hx hb dL_law_43 (by decide) (by decide) (by decide) (by decide) ?_
    exact zl_a_twin l dC dI cI cB cR cO zk b xs hfl C1 hZ0 hK q16 q1 al5 b8 (.ref sa6) (.ref sb7) (.ref sc9) 0 q11 am15 0 (xs 1) rfl _ _ hP9 hD9 hS ls hl9
  · refine lv_tableIn (off := 1018) (tgt := 1061) hx hb dL_law_43 (by decide) (by decide) (by decide) (by decide) ?_
    exact zl_a_deepTwin l dC dI cI cB cR cO zk b xs hfl C1 hZ0 hK q16 q1 al5 b8 (.ref sa6) (.ref sb7) (.ref sc9) 0 q11 am15 0 (xs 1) rfl _ _ hP9 hD9 hS ls hl9
  · refine lv_tableIn (off := 1075) (tgt := 1118) hx hb dL_law_43 (by decide) (by decide) (by decide) (by decide) ?_
    exact zl_a_copy l dC dI cI cB cR cO zk b xs hfl C1 hZ0 hK q16 q1 al5 b8 (.ref sa6) (.ref sb7) (.ref sc9) 0 q11 am15 0 (xs 1) (xs 2) rfl rfl _ _ hP9 hD9 hS ls hl9
  · refine lv_tableIn (off := 1144) (tgt := 1187) hx hb dL_law_43 (by decide) (by decide) (by decide) (by decide) ?_
    exact zl_a_kind l dC dI cI cB cR cO zk b xs hfl C1 hZ0 hK q16 q1 al5 b8 (.ref sa6) (.ref sb7) (.ref sc9) 0 q11 am15 0 (xs 1) rfl _ _ hP9 hD9 hS ls hl9
  · refine lv_tableIn (off := 1201) (tgt := 1244) hx hb dL_law_43 (by decide) (by decide) (by decide) (by decide) ?_
    exact zl_a_length l dC dI cI cB cR cO zk b xs hfl C1 hZ0 hK q16 q1 al5 b8 (.ref sa6) (.ref sb7) (.ref sc9) 0 q11 am15 0 (xs 1) rfl _ _ hP9 hD9 hS ls hl9
  · refine lv_tableIn (off := 1258) (tgt := 1301) hx hb dL_law_43 (by decide) (by decide) (by decide) (by decide) ?_
    exact zl_a_depth l dC dI cI cB cR cO zk b xs hfl C1 hZ0 hK q16 q1 al5 b8 (.ref sa6) (.ref sb7) (.ref sc9) 0 q11 am15 0 (xs 1) rfl _ _ hP9 hD9 hS ls hl9
  · refine lv_tableIn (off := 1315) (tgt := 1358) hx hb dL_law_43 (by decide) (by decide) (by decide) (by decide) ?_
    exact zl_a_what l dC dI cI cB cR cO zk b xs hfl C1 hZ0 hK q16 q1 al5 b8 (.ref sa6) (.ref sb7) (.ref sc9) 0 q11 am15 0 (xs 1) (xs 2) rfl rfl _ _ hP9 hD9 hS ls hl9
  · refine lv_tableIn (off := 1384) (tgt := 1427) hx hb dL_law_43 (by decide) (by decide) (by decide) (by decide) ?_
    exact zl_a_at l dC dI cI cB cR cO zk b xs hfl C1 hZ0 hK q16 q1 al5 b8 (.ref sa6) (.ref sb7) (.ref sc9) 0 q11 am15 0 (xs 1) (xs 2) rfl rfl _ _ hP9 hD9 hS ls hl9
  · refine lv_tableIn (off := 1453) (tgt := 1496) hx hb dL_law_43 (by decide) (by decide) (by decide) (by decide) ?_
    exact zl_a_isDeep l dC dI cI cB cR cO zk b xs hfl C1 hZ0 hK q16 q1 al5 b8 (.ref sa6) (.ref sb7) (.ref sc9) 0 q11 am15 0 (xs 1) (xs 2) rfl rfl _ _ hP9 hD9 hS ls hl9
  · refine lv_tableIn (off := 1529) (tgt := 1572) hx hb dL_law_43 (by decide) (by decide) (by decide) (by decide) ?_
    exact zl_a_isFlat l dC dI cI cB cR cO zk b xs hfl C1 hZ0 hK q16 q1 al5 b8 (.ref sa6) (.ref sb7) (.ref sc9) 0 q11 am15 0 (xs 1) (xs 2) rfl rfl _ _ hP9 hD9 hS ls hl9
  · refine lv_tableIn (off := 1605) (tgt := 1648) hx hb dL_law_43 (by decide) (by decide) (by decide) (by decide) ?_
    exact zl_a_areDeep l dC dI cI cB cR cO zk b xs hfl C1 hZ0 hK q16 q1 al5 b8 (.ref sa6) (.ref sb7) (.ref sc9) 0 q11 am15 0 (xs 1) (xs 2) (xs 3) (xs 4) rfl rfl rfl rfl _ _ hP9 hD9 hS ls hl9
  · refine lv_tableIn (off := 1705) (tgt := 1748) hx hb dL_law_43 (by decide) (by decide) (by decide) (by decide) ?_
    exact zl_a_hash l dC dI cI cB cR cO zk b xs hfl C1 hZ0 hK q16 q1 al5 b8 (.ref sa6) (.ref sb7) (.ref sc9) 0 q11 am15 0 (xs 1) rfl _ _ hP9 hD9 hS ls hl9
  · refine lv_tableIn (off := 1762) (tgt := 1805) hx hb dL_law_43 (by decide) (by decide) (by decide) (by decide) ?_
    exact zl_a_flatHash l dC dI cI cB cR cO zk b xs hfl C1 hZ0 hK q16 q1 al5 b8 (.ref sa6) (.ref sb7) (.ref sc9) 0 q11 am15 0 (xs 1) rfl _ _ hP9 hD9 hS ls hl9
  · refine lv_tableIn (off := 1819) (tgt := 1862) hx hb dL_law_43 (by decide) (by decide) (by decide) (by decide) ?_
    exact zl_a_text l dC dI cI cB cR cO zk b xs hfl C1 hZ0 hK q16 q1 al5 b8 (.ref sa6) (.ref sb7) (.ref sc9) 0 q11 am15 0 (xs 1) rfl _ _ hP9 hD9 hS ls hl9
  · refine lv_tableIn (off := 1877) (tgt := 1920) hx hb dL_law_43 (by decide) (by decide) (by decide) (by decide) ?_
    exact zl_a_differ l dC dI cI cB cR cO zk b xs hfl C1 hZ0 hK q16 q1 al5 b8 (.ref sa6) (.ref sb7) (.ref sc9) 0 q11 am15 0 (xs 1) (xs 2) rfl rfl _ _ hP9 hD9 hS ls hl9
  · refine lv_tableIn (off := 1946) (tgt := 1989) hx hb dL_law_43 (by decide) (by decide) (by decide) (by decide) ?_
    exact zl_a_compare l dC dI cI cB cR cO zk b xs hfl C1 hZ0 hK q16 q1 al5 b8 (.ref sa6) (.ref sb7) (.ref sc9) 0 q11 am15 0 (xs 1) (xs 2) rfl rfl _ _ hP9 hD9 hS ls hl9
  · refine lv_tableIn (off := 2015) (tgt := 2058) hx hb dL_law_43 (by decide) (by decide) (by decide) (by decide) ?_
    exact zl_a_knock l dC dI cI cB cR cO zk b xs hfl C1 hZ0 hK q16 q1 al5 b8 (.ref sa6) (.ref sb7) (.ref sc9) 0 q11 am15 0   _ _ hP9 hD9 hS ls hl9
  · refine lv_tableIn (off := 2028) (tgt := 2071) hx hb dL_law_43 (by decide) (by decide) (by decide) (by decide) ?_
    exact zl_h29 l dC dI cI cB cR cO zk b xs hfl C1 hZ0 hK q16 q1 al5 b8 (.ref sa6) (.ref sb7) (.ref sc9) 0 q11 am15 0 _ _ hP9 hD9 hS ls hl9
  · refine lv_tableIn (off := 2085) (tgt := 2128) hx hb dL_law_43 (by decide) (by decide) (by decide) (by decide) ?_
    exact zl_a_isSound l dC dI cI cB cR cO zk b xs hfl C1 hZ0 hK q16 q1 al5 b8 (.ref sa6) (.ref sb7) (.ref sc9) 0 q11 am15 0   _ _ hP9 hD9 hS ls hl9
  · refine lv_tableIn (off := 2098) (tgt := 2141) hx hb dL_law_43 (by decide) (by decide) (by decide) (by decide) ?_
    exact zl_a_digest l dC dI cI cB cR cO zk b xs hfl C1 hZ0 hK q16 q1 al5 b8 (.ref sa6) (.ref sb7) (.ref sc9) 0 q11 am15 0   _ _ hP9 hD9 hS ls hl9

set_option maxHeartbeats 8000000 in
set_option maxRecDepth 100000 in
theorem zl_few0 (l : Launch) (dC : Nat → ClassId) (dI : Nat → Nat → Nat) (cI cB cR cO : ClassId) (zk : Nat → Nat) {p : Program} {e : Env} {s : State} {mY : MethodId} {below : List Frame} {meth : Method} {c : Code} (b : Nat) (xs : Nat → Int32) (hfl : l.stackTraces = false) (C0 : zl_At p s mY meth c b 0 xs) (hZ0 : zR zk [] (fun q => s.heap.size ≤ q) s s.heap) (hK : va_K (dC, dI) vwCl (zT cI cB cR cO) s) : W p l e room_1 s mY #[Value.ref b] below meth c s.heap [] 0 0 (lw_Z below #[Value.ref b] s) (entryFrame mY ([Value.ref b] : List Value).toArray 7) := by
  obtain ⟨hx, hb, hr, hml, hown, hts0, hX, hbl, hlocks, hNI⟩ := C0
  have hts := fun (w : Cond) (h : w ∈ wsL_law) => hts0 w (wsL_law_in w h)
  obtain ⟨A, hAd⟩ : ∃ A : Nat → Prop, A = fun q => s.heap.size ≤ q := ⟨_, rfl⟩
  have hA : ∀ q : Nat, s.heap.size ≤ q → A q := fun q h => by rw [hAd]; exact h
  have hAf : ∀ q : Nat, A q → s.heap.size ≤ q := fun q h => by rw [hAd] at h; exact h
  have hbA : ¬ A b := fun h => absurd (hAf b h) (Nat.not_le.mpr hbl)
  have hZ : zR zk [] A s s.heap := by rw [hAd]; exact hZ0
  have hP : va_P (dC, dI) vwCl [] s.heap := fun k q h => by simp at h
  have hD : va_D A [] := ⟨fun i j p q h => by simp at h, fun k q h => by simp at h⟩
  have hS : va_S A s.heap s.heap [] := va_S.rf
  have hz : s.heap.size + 0 ≤ s.heap.size := Nat.le_refl _
  have hl := lv_entry ([.ref b]) (n := 7) (Nat.le_of_ble_eq_true rfl)
  rw [lg_entry_eq]
  generalize (lg_sl ([.ref b]) ++ List.replicate (7 - (lg_sl ([.ref b])).length) Slot.unset).toArray = ls at hl ⊢
  have hl : lv_has ls 7 [(0, .ref b)] := hl
  have hP : va_P (dC, dI) vwCl [] s.heap := hP
  have hD : va_D A [] := hD
  refine zw_new (ci := 6) (fs := [.null, .int 0, .int 0, .int 0, .null, .null, .null, .null]) (C := RX1) (T := TX1) (N := 8) hx hb hts inlX1 tyX1 tyX1_ok hown (hts (.classLink RL 8 RX1) (List.mem_cons_of_mem _ zw_65)) (hts (.instantiable RX1 8) (List.mem_cons_of_mem _ zw_66)) (hts (.initialized RX1) (List.mem_cons_of_mem _ zw_35)) hK hP hD hS hA rfl (fun j hj => by rcases (show j = 0 ∨ j = 1 ∨ j = 2 ∨ j = 3 ∨ j = 4 ∨ j = 5 ∨ j = 6 ∨ j = 7 by omega) with rfl | rfl | rfl | rfl | rfl | rfl | rfl | rfl <;> rfl) (Nat.le_of_ble_eq_true rfl) (Nat.le_of_ble_eq_true rfl) dL_law_0 hz (fun q1 H2 hP hD hS hz => ?_)
  replace hP : va_P (dC, dI) vwCl [(q1, .inr (6, [.null, .int 0, .int 0, .int 0, .null, .null, .null, .null]))] H2 := hP
  replace hD : va_D A [(q1, .inr (6, [.null, .int 0, .int 0, .int 0, .null, .null, .null, .null]))] := hD
  refine W.widen (k := 1) (n := 8) (by omega) (by omega) ?_
  refine lv_dup hx hb dL_law_3 rfl ?_
  have hPc := hP.sub (ws' := [(q1, .inr (6, [.null, .int 0, .int 0, .int 0, .null, .null, .null, .null]))]) [0] rfl
  have hDc := hD.sub (ws' := [(q1, .inr (6, [.null, .int 0, .int 0, .int 0, .null, .null, .null, .null]))]) [0] (by decide) rfl
  have hFc := va_free (wc := [(q1, .inr (6, [.null, .int 0, .int 0, .int 0, .null, .null, .null, .null]))]) hD hS hA [0] rfl
  have hDv := hDc.self (sz := H2.size)
  have hpre := zpre (xs' := []) (av := [.ref q1]) hPc hK (hDc.weaken (fun _ _ _ h => h)) hZ hS hFc (fun r hr => by cases hr)
  refine va_callv (va_runI (As := []) (rest := [.ref q1]) ⟨hx, hb, hml, hown, hts⟩ (k_xin l dC dI cI cB cR cO zk q1 H2.size ) (cwI 0 hts gL_law_X1_init rfl rfl rfl (hts (.initialized RX1) (List.mem_cons_of_mem _ zw_35)) (hts (.methodLink RL 117 yX1_init) (List.mem_cons_of_mem _ zw_67)) (hts (.instanceMethod yX1_init) (List.mem_cons_of_mem _ zw_68)) rfl (by decide +kernel) ⟨Nat.le_of_ble_eq_true rfl, Nat.le_of_ble_eq_true rfl⟩) ⟨zblind, hpre⟩ rfl rfl hl.1 rfl (lv_room (Nat.le_of_ble_eq_true rfl)) dL_law_4 ⟨Nat.le_of_ble_eq_true rfl, Nat.le_of_ble_eq_true rfl⟩) hS (fun q _ h => hFc q h) hFc (fun u t H3 locs ht hvm hw hB hz1 hk1 hS => ?_)
  obtain ⟨al5, sa6, sb7, b8, sc9, v10, ⟨hP1, hK1, hD1, hz2⟩⟩ := hB
  rw [ht] at hP1 hz2
  have hPD9 := va_join (wr := []) (w1 := [(q1, .inr (6, [.ref al5, .int 0, .int 0, .int 0, .ref sa6, .ref sb7, .ref b8, .ref sc9])), (al5, .inr (4, [.int 0, .ref (zk 0), .int 0])), (b8, .inr (1, [.ref v10, .int 0, .int 0, .int 0])), (v10, .inl (cB, 16, .inl (fun _ => 0)))]) hP hD [0] [] rfl rfl (by decide) (by decide) hk1 hFc hP1 hD1
  clear hPc hDc hFc hDv hpre hP hD hP1 hK1 hD1
  obtain ⟨hP, hD⟩ := hPD9
  replace hz : s.heap.size + 14 ≤ H3.size := by omega
  clear hz2
  replace hP : va_P (dC, dI) vwCl [(q1, .inr (6, [.ref al5, .int 0, .int 0, .int 0, .ref sa6, .ref sb7, .ref b8, .ref sc9])), (al5, .inr (4, [.int 0, .ref (zk 0), .int 0])), (b8, .inr (1, [.ref v10, .int 0, .int 0, .int 0])), (v10, .inl (cB, 16, .inl (fun _ => 0)))] H3 := hP
  replace hD : va_D A [(q1, .inr (6, [.ref al5, .int 0, .int 0, .int 0, .ref sa6, .ref sb7, .ref b8, .ref sc9])), (al5, .inr (4, [.int 0, .ref (zk 0), .int 0])), (b8, .inr (1, [.ref v10, .int 0, .int 0, .int 0])), (v10, .inl (cB, 16, .inl (fun _ => 0)))] := hD
  refine W.widen (k := 14) (n := 69) (by omega) (by omega) ?_
  refine lv_astore_n (lv' := [(1, .ref q1), (0, .ref b)]) hx hb dL_law_7 rfl hl (by decide) rfl (fun ls hl => ?_)
  refine zw_new (ci := 9) (fs := [.int 0, .null, .int 0, .int 0, .int 0]) (C := RX4) (T := TX4) (N := 5) hx hb hts inlX4 tyX4 tyX4_ok hown (hts (.classLink RL 118 RX4) (List.mem_cons_of_mem _ zw_1119)) (hts (.instantiable RX4 5) (List.mem_cons_of_mem _ zw_1120)) (hts (.initialized RX4) (List.mem_cons_of_mem _ zw_44)) hK hP hD hS hA rfl (fun j hj => by rcases (show j = 0 ∨ j = 1 ∨ j = 2 ∨ j = 3 ∨ j = 4 by omega) with rfl | rfl | rfl | rfl | rfl <;> rfl) (Nat.le_of_ble_eq_true rfl) (Nat.le_of_ble_eq_true rfl) dL_law_8 hz (fun q11 H12 hP hD hS hz => ?_)
  replace hP : va_P (dC, dI) vwCl [(q1, .inr (6, [.ref al5, .int 0, .int 0, .int 0, .ref sa6, .ref sb7, .ref b8, .ref sc9])), (al5, .inr (4, [.int 0, .ref (zk 0), .int 0])), (b8, .inr (1, [.ref v10, .int 0, .int 0, .int 0])), (v10, .inl (cB, 16, .inl (fun _ => 0))), (q11, .inr (9, [.int 0, .null, .int 0, .int 0, .int 0]))] H12 := hP
  replace hD : va_D A [(q1, .inr (6, [.ref al5, .int 0, .int 0, .int 0, .ref sa6, .ref sb7, .ref b8, .ref sc9])), (al5, .inr (4, [.int 0, .ref (zk 0), .int 0])), (b8, .inr (1, [.ref v10, .int 0, .int 0, .int 0])), (v10, .inl (cB, 16, .inl (fun _ => 0))), (q11, .inr (9, [.int 0, .null, .int 0, .int 0, .int 0]))] := hD
  refine W.widen (k := 15) (n := 74) (by omega) (by omega) ?_
  refine lv_dup hx hb dL_law_11 rfl ?_
  have hPc := hP.sub (ws' := [(q11, .inr (9, [.int 0, .null, .int 0, .int 0, .int 0]))]) [4] rfl
  have hDc := hD.sub (ws' := [(q11, .inr (9, [.int 0, .null, .int 0, .int 0, .int 0]))]) [4] (by decide) rfl
  have hFc := va_free (wc := [(q11, .inr (9, [.int 0, .null, .int 0, .int 0, .int 0]))]) hD hS hA [4] rfl
  have hDv := hDc.self (sz := H12.size)
  have hpre := zpre (xs' := []) (av := [.ref q11]) hPc hK (hDc.weaken (fun _ _ _ h => h)) hZ hS hFc (fun r hr => by cases hr)
  refine va_callv (va_runI (As := []) (rest := [.ref q11]) ⟨hx, hb, hml, hown, hts⟩ (k_min l dC dI cI cB cR cO zk q11 H12.size ) (cwI 0 hts gL_law_X4_init rfl rfl rfl (hts (.initialized RX4) (List.mem_cons_of_mem _ zw_44)) (hts (.methodLink RL 120 yX4_init) (List.mem_cons_of_mem _ zw_1121)) (hts (.instanceMethod yX4_init) (List.mem_cons_of_mem _ zw_1122)) rfl (by decide +kernel) ⟨Nat.le_of_ble_eq_true rfl, Nat.le_of_ble_eq_true rfl⟩) ⟨zblind, hpre⟩ rfl rfl hl.1 rfl (lv_room (Nat.le_of_ble_eq_true rfl)) dL_law_12 ⟨Nat.le_of_ble_eq_true rfl, Nat.le_of_ble_eq_true rfl⟩) hS (fun q _ h => hFc q h) hFc (fun u t H13 locs ht hvm hw hB hz1 hk1 hS => ?_)
  obtain ⟨am15, ⟨hP1, hK1, hD1, hz2⟩⟩ := hB
  rw [ht] at hP1 hz2
  have hPD9 := va_join (wr := [(q1, .inr (6, [.ref al5, .int 0, .int 0, .int 0, .ref sa6, .ref sb7, .ref b8, .ref sc9])), (al5, .inr (4, [.int 0, .ref (zk 0), .int 0])), (b8, .inr (1, [.ref v10, .int 0, .int 0, .int 0])), (v10, .inl (cB, 16, .inl (fun _ => 0)))]) (w1 := [(q11, .inr (9, [.int 0, .ref am15, .int 0, .int 0, .int 0])), (am15, .inr (4, [.int 0, .ref (zk 0), .int 0]))]) hP hD [4] [0, 1, 2, 3] rfl rfl (by decide) (by decide) hk1 hFc hP1 hD1
  clear hPc hDc hFc hDv hpre hP hD hP1 hK1 hD1
  obtain ⟨hP, hD⟩ := hPD9
  replace hz : s.heap.size + 16 ≤ H13.size := by omega
  clear hz2
  replace hP : va_P (dC, dI) vwCl [(q1, .inr (6, [.ref al5, .int 0, .int 0, .int 0, .ref sa6, .ref sb7, .ref b8, .ref sc9])), (al5, .inr (4, [.int 0, .ref (zk 0), .int 0])), (b8, .inr (1, [.ref v10, .int 0, .int 0, .int 0])), (v10, .inl (cB, 16, .inl (fun _ => 0))), (q11, .inr (9, [.int 0, .ref am15, .int 0, .int 0, .int 0])), (am15, .inr (4, [.int 0, .ref (zk 0), .int 0]))] H13 := hP
  replace hD : va_D A [(q1, .inr (6, [.ref al5, .int 0, .int 0, .int 0, .ref sa6, .ref sb7, .ref b8, .ref sc9])), (al5, .inr (4, [.int 0, .ref (zk 0), .int 0])), (b8, .inr (1, [.ref v10, .int 0, .int 0, .int 0])), (v10, .inl (cB, 16, .inl (fun _ => 0))), (q11, .inr (9, [.int 0, .ref am15, .int 0, .int 0, .int 0])), (am15, .inr (4, [.int 0, .ref (zk 0), .int 0]))] := hD
  refine W.widen (k := 16) (n := 77) (by omega) (by omega) ?_
  refine lv_astore_n (lv' := [(2, .ref q11), (1, .ref q1), (0, .ref b)]) hx hb dL_law_15 rfl hl (by decide) rfl (fun ls hl => ?_)
  refine zw_new (ci := 7) (fs := [.long 0, .null]) (C := RX2) (T := TX2) (N := 2) hx hb hts inlX2 tyX2 tyX2_ok hown (hts (.classLink RL 14 RX2) (List.mem_cons_of_mem _ zw_764)) (hts (.instantiable RX2 2) (List.mem_cons_of_mem _ zw_765)) (hts (.initialized RX2) (List.mem_cons_of_mem _ zw_45)) hK hP hD hS hA rfl (fun j hj => by rcases (show j = 0 ∨ j = 1 by omega) with rfl | rfl <;> rfl) (Nat.le_of_ble_eq_true rfl) (Nat.le_of_ble_eq_true rfl) dL_law_16 hz (fun q16 H17 hP hD hS hz => ?_)
  replace hP : va_P (dC, dI) vwCl [(q1, .inr (6, [.ref al5, .int 0, .int 0, .int 0, .ref sa6, .ref sb7, .ref b8, .ref sc9])), (al5, .inr (4, [.int 0, .ref (zk 0), .int 0])), (b8, .inr (1, [.ref v10, .int 0, .int 0, .int 0])), (v10, .inl (cB, 16, .inl (fun _ => 0))), (q11, .inr (9, [.int 0, .ref am15, .int 0, .int 0, .int 0])), (am15, .inr (4, [.int 0, .ref (zk 0), .int 0])), (q16, .inr (7, [.long 0, .null]))] H17 := hP
  replace hD : va_D A [(q1, .inr (6, [.ref al5, .int 0, .int 0, .int 0, .ref sa6, .ref sb7, .ref b8, .ref sc9])), (al5, .inr (4, [.int 0, .ref (zk 0), .int 0])), (b8, .inr (1, [.ref v10, .int 0, .int 0, .int 0])), (v10, .inl (cB, 16, .inl (fun _ => 0))), (q11, .inr (9, [.int 0, .ref am15, .int 0, .int 0, .int 0])), (am15, .inr (4, [.int 0, .ref (zk 0), .int 0])), (q16, .inr (7, [.long 0, .null]))] := hD
  refine W.widen (k := 17) (n := 79) (by omega) (by omega) ?_
  refine lv_dup hx hb dL_law_19 rfl ?_
  have hPc := hP.sub (ws' := [(q16, .inr (7, [.long 0, .null]))]) [6] rfl
  have hDc := hD.sub (ws' := [(q16, .inr (7, [.long 0, .null]))]) [6] (by decide) rfl
  have hFc := va_free (wc := [(q16, .inr (7, [.long 0, .null]))]) hD hS hA [6] rfl
  have hDv := hDc.self (sz := H17.size)
  have hpre := zpre (xs' := []) (av := [.ref q16]) hPc hK (hDc.weaken (fun _ _ _ h => h)) hZ hS hFc (fun r hr => by cases hr)
  refine va_callv (va_runIN (As := []) (rest := [.ref q16]) ⟨hx, hb, hml, hown, hts⟩ (k_oin l dC dI cI cB cR cO zk q16 H17.size ) ⟨va_cnB 0 hts gL_law_X2_init_n121 rfl rfl rfl hNI (hts (.initialized RX2) (List.mem_cons_of_mem _ zw_45)) (by decide +kernel) ⟨Nat.le_of_ble_eq_true rfl, Nat.le_of_ble_eq_true rfl⟩, rfl, hts (.instanceMethod yX2_init) (List.mem_cons_of_mem _ zw_767)⟩ ⟨zblind, hpre⟩ rfl rfl hl.1 rfl (lv_room (Nat.le_of_ble_eq_true rfl)) dL_law_20 ⟨Nat.le_of_ble_eq_true rfl, Nat.le_of_ble_eq_true rfl⟩) hS (fun q _ h => hFc q h) hFc (fun u t H18 locs ht hvm hw hB hz1 hk1 hS => ?_)
  obtain ⟨hP1, hK1, hD1, hz2⟩ := hB
  rw [ht] at hP1 hz2
  have hPD9 := va_join (wr := [(q1, .inr (6, [.ref al5, .int 0, .int 0, .int 0, .ref sa6, .ref sb7, .ref b8, .ref sc9])), (al5, .inr (4, [.int 0, .ref (zk 0), .int 0])), (b8, .inr (1, [.ref v10, .int 0, .int 0, .int 0])), (v10, .inl (cB, 16, .inl (fun _ => 0))), (q11, .inr (9, [.int 0, .ref am15, .int 0, .int 0, .int 0])), (am15, .inr (4, [.int 0, .ref (zk 0), .int 0]))]) (w1 := [(q16, .inr (7, [.long 0, .null]))]) hP hD [6] [0, 1, 2, 3, 4, 5] rfl rfl (by decide) (by decide) hk1 hFc hP1 hD1
  clear hPc hDc hFc hDv hpre hP hD hP1 hK1 hD1
  obtain ⟨hP, hD⟩ := hPD9
  replace hz : s.heap.size + 17 ≤ H18.size := by omega
  clear hz2
  replace hP : va_P (dC, dI) vwCl [(q1, .inr (6, [.ref al5, .int 0, .int 0, .int 0, .ref sa6, .ref sb7, .ref b8, .ref sc9])), (al5, .inr (4, [.int 0, .ref (zk 0), .int 0])), (b8, .inr (1, [.ref v10, .int 0, .int 0, .int 0])), (v10, .inl (cB, 16, .inl (fun _ => 0))), (q11, .inr (9, [.int 0, .ref am15, .int 0, .int 0, .int 0])), (am15, .inr (4, [.int 0, .ref (zk 0), .int 0])), (q16, .inr (7, [.long 0, .null]))] H18 := hP
  replace hD : va_D A [(q1, .inr (6, [.ref al5, .int 0, .int 0, .int 0, .ref sa6, .ref sb7, .ref b8, .ref sc9])), (al5, .inr (4, [.int 0, .ref (zk 0), .int 0])), (b8, .inr (1, [.ref v10, .int 0, .int 0, .int 0])), (v10, .inl (cB, 16, .inl (fun _ => 0))), (q11, .inr (9, [.int 0, .ref am15, .int 0, .int 0, .int 0])), (am15, .inr (4, [.int 0, .ref (zk 0), .int 0])), (q16, .inr (7, [.long 0, .null]))] := hD
  refine W.widen (k := 17) (n := 79) (by omega) (by omega) ?_
  refine lv_astore_n (lv' := [(3, .ref q16), (2, .ref q11), (1, .ref q1), (0, .ref b)]) hx hb dL_law_23 rfl hl (by decide) rfl (fun ls hl => ?_)
  refine lv_iconst (v := 0) hx hb dL_law_24 (by decide) ?_
  refine lv_istore (lv' := [(4, .int 0), (3, .ref q16), (2, .ref q11), (1, .ref q1), (0, .ref b)]) hx hb dL_law_25 hl (by decide) rfl (fun ls hl => ?_)
  refine lv_iload hx hb dL_law_27 (lv_at hl 0 rfl) ?_
  refine lv_aload_n hx hb dL_law_29 rfl (lv_at hl 4 rfl) ?_
  refine va_slen hx hb hX hbl hbA hS dL_law_30 ?_
  refine W.eq (g2 := F0 mY 31 ls [.int 0, .int 0]) rfl ?_
  refine lv_iconst (v := 5) hx hb dL_law_31 (by decide) ?_
  refine lv_isub hx hb dL_law_32 ?_
  refine lv_topi (fun v20 ev20 => ?_)
  obtain rfl : v20 = (-5) := ev20.trans (by decide)
  refine lv_icmp_gt (tgt := 2161) hx hb dL_law_33 (by decide) (fun c9 => ?_) (fun c9 => ?_)
  rotate_left
  · exact absurd (by decide) c9
  refine lv_iconst (v := 1) hx hb dL_law_2161 (by decide) ?_
  refine va_forget (fun q hq => hAf _ (hS.2.2 q hq)) ?_
  refine W.widen (k := 799520) (n := 6703675) (Nat.le_of_ble_eq_true rfl) (Nat.le_of_ble_eq_true rfl) ?_
  exact lw_ret hx hb hr hlocks dL_law_2162

set_option maxHeartbeats 8000000 in
set_option maxRecDepth 100000 in
theorem zl_few1 (l : Launch) (dC : Nat → ClassId) (dI : Nat → Nat → Nat) (cI cB cR cO : ClassId) (zk : Nat → Nat) {p : Program} {e : Env} {s : State} {mY : MethodId} {below : List Frame} {meth : Method} {c : Code} (b : Nat) (xs : Nat → Int32) (hfl : l.stackTraces = false) (C0 : zl_At p s mY meth c b 1 xs) (hZ0 : zR zk [] (fun q => s.heap.size ≤ q) s s.heap) (hK : va_K (dC, dI) vwCl (zT cI cB cR cO) s) : W p l e room_1 s mY #[Value.ref b] below meth c s.heap [] 0 0 (lw_Z below #[Value.ref b] s) (entryFrame mY ([Value.ref b] : List Value).toArray 7) := by
  obtain ⟨hx, hb, hr, hml, hown, hts0, hX, hbl, hlocks, hNI⟩ := C0
  have hts := fun (w : Cond) (h : w ∈ wsL_law) => hts0 w (wsL_law_in w h)
  obtain ⟨A, hAd⟩ : ∃ A : Nat → Prop, A = fun q => s.heap.size ≤ q := ⟨_, rfl⟩
  have hA : ∀ q : Nat, s.heap.size ≤ q → A q := fun q h => by rw [hAd]; exact h
  have hAf : ∀ q : Nat, A q → s.heap.size ≤ q := fun q h => by rw [hAd] at h; exact h
  have hbA : ¬ A b := fun h => absurd (hAf b h) (Nat.not_le.mpr hbl)
  have hZ : zR zk [] A s s.heap := by rw [hAd]; exact hZ0
  have hP : va_P (dC, dI) vwCl [] s.heap := fun k q h => by simp at h
  have hD : va_D A [] := ⟨fun i j p q h => by simp at h, fun k q h => by simp at h⟩
  have hS : va_S A s.heap s.heap [] := va_S.rf
  have hz : s.heap.size + 0 ≤ s.heap.size := Nat.le_refl _
  have hl := lv_entry ([.ref b]) (n := 7) (Nat.le_of_ble_eq_true rfl)
  rw [lg_entry_eq]
  generalize (lg_sl ([.ref b]) ++ List.replicate (7 - (lg_sl ([.ref b])).length) Slot.unset).toArray = ls at hl ⊢
  have hl : lv_has ls 7 [(0, .ref b)] := hl
  have hP : va_P (dC, dI) vwCl [] s.heap := hP
  have hD : va_D A [] := hD
  refine zw_new (ci := 6) (fs := [.null, .int 0, .int 0, .int 0, .null, .null, .null, .null]) (C := RX1) (T := TX1) (N := 8) hx hb hts inlX1 tyX1 tyX1_ok hown (hts (.classLink RL 8 RX1) (List.mem_cons_of_mem _ zw_65)) (hts (.instantiable RX1 8) (List.mem_cons_of_mem _ zw_66)) (hts (.initialized RX1) (List.mem_cons_of_mem _ zw_35)) hK hP hD hS hA rfl (fun j hj => by rcases (show j = 0 ∨ j = 1 ∨ j = 2 ∨ j = 3 ∨ j = 4 ∨ j = 5 ∨ j = 6 ∨ j = 7 by omega) with rfl | rfl | rfl | rfl | rfl | rfl | rfl | rfl <;> rfl) (Nat.le_of_ble_eq_true rfl) (Nat.le_of_ble_eq_true rfl) dL_law_0 hz (fun q1 H2 hP hD hS hz => ?_)
  replace hP : va_P (dC, dI) vwCl [(q1, .inr (6, [.null, .int 0, .int 0, .int 0, .null, .null, .null, .null]))] H2 := hP
  replace hD : va_D A [(q1, .inr (6, [.null, .int 0, .int 0, .int 0, .null, .null, .null, .null]))] := hD
  refine W.widen (k := 1) (n := 8) (by omega) (by omega) ?_
  refine lv_dup hx hb dL_law_3 rfl ?_
  have hPc := hP.sub (ws' := [(q1, .inr (6, [.null, .int 0, .int 0, .int 0, .null, .null, .null, .null]))]) [0] rfl
  have hDc := hD.sub (ws' := [(q1, .inr (6, [.null, .int 0, .int 0, .int 0, .null, .null, .null, .null]))]) [0] (by decide) rfl
  have hFc := va_free (wc := [(q1, .inr (6, [.null, .int 0, .int 0, .int 0, .null, .null, .null, .null]))]) hD hS hA [0] rfl
  have hDv := hDc.self (sz := H2.size)
  have hpre := zpre (xs' := []) (av := [.ref q1]) hPc hK (hDc.weaken (fun _ _ _ h => h)) hZ hS hFc (fun r hr => by cases hr)
  refine va_callv (va_runI (As := []) (rest := [.ref q1]) ⟨hx, hb, hml, hown, hts⟩ (k_xin l dC dI cI cB cR cO zk q1 H2.size ) (cwI 0 hts gL_law_X1_init rfl rfl rfl (hts (.initialized RX1) (List.mem_cons_of_mem _ zw_35)) (hts (.methodLink RL 117 yX1_init) (List.mem_cons_of_mem _ zw_67)) (hts (.instanceMethod yX1_init) (List.mem_cons_of_mem _ zw_68)) rfl (by decide +kernel) ⟨Nat.le_of_ble_eq_true rfl, Nat.le_of_ble_eq_true rfl⟩) ⟨zblind, hpre⟩ rfl rfl hl.1 rfl (lv_room (Nat.le_of_ble_eq_true rfl)) dL_law_4 ⟨Nat.le_of_ble_eq_true rfl, Nat.le_of_ble_eq_true rfl⟩) hS (fun q _ h => hFc q h) hFc (fun u t H3 locs ht hvm hw hB hz1 hk1 hS => ?_)
  obtain ⟨al5, sa6, sb7, b8, sc9, v10, ⟨hP1, hK1, hD1, hz2⟩⟩ := hB
  rw [ht] at hP1 hz2
  have hPD9 := va_join (wr := []) (w1 := [(q1, .inr (6, [.ref al5, .int 0, .int 0, .int 0, .ref sa6, .ref sb7, .ref b8, .ref sc9])), (al5, .inr (4, [.int 0, .ref (zk 0), .int 0])), (b8, .inr (1, [.ref v10, .int 0, .int 0, .int 0])), (v10, .inl (cB, 16, .inl (fun _ => 0)))]) hP hD [0] [] rfl rfl (by decide) (by decide) hk1 hFc hP1 hD1
  clear hPc hDc hFc hDv hpre hP hD hP1 hK1 hD1
  obtain ⟨hP, hD⟩ := hPD9
  replace hz : s.heap.size + 14 ≤ H3.size := by omega
  clear hz2
  replace hP : va_P (dC, dI) vwCl [(q1, .inr (6, [.ref al5, .int 0, .int 0, .int 0, .ref sa6, .ref sb7, .ref b8, .ref sc9])), (al5, .inr (4, [.int 0, .ref (zk 0), .int 0])), (b8, .inr (1, [.ref v10, .int 0, .int 0, .int 0])), (v10, .inl (cB, 16, .inl (fun _ => 0)))] H3 := hP
  replace hD : va_D A [(q1, .inr (6, [.ref al5, .int 0, .int 0, .int 0, .ref sa6, .ref sb7, .ref b8, .ref sc9])), (al5, .inr (4, [.int 0, .ref (zk 0), .int 0])), (b8, .inr (1, [.ref v10, .int 0, .int 0, .int 0])), (v10, .inl (cB, 16, .inl (fun _ => 0)))] := hD
  refine W.widen (k := 14) (n := 69) (by omega) (by omega) ?_
  refine lv_astore_n (lv' := [(1, .ref q1), (0, .ref b)]) hx hb dL_law_7 rfl hl (by decide) rfl (fun ls hl => ?_)
  refine zw_new (ci := 9) (fs := [.int 0, .null, .int 0, .int 0, .int 0]) (C := RX4) (T := TX4) (N := 5) hx hb hts inlX4 tyX4 tyX4_ok hown (hts (.classLink RL 118 RX4) (List.mem_cons_of_mem _ zw_1119)) (hts (.instantiable RX4 5) (List.mem_cons_of_mem _ zw_1120)) (hts (.initialized RX4) (List.mem_cons_of_mem _ zw_44)) hK hP hD hS hA rfl (fun j hj => by rcases (show j = 0 ∨ j = 1 ∨ j = 2 ∨ j = 3 ∨ j = 4 by omega) with rfl | rfl | rfl | rfl | rfl <;> rfl) (Nat.le_of_ble_eq_true rfl) (Nat.le_of_ble_eq_true rfl) dL_law_8 hz (fun q11 H12 hP hD hS hz => ?_)
  replace hP : va_P (dC, dI) vwCl [(q1, .inr (6, [.ref al5, .int 0, .int 0, .int 0, .ref sa6, .ref sb7, .ref b8, .ref sc9])), (al5, .inr (4, [.int 0, .ref (zk 0), .int 0])), (b8, .inr (1, [.ref v10, .int 0, .int 0, .int 0])), (v10, .inl (cB, 16, .inl (fun _ => 0))), (q11, .inr (9, [.int 0, .null, .int 0, .int 0, .int 0]))] H12 := hP
  replace hD : va_D A [(q1, .inr (6, [.ref al5, .int 0, .int 0, .int 0, .ref sa6, .ref sb7, .ref b8, .ref sc9])), (al5, .inr (4, [.int 0, .ref (zk 0), .int 0])), (b8, .inr (1, [.ref v10, .int 0, .int 0, .int 0])), (v10, .inl (cB, 16, .inl (fun _ => 0))), (q11, .inr (9, [.int 0, .null, .int 0, .int 0, .int 0]))] := hD
  refine W.widen (k := 15) (n := 74) (by omega) (by omega) ?_
  refine lv_dup hx hb dL_law_11 rfl ?_
  have hPc := hP.sub (ws' := [(q11, .inr (9, [.int 0, .null, .int 0, .int 0, .int 0]))]) [4] rfl
  have hDc := hD.sub (ws' := [(q11, .inr (9, [.int 0, .null, .int 0, .int 0, .int 0]))]) [4] (by decide) rfl
  have hFc := va_free (wc := [(q11, .inr (9, [.int 0, .null, .int 0, .int 0, .int 0]))]) hD hS hA [4] rfl
  have hDv := hDc.self (sz := H12.size)
  have hpre := zpre (xs' := []) (av := [.ref q11]) hPc hK (hDc.weaken (fun _ _ _ h => h)) hZ hS hFc (fun r hr => by cases hr)
  refine va_callv (va_runI (As := []) (rest := [.ref q11]) ⟨hx, hb, hml, hown, hts⟩ (k_min l dC dI cI cB cR cO zk q11 H12.size ) (cwI 0 hts gL_law_X4_init rfl rfl rfl (hts (.initialized RX4) (List.mem_cons_of_mem _ zw_44)) (hts (.methodLink RL 120 yX4_init) (List.mem_cons_of_mem _ zw_1121)) (hts (.instanceMethod yX4_init) (List.mem_cons_of_mem _ zw_1122)) rfl (by decide +kernel) ⟨Nat.le_of_ble_eq_true rfl, Nat.le_of_ble_eq_true rfl⟩) ⟨zblind, hpre⟩ rfl rfl hl.1 rfl (lv_room (Nat.le_of_ble_eq_true rfl)) dL_law_12 ⟨Nat.le_of_ble_eq_true rfl, Nat.le_of_ble_eq_true rfl⟩) hS (fun q _ h => hFc q h) hFc (fun u t H13 locs ht hvm hw hB hz1 hk1 hS => ?_)
  obtain ⟨am15, ⟨hP1, hK1, hD1, hz2⟩⟩ := hB
  rw [ht] at hP1 hz2
  have hPD9 := va_join (wr := [(q1, .inr (6, [.ref al5, .int 0, .int 0, .int 0, .ref sa6, .ref sb7, .ref b8, .ref sc9])), (al5, .inr (4, [.int 0, .ref (zk 0), .int 0])), (b8, .inr (1, [.ref v10, .int 0, .int 0, .int 0])), (v10, .inl (cB, 16, .inl (fun _ => 0)))]) (w1 := [(q11, .inr (9, [.int 0, .ref am15, .int 0, .int 0, .int 0])), (am15, .inr (4, [.int 0, .ref (zk 0), .int 0]))]) hP hD [4] [0, 1, 2, 3] rfl rfl (by decide) (by decide) hk1 hFc hP1 hD1
  clear hPc hDc hFc hDv hpre hP hD hP1 hK1 hD1
  obtain ⟨hP, hD⟩ := hPD9
  replace hz : s.heap.size + 16 ≤ H13.size := by omega
  clear hz2
  replace hP : va_P (dC, dI) vwCl [(q1, .inr (6, [.ref al5, .int 0, .int 0, .int 0, .ref sa6, .ref sb7, .ref b8, .ref sc9])), (al5, .inr (4, [.int 0, .ref (zk 0), .int 0])), (b8, .inr (1, [.ref v10, .int 0, .int 0, .int 0])), (v10, .inl (cB, 16, .inl (fun _ => 0))), (q11, .inr (9, [.int 0, .ref am15, .int 0, .int 0, .int 0])), (am15, .inr (4, [.int 0, .ref (zk 0), .int 0]))] H13 := hP
  replace hD : va_D A [(q1, .inr (6, [.ref al5, .int 0, .int 0, .int 0, .ref sa6, .ref sb7, .ref b8, .ref sc9])), (al5, .inr (4, [.int 0, .ref (zk 0), .int 0])), (b8, .inr (1, [.ref v10, .int 0, .int 0, .int 0])), (v10, .inl (cB, 16, .inl (fun _ => 0))), (q11, .inr (9, [.int 0, .ref am15, .int 0, .int 0, .int 0])), (am15, .inr (4, [.int 0, .ref (zk 0), .int 0]))] := hD
  refine W.widen (k := 16) (n := 77) (by omega) (by omega) ?_
  refine lv_astore_n (lv' := [(2, .ref q11), (1, .ref q1), (0, .ref b)]) hx hb dL_law_15 rfl hl (by decide) rfl (fun ls hl => ?_)
  refine zw_new (ci := 7) (fs := [.long 0, .null]) (C := RX2) (T := TX2) (N := 2) hx hb hts inlX2 tyX2 tyX2_ok hown (hts (.classLink RL 14 RX2) (List.mem_cons_of_mem _ zw_764)) (hts (.instantiable RX2 2) (List.mem_cons_of_mem _ zw_765)) (hts (.initialized RX2) (List.mem_cons_of_mem _ zw_45)) hK hP hD hS hA rfl (fun j hj => by rcases (show j = 0 ∨ j = 1 by omega) with rfl | rfl <;> rfl) (Nat.le_of_ble_eq_true rfl) (Nat.le_of_ble_eq_true rfl) dL_law_16 hz (fun q16 H17 hP hD hS hz => ?_)
  replace hP : va_P (dC, dI) vwCl [(q1, .inr (6, [.ref al5, .int 0, .int 0, .int 0, .ref sa6, .ref sb7, .ref b8, .ref sc9])), (al5, .inr (4, [.int 0, .ref (zk 0), .int 0])), (b8, .inr (1, [.ref v10, .int 0, .int 0, .int 0])), (v10, .inl (cB, 16, .inl (fun _ => 0))), (q11, .inr (9, [.int 0, .ref am15, .int 0, .int 0, .int 0])), (am15, .inr (4, [.int 0, .ref (zk 0), .int 0])), (q16, .inr (7, [.long 0, .null]))] H17 := hP
  replace hD : va_D A [(q1, .inr (6, [.ref al5, .int 0, .int 0, .int 0, .ref sa6, .ref sb7, .ref b8, .ref sc9])), (al5, .inr (4, [.int 0, .ref (zk 0), .int 0])), (b8, .inr (1, [.ref v10, .int 0, .int 0, .int 0])), (v10, .inl (cB, 16, .inl (fun _ => 0))), (q11, .inr (9, [.int 0, .ref am15, .int 0, .int 0, .int 0])), (am15, .inr (4, [.int 0, .ref (zk 0), .int 0])), (q16, .inr (7, [.long 0, .null]))] := hD
  refine W.widen (k := 17) (n := 79) (by omega) (by omega) ?_
  refine lv_dup hx hb dL_law_19 rfl ?_
  have hPc := hP.sub (ws' := [(q16, .inr (7, [.long 0, .null]))]) [6] rfl
  have hDc := hD.sub (ws' := [(q16, .inr (7, [.long 0, .null]))]) [6] (by decide) rfl
  have hFc := va_free (wc := [(q16, .inr (7, [.long 0, .null]))]) hD hS hA [6] rfl
  have hDv := hDc.self (sz := H17.size)
  have hpre := zpre (xs' := []) (av := [.ref q16]) hPc hK (hDc.weaken (fun _ _ _ h => h)) hZ hS hFc (fun r hr => by cases hr)
  refine va_callv (va_runIN (As := []) (rest := [.ref q16]) ⟨hx, hb, hml, hown, hts⟩ (k_oin l dC dI cI cB cR cO zk q16 H17.size ) ⟨va_cnB 0 hts gL_law_X2_init_n121 rfl rfl rfl hNI (hts (.initialized RX2) (List.mem_cons_of_mem _ zw_45)) (by decide +kernel) ⟨Nat.le_of_ble_eq_true rfl, Nat.le_of_ble_eq_true rfl⟩, rfl, hts (.instanceMethod yX2_init) (List.mem_cons_of_mem _ zw_767)⟩ ⟨zblind, hpre⟩ rfl rfl hl.1 rfl (lv_room (Nat.le_of_ble_eq_true rfl)) dL_law_20 ⟨Nat.le_of_ble_eq_true rfl, Nat.le_of_ble_eq_true rfl⟩) hS (fun q _ h => hFc q h) hFc (fun u t H18 locs ht hvm hw hB hz1 hk1 hS => ?_)
  obtain ⟨hP1, hK1, hD1, hz2⟩ := hB
  rw [ht] at hP1 hz2
  have hPD9 := va_join (wr := [(q1, .inr (6, [.ref al5, .int 0, .int 0, .int 0, .ref sa6, .ref sb7, .ref b8, .ref sc9])), (al5, .inr (4, [.int 0, .ref (zk 0), .int 0])), (b8, .inr (1, [.ref v10, .int 0, .int 0, .int 0])), (v10, .inl (cB, 16, .inl (fun _ => 0))), (q11, .inr (9, [.int 0, .ref am15, .int 0, .int 0, .int 0])), (am15, .inr (4, [.int 0, .ref (zk 0), .int 0]))]) (w1 := [(q16, .inr (7, [.long 0, .null]))]) hP hD [6] [0, 1, 2, 3, 4, 5] rfl rfl (by decide) (by decide) hk1 hFc hP1 hD1
  clear hPc hDc hFc hDv hpre hP hD hP1 hK1 hD1
  obtain ⟨hP, hD⟩ := hPD9
  replace hz : s.heap.size + 17 ≤ H18.size := by omega
  clear hz2
  replace hP : va_P (dC, dI) vwCl [(q1, .inr (6, [.ref al5, .int 0, .int 0, .int 0, .ref sa6, .ref sb7, .ref b8, .ref sc9])), (al5, .inr (4, [.int 0, .ref (zk 0), .int 0])), (b8, .inr (1, [.ref v10, .int 0, .int 0, .int 0])), (v10, .inl (cB, 16, .inl (fun _ => 0))), (q11, .inr (9, [.int 0, .ref am15, .int 0, .int 0, .int 0])), (am15, .inr (4, [.int 0, .ref (zk 0), .int 0])), (q16, .inr (7, [.long 0, .null]))] H18 := hP
  replace hD : va_D A [(q1, .inr (6, [.ref al5, .int 0, .int 0, .int 0, .ref sa6, .ref sb7, .ref b8, .ref sc9])), (al5, .inr (4, [.int 0, .ref (zk 0), .int 0])), (b8, .inr (1, [.ref v10, .int 0, .int 0, .int 0])), (v10, .inl (cB, 16, .inl (fun _ => 0))), (q11, .inr (9, [.int 0, .ref am15, .int 0, .int 0, .int 0])), (am15, .inr (4, [.int 0, .ref (zk 0), .int 0])), (q16, .inr (7, [.long 0, .null]))] := hD
  refine W.widen (k := 17) (n := 79) (by omega) (by omega) ?_
  refine lv_astore_n (lv' := [(3, .ref q16), (2, .ref q11), (1, .ref q1), (0, .ref b)]) hx hb dL_law_23 rfl hl (by decide) rfl (fun ls hl => ?_)
  refine lv_iconst (v := 0) hx hb dL_law_24 (by decide) ?_
  refine lv_istore (lv' := [(4, .int 0), (3, .ref q16), (2, .ref q11), (1, .ref q1), (0, .ref b)]) hx hb dL_law_25 hl (by decide) rfl (fun ls hl => ?_)
  refine lv_iload hx hb dL_law_27 (lv_at hl 0 rfl) ?_
  refine lv_aload_n hx hb dL_law_29 rfl (lv_at hl 4 rfl) ?_
  refine va_slen hx hb hX hbl hbA hS dL_law_30 ?_
  refine W.eq (g2 := F0 mY 31 ls [.int 1, .int 0]) rfl ?_
  refine lv_iconst (v := 5) hx hb dL_law_31 (by decide) ?_
  refine lv_isub hx hb dL_law_32 ?_
  refine lv_topi (fun v20 ev20 => ?_)
  obtain rfl : v20 = (-4) := ev20.trans (by decide)
  refine lv_icmp_gt (tgt := 2161) hx hb dL_law_33 (by decide) (fun c9 => ?_) (fun c9 => ?_)
  rotate_left
  · exact absurd (by decide) c9
  refine lv_iconst (v := 1) hx hb dL_law_2161 (by decide) ?_
  refine va_forget (fun q hq => hAf _ (hS.2.2 q hq)) ?_
  refine W.widen (k := 799520) (n := 6703675) (Nat.le_of_ble_eq_true rfl) (Nat.le_of_ble_eq_true rfl) ?_
  exact lw_ret hx hb hr hlocks dL_law_2162

set_option maxHeartbeats 8000000 in
set_option maxRecDepth 100000 in
theorem zl_few2 (l : Launch) (dC : Nat → ClassId) (dI : Nat → Nat → Nat) (cI cB cR cO : ClassId) (zk : Nat → Nat) {p : Program} {e : Env} {s : State} {mY : MethodId} {below : List Frame} {meth : Method} {c : Code} (b : Nat) (xs : Nat → Int32) (hfl : l.stackTraces = false) (C0 : zl_At p s mY meth c b 2 xs) (hZ0 : zR zk [] (fun q => s.heap.size ≤ q) s s.heap) (hK : va_K (dC, dI) vwCl (zT cI cB cR cO) s) : W p l e room_1 s mY #[Value.ref b] below meth c s.heap [] 0 0 (lw_Z below #[Value.ref b] s) (entryFrame mY ([Value.ref b] : List Value).toArray 7) := by
  obtain ⟨hx, hb, hr, hml, hown, hts0, hX, hbl, hlocks, hNI⟩ := C0
  have hts := fun (w : Cond) (h : w ∈ wsL_law) => hts0 w (wsL_law_in w h)
  obtain ⟨A, hAd⟩ : ∃ A : Nat → Prop, A = fun q => s.heap.size ≤ q := ⟨_, rfl⟩
  have hA : ∀ q : Nat, s.heap.size ≤ q → A q := fun q h => by rw [hAd]; exact h
  have hAf : ∀ q : Nat, A q → s.heap.size ≤ q := fun q h => by rw [hAd] at h; exact h
  have hbA : ¬ A b := fun h => absurd (hAf b h) (Nat.not_le.mpr hbl)
  have hZ : zR zk [] A s s.heap := by rw [hAd]; exact hZ0
  have hP : va_P (dC, dI) vwCl [] s.heap := fun k q h => by simp at h
  have hD : va_D A [] := ⟨fun i j p q h => by simp at h, fun k q h => by simp at h⟩
  have hS : va_S A s.heap s.heap [] := va_S.rf
  have hz : s.heap.size + 0 ≤ s.heap.size := Nat.le_refl _
  have hl := lv_entry ([.ref b]) (n := 7) (Nat.le_of_ble_eq_true rfl)
  rw [lg_entry_eq]
  generalize (lg_sl ([.ref b]) ++ List.replicate (7 - (lg_sl ([.ref b])).length) Slot.unset).toArray = ls at hl ⊢
  have hl : lv_has ls 7 [(0, .ref b)] := hl
  have hP : va_P (dC, dI) vwCl [] s.heap := hP
  have hD : va_D A [] := hD
  refine zw_new (ci := 6) (fs := [.null, .int 0, .int 0, .int 0, .null, .null, .null, .null]) (C := RX1) (T := TX1) (N := 8) hx hb hts inlX1 tyX1 tyX1_ok hown (hts (.classLink RL 8 RX1) (List.mem_cons_of_mem _ zw_65)) (hts (.instantiable RX1 8) (List.mem_cons_of_mem _ zw_66)) (hts (.initialized RX1) (List.mem_cons_of_mem _ zw_35)) hK hP hD hS hA rfl (fun j hj => by rcases (show j = 0 ∨ j = 1 ∨ j = 2 ∨ j = 3 ∨ j = 4 ∨ j = 5 ∨ j = 6 ∨ j = 7 by omega) with rfl | rfl | rfl | rfl | rfl | rfl | rfl | rfl <;> rfl) (Nat.le_of_ble_eq_true rfl) (Nat.le_of_ble_eq_true rfl) dL_law_0 hz (fun q1 H2 hP hD hS hz => ?_)
  replace hP : va_P (dC, dI) vwCl [(q1, .inr (6, [.null, .int 0, .int 0, .int 0, .null, .null, .null, .null]))] H2 := hP
  replace hD : va_D A [(q1, .inr (6, [.null, .int 0, .int 0, .int 0, .null, .null, .null, .null]))] := hD
  refine W.widen (k := 1) (n := 8) (by omega) (by omega) ?_
  refine lv_dup hx hb dL_law_3 rfl ?_
  have hPc := hP.sub (ws' := [(q1, .inr (6, [.null, .int 0, .int 0, .int 0, .null, .null, .null, .null]))]) [0] rfl
  have hDc := hD.sub (ws' := [(q1, .inr (6, [.null, .int 0, .int 0, .int 0, .null, .null, .null, .null]))]) [0] (by decide) rfl
  have hFc := va_free (wc := [(q1, .inr (6, [.null, .int 0, .int 0, .int 0, .null, .null, .null, .null]))]) hD hS hA [0] rfl
  have hDv := hDc.self (sz := H2.size)
  have hpre := zpre (xs' := []) (av := [.ref q1]) hPc hK (hDc.weaken (fun _ _ _ h => h)) hZ hS hFc (fun r hr => by cases hr)
  refine va_callv (va_runI (As := []) (rest := [.ref q1]) ⟨hx, hb, hml, hown, hts⟩ (k_xin l dC dI cI cB cR cO zk q1 H2.size ) (cwI 0 hts gL_law_X1_init rfl rfl rfl (hts (.initialized RX1) (List.mem_cons_of_mem _ zw_35)) (hts (.methodLink RL 117 yX1_init) (List.mem_cons_of_mem _ zw_67)) (hts (.instanceMethod yX1_init) (List.mem_cons_of_mem _ zw_68)) rfl (by decide +kernel) ⟨Nat.le_of_ble_eq_true rfl, Nat.le_of_ble_eq_true rfl⟩) ⟨zblind, hpre⟩ rfl rfl hl.1 rfl (lv_room (Nat.le_of_ble_eq_true rfl)) dL_law_4 ⟨Nat.le_of_ble_eq_true rfl, Nat.le_of_ble_eq_true rfl⟩) hS (fun q _ h => hFc q h) hFc (fun u t H3 locs ht hvm hw hB hz1 hk1 hS => ?_)
  obtain ⟨al5, sa6, sb7, b8, sc9, v10, ⟨hP1, hK1, hD1, hz2⟩⟩ := hB
  rw [ht] at hP1 hz2
  have hPD9 := va_join (wr := []) (w1 := [(q1, .inr (6, [.ref al5, .int 0, .int 0, .int 0, .ref sa6, .ref sb7, .ref b8, .ref sc9])), (al5, .inr (4, [.int 0, .ref (zk 0), .int 0])), (b8, .inr (1, [.ref v10, .int 0, .int 0, .int 0])), (v10, .inl (cB, 16, .inl (fun _ => 0)))]) hP hD [0] [] rfl rfl (by decide) (by decide) hk1 hFc hP1 hD1
  clear hPc hDc hFc hDv hpre hP hD hP1 hK1 hD1
  obtain ⟨hP, hD⟩ := hPD9
  replace hz : s.heap.size + 14 ≤ H3.size := by omega
  clear hz2
  replace hP : va_P (dC, dI) vwCl [(q1, .inr (6, [.ref al5, .int 0, .int 0, .int 0, .ref sa6, .ref sb7, .ref b8, .ref sc9])), (al5, .inr (4, [.int 0, .ref (zk 0), .int 0])), (b8, .inr (1, [.ref v10, .int 0, .int 0, .int 0])), (v10, .inl (cB, 16, .inl (fun _ => 0)))] H3 := hP
  replace hD : va_D A [(q1, .inr (6, [.ref al5, .int 0, .int 0, .int 0, .ref sa6, .ref sb7, .ref b8, .ref sc9])), (al5, .inr (4, [.int 0, .ref (zk 0), .int 0])), (b8, .inr (1, [.ref v10, .int 0, .int 0, .int 0])), (v10, .inl (cB, 16, .inl (fun _ => 0)))] := hD
  refine W.widen (k := 14) (n := 69) (by omega) (by omega) ?_
  refine lv_astore_n (lv' := [(1, .ref q1), (0, .ref b)]) hx hb dL_law_7 rfl hl (by decide) rfl (fun ls hl => ?_)
  refine zw_new (ci := 9) (fs := [.int 0, .null, .int 0, .int 0, .int 0]) (C := RX4) (T := TX4) (N := 5) hx hb hts inlX4 tyX4 tyX4_ok hown (hts (.classLink RL 118 RX4) (List.mem_cons_of_mem _ zw_1119)) (hts (.instantiable RX4 5) (List.mem_cons_of_mem _ zw_1120)) (hts (.initialized RX4) (List.mem_cons_of_mem _ zw_44)) hK hP hD hS hA rfl (fun j hj => by rcases (show j = 0 ∨ j = 1 ∨ j = 2 ∨ j = 3 ∨ j = 4 by omega) with rfl | rfl | rfl | rfl | rfl <;> rfl) (Nat.le_of_ble_eq_true rfl) (Nat.le_of_ble_eq_true rfl) dL_law_8 hz (fun q11 H12 hP hD hS hz => ?_)
  replace hP : va_P (dC, dI) vwCl [(q1, .inr (6, [.ref al5, .int 0, .int 0, .int 0, .ref sa6, .ref sb7, .ref b8, .ref sc9])), (al5, .inr (4, [.int 0, .ref (zk 0), .int 0])), (b8, .inr (1, [.ref v10, .int 0, .int 0, .int 0])), (v10, .inl (cB, 16, .inl (fun _ => 0))), (q11, .inr (9, [.int 0, .null, .int 0, .int 0, .int 0]))] H12 := hP
  replace hD : va_D A [(q1, .inr (6, [.ref al5, .int 0, .int 0, .int 0, .ref sa6, .ref sb7, .ref b8, .ref sc9])), (al5, .inr (4, [.int 0, .ref (zk 0), .int 0])), (b8, .inr (1, [.ref v10, .int 0, .int 0, .int 0])), (v10, .inl (cB, 16, .inl (fun _ => 0))), (q11, .inr (9, [.int 0, .null, .int 0, .int 0, .int 0]))] := hD
  refine W.widen (k := 15) (n := 74) (by omega) (by omega) ?_
  refine lv_dup hx hb dL_law_11 rfl ?_
  have hPc := hP.sub (ws' := [(q11, .inr (9, [.int 0, .null, .int 0, .int 0, .int 0]))]) [4] rfl
  have hDc := hD.sub (ws' := [(q11, .inr (9, [.int 0, .null, .int 0, .int 0, .int 0]))]) [4] (by decide) rfl
  have hFc := va_free (wc := [(q11, .inr (9, [.int 0, .null, .int 0, .int 0, .int 0]))]) hD hS hA [4] rfl
  have hDv := hDc.self (sz := H12.size)
  have hpre := zpre (xs' := []) (av := [.ref q11]) hPc hK (hDc.weaken (fun _ _ _ h => h)) hZ hS hFc (fun r hr => by cases hr)
  refine va_callv (va_runI (As := []) (rest := [.ref q11]) ⟨hx, hb, hml, hown, hts⟩ (k_min l dC dI cI cB cR cO zk q11 H12.size ) (cwI 0 hts gL_law_X4_init rfl rfl rfl (hts (.initialized RX4) (List.mem_cons_of_mem _ zw_44)) (hts (.methodLink RL 120 yX4_init) (List.mem_cons_of_mem _ zw_1121)) (hts (.instanceMethod yX4_init) (List.mem_cons_of_mem _ zw_1122)) rfl (by decide +kernel) ⟨Nat.le_of_ble_eq_true rfl, Nat.le_of_ble_eq_true rfl⟩) ⟨zblind, hpre⟩ rfl rfl hl.1 rfl (lv_room (Nat.le_of_ble_eq_true rfl)) dL_law_12 ⟨Nat.le_of_ble_eq_true rfl, Nat.le_of_ble_eq_true rfl⟩) hS (fun q _ h => hFc q h) hFc (fun u t H13 locs ht hvm hw hB hz1 hk1 hS => ?_)
  obtain ⟨am15, ⟨hP1, hK1, hD1, hz2⟩⟩ := hB
  rw [ht] at hP1 hz2
  have hPD9 := va_join (wr := [(q1, .inr (6, [.ref al5, .int 0, .int 0, .int 0, .ref sa6, .ref sb7, .ref b8, .ref sc9])), (al5, .inr (4, [.int 0, .ref (zk 0), .int 0])), (b8, .inr (1, [.ref v10, .int 0, .int 0, .int 0])), (v10, .inl (cB, 16, .inl (fun _ => 0)))]) (w1 := [(q11, .inr (9, [.int 0, .ref am15, .int 0, .int 0, .int 0])), (am15, .inr (4, [.int 0, .ref (zk 0), .int 0]))]) hP hD [4] [0, 1, 2, 3] rfl rfl (by decide) (by decide) hk1 hFc hP1 hD1
  clear hPc hDc hFc hDv hpre hP hD hP1 hK1 hD1
  obtain ⟨hP, hD⟩ := hPD9
  replace hz : s.heap.size + 16 ≤ H13.size := by omega
  clear hz2
  replace hP : va_P (dC, dI) vwCl [(q1, .inr (6, [.ref al5, .int 0, .int 0, .int 0, .ref sa6, .ref sb7, .ref b8, .ref sc9])), (al5, .inr (4, [.int 0, .ref (zk 0), .int 0])), (b8, .inr (1, [.ref v10, .int 0, .int 0, .int 0])), (v10, .inl (cB, 16, .inl (fun _ => 0))), (q11, .inr (9, [.int 0, .ref am15, .int 0, .int 0, .int 0])), (am15, .inr (4, [.int 0, .ref (zk 0), .int 0]))] H13 := hP
  replace hD : va_D A [(q1, .inr (6, [.ref al5, .int 0, .int 0, .int 0, .ref sa6, .ref sb7, .ref b8, .ref sc9])), (al5, .inr (4, [.int 0, .ref (zk 0), .int 0])), (b8, .inr (1, [.ref v10, .int 0, .int 0, .int 0])), (v10, .inl (cB, 16, .inl (fun _ => 0))), (q11, .inr (9, [.int 0, .ref am15, .int 0, .int 0, .int 0])), (am15, .inr (4, [.int 0, .ref (zk 0), .int 0]))] := hD
  refine W.widen (k := 16) (n := 77) (by omega) (by omega) ?_
  refine lv_astore_n (lv' := [(2, .ref q11), (1, .ref q1), (0, .ref b)]) hx hb dL_law_15 rfl hl (by decide) rfl (fun ls hl => ?_)
  refine zw_new (ci := 7) (fs := [.long 0, .null]) (C := RX2) (T := TX2) (N := 2) hx hb hts inlX2 tyX2 tyX2_ok hown (hts (.classLink RL 14 RX2) (List.mem_cons_of_mem _ zw_764)) (hts (.instantiable RX2 2) (List.mem_cons_of_mem _ zw_765)) (hts (.initialized RX2) (List.mem_cons_of_mem _ zw_45)) hK hP hD hS hA rfl (fun j hj => by rcases (show j = 0 ∨ j = 1 by omega) with rfl | rfl <;> rfl) (Nat.le_of_ble_eq_true rfl) (Nat.le_of_ble_eq_true rfl) dL_law_16 hz (fun q16 H17 hP hD hS hz => ?_)
  replace hP : va_P (dC, dI) vwCl [(q1, .inr (6, [.ref al5, .int 0, .int 0, .int 0, .ref sa6, .ref sb7, .ref b8, .ref sc9])), (al5, .inr (4, [.int 0, .ref (zk 0), .int 0])), (b8, .inr (1, [.ref v10, .int 0, .int 0, .int 0])), (v10, .inl (cB, 16, .inl (fun _ => 0))), (q11, .inr (9, [.int 0, .ref am15, .int 0, .int 0, .int 0])), (am15, .inr (4, [.int 0, .ref (zk 0), .int 0])), (q16, .inr (7, [.long 0, .null]))] H17 := hP
  replace hD : va_D A [(q1, .inr (6, [.ref al5, .int 0, .int 0, .int 0, .ref sa6, .ref sb7, .ref b8, .ref sc9])), (al5, .inr (4, [.int 0, .ref (zk 0), .int 0])), (b8, .inr (1, [.ref v10, .int 0, .int 0, .int 0])), (v10, .inl (cB, 16, .inl (fun _ => 0))), (q11, .inr (9, [.int 0, .ref am15, .int 0, .int 0, .int 0])), (am15, .inr (4, [.int 0, .ref (zk 0), .int 0])), (q16, .inr (7, [.long 0, .null]))] := hD
  refine W.widen (k := 17) (n := 79) (by omega) (by omega) ?_
  refine lv_dup hx hb dL_law_19 rfl ?_
  have hPc := hP.sub (ws' := [(q16, .inr (7, [.long 0, .null]))]) [6] rfl
  have hDc := hD.sub (ws' := [(q16, .inr (7, [.long 0, .null]))]) [6] (by decide) rfl
  have hFc := va_free (wc := [(q16, .inr (7, [.long 0, .null]))]) hD hS hA [6] rfl
  have hDv := hDc.self (sz := H17.size)
  have hpre := zpre (xs' := []) (av := [.ref q16]) hPc hK (hDc.weaken (fun _ _ _ h => h)) hZ hS hFc (fun r hr => by cases hr)
  refine va_callv (va_runIN (As := []) (rest := [.ref q16]) ⟨hx, hb, hml, hown, hts⟩ (k_oin l dC dI cI cB cR cO zk q16 H17.size ) ⟨va_cnB 0 hts gL_law_X2_init_n121 rfl rfl rfl hNI (hts (.initialized RX2) (List.mem_cons_of_mem _ zw_45)) (by decide +kernel) ⟨Nat.le_of_ble_eq_true rfl, Nat.le_of_ble_eq_true rfl⟩, rfl, hts (.instanceMethod yX2_init) (List.mem_cons_of_mem _ zw_767)⟩ ⟨zblind, hpre⟩ rfl rfl hl.1 rfl (lv_room (Nat.le_of_ble_eq_true rfl)) dL_law_20 ⟨Nat.le_of_ble_eq_true rfl, Nat.le_of_ble_eq_true rfl⟩) hS (fun q _ h => hFc q h) hFc (fun u t H18 locs ht hvm hw hB hz1 hk1 hS => ?_)
  obtain ⟨hP1, hK1, hD1, hz2⟩ := hB
  rw [ht] at hP1 hz2
  have hPD9 := va_join (wr := [(q1, .inr (6, [.ref al5, .int 0, .int 0, .int 0, .ref sa6, .ref sb7, .ref b8, .ref sc9])), (al5, .inr (4, [.int 0, .ref (zk 0), .int 0])), (b8, .inr (1, [.ref v10, .int 0, .int 0, .int 0])), (v10, .inl (cB, 16, .inl (fun _ => 0))), (q11, .inr (9, [.int 0, .ref am15, .int 0, .int 0, .int 0])), (am15, .inr (4, [.int 0, .ref (zk 0), .int 0]))]) (w1 := [(q16, .inr (7, [.long 0, .null]))]) hP hD [6] [0, 1, 2, 3, 4, 5] rfl rfl (by decide) (by decide) hk1 hFc hP1 hD1
  clear hPc hDc hFc hDv hpre hP hD hP1 hK1 hD1
  obtain ⟨hP, hD⟩ := hPD9
  replace hz : s.heap.size + 17 ≤ H18.size := by omega
  clear hz2
  replace hP : va_P (dC, dI) vwCl [(q1, .inr (6, [.ref al5, .int 0, .int 0, .int 0, .ref sa6, .ref sb7, .ref b8, .ref sc9])), (al5, .inr (4, [.int 0, .ref (zk 0), .int 0])), (b8, .inr (1, [.ref v10, .int 0, .int 0, .int 0])), (v10, .inl (cB, 16, .inl (fun _ => 0))), (q11, .inr (9, [.int 0, .ref am15, .int 0, .int 0, .int 0])), (am15, .inr (4, [.int 0, .ref (zk 0), .int 0])), (q16, .inr (7, [.long 0, .null]))] H18 := hP
  replace hD : va_D A [(q1, .inr (6, [.ref al5, .int 0, .int 0, .int 0, .ref sa6, .ref sb7, .ref b8, .ref sc9])), (al5, .inr (4, [.int 0, .ref (zk 0), .int 0])), (b8, .inr (1, [.ref v10, .int 0, .int 0, .int 0])), (v10, .inl (cB, 16, .inl (fun _ => 0))), (q11, .inr (9, [.int 0, .ref am15, .int 0, .int 0, .int 0])), (am15, .inr (4, [.int 0, .ref (zk 0), .int 0])), (q16, .inr (7, [.long 0, .null]))] := hD
  refine W.widen (k := 17) (n := 79) (by omega) (by omega) ?_
  refine lv_astore_n (lv' := [(3, .ref q16), (2, .ref q11), (1, .ref q1), (0, .ref b)]) hx hb dL_law_23 rfl hl (by decide) rfl (fun ls hl => ?_)
  refine lv_iconst (v := 0) hx hb dL_law_24 (by decide) ?_
  refine lv_istore (lv' := [(4, .int 0), (3, .ref q16), (2, .ref q11), (1, .ref q1), (0, .ref b)]) hx hb dL_law_25 hl (by decide) rfl (fun ls hl => ?_)
  refine lv_iload hx hb dL_law_27 (lv_at hl 0 rfl) ?_
  refine lv_aload_n hx hb dL_law_29 rfl (lv_at hl 4 rfl) ?_
  refine va_slen hx hb hX hbl hbA hS dL_law_30 ?_
  refine W.eq (g2 := F0 mY 31 ls [.int 2, .int 0]) rfl ?_
  refine lv_iconst (v := 5) hx hb dL_law_31 (by decide) ?_
  refine lv_isub hx hb dL_law_32 ?_
  refine lv_topi (fun v20 ev20 => ?_)
  obtain rfl : v20 = (-3) := ev20.trans (by decide)
  refine lv_icmp_gt (tgt := 2161) hx hb dL_law_33 (by decide) (fun c9 => ?_) (fun c9 => ?_)
  rotate_left
  · exact absurd (by decide) c9
  refine lv_iconst (v := 1) hx hb dL_law_2161 (by decide) ?_
  refine va_forget (fun q hq => hAf _ (hS.2.2 q hq)) ?_
  refine W.widen (k := 799520) (n := 6703675) (Nat.le_of_ble_eq_true rfl) (Nat.le_of_ble_eq_true rfl) ?_
  exact lw_ret hx hb hr hlocks dL_law_2162

set_option maxHeartbeats 8000000 in
set_option maxRecDepth 100000 in
theorem zl_few3 (l : Launch) (dC : Nat → ClassId) (dI : Nat → Nat → Nat) (cI cB cR cO : ClassId) (zk : Nat → Nat) {p : Program} {e : Env} {s : State} {mY : MethodId} {below : List Frame} {meth : Method} {c : Code} (b : Nat) (xs : Nat → Int32) (hfl : l.stackTraces = false) (C0 : zl_At p s mY meth c b 3 xs) (hZ0 : zR zk [] (fun q => s.heap.size ≤ q) s s.heap) (hK : va_K (dC, dI) vwCl (zT cI cB cR cO) s) : W p l e room_1 s mY #[Value.ref b] below meth c s.heap [] 0 0 (lw_Z below #[Value.ref b] s) (entryFrame mY ([Value.ref b] : List Value).toArray 7) := by
  obtain ⟨hx, hb, hr, hml, hown, hts0, hX, hbl, hlocks, hNI⟩ := C0
  have hts := fun (w : Cond) (h : w ∈ wsL_law) => hts0 w (wsL_law_in w h)
  obtain ⟨A, hAd⟩ : ∃ A : Nat → Prop, A = fun q => s.heap.size ≤ q := ⟨_, rfl⟩
  have hA : ∀ q : Nat, s.heap.size ≤ q → A q := fun q h => by rw [hAd]; exact h
  have hAf : ∀ q : Nat, A q → s.heap.size ≤ q := fun q h => by rw [hAd] at h; exact h
  have hbA : ¬ A b := fun h => absurd (hAf b h) (Nat.not_le.mpr hbl)
  have hZ : zR zk [] A s s.heap := by rw [hAd]; exact hZ0
  have hP : va_P (dC, dI) vwCl [] s.heap := fun k q h => by simp at h
  have hD : va_D A [] := ⟨fun i j p q h => by simp at h, fun k q h => by simp at h⟩
  have hS : va_S A s.heap s.heap [] := va_S.rf
  have hz : s.heap.size + 0 ≤ s.heap.size := Nat.le_refl _
  have hl := lv_entry ([.ref b]) (n := 7) (Nat.le_of_ble_eq_true rfl)
  rw [lg_entry_eq]
  generalize (lg_sl ([.ref b]) ++ List.replicate (7 - (lg_sl ([.ref b])).length) Slot.unset).toArray = ls at hl ⊢
  have hl : lv_has ls 7 [(0, .ref b)] := hl
  have hP : va_P (dC, dI) vwCl [] s.heap := hP
  have hD : va_D A [] := hD
  refine zw_new (ci := 6) (fs := [.null, .int 0, .int 0, .int 0, .null, .null, .null, .null]) (C := RX1) (T := TX1) (N := 8) hx hb hts inlX1 tyX1 tyX1_ok hown (hts (.classLink RL 8 RX1) (List.mem_cons_of_mem _ zw_65)) (hts (.instantiable RX1 8) (List.mem_cons_of_mem _ zw_66)) (hts (.initialized RX1) (List.mem_cons_of_mem _ zw_35)) hK hP hD hS hA rfl (fun j hj => by rcases (show j = 0 ∨ j = 1 ∨ j = 2 ∨ j = 3 ∨ j = 4 ∨ j = 5 ∨ j = 6 ∨ j = 7 by omega) with rfl | rfl | rfl | rfl | rfl | rfl | rfl | rfl <;> rfl) (Nat.le_of_ble_eq_true rfl) (Nat.le_of_ble_eq_true rfl) dL_law_0 hz (fun q1 H2 hP hD hS hz => ?_)
  replace hP : va_P (dC, dI) vwCl [(q1, .inr (6, [.null, .int 0, .int 0, .int 0, .null, .null, .null, .null]))] H2 := hP
  replace hD : va_D A [(q1, .inr (6, [.null, .int 0, .int 0, .int 0, .null, .null, .null, .null]))] := hD
  refine W.widen (k := 1) (n := 8) (by omega) (by omega) ?_
  refine lv_dup hx hb dL_law_3 rfl ?_
  have hPc := hP.sub (ws' := [(q1, .inr (6, [.null, .int 0, .int 0, .int 0, .null, .null, .null, .null]))]) [0] rfl
  have hDc := hD.sub (ws' := [(q1, .inr (6, [.null, .int 0, .int 0, .int 0, .null, .null, .null, .null]))]) [0] (by decide) rfl
  have hFc := va_free (wc := [(q1, .inr (6, [.null, .int 0, .int 0, .int 0, .null, .null, .null, .null]))]) hD hS hA [0] rfl
  have hDv := hDc.self (sz := H2.size)
  have hpre := zpre (xs' := []) (av := [.ref q1]) hPc hK (hDc.weaken (fun _ _ _ h => h)) hZ hS hFc (fun r hr => by cases hr)
  refine va_callv (va_runI (As := []) (rest := [.ref q1]) ⟨hx, hb, hml, hown, hts⟩ (k_xin l dC dI cI cB cR cO zk q1 H2.size ) (cwI 0 hts gL_law_X1_init rfl rfl rfl (hts (.initialized RX1) (List.mem_cons_of_mem _ zw_35)) (hts (.methodLink RL 117 yX1_init) (List.mem_cons_of_mem _ zw_67)) (hts (.instanceMethod yX1_init) (List.mem_cons_of_mem _ zw_68)) rfl (by decide +kernel) ⟨Nat.le_of_ble_eq_true rfl, Nat.le_of_ble_eq_true rfl⟩) ⟨zblind, hpre⟩ rfl rfl hl.1 rfl (lv_room (Nat.le_of_ble_eq_true rfl)) dL_law_4 ⟨Nat.le_of_ble_eq_true rfl, Nat.le_of_ble_eq_true rfl⟩) hS (fun q _ h => hFc q h) hFc (fun u t H3 locs ht hvm hw hB hz1 hk1 hS => ?_)
  obtain ⟨al5, sa6, sb7, b8, sc9, v10, ⟨hP1, hK1, hD1, hz2⟩⟩ := hB
  rw [ht] at hP1 hz2
  have hPD9 := va_join (wr := []) (w1 := [(q1, .inr (6, [.ref al5, .int 0, .int 0, .int 0, .ref sa6, .ref sb7, .ref b8, .ref sc9])), (al5, .inr (4, [.int 0, .ref (zk 0), .int 0])), (b8, .inr (1, [.ref v10, .int 0, .int 0, .int 0])), (v10, .inl (cB, 16, .inl (fun _ => 0)))]) hP hD [0] [] rfl rfl (by decide) (by decide) hk1 hFc hP1 hD1
  clear hPc hDc hFc hDv hpre hP hD hP1 hK1 hD1
  obtain ⟨hP, hD⟩ := hPD9
  replace hz : s.heap.size + 14 ≤ H3.size := by omega
  clear hz2
  replace hP : va_P (dC, dI) vwCl [(q1, .inr (6, [.ref al5, .int 0, .int 0, .int 0, .ref sa6, .ref sb7, .ref b8, .ref sc9])), (al5, .inr (4, [.int 0, .ref (zk 0), .int 0])), (b8, .inr (1, [.ref v10, .int 0, .int 0, .int 0])), (v10, .inl (cB, 16, .inl (fun _ => 0)))] H3 := hP
  replace hD : va_D A [(q1, .inr (6, [.ref al5, .int 0, .int 0, .int 0, .ref sa6, .ref sb7, .ref b8, .ref sc9])), (al5, .inr (4, [.int 0, .ref (zk 0), .int 0])), (b8, .inr (1, [.ref v10, .int 0, .int 0, .int 0])), (v10, .inl (cB, 16, .inl (fun _ => 0)))] := hD
  refine W.widen (k := 14) (n := 69) (by omega) (by omega) ?_
  refine lv_astore_n (lv' := [(1, .ref q1), (0, .ref b)]) hx hb dL_law_7 rfl hl (by decide) rfl (fun ls hl => ?_)
  refine zw_new (ci := 9) (fs := [.int 0, .null, .int 0, .int 0, .int 0]) (C := RX4) (T := TX4) (N := 5) hx hb hts inlX4 tyX4 tyX4_ok hown (hts (.classLink RL 118 RX4) (List.mem_cons_of_mem _ zw_1119)) (hts (.instantiable RX4 5) (List.mem_cons_of_mem _ zw_1120)) (hts (.initialized RX4) (List.mem_cons_of_mem _ zw_44)) hK hP hD hS hA rfl (fun j hj => by rcases (show j = 0 ∨ j = 1 ∨ j = 2 ∨ j = 3 ∨ j = 4 by omega) with rfl | rfl | rfl | rfl | rfl <;> rfl) (Nat.le_of_ble_eq_true rfl) (Nat.le_of_ble_eq_true rfl) dL_law_8 hz (fun q11 H12 hP hD hS hz => ?_)
  replace hP : va_P (dC, dI) vwCl [(q1, .inr (6, [.ref al5, .int 0, .int 0, .int 0, .ref sa6, .ref sb7, .ref b8, .ref sc9])), (al5, .inr (4, [.int 0, .ref (zk 0), .int 0])), (b8, .inr (1, [.ref v10, .int 0, .int 0, .int 0])), (v10, .inl (cB, 16, .inl (fun _ => 0))), (q11, .inr (9, [.int 0, .null, .int 0, .int 0, .int 0]))] H12 := hP
  replace hD : va_D A [(q1, .inr (6, [.ref al5, .int 0, .int 0, .int 0, .ref sa6, .ref sb7, .ref b8, .ref sc9])), (al5, .inr (4, [.int 0, .ref (zk 0), .int 0])), (b8, .inr (1, [.ref v10, .int 0, .int 0, .int 0])), (v10, .inl (cB, 16, .inl (fun _ => 0))), (q11, .inr (9, [.int 0, .null, .int 0, .int 0, .int 0]))] := hD
  refine W.widen (k := 15) (n := 74) (by omega) (by omega) ?_
  refine lv_dup hx hb dL_law_11 rfl ?_
  have hPc := hP.sub (ws' := [(q11, .inr (9, [.int 0, .null, .int 0, .int 0, .int 0]))]) [4] rfl
  have hDc := hD.sub (ws' := [(q11, .inr (9, [.int 0, .null, .int 0, .int 0, .int 0]))]) [4] (by decide) rfl
  have hFc := va_free (wc := [(q11, .inr (9, [.int 0, .null, .int 0, .int 0, .int 0]))]) hD hS hA [4] rfl
  have hDv := hDc.self (sz := H12.size)
  have hpre := zpre (xs' := []) (av := [.ref q11]) hPc hK (hDc.weaken (fun _ _ _ h => h)) hZ hS hFc (fun r hr => by cases hr)
  refine va_callv (va_runI (As := []) (rest := [.ref q11]) ⟨hx, hb, hml, hown, hts⟩ (k_min l dC dI cI cB cR cO zk q11 H12.size ) (cwI 0 hts gL_law_X4_init rfl rfl rfl (hts (.initialized RX4) (List.mem_cons_of_mem _ zw_44)) (hts (.methodLink RL 120 yX4_init) (List.mem_cons_of_mem _ zw_1121)) (hts (.instanceMethod yX4_init) (List.mem_cons_of_mem _ zw_1122)) rfl (by decide +kernel) ⟨Nat.le_of_ble_eq_true rfl, Nat.le_of_ble_eq_true rfl⟩) ⟨zblind, hpre⟩ rfl rfl hl.1 rfl (lv_room (Nat.le_of_ble_eq_true rfl)) dL_law_12 ⟨Nat.le_of_ble_eq_true rfl, Nat.le_of_ble_eq_true rfl⟩) hS (fun q _ h => hFc q h) hFc (fun u t H13 locs ht hvm hw hB hz1 hk1 hS => ?_)
  obtain ⟨am15, ⟨hP1, hK1, hD1, hz2⟩⟩ := hB
  rw [ht] at hP1 hz2
  have hPD9 := va_join (wr := [(q1, .inr (6, [.ref al5, .int 0, .int 0, .int 0, .ref sa6, .ref sb7, .ref b8, .ref sc9])), (al5, .inr (4, [.int 0, .ref (zk 0), .int 0])), (b8, .inr (1, [.ref v10, .int 0, .int 0, .int 0])), (v10, .inl (cB, 16, .inl (fun _ => 0)))]) (w1 := [(q11, .inr (9, [.int 0, .ref am15, .int 0, .int 0, .int 0])), (am15, .inr (4, [.int 0, .ref (zk 0), .int 0]))]) hP hD [4] [0, 1, 2, 3] rfl rfl (by decide) (by decide) hk1 hFc hP1 hD1
  clear hPc hDc hFc hDv hpre hP hD hP1 hK1 hD1
  obtain ⟨hP, hD⟩ := hPD9
  replace hz : s.heap.size + 16 ≤ H13.size := by omega
  clear hz2
  replace hP : va_P (dC, dI) vwCl [(q1, .inr (6, [.ref al5, .int 0, .int 0, .int 0, .ref sa6, .ref sb7, .ref b8, .ref sc9])), (al5, .inr (4, [.int 0, .ref (zk 0), .int 0])), (b8, .inr (1, [.ref v10, .int 0, .int 0, .int 0])), (v10, .inl (cB, 16, .inl (fun _ => 0))), (q11, .inr (9, [.int 0, .ref am15, .int 0, .int 0, .int 0])), (am15, .inr (4, [.int 0, .ref (zk 0), .int 0]))] H13 := hP
  replace hD : va_D A [(q1, .inr (6, [.ref al5, .int 0, .int 0, .int 0, .ref sa6, .ref sb7, .ref b8, .ref sc9])), (al5, .inr (4, [.int 0, .ref (zk 0), .int 0])), (b8, .inr (1, [.ref v10, .int 0, .int 0, .int 0])), (v10, .inl (cB, 16, .inl (fun _ => 0))), (q11, .inr (9, [.int 0, .ref am15, .int 0, .int 0, .int 0])), (am15, .inr (4, [.int 0, .ref (zk 0), .int 0]))] := hD
  refine W.widen (k := 16) (n := 77) (by omega) (by omega) ?_
  refine lv_astore_n (lv' := [(2, .ref q11), (1, .ref q1), (0, .ref b)]) hx hb dL_law_15 rfl hl (by decide) rfl (fun ls hl => ?_)
  refine zw_new (ci := 7) (fs := [.long 0, .null]) (C := RX2) (T := TX2) (N := 2) hx hb hts inlX2 tyX2 tyX2_ok hown (hts (.classLink RL 14 RX2) (List.mem_cons_of_mem _ zw_764)) (hts (.instantiable RX2 2) (List.mem_cons_of_mem _ zw_765)) (hts (.initialized RX2) (List.mem_cons_of_mem _ zw_45)) hK hP hD hS hA rfl (fun j hj => by rcases (show j = 0 ∨ j = 1 by omega) with rfl | rfl <;> rfl) (Nat.le_of_ble_eq_true rfl) (Nat.le_of_ble_eq_true rfl) dL_law_16 hz (fun q16 H17 hP hD hS hz => ?_)
  replace hP : va_P (dC, dI) vwCl [(q1, .inr (6, [.ref al5, .int 0, .int 0, .int 0, .ref sa6, .ref sb7, .ref b8, .ref sc9])), (al5, .inr (4, [.int 0, .ref (zk 0), .int 0])), (b8, .inr (1, [.ref v10, .int 0, .int 0, .int 0])), (v10, .inl (cB, 16, .inl (fun _ => 0))), (q11, .inr (9, [.int 0, .ref am15, .int 0, .int 0, .int 0])), (am15, .inr (4, [.int 0, .ref (zk 0), .int 0])), (q16, .inr (7, [.long 0, .null]))] H17 := hP
  replace hD : va_D A [(q1, .inr (6, [.ref al5, .int 0, .int 0, .int 0, .ref sa6, .ref sb7, .ref b8, .ref sc9])), (al5, .inr (4, [.int 0, .ref (zk 0), .int 0])), (b8, .inr (1, [.ref v10, .int 0, .int 0, .int 0])), (v10, .inl (cB, 16, .inl (fun _ => 0))), (q11, .inr (9, [.int 0, .ref am15, .int 0, .int 0, .int 0])), (am15, .inr (4, [.int 0, .ref (zk 0), .int 0])), (q16, .inr (7, [.long 0, .null]))] := hD
  refine W.widen (k := 17) (n := 79) (by omega) (by omega) ?_
  refine lv_dup hx hb dL_law_19 rfl ?_
  have hPc := hP.sub (ws' := [(q16, .inr (7, [.long 0, .null]))]) [6] rfl
  have hDc := hD.sub (ws' := [(q16, .inr (7, [.long 0, .null]))]) [6] (by decide) rfl
  have hFc := va_free (wc := [(q16, .inr (7, [.long 0, .null]))]) hD hS hA [6] rfl
  have hDv := hDc.self (sz := H17.size)
  have hpre := zpre (xs' := []) (av := [.ref q16]) hPc hK (hDc.weaken (fun _ _ _ h => h)) hZ hS hFc (fun r hr => by cases hr)
  refine va_callv (va_runIN (As := []) (rest := [.ref q16]) ⟨hx, hb, hml, hown, hts⟩ (k_oin l dC dI cI cB cR cO zk q16 H17.size ) ⟨va_cnB 0 hts gL_law_X2_init_n121 rfl rfl rfl hNI (hts (.initialized RX2) (List.mem_cons_of_mem _ zw_45)) (by decide +kernel) ⟨Nat.le_of_ble_eq_true rfl, Nat.le_of_ble_eq_true rfl⟩, rfl, hts (.instanceMethod yX2_init) (List.mem_cons_of_mem _ zw_767)⟩ ⟨zblind, hpre⟩ rfl rfl hl.1 rfl (lv_room (Nat.le_of_ble_eq_true rfl)) dL_law_20 ⟨Nat.le_of_ble_eq_true rfl, Nat.le_of_ble_eq_true rfl⟩) hS (fun q _ h => hFc q h) hFc (fun u t H18 locs ht hvm hw hB hz1 hk1 hS => ?_)
  obtain ⟨hP1, hK1, hD1, hz2⟩ := hB
  rw [ht] at hP1 hz2
  have hPD9 := va_join (wr := [(q1, .inr (6, [.ref al5, .int 0, .int 0, .int 0, .ref sa6, .ref sb7, .ref b8, .ref sc9])), (al5, .inr (4, [.int 0, .ref (zk 0), .int 0])), (b8, .inr (1, [.ref v10, .int 0, .int 0, .int 0])), (v10, .inl (cB, 16, .inl (fun _ => 0))), (q11, .inr (9, [.int 0, .ref am15, .int 0, .int 0, .int 0])), (am15, .inr (4, [.int 0, .ref (zk 0), .int 0]))]) (w1 := [(q16, .inr (7, [.long 0, .null]))]) hP hD [6] [0, 1, 2, 3, 4, 5] rfl rfl (by decide) (by decide) hk1 hFc hP1 hD1
  clear hPc hDc hFc hDv hpre hP hD hP1 hK1 hD1
  obtain ⟨hP, hD⟩ := hPD9
  replace hz : s.heap.size + 17 ≤ H18.size := by omega
  clear hz2
  replace hP : va_P (dC, dI) vwCl [(q1, .inr (6, [.ref al5, .int 0, .int 0, .int 0, .ref sa6, .ref sb7, .ref b8, .ref sc9])), (al5, .inr (4, [.int 0, .ref (zk 0), .int 0])), (b8, .inr (1, [.ref v10, .int 0, .int 0, .int 0])), (v10, .inl (cB, 16, .inl (fun _ => 0))), (q11, .inr (9, [.int 0, .ref am15, .int 0, .int 0, .int 0])), (am15, .inr (4, [.int 0, .ref (zk 0), .int 0])), (q16, .inr (7, [.long 0, .null]))] H18 := hP
  replace hD : va_D A [(q1, .inr (6, [.ref al5, .int 0, .int 0, .int 0, .ref sa6, .ref sb7, .ref b8, .ref sc9])), (al5, .inr (4, [.int 0, .ref (zk 0), .int 0])), (b8, .inr (1, [.ref v10, .int 0, .int 0, .int 0])), (v10, .inl (cB, 16, .inl (fun _ => 0))), (q11, .inr (9, [.int 0, .ref am15, .int 0, .int 0, .int 0])), (am15, .inr (4, [.int 0, .ref (zk 0), .int 0])), (q16, .inr (7, [.long 0, .null]))] := hD
  refine W.widen (k := 17) (n := 79) (by omega) (by omega) ?_
  refine lv_astore_n (lv' := [(3, .ref q16), (2, .ref q11), (1, .ref q1), (0, .ref b)]) hx hb dL_law_23 rfl hl (by decide) rfl (fun ls hl => ?_)
  refine lv_iconst (v := 0) hx hb dL_law_24 (by decide) ?_
  refine lv_istore (lv' := [(4, .int 0), (3, .ref q16), (2, .ref q11), (1, .ref q1), (0, .ref b)]) hx hb dL_law_25 hl (by decide) rfl (fun ls hl => ?_)
  refine lv_iload hx hb dL_law_27 (lv_at hl 0 rfl) ?_
  refine lv_aload_n hx hb dL_law_29 rfl (lv_at hl 4 rfl) ?_
  refine va_slen hx hb hX hbl hbA hS dL_law_30 ?_
  refine W.eq (g2 := F0 mY 31 ls [.int 3, .int 0]) rfl ?_
  refine lv_iconst (v := 5) hx hb dL_law_31 (by decide) ?_
  refine lv_isub hx hb dL_law_32 ?_
  refine lv_topi (fun v20 ev20 => ?_)
  obtain rfl : v20 = (-2) := ev20.trans (by decide)
  refine lv_icmp_gt (tgt := 2161) hx hb dL_law_33 (by decide) (fun c9 => ?_) (fun c9 => ?_)
  rotate_left
  · exact absurd (by decide) c9
  refine lv_iconst (v := 1) hx hb dL_law_2161 (by decide) ?_
  refine va_forget (fun q hq => hAf _ (hS.2.2 q hq)) ?_
  refine W.widen (k := 799520) (n := 6703675) (Nat.le_of_ble_eq_true rfl) (Nat.le_of_ble_eq_true rfl) ?_
  exact lw_ret hx hb hr hlocks dL_law_2162

set_option maxHeartbeats 8000000 in
set_option maxRecDepth 100000 in
theorem zl_few4 (l : Launch) (dC : Nat → ClassId) (dI : Nat → Nat → Nat) (cI cB cR cO : ClassId) (zk : Nat → Nat) {p : Program} {e : Env} {s : State} {mY : MethodId} {below : List Frame} {meth : Method} {c : Code} (b : Nat) (xs : Nat → Int32) (hfl : l.stackTraces = false) (C0 : zl_At p s mY meth c b 4 xs) (hZ0 : zR zk [] (fun q => s.heap.size ≤ q) s s.heap) (hK : va_K (dC, dI) vwCl (zT cI cB cR cO) s) : W p l e room_1 s mY #[Value.ref b] below meth c s.heap [] 0 0 (lw_Z below #[Value.ref b] s) (entryFrame mY ([Value.ref b] : List Value).toArray 7) := by
  obtain ⟨hx, hb, hr, hml, hown, hts0, hX, hbl, hlocks, hNI⟩ := C0
  have hts := fun (w : Cond) (h : w ∈ wsL_law) => hts0 w (wsL_law_in w h)
  obtain ⟨A, hAd⟩ : ∃ A : Nat → Prop, A = fun q => s.heap.size ≤ q := ⟨_, rfl⟩
  have hA : ∀ q : Nat, s.heap.size ≤ q → A q := fun q h => by rw [hAd]; exact h
  have hAf : ∀ q : Nat, A q → s.heap.size ≤ q := fun q h => by rw [hAd] at h; exact h
  have hbA : ¬ A b := fun h => absurd (hAf b h) (Nat.not_le.mpr hbl)
  have hZ : zR zk [] A s s.heap := by rw [hAd]; exact hZ0
  have hP : va_P (dC, dI) vwCl [] s.heap := fun k q h => by simp at h
  have hD : va_D A [] := ⟨fun i j p q h => by simp at h, fun k q h => by simp at h⟩
  have hS : va_S A s.heap s.heap [] := va_S.rf
  have hz : s.heap.size + 0 ≤ s.heap.size := Nat.le_refl _
  have hl := lv_entry ([.ref b]) (n := 7) (Nat.le_of_ble_eq_true rfl)
  rw [lg_entry_eq]
  generalize (lg_sl ([.ref b]) ++ List.replicate (7 - (lg_sl ([.ref b])).length) Slot.unset).toArray = ls at hl ⊢
  have hl : lv_has ls 7 [(0, .ref b)] := hl
  have hP : va_P (dC, dI) vwCl [] s.heap := hP
  have hD : va_D A [] := hD
  refine zw_new (ci := 6) (fs := [.null, .int 0, .int 0, .int 0, .null, .null, .null, .null]) (C := RX1) (T := TX1) (N := 8) hx hb hts inlX1 tyX1 tyX1_ok hown (hts (.classLink RL 8 RX1) (List.mem_cons_of_mem _ zw_65)) (hts (.instantiable RX1 8) (List.mem_cons_of_mem _ zw_66)) (hts (.initialized RX1) (List.mem_cons_of_mem _ zw_35)) hK hP hD hS hA rfl (fun j hj => by rcases (show j = 0 ∨ j = 1 ∨ j = 2 ∨ j = 3 ∨ j = 4 ∨ j = 5 ∨ j = 6 ∨ j = 7 by omega) with rfl | rfl | rfl | rfl | rfl | rfl | rfl | rfl <;> rfl) (Nat.le_of_ble_eq_true rfl) (Nat.le_of_ble_eq_true rfl) dL_law_0 hz (fun q1 H2 hP hD hS hz => ?_)
  replace hP : va_P (dC, dI) vwCl [(q1, .inr (6, [.null, .int 0, .int 0, .int 0, .null, .null, .null, .null]))] H2 := hP
  replace hD : va_D A [(q1, .inr (6, [.null, .int 0, .int 0, .int 0, .null, .null, .null, .null]))] := hD
  refine W.widen (k := 1) (n := 8) (by omega) (by omega) ?_
  refine lv_dup hx hb dL_law_3 rfl ?_
  have hPc := hP.sub (ws' := [(q1, .inr (6, [.null, .int 0, .int 0, .int 0, .null, .null, .null, .null]))]) [0] rfl
  have hDc := hD.sub (ws' := [(q1, .inr (6, [.null, .int 0, .int 0, .int 0, .null, .null, .null, .null]))]) [0] (by decide) rfl
  have hFc := va_free (wc := [(q1, .inr (6, [.null, .int 0, .int 0, .int 0, .null, .null, .null, .null]))]) hD hS hA [0] rfl
  have hDv := hDc.self (sz := H2.size)
  have hpre := zpre (xs' := []) (av := [.ref q1]) hPc hK (hDc.weaken (fun _ _ _ h => h)) hZ hS hFc (fun r hr => by cases hr)
  refine va_callv (va_runI (As := []) (rest := [.ref q1]) ⟨hx, hb, hml, hown, hts⟩ (k_xin l dC dI cI cB cR cO zk q1 H2.size ) (cwI 0 hts gL_law_X1_init rfl rfl rfl (hts (.initialized RX1) (List.mem_cons_of_mem _ zw_35)) (hts (.methodLink RL 117 yX1_init) (List.mem_cons_of_mem _ zw_67)) (hts (.instanceMethod yX1_init) (List.mem_cons_of_mem _ zw_68)) rfl (by decide +kernel) ⟨Nat.le_of_ble_eq_true rfl, Nat.le_of_ble_eq_true rfl⟩) ⟨zblind, hpre⟩ rfl rfl hl.1 rfl (lv_room (Nat.le_of_ble_eq_true rfl)) dL_law_4 ⟨Nat.le_of_ble_eq_true rfl, Nat.le_of_ble_eq_true rfl⟩) hS (fun q _ h => hFc q h) hFc (fun u t H3 locs ht hvm hw hB hz1 hk1 hS => ?_)
  obtain ⟨al5, sa6, sb7, b8, sc9, v10, ⟨hP1, hK1, hD1, hz2⟩⟩ := hB
  rw [ht] at hP1 hz2
  have hPD9 := va_join (wr := []) (w1 := [(q1, .inr (6, [.ref al5, .int 0, .int 0, .int 0, .ref sa6, .ref sb7, .ref b8, .ref sc9])), (al5, .inr (4, [.int 0, .ref (zk 0), .int 0])), (b8, .inr (1, [.ref v10, .int 0, .int 0, .int 0])), (v10, .inl (cB, 16, .inl (fun _ => 0)))]) hP hD [0] [] rfl rfl (by decide) (by decide) hk1 hFc hP1 hD1
  clear hPc hDc hFc hDv hpre hP hD hP1 hK1 hD1
  obtain ⟨hP, hD⟩ := hPD9
  replace hz : s.heap.size + 14 ≤ H3.size := by omega
  clear hz2
  replace hP : va_P (dC, dI) vwCl [(q1, .inr (6, [.ref al5, .int 0, .int 0, .int 0, .ref sa6, .ref sb7, .ref b8, .ref sc9])), (al5, .inr (4, [.int 0, .ref (zk 0), .int 0])), (b8, .inr (1, [.ref v10, .int 0, .int 0, .int 0])), (v10, .inl (cB, 16, .inl (fun _ => 0)))] H3 := hP
  replace hD : va_D A [(q1, .inr (6, [.ref al5, .int 0, .int 0, .int 0, .ref sa6, .ref sb7, .ref b8, .ref sc9])), (al5, .inr (4, [.int 0, .ref (zk 0), .int 0])), (b8, .inr (1, [.ref v10, .int 0, .int 0, .int 0])), (v10, .inl (cB, 16, .inl (fun _ => 0)))] := hD
  refine W.widen (k := 14) (n := 69) (by omega) (by omega) ?_
  refine lv_astore_n (lv' := [(1, .ref q1), (0, .ref b)]) hx hb dL_law_7 rfl hl (by decide) rfl (fun ls hl => ?_)
  refine zw_new (ci := 9) (fs := [.int 0, .null, .int 0, .int 0, .int 0]) (C := RX4) (T := TX4) (N := 5) hx hb hts inlX4 tyX4 tyX4_ok hown (hts (.classLink RL 118 RX4) (List.mem_cons_of_mem _ zw_1119)) (hts (.instantiable RX4 5) (List.mem_cons_of_mem _ zw_1120)) (hts (.initialized RX4) (List.mem_cons_of_mem _ zw_44)) hK hP hD hS hA rfl (fun j hj => by rcases (show j = 0 ∨ j = 1 ∨ j = 2 ∨ j = 3 ∨ j = 4 by omega) with rfl | rfl | rfl | rfl | rfl <;> rfl) (Nat.le_of_ble_eq_true rfl) (Nat.le_of_ble_eq_true rfl) dL_law_8 hz (fun q11 H12 hP hD hS hz => ?_)
  replace hP : va_P (dC, dI) vwCl [(q1, .inr (6, [.ref al5, .int 0, .int 0, .int 0, .ref sa6, .ref sb7, .ref b8, .ref sc9])), (al5, .inr (4, [.int 0, .ref (zk 0), .int 0])), (b8, .inr (1, [.ref v10, .int 0, .int 0, .int 0])), (v10, .inl (cB, 16, .inl (fun _ => 0))), (q11, .inr (9, [.int 0, .null, .int 0, .int 0, .int 0]))] H12 := hP
  replace hD : va_D A [(q1, .inr (6, [.ref al5, .int 0, .int 0, .int 0, .ref sa6, .ref sb7, .ref b8, .ref sc9])), (al5, .inr (4, [.int 0, .ref (zk 0), .int 0])), (b8, .inr (1, [.ref v10, .int 0, .int 0, .int 0])), (v10, .inl (cB, 16, .inl (fun _ => 0))), (q11, .inr (9, [.int 0, .null, .int 0, .int 0, .int 0]))] := hD
  refine W.widen (k := 15) (n := 74) (by omega) (by omega) ?_
  refine lv_dup hx hb dL_law_11 rfl ?_
  have hPc := hP.sub (ws' := [(q11, .inr (9, [.int 0, .null, .int 0, .int 0, .int 0]))]) [4] rfl
  have hDc := hD.sub (ws' := [(q11, .inr (9, [.int 0, .null, .int 0, .int 0, .int 0]))]) [4] (by decide) rfl
  have hFc := va_free (wc := [(q11, .inr (9, [.int 0, .null, .int 0, .int 0, .int 0]))]) hD hS hA [4] rfl
  have hDv := hDc.self (sz := H12.size)
  have hpre := zpre (xs' := []) (av := [.ref q11]) hPc hK (hDc.weaken (fun _ _ _ h => h)) hZ hS hFc (fun r hr => by cases hr)
  refine va_callv (va_runI (As := []) (rest := [.ref q11]) ⟨hx, hb, hml, hown, hts⟩ (k_min l dC dI cI cB cR cO zk q11 H12.size ) (cwI 0 hts gL_law_X4_init rfl rfl rfl (hts (.initialized RX4) (List.mem_cons_of_mem _ zw_44)) (hts (.methodLink RL 120 yX4_init) (List.mem_cons_of_mem _ zw_1121)) (hts (.instanceMethod yX4_init) (List.mem_cons_of_mem _ zw_1122)) rfl (by decide +kernel) ⟨Nat.le_of_ble_eq_true rfl, Nat.le_of_ble_eq_true rfl⟩) ⟨zblind, hpre⟩ rfl rfl hl.1 rfl (lv_room (Nat.le_of_ble_eq_true rfl)) dL_law_12 ⟨Nat.le_of_ble_eq_true rfl, Nat.le_of_ble_eq_true rfl⟩) hS (fun q _ h => hFc q h) hFc (fun u t H13 locs ht hvm hw hB hz1 hk1 hS => ?_)
  obtain ⟨am15, ⟨hP1, hK1, hD1, hz2⟩⟩ := hB
  rw [ht] at hP1 hz2
  have hPD9 := va_join (wr := [(q1, .inr (6, [.ref al5, .int 0, .int 0, .int 0, .ref sa6, .ref sb7, .ref b8, .ref sc9])), (al5, .inr (4, [.int 0, .ref (zk 0), .int 0])), (b8, .inr (1, [.ref v10, .int 0, .int 0, .int 0])), (v10, .inl (cB, 16, .inl (fun _ => 0)))]) (w1 := [(q11, .inr (9, [.int 0, .ref am15, .int 0, .int 0, .int 0])), (am15, .inr (4, [.int 0, .ref (zk 0), .int 0]))]) hP hD [4] [0, 1, 2, 3] rfl rfl (by decide) (by decide) hk1 hFc hP1 hD1
  clear hPc hDc hFc hDv hpre hP hD hP1 hK1 hD1
  obtain ⟨hP, hD⟩ := hPD9
  replace hz : s.heap.size + 16 ≤ H13.size := by omega
  clear hz2
  replace hP : va_P (dC, dI) vwCl [(q1, .inr (6, [.ref al5, .int 0, .int 0, .int 0, .ref sa6, .ref sb7, .ref b8, .ref sc9])), (al5, .inr (4, [.int 0, .ref (zk 0), .int 0])), (b8, .inr (1, [.ref v10, .int 0, .int 0, .int 0])), (v10, .inl (cB, 16, .inl (fun _ => 0))), (q11, .inr (9, [.int 0, .ref am15, .int 0, .int 0, .int 0])), (am15, .inr (4, [.int 0, .ref (zk 0), .int 0]))] H13 := hP
  replace hD : va_D A [(q1, .inr (6, [.ref al5, .int 0, .int 0, .int 0, .ref sa6, .ref sb7, .ref b8, .ref sc9])), (al5, .inr (4, [.int 0, .ref (zk 0), .int 0])), (b8, .inr (1, [.ref v10, .int 0, .int 0, .int 0])), (v10, .inl (cB, 16, .inl (fun _ => 0))), (q11, .inr (9, [.int 0, .ref am15, .int 0, .int 0, .int 0])), (am15, .inr (4, [.int 0, .ref (zk 0), .int 0]))] := hD
  refine W.widen (k := 16) (n := 77) (by omega) (by omega) ?_
  refine lv_astore_n (lv' := [(2, .ref q11), (1, .ref q1), (0, .ref b)]) hx hb dL_law_15 rfl hl (by decide) rfl (fun ls hl => ?_)
  refine zw_new (ci := 7) (fs := [.long 0, .null]) (C := RX2) (T := TX2) (N := 2) hx hb hts inlX2 tyX2 tyX2_ok hown (hts (.classLink RL 14 RX2) (List.mem_cons_of_mem _ zw_764)) (hts (.instantiable RX2 2) (List.mem_cons_of_mem _ zw_765)) (hts (.initialized RX2) (List.mem_cons_of_mem _ zw_45)) hK hP hD hS hA rfl (fun j hj => by rcases (show j = 0 ∨ j = 1 by omega) with rfl | rfl <;> rfl) (Nat.le_of_ble_eq_true rfl) (Nat.le_of_ble_eq_true rfl) dL_law_16 hz (fun q16 H17 hP hD hS hz => ?_)
  replace hP : va_P (dC, dI) vwCl [(q1, .inr (6, [.ref al5, .int 0, .int 0, .int 0, .ref sa6, .ref sb7, .ref b8, .ref sc9])), (al5, .inr (4, [.int 0, .ref (zk 0), .int 0])), (b8, .inr (1, [.ref v10, .int 0, .int 0, .int 0])), (v10, .inl (cB, 16, .inl (fun _ => 0))), (q11, .inr (9, [.int 0, .ref am15, .int 0, .int 0, .int 0])), (am15, .inr (4, [.int 0, .ref (zk 0), .int 0])), (q16, .inr (7, [.long 0, .null]))] H17 := hP
  replace hD : va_D A [(q1, .inr (6, [.ref al5, .int 0, .int 0, .int 0, .ref sa6, .ref sb7, .ref b8, .ref sc9])), (al5, .inr (4, [.int 0, .ref (zk 0), .int 0])), (b8, .inr (1, [.ref v10, .int 0, .int 0, .int 0])), (v10, .inl (cB, 16, .inl (fun _ => 0))), (q11, .inr (9, [.int 0, .ref am15, .int 0, .int 0, .int 0])), (am15, .inr (4, [.int 0, .ref (zk 0), .int 0])), (q16, .inr (7, [.long 0, .null]))] := hD
  refine W.widen (k := 17) (n := 79) (by omega) (by omega) ?_
  refine lv_dup hx hb dL_law_19 rfl ?_
  have hPc := hP.sub (ws' := [(q16, .inr (7, [.long 0, .null]))]) [6] rfl
  have hDc := hD.sub (ws' := [(q16, .inr (7, [.long 0, .null]))]) [6] (by decide) rfl
  have hFc := va_free (wc := [(q16, .inr (7, [.long 0, .null]))]) hD hS hA [6] rfl
  have hDv := hDc.self (sz := H17.size)
  have hpre := zpre (xs' := []) (av := [.ref q16]) hPc hK (hDc.weaken (fun _ _ _ h => h)) hZ hS hFc (fun r hr => by cases hr)
  refine va_callv (va_runIN (As := []) (rest := [.ref q16]) ⟨hx, hb, hml, hown, hts⟩ (k_oin l dC dI cI cB cR cO zk q16 H17.size ) ⟨va_cnB 0 hts gL_law_X2_init_n121 rfl rfl rfl hNI (hts (.initialized RX2) (List.mem_cons_of_mem _ zw_45)) (by decide +kernel) ⟨Nat.le_of_ble_eq_true rfl, Nat.le_of_ble_eq_true rfl⟩, rfl, hts (.instanceMethod yX2_init) (List.mem_cons_of_mem _ zw_767)⟩ ⟨zblind, hpre⟩ rfl rfl hl.1 rfl (lv_room (Nat.le_of_ble_eq_true rfl)) dL_law_20 ⟨Nat.le_of_ble_eq_true rfl, Nat.le_of_ble_eq_true rfl⟩) hS (fun q _ h => hFc q h) hFc (fun u t H18 locs ht hvm hw hB hz1 hk1 hS => ?_)
  obtain ⟨hP1, hK1, hD1, hz2⟩ := hB
  rw [ht] at hP1 hz2
  have hPD9 := va_join (wr := [(q1, .inr (6, [.ref al5, .int 0, .int 0, .int 0, .ref sa6, .ref sb7, .ref b8, .ref sc9])), (al5, .inr (4, [.int 0, .ref (zk 0), .int 0])), (b8, .inr (1, [.ref v10, .int 0, .int 0, .int 0])), (v10, .inl (cB, 16, .inl (fun _ => 0))), (q11, .inr (9, [.int 0, .ref am15, .int 0, .int 0, .int 0])), (am15, .inr (4, [.int 0, .ref (zk 0), .int 0]))]) (w1 := [(q16, .inr (7, [.long 0, .null]))]) hP hD [6] [0, 1, 2, 3, 4, 5] rfl rfl (by decide) (by decide) hk1 hFc hP1 hD1
  clear hPc hDc hFc hDv hpre hP hD hP1 hK1 hD1
  obtain ⟨hP, hD⟩ := hPD9
  replace hz : s.heap.size + 17 ≤ H18.size := by omega
  clear hz2
  replace hP : va_P (dC, dI) vwCl [(q1, .inr (6, [.ref al5, .int 0, .int 0, .int 0, .ref sa6, .ref sb7, .ref b8, .ref sc9])), (al5, .inr (4, [.int 0, .ref (zk 0), .int 0])), (b8, .inr (1, [.ref v10, .int 0, .int 0, .int 0])), (v10, .inl (cB, 16, .inl (fun _ => 0))), (q11, .inr (9, [.int 0, .ref am15, .int 0, .int 0, .int 0])), (am15, .inr (4, [.int 0, .ref (zk 0), .int 0])), (q16, .inr (7, [.long 0, .null]))] H18 := hP
  replace hD : va_D A [(q1, .inr (6, [.ref al5, .int 0, .int 0, .int 0, .ref sa6, .ref sb7, .ref b8, .ref sc9])), (al5, .inr (4, [.int 0, .ref (zk 0), .int 0])), (b8, .inr (1, [.ref v10, .int 0, .int 0, .int 0])), (v10, .inl (cB, 16, .inl (fun _ => 0))), (q11, .inr (9, [.int 0, .ref am15, .int 0, .int 0, .int 0])), (am15, .inr (4, [.int 0, .ref (zk 0), .int 0])), (q16, .inr (7, [.long 0, .null]))] := hD
  refine W.widen (k := 17) (n := 79) (by omega) (by omega) ?_
  refine lv_astore_n (lv' := [(3, .ref q16), (2, .ref q11), (1, .ref q1), (0, .ref b)]) hx hb dL_law_23 rfl hl (by decide) rfl (fun ls hl => ?_)
  refine lv_iconst (v := 0) hx hb dL_law_24 (by decide) ?_
  refine lv_istore (lv' := [(4, .int 0), (3, .ref q16), (2, .ref q11), (1, .ref q1), (0, .ref b)]) hx hb dL_law_25 hl (by decide) rfl (fun ls hl => ?_)
  refine lv_iload hx hb dL_law_27 (lv_at hl 0 rfl) ?_
  refine lv_aload_n hx hb dL_law_29 rfl (lv_at hl 4 rfl) ?_
  refine va_slen hx hb hX hbl hbA hS dL_law_30 ?_
  refine W.eq (g2 := F0 mY 31 ls [.int 4, .int 0]) rfl ?_
  refine lv_iconst (v := 5) hx hb dL_law_31 (by decide) ?_
  refine lv_isub hx hb dL_law_32 ?_
  refine lv_topi (fun v20 ev20 => ?_)
  obtain rfl : v20 = (-1) := ev20.trans (by decide)
  refine lv_icmp_gt (tgt := 2161) hx hb dL_law_33 (by decide) (fun c9 => ?_) (fun c9 => ?_)
  rotate_left
  · exact absurd (by decide) c9
  refine lv_iconst (v := 1) hx hb dL_law_2161 (by decide) ?_
  refine va_forget (fun q hq => hAf _ (hS.2.2 q hq)) ?_
  refine W.widen (k := 799520) (n := 6703675) (Nat.le_of_ble_eq_true rfl) (Nat.le_of_ble_eq_true rfl) ?_
  exact lw_ret hx hb hr hlocks dL_law_2162
