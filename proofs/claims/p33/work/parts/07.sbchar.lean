set_option maxHeartbeats 4000000 in
set_option maxRecDepth 100000 in
theorem k_canE (l : Launch) (dC : Nat → ClassId) (dI : Nat → Nat → Nat) (cI cB cR cO : ClassId) (zk : Nat → Nat) (ch : Int32) (sz : Nat) (hch : ¬ 255 < ch) : Met l yJ1_canEncode_fc78d wsJ1_canEncode_fc78d ({ frames := 0, cells := 0, slots := 0, locals := 0 }) (va_Pc [.int ch] (zPre (dC, dI) (zT cI cB cR cO) zk [] [] sz)) (va_Qi (fun r (_ : Unit) => r = 1) (fun _ t => zEnd (dC, dI) (zT cI cB cR cO) (va_A [] sz) [] sz 0 t) (va_A [] sz)) 0 0 (va_A [] sz) := by
  refine Met.ofW (cc := cJ1_canEncode_fc78d) (maxL := 1) (ret := (some .boolean)) (by decide) rfl ?_
  intro p e s mY args below meth c s₁ B hml hv
  obtain ⟨rfl, hsz, hP, hK, hD0, hZ⟩ := hv
  have hx := B.exec
  have hb := B.bytes
  have hr := B.returns
  have hts := atoms_spec (ws := wsJ1_canEncode_fc78d) B.pre
  have hown : s.vm.findClass RJ1 = some mY.cls := findClass_of_methodNamed B.named
  have hlocks := B.notSynchronized
  subst hsz
  have hD := hD0.self (sz := s.heap.size)
  generalize hAe : va_A [] s.heap.size = A at hD hZ ⊢
  have hA : ∀ q : Nat, s.heap.size ≤ q → A q := fun q h => by rw [← hAe]; exact Or.inr h
  have hS : va_S A s.heap s.heap [] := va_S.rf
  have hz : s.heap.size + 0 ≤ s.heap.size := Nat.le_refl _
  have hl := lv_entry ([.int ch]) (n := 1) (Nat.le_of_ble_eq_true rfl)
  rw [lg_entry_eq]
  generalize (lg_sl ([.int ch]) ++ List.replicate (1 - (lg_sl ([.int ch])).length) Slot.unset).toArray = ls at hl ⊢
  have hl : lv_has ls 1 [(0, .int ch)] := hl
  have hP : va_P (dC, dI) vwCl [] s.heap := hP
  have hD : va_D A [] := hD
  refine lv_iload_n hx hb dJ1_canEncode_fc78d_0 rfl (lv_at hl 0 rfl) ?_
  refine lv_sipush (v := 255) hx hb dJ1_canEncode_fc78d_1 (by decide) ?_
  refine lv_icmp_gt (tgt := 11) hx hb dJ1_canEncode_fc78d_4 (by decide) (fun c9 => ?_) (fun c9 => ?_)
  · exact absurd c9 (hch)
  refine lv_iconst (v := 1) hx hb dJ1_canEncode_fc78d_7 (by decide) ?_
  refine lv_goto (tgt := 12) hx hb dJ1_canEncode_fc78d_8 (by decide) ?_
  have hP9 := hP.sub (ws' := []) [] rfl
  have hD9 := hD.sub (ws' := []) [] (by decide) rfl
  exact W.zret (v := 1) hx hb hr (by decide +kernel) (fun t ht hW => ⟨⟨_, (), rfl, rfl, ⟨by rw [ht]; exact hP9, va_K.moved hW.alike hK, hD9, by rw [ht]; exact hz⟩⟩, hS.F ht⟩) hS.2.2 dJ1_canEncode_fc78d_12

set_option maxHeartbeats 4000000 in
set_option maxRecDepth 100000 in
theorem k_chk3r (l : Launch) (dC : Nat → ClassId) (dI : Nat → Nat → Nat) (cI cB cR cO : ClassId) (zk : Nat → Nat) (i n fm : Nat) (sz : Nat) (hi : i < n) (hn : n < 2 ^ 30) : Met l yJ3_checkIndex_8e157 wsJ3_checkIndex_8e157 ({ frames := 0, cells := 0, slots := 0, locals := 0 }) (va_Pc [.int (nI i), .int (nI n), .ref fm] (zPre (dC, dI) (zT cI cB cR cO) zk [] [] sz)) (va_Qi (fun r (_ : Unit) => r = nI i) (fun _ t => zEnd (dC, dI) (zT cI cB cR cO) (va_A [] sz) [] sz 0 t) (va_A [] sz)) 0 0 (va_A [] sz) := by
  refine Met.ofW (cc := cJ3_checkIndex_8e157) (maxL := 3) (ret := (some .int)) (by decide) rfl ?_
  intro p e s mY args below meth c s₁ B hml hv
  obtain ⟨rfl, hsz, hP, hK, hD0, hZ⟩ := hv
  have hx := B.exec
  have hb := B.bytes
  have hr := B.returns
  have hts := atoms_spec (ws := wsJ3_checkIndex_8e157) B.pre
  have hown : s.vm.findClass RJ3 = some mY.cls := findClass_of_methodNamed B.named
  have hlocks := B.notSynchronized
  subst hsz
  have hD := hD0.self (sz := s.heap.size)
  generalize hAe : va_A [] s.heap.size = A at hD hZ ⊢
  have hA : ∀ q : Nat, s.heap.size ≤ q → A q := fun q h => by rw [← hAe]; exact Or.inr h
  have hS : va_S A s.heap s.heap [] := va_S.rf
  have hz : s.heap.size + 0 ≤ s.heap.size := Nat.le_refl _
  have hl := lv_entry ([.int (nI i), .int (nI n), .ref fm]) (n := 3) (Nat.le_of_ble_eq_true rfl)
  rw [lg_entry_eq]
  generalize (lg_sl ([.int (nI i), .int (nI n), .ref fm]) ++ List.replicate (3 - (lg_sl ([.int (nI i), .int (nI n), .ref fm])).length) Slot.unset).toArray = ls at hl ⊢
  have hl : lv_has ls 3 [(0, .int (nI i)), (1, .int (nI n)), (2, .ref fm)] := hl
  have hP : va_P (dC, dI) vwCl [] s.heap := hP
  have hD : va_D A [] := hD
  refine lv_iload_n hx hb dJ3_checkIndex_8e157_0 rfl (lv_at hl 0 rfl) ?_
  refine lv_if_lt (tgt := 9) hx hb dJ3_checkIndex_8e157_1 (by decide) (fun c9 => ?_) (fun c9 => ?_)
  · exact absurd c9 (nI_pos (by omega))
  refine lv_iload_n hx hb dJ3_checkIndex_8e157_4 rfl (lv_at hl 0 rfl) ?_
  refine lv_iload_n hx hb dJ3_checkIndex_8e157_5 rfl (lv_at hl 1 rfl) ?_
  refine lv_icmp_lt (tgt := 16) hx hb dJ3_checkIndex_8e157_6 (by decide) (fun c9 => ?_) (fun c9 => ?_)
  rotate_left
  · exact absurd (nI_lt hi (by omega)) c9
  refine lv_iload_n hx hb dJ3_checkIndex_8e157_16 rfl (lv_at hl 0 rfl) ?_
  have hP9 := hP.sub (ws' := []) [] rfl
  have hD9 := hD.sub (ws' := []) [] (by decide) rfl
  exact W.iret (v := (nI i)) hx hb hr (fun t ht hW => ⟨⟨_, (), rfl, rfl, ⟨by rw [ht]; exact hP9, va_K.moved hW.alike hK, hD9, by rw [ht]; exact hz⟩⟩, hS.F ht⟩) hS.2.2 dJ3_checkIndex_8e157_17

set_option maxHeartbeats 4000000 in
set_option maxRecDepth 100000 in
theorem k_chk0 (l : Launch) (dC : Nat → ClassId) (dI : Nat → Nat → Nat) (cI cB cR cO : ClassId) (zk : Nat → Nat) (i n : Nat) (sz : Nat) (hi : i < n) (hn : n < 2 ^ 30) : Met l yJ0_checkIndex_df160 wsJ0_checkIndex_df160 ({ frames := 1, cells := 0, slots := 0, locals := 22 }) (va_Pc [.int (nI i), .int (nI n)] (zPre (dC, dI) (zT cI cB cR cO) zk [] [] sz)) (va_Qv (fun _ : Unit => True) (fun _ t => zEnd (dC, dI) (zT cI cB cR cO) (va_A [] sz) [] sz 0 t) (va_A [] sz)) 0 0 (va_A [] sz) := by
  refine Met.ofW (cc := cJ0_checkIndex_df160) (maxL := 2) (ret := none) (by decide) rfl ?_
  intro p e s mY args below meth c s₁ B hml hv
  obtain ⟨rfl, hsz, hP, hK, hD0, hZ⟩ := hv
  have hx := B.exec
  have hb := B.bytes
  have hr := B.returns
  have hts := atoms_spec (ws := wsJ0_checkIndex_df160) B.pre
  have hown : s.vm.findClass RJ0 = some mY.cls := findClass_of_methodNamed B.named
  have hlocks := B.notSynchronized
  subst hsz
  have hD := hD0.self (sz := s.heap.size)
  generalize hAe : va_A [] s.heap.size = A at hD hZ ⊢
  have hA : ∀ q : Nat, s.heap.size ≤ q → A q := fun q h => by rw [← hAe]; exact Or.inr h
  have hS : va_S A s.heap s.heap [] := va_S.rf
  have hz : s.heap.size + 0 ≤ s.heap.size := Nat.le_refl _
  have hl := lv_entry ([.int (nI i), .int (nI n)]) (n := 2) (Nat.le_of_ble_eq_true rfl)
  rw [lg_entry_eq]
  generalize (lg_sl ([.int (nI i), .int (nI n)]) ++ List.replicate (2 - (lg_sl ([.int (nI i), .int (nI n)])).length) Slot.unset).toArray = ls at hl ⊢
  have hl : lv_has ls 2 [(0, .int (nI i)), (1, .int (nI n))] := hl
  rcases hZ.1.2.1 with hq | ⟨fm, hq⟩
  · have hP : va_P (dC, dI) vwCl [] s.heap := hP
    have hD : va_D A [] := hD
    refine lv_iload_n hx hb dJ0_checkIndex_df160_0 rfl (lv_at hl 0 rfl) ?_
    refine lv_iload_n hx hb dJ0_checkIndex_df160_1 rfl (lv_at hl 1 rfl) ?_
    refine va_gets hx hb hq hS hown (hts (.fieldLink RJ0 1053 "jdk/internal/util/Preconditions" "SIOOBE_FORMATTER" "Ljava/util/function/BiFunction;") (List.mem_cons_of_mem _ zw_311)) (fun _ h9 => h9) dJ0_checkIndex_df160_2 ?_
    have hPc := hP.sub (ws' := []) [] rfl
    have hDc := hD.sub (ws' := []) [] (by decide) rfl
    have hFc := va_free (wc := []) hD hS hA [] rfl
    have hDv := hDc.self (sz := s.heap.size)
    have hpre := zpre (xs' := []) (av := [.int (nI i), .int (nI n), .null]) hPc hK (hDc.weaken (fun _ _ _ h => h)) hZ hS hFc (fun r hr => by cases hr)
    refine va_calli (va_runS (As := [.int (nI i), .int (nI n), .null]) (rest := []) ⟨hx, hb, hml, hown, hts⟩ (k_chk3 l dC dI cI cB cR cO zk i n s.heap.size hi hn) (va_cwS 3 hts gJ0_checkIndex_df160_J3_checkIndex_8e157 rfl rfl rfl (by decide +kernel) ⟨Nat.le_of_ble_eq_true rfl, Nat.le_of_ble_eq_true rfl⟩) ⟨zblind, hpre⟩ rfl rfl hl.1 rfl (lv_room (Nat.le_of_ble_eq_true rfl)) dJ0_checkIndex_df160_5 ⟨Nat.le_of_ble_eq_true rfl, Nat.le_of_ble_eq_true rfl⟩) hS (fun q _ h => hFc q h) hFc (fun r2 u t H1 locs ht hvm hw hB hz1 hk1 hS => ?_)
    obtain rfl : (nI i) = r2 := (show r2 = (nI i) from hw).symm
    obtain ⟨hP1, hK1, hD1, hz2⟩ := hB
    rw [ht] at hP1 hz2
    obtain ⟨hP, hD⟩ := va_join (wr := []) (w1 := []) hP hD [] [] rfl rfl (by decide) (by decide) hk1 hFc hP1 hD1
    have hz : s.heap.size + 0 ≤ H1.size := by omega
    have hP : va_P (dC, dI) vwCl [] H1 := hP
    have hD : va_D A [] := hD
    refine W.widen (k := 0) (n := 0) (by omega) (by omega) ?_
    refine lv_pop hx hb dJ0_checkIndex_df160_8 rfl ?_
    have hP9 := hP.sub (ws' := []) [] rfl
    have hD9 := hD.sub (ws' := []) [] (by decide) rfl
    exact W.vret hx hb hr (fun t ht hW => ⟨⟨(), rfl, trivial, ⟨by rw [ht]; exact hP9, va_K.moved hW.alike hK, hD9, by rw [ht]; exact hz⟩⟩, hS.F ht⟩) hS.2.2 dJ0_checkIndex_df160_9
  · have hP : va_P (dC, dI) vwCl [] s.heap := hP
    have hD : va_D A [] := hD
    refine lv_iload_n hx hb dJ0_checkIndex_df160_0 rfl (lv_at hl 0 rfl) ?_
    refine lv_iload_n hx hb dJ0_checkIndex_df160_1 rfl (lv_at hl 1 rfl) ?_
    refine va_gets hx hb hq hS hown (hts (.fieldLink RJ0 1053 "jdk/internal/util/Preconditions" "SIOOBE_FORMATTER" "Ljava/util/function/BiFunction;") (List.mem_cons_of_mem _ zw_311)) (fun _ h9 => h9) dJ0_checkIndex_df160_2 ?_
    have hPc := hP.sub (ws' := []) [] rfl
    have hDc := hD.sub (ws' := []) [] (by decide) rfl
    have hFc := va_free (wc := []) hD hS hA [] rfl
    have hDv := hDc.self (sz := s.heap.size)
    have hpre := zpre (xs' := []) (av := [.int (nI i), .int (nI n), .ref fm]) hPc hK (hDc.weaken (fun _ _ _ h => h)) hZ hS hFc (fun r hr => by cases hr)
    refine va_calli (va_runS (As := [.int (nI i), .int (nI n), .ref fm]) (rest := []) ⟨hx, hb, hml, hown, hts⟩ (k_chk3r l dC dI cI cB cR cO zk i n fm s.heap.size hi hn) (va_cwS 3 hts gJ0_checkIndex_df160_J3_checkIndex_8e157 rfl rfl rfl (by decide +kernel) ⟨Nat.le_of_ble_eq_true rfl, Nat.le_of_ble_eq_true rfl⟩) ⟨zblind, hpre⟩ rfl rfl hl.1 rfl (lv_room (Nat.le_of_ble_eq_true rfl)) dJ0_checkIndex_df160_5 ⟨Nat.le_of_ble_eq_true rfl, Nat.le_of_ble_eq_true rfl⟩) hS (fun q _ h => hFc q h) hFc (fun r2 u t H1 locs ht hvm hw hB hz1 hk1 hS => ?_)
    obtain rfl : (nI i) = r2 := (show r2 = (nI i) from hw).symm
    obtain ⟨hP1, hK1, hD1, hz2⟩ := hB
    rw [ht] at hP1 hz2
    obtain ⟨hP, hD⟩ := va_join (wr := []) (w1 := []) hP hD [] [] rfl rfl (by decide) (by decide) hk1 hFc hP1 hD1
    have hz : s.heap.size + 0 ≤ H1.size := by omega
    have hP : va_P (dC, dI) vwCl [] H1 := hP
    have hD : va_D A [] := hD
    refine W.widen (k := 0) (n := 0) (by omega) (by omega) ?_
    refine lv_pop hx hb dJ0_checkIndex_df160_8 rfl ?_
    have hP9 := hP.sub (ws' := []) [] rfl
    have hD9 := hD.sub (ws' := []) [] (by decide) rfl
    exact W.vret hx hb hr (fun t ht hW => ⟨⟨(), rfl, trivial, ⟨by rw [ht]; exact hP9, va_K.moved hW.alike hK, hD9, by rw [ht]; exact hz⟩⟩, hS.F ht⟩) hS.2.2 dJ0_checkIndex_df160_9

set_option maxHeartbeats 4000000 in
set_option maxRecDepth 100000 in
theorem k_chA1 (l : Launch) (dC : Nat → ClassId) (dI : Nat → Nat → Nat) (cI cB cR cO : ClassId) (zk : Nat → Nat) (k v n i : Nat) (f : Nat → Int32) (ch : Int32) (sz : Nat) (hi : i < n) (hn : n < 2 ^ 30) (hchv : (((f i &&& 255) : Int32).toUInt32 % 65536).toInt32 = ch) (hnar : narrow .char (.int ch) = .int ch) : Met l yJ1_charAt_3b067 wsJ1_charAt_3b067 ({ frames := 2, cells := 0, slots := 0, locals := 43 }) (va_Pc [.ref v, .int (nI i)] (zPre (dC, dI) (zT cI cB cR cO) zk [(k, v, n, f)] [] sz)) (va_Qi (fun r (_ : Unit) => r = ch) (fun _ t => zEnd (dC, dI) (zT cI cB cR cO) (va_A [] sz) [] sz 0 t) (va_A [] sz)) 0 0 (va_A [] sz) := by
  refine Met.ofW (cc := cJ1_charAt_3b067) (maxL := 2) (ret := (some .char)) (by decide) rfl ?_
  intro p e s mY args below meth c s₁ B hml hv
  obtain ⟨rfl, hsz, hP, hK, hD0, hZ⟩ := hv
  have hx := B.exec
  have hb := B.bytes
  have hr := B.returns
  have hts := atoms_spec (ws := wsJ1_charAt_3b067) B.pre
  have hown : s.vm.findClass RJ1 = some mY.cls := findClass_of_methodNamed B.named
  have hlocks := B.notSynchronized
  subst hsz
  have hD := hD0.self (sz := s.heap.size)
  generalize hAe : va_A [] s.heap.size = A at hD hZ ⊢
  have hA : ∀ q : Nat, s.heap.size ≤ q → A q := fun q h => by rw [← hAe]; exact Or.inr h
  have hS : va_S A s.heap s.heap [] := va_S.rf
  have hz : s.heap.size + 0 ≤ s.heap.size := Nat.le_refl _
  have hl := lv_entry ([.ref v, .int (nI i)]) (n := 2) (Nat.le_of_ble_eq_true rfl)
  rw [lg_entry_eq]
  generalize (lg_sl ([.ref v, .int (nI i)]) ++ List.replicate (2 - (lg_sl ([.ref v, .int (nI i)])).length) Slot.unset).toArray = ls at hl ⊢
  have hl : lv_has ls 2 [(0, .ref v), (1, .int (nI i))] := hl
  have hP : va_P (dC, dI) vwCl [] s.heap := hP
  have hD : va_D A [] := hD
  refine lv_iload_n hx hb dJ1_charAt_3b067_0 rfl (lv_at hl 1 rfl) ?_
  refine lv_aload_n hx hb dJ1_charAt_3b067_1 rfl (lv_at hl 0 rfl) ?_
  refine va_tlen (v := nI n) hx hb (hZ.2 _ List.mem_cons_self).2.2.2.1 hS rfl dJ1_charAt_3b067_2 ?_
  have hPc := hP.sub (ws' := []) [] rfl
  have hDc := hD.sub (ws' := []) [] (by decide) rfl
  have hFc := va_free (wc := []) hD hS hA [] rfl
  have hDv := hDc.self (sz := s.heap.size)
  have hpre := zpre (xs' := []) (av := [.int (nI i), .int (nI n)]) hPc hK (hDc.weaken (fun _ _ _ h => h)) hZ hS hFc (fun r hr => by cases hr)
  refine va_callv (va_runS (As := [.int (nI i), .int (nI n)]) (rest := []) ⟨hx, hb, hml, hown, hts⟩ (k_chk0 l dC dI cI cB cR cO zk i n s.heap.size hi hn) (va_cwS 2 hts gJ1_charAt_3b067_J0_checkIndex_df160 rfl rfl rfl (by decide +kernel) ⟨Nat.le_of_ble_eq_true rfl, Nat.le_of_ble_eq_true rfl⟩) ⟨zblind, hpre⟩ rfl rfl hl.1 rfl (lv_room (Nat.le_of_ble_eq_true rfl)) dJ1_charAt_3b067_3 ⟨Nat.le_of_ble_eq_true rfl, Nat.le_of_ble_eq_true rfl⟩) hS (fun q _ h => hFc q h) hFc (fun u t H1 locs ht hvm hw hB hz1 hk1 hS => ?_)
  obtain ⟨hP1, hK1, hD1, hz2⟩ := hB
  rw [ht] at hP1 hz2
  have hPD9 := va_join (wr := []) (w1 := []) hP hD [] [] rfl rfl (by decide) (by decide) hk1 hFc hP1 hD1
  clear hPc hDc hFc hDv hpre hP hD hP1 hK1 hD1
  obtain ⟨hP, hD⟩ := hPD9
  replace hz : s.heap.size + 0 ≤ H1.size := by omega
  clear hz2
  replace hP : va_P (dC, dI) vwCl [] H1 := hP
  replace hD : va_D A [] := hD
  refine W.widen (k := 0) (n := 0) (by omega) (by omega) ?_
  refine lv_aload_n hx hb dJ1_charAt_3b067_6 rfl (lv_at hl 0 rfl) ?_
  refine lv_iload_n hx hb dJ1_charAt_3b067_7 rfl (lv_at hl 1 rfl) ?_
  refine va_tb hx hb (hZ.2 _ List.mem_cons_self).2.2.2.1 hS (vp_in_nI hi (show n < 2 ^ 31 by omega)) rfl dJ1_charAt_3b067_8 ?_
  rw [nI_clamp (n := i) (by omega)]
  refine lv_sipush (v := 255) hx hb dJ1_charAt_3b067_9 (by decide) ?_
  refine lv_iand hx hb dJ1_charAt_3b067_12 ?_
  refine lv_topi (fun v3 ev3 => ?_)
  obtain rfl : v3 = f i &&& 255 := ev3.trans (rfl)
  refine lv_i2c (v := ch) hx hb dJ1_charAt_3b067_13 hchv ?_
  have hP9 := hP.sub (ws' := []) [] rfl
  have hD9 := hD.sub (ws' := []) [] (by decide) rfl
  exact W.zret (v := ch) hx hb hr (hnar) (fun t ht hW => ⟨⟨_, (), rfl, rfl, ⟨by rw [ht]; exact hP9, va_K.moved hW.alike hK, hD9, by rw [ht]; exact hz⟩⟩, hS.F ht⟩) hS.2.2 dJ1_charAt_3b067_14

set_option maxHeartbeats 4000000 in
set_option maxRecDepth 100000 in
theorem k_chA (l : Launch) (dC : Nat → ClassId) (dI : Nat → Nat → Nat) (cI cB cR cO : ClassId) (zk : Nat → Nat) (k v n i : Nat) (f : Nat → Int32) (ch : Int32) (sz : Nat) (hi : i < n) (hn : n < 2 ^ 30) (hchv : (((f i &&& 255) : Int32).toUInt32 % 65536).toInt32 = ch) (hnar : narrow .char (.int ch) = .int ch) : Met l yJ0_charAt_5068e wsJ0_charAt_5068e ({ frames := 3, cells := 0, slots := 0, locals := 64 }) (va_Pc [.ref k, .int (nI i)] (zPre (dC, dI) (zT cI cB cR cO) zk [(k, v, n, f)] [] sz)) (va_Qi (fun r (_ : Unit) => r = ch) (fun _ t => zEnd (dC, dI) (zT cI cB cR cO) (va_A [] sz) [] sz 0 t) (va_A [] sz)) 0 0 (va_A [] sz) := by
  refine Met.ofW (cc := cJ0_charAt_5068e) (maxL := 2) (ret := (some .char)) (by decide) rfl ?_
  intro p e s mY args below meth c s₁ B hml hv
  obtain ⟨rfl, hsz, hP, hK, hD0, hZ⟩ := hv
  have hx := B.exec
  have hb := B.bytes
  have hr := B.returns
  have hts := atoms_spec (ws := wsJ0_charAt_5068e) B.pre
  have hown : s.vm.findClass RJ0 = some mY.cls := findClass_of_methodNamed B.named
  have hlocks := B.notSynchronized
  subst hsz
  have hD := hD0.self (sz := s.heap.size)
  generalize hAe : va_A [] s.heap.size = A at hD hZ ⊢
  have hA : ∀ q : Nat, s.heap.size ≤ q → A q := fun q h => by rw [← hAe]; exact Or.inr h
  have hS : va_S A s.heap s.heap [] := va_S.rf
  have hz : s.heap.size + 0 ≤ s.heap.size := Nat.le_refl _
  have hl := lv_entry ([.ref k, .int (nI i)]) (n := 2) (Nat.le_of_ble_eq_true rfl)
  rw [lg_entry_eq]
  generalize (lg_sl ([.ref k, .int (nI i)]) ++ List.replicate (2 - (lg_sl ([.ref k, .int (nI i)])).length) Slot.unset).toArray = ls at hl ⊢
  have hl : lv_has ls 2 [(0, .ref k), (1, .int (nI i))] := hl
  have hP : va_P (dC, dI) vwCl [] s.heap := hP
  have hD : va_D A [] := hD
  refine lv_aload_n hx hb dJ0_charAt_5068e_0 rfl (lv_at hl 0 rfl) ?_
  have hPc := hP.sub (ws' := []) [] rfl
  have hDc := hD.sub (ws' := []) [] (by decide) rfl
  have hFc := va_free (wc := []) hD hS hA [] rfl
  have hDv := hDc.self (sz := s.heap.size)
  have hx0 : zS (k, v, n, f) (va_A [] s.heap.size) s s.heap := zR.x hZ hS hFc List.mem_cons_self
  have hpre := zpre (xs' := [(k, v, n, f)]) (av := [.ref k]) hPc hK (hDc.weaken (fun _ _ _ h => h)) hZ hS hFc (fun r hr => by cases hr with | head => exact hx0 | tail _ h => cases h)
  refine va_calli (va_runV (As := []) (rest := []) ⟨hx, hb, hml, hown, hts⟩ (k_isLat0 l dC dI cI cB cR cO zk k v n f s.heap.size ) (cwV 0 hts gJ0_charAt_5068e_J0_isLatin1_aae02 rfl rfl rfl (by decide +kernel) ⟨Nat.le_of_ble_eq_true rfl, Nat.le_of_ble_eq_true rfl⟩) ⟨zblind, (zS.recv (zR.x (B := A) hZ hS (fun _ h => h) List.mem_cons_self)), hpre⟩ rfl rfl hl.1 rfl (lv_room (Nat.le_of_ble_eq_true rfl)) dJ0_charAt_5068e_1 ⟨Nat.le_of_ble_eq_true rfl, Nat.le_of_ble_eq_true rfl⟩) hS (fun q _ h => hFc q h) hFc (fun r2 u t H1 locs ht hvm hw hB hz1 hk1 hS => ?_)
  obtain rfl : 1 = r2 := (show r2 = 1 from hw).symm
  obtain ⟨hP1, hK1, hD1, hz2⟩ := hB
  rw [ht] at hP1 hz2
  have hPD9 := va_join (wr := []) (w1 := []) hP hD [] [] rfl rfl (by decide) (by decide) hk1 hFc hP1 hD1
  clear hPc hDc hFc hDv hpre hP hD hP1 hK1 hD1
  obtain ⟨hP, hD⟩ := hPD9
  replace hz : s.heap.size + 0 ≤ H1.size := by omega
  clear hz2
  replace hP : va_P (dC, dI) vwCl [] H1 := hP
  replace hD : va_D A [] := hD
  refine W.widen (k := 0) (n := 0) (by omega) (by omega) ?_
  refine lv_if_eq (tgt := 16) hx hb dJ0_charAt_5068e_4 (by decide) (fun c9 => ?_) (fun c9 => ?_)
  · exact absurd c9 (by decide)
  refine lv_aload_n hx hb dJ0_charAt_5068e_7 rfl (lv_at hl 0 rfl) ?_
  refine vk_getf hx hb (hZ.2 _ List.mem_cons_self).2.2.1 hS hown (hts (.fieldLink RJ0 9 "java/lang/String" "value" "[B") (List.mem_cons_of_mem _ zw_516)) (fun _ h9 => h9) dJ0_charAt_5068e_8 ?_
  refine lv_iload_n hx hb dJ0_charAt_5068e_11 rfl (lv_at hl 1 rfl) ?_
  have hPc := hP.sub (ws' := []) [] rfl
  have hDc := hD.sub (ws' := []) [] (by decide) rfl
  have hFc := va_free (wc := []) hD hS hA [] rfl
  have hDv := hDc.self (sz := H1.size)
  have hx0 : zS (k, v, n, f) (va_A [] H1.size) s H1 := zR.x hZ hS hFc List.mem_cons_self
  have hpre := zpre (xs' := [(k, v, n, f)]) (av := [.ref v, .int (nI i)]) hPc hK (hDc.weaken (fun _ _ _ h => h)) hZ hS hFc (fun r hr => by cases hr with | head => exact hx0 | tail _ h => cases h)
  refine va_calli (va_runS (As := [.ref v, .int (nI i)]) (rest := []) ⟨hx, hb, hml, hown, hts⟩ (k_chA1 l dC dI cI cB cR cO zk k v n i f ch H1.size hi hn hchv hnar) (va_cwS 2 hts gJ0_charAt_5068e_J1_charAt_3b067 rfl rfl rfl (by decide +kernel) ⟨Nat.le_of_ble_eq_true rfl, Nat.le_of_ble_eq_true rfl⟩) ⟨zblind, hpre⟩ rfl rfl hl.1 rfl (lv_room (Nat.le_of_ble_eq_true rfl)) dJ0_charAt_5068e_12 ⟨Nat.le_of_ble_eq_true rfl, Nat.le_of_ble_eq_true rfl⟩) hS (fun q _ h => hFc q h) hFc (fun r4 u t H3 locs ht hvm hw hB hz1 hk1 hS => ?_)
  obtain rfl : ch = r4 := (show r4 = ch from hw).symm
  obtain ⟨hP1, hK1, hD1, hz2⟩ := hB
  rw [ht] at hP1 hz2
  have hPD9 := va_join (wr := []) (w1 := []) hP hD [] [] rfl rfl (by decide) (by decide) hk1 hFc hP1 hD1
  clear hPc hDc hFc hDv hpre hP hD hP1 hK1 hD1
  obtain ⟨hP, hD⟩ := hPD9
  replace hz : s.heap.size + 0 ≤ H3.size := by omega
  clear hz2
  replace hP : va_P (dC, dI) vwCl [] H3 := hP
  replace hD : va_D A [] := hD
  refine W.widen (k := 0) (n := 0) (by omega) (by omega) ?_
  have hP9 := hP.sub (ws' := []) [] rfl
  have hD9 := hD.sub (ws' := []) [] (by decide) rfl
  exact W.zret (v := ch) hx hb hr (hnar) (fun t ht hW => ⟨⟨_, (), rfl, rfl, ⟨by rw [ht]; exact hP9, va_K.moved hW.alike hK, hD9, by rw [ht]; exact hz⟩⟩, hS.F ht⟩) hS.2.2 dJ0_charAt_5068e_15

theorem hi_J5_append_3fe6f_J4 : ∀ w ∈ u_ws RJ4 TJ4 4, w ∈ wsJ5_append_3fe6f := fun w h => List.mem_cons_of_mem _ (zhi_J4 w h)
set_option maxHeartbeats 4000000 in
set_option maxRecDepth 100000 in
theorem k_apC5 (l : Launch) (dC : Nat → ClassId) (dI : Nat → Nat → Nat) (cI cB cR cO : ClassId) (zk : Nat → Nat) (h0 v0 m c0 : Nat) (g : Nat → Int32) (ml : Value) (ch : Int32) (sz : Nat) (hm : m ≤ 65536) (hcm : c0 ≤ m) (hc0 : c0 ≤ 2000) (hg : sb_Fit g) (hch : ¬ 255 < ch) (hfb : fits .byte (.int (vp_nar .byte ((ch : Int32).toInt8.toInt32))) = true) : Met l yJ5_append_3fe6f wsJ5_append_3fe6f ({ frames := 4, cells := 1, slots := 65536, locals := 144 }) (va_Pc [.ref h0, .int ch] (zPre (dC, dI) (zT cI cB cR cO) zk [] [(h0, .inr (1, [.ref v0, .int 0, ml, .int (nI c0)])), (v0, .inl (cB, m, .inl g))] sz)) (va_Qr (fun _ : Unit => True) (fun _ ra t => ∃ v3, ∃ m3, ∃ (f3 : Nat → Int32), zEnd (dC, dI) (zT cI cB cR cO) (va_A [(h0, .inr (1, [.ref v0, .int 0, ml, .int (nI c0)])), (v0, .inl (cB, m, .inl g))] sz) [(h0, .inr (1, [.ref v3, .int 0, ml, .int (nI (c0 + 1))])), (v3, .inl (cB, m3, .inl f3))] sz 0 t ∧ sb_Fit f3 ∧ c0 + 1 ≤ m3 ∧ m3 ≤ 65536 ∧ ra = h0) (va_A [(h0, .inr (1, [.ref v0, .int 0, ml, .int (nI c0)])), (v0, .inl (cB, m, .inl g))] sz)) 1 65536 (va_A [(h0, .inr (1, [.ref v0, .int 0, ml, .int (nI c0)])), (v0, .inl (cB, m, .inl g))] sz) := by
  refine Met.ofW (cc := cJ5_append_3fe6f) (maxL := 2) (ret := (some (.object "java/lang/AbstractStringBuilder"))) (by decide) rfl ?_
  intro p e s mY args below meth c s₁ B hml hv
  obtain ⟨rfl, hsz, hP, hK, hD0, hZ⟩ := hv
  have hx := B.exec
  have hb := B.bytes
  have hr := B.returns
  have hts := atoms_spec (ws := wsJ5_append_3fe6f) B.pre
  have hown : s.vm.findClass RJ5 = some mY.cls := findClass_of_methodNamed B.named
  have hlocks := B.notSynchronized
  subst hsz
  have hD := hD0.self (sz := s.heap.size)
  generalize hAe : va_A [(h0, .inr (1, [.ref v0, .int 0, ml, .int (nI c0)])), (v0, .inl (cB, m, .inl g))] s.heap.size = A at hD hZ ⊢
  have hA : ∀ q : Nat, s.heap.size ≤ q → A q := fun q h => by rw [← hAe]; exact Or.inr h
  have hS : va_S A s.heap s.heap [] := va_S.rf
  have hz : s.heap.size + 0 ≤ s.heap.size := Nat.le_refl _
  have hl := lv_entry ([.ref h0, .int ch]) (n := 2) (Nat.le_of_ble_eq_true rfl)
  rw [lg_entry_eq]
  generalize (lg_sl ([.ref h0, .int ch]) ++ List.replicate (2 - (lg_sl ([.ref h0, .int ch])).length) Slot.unset).toArray = ls at hl ⊢
  have hl : lv_has ls 2 [(0, .ref h0), (1, .int ch)] := hl
  rcases Nat.lt_or_ge m (c0 + 1) with hgr | hge
  · have hP : va_P (dC, dI) vwCl [(h0, .inr (1, [.ref v0, .int 0, ml, .int (nI c0)])), (v0, .inl (cB, m, .inl g))] s.heap := hP
    have hD : va_D A [(h0, .inr (1, [.ref v0, .int 0, ml, .int (nI c0)])), (v0, .inl (cB, m, .inl g))] := hD
    refine lv_aload_n hx hb dJ5_append_3fe6f_0 rfl (lv_at hl 0 rfl) ?_
    refine lv_aload_n hx hb dJ5_append_3fe6f_1 rfl (lv_at hl 0 rfl) ?_
    refine va_get (D := (dC, dI)) (ci := 1) (v := .int (nI c0)) (C := RJ4) (T := TJ4) (N := 4) hx hb hts hi_J5_append_3fe6f_J4 hown hK hP 0 rfl rfl 3 (by decide) (hts (.fieldLink RJ5 79 "java/lang/AbstractStringBuilder" "count" "I") (List.mem_cons_of_mem _ zw_160)) (fun _ h9 => h9) rfl dJ5_append_3fe6f_2 ?_
    refine lv_iconst (v := 1) hx hb dJ5_append_3fe6f_5 (by decide) ?_
    refine lv_iadd hx hb dJ5_append_3fe6f_6 ?_
    refine lv_topi (fun v1 ev1 => ?_)
    obtain rfl : v1 = nI (c0 + 1) := ev1.trans (nI_add c0 1)
    have hcap : zcap (c0 + 1) m ≤ 65536 := by unfold zcap zmx; split <;> omega
    have hqq := zcap_ge hgr
    have hPc := hP.sub (ws' := [(h0, .inr (1, [.ref v0, .int 0, ml, .int (nI c0)])), (v0, .inl (cB, m, .inl g))]) [0, 1] rfl
    have hDc := hD.sub (ws' := [(h0, .inr (1, [.ref v0, .int 0, ml, .int (nI c0)])), (v0, .inl (cB, m, .inl g))]) [0, 1] (by decide) rfl
    have hFc := va_free (wc := [(h0, .inr (1, [.ref v0, .int 0, ml, .int (nI c0)])), (v0, .inl (cB, m, .inl g))]) hD hS hA [0, 1] rfl
    have hDv := hDc.self (sz := s.heap.size)
    have hpre := zpre (xs' := []) (av := [.ref h0, .int (nI (c0 + 1))]) hPc hK (hDc.weaken (fun _ _ _ h => h)) hZ hS hFc (fun r hr => by cases hr)
    refine va_callv (va_runU (As := [.int (nI (c0 + 1))]) (rest := []) ⟨hx, hb, hml, hown, hts⟩ (k_ens1 l dC dI cI cB cR cO zk h0 v0 m (c0 + 1) g ml (.int (nI c0)) s.heap.size hm hgr hcap hg) (va_cwU 1 hts gJ5_append_3fe6f_J5_ensureCapacityInternal_d00df_u100J4 rfl rfl rfl rfl (by decide +kernel) ⟨Nat.le_of_ble_eq_true rfl, Nat.le_of_ble_eq_true rfl⟩) ⟨zblind, (zrecv_1 hK hPc (q0 := 0) rfl), hpre⟩ rfl rfl hl.1 rfl (lv_room (Nat.le_of_ble_eq_true rfl)) dJ5_append_3fe6f_7 ⟨Nat.le_of_ble_eq_true rfl, Nat.le_of_ble_eq_true rfl⟩) hS (fun q _ h => hFc q h) hFc (fun u t H2 locs ht hvm hw hB hz1 hk1 hS => ?_)
    obtain ⟨v2, f2, ⟨hP1, hK1, hD1, hz2⟩, hf2⟩ := hB
    rw [ht] at hP1 hz2
    obtain ⟨hP, hD⟩ := va_join (wr := []) (w1 := [(h0, .inr (1, [.ref v2, .int 0, ml, .int (nI c0)])), (v2, .inl (cB, zcap (c0 + 1) m, .inl f2))]) hP hD [0, 1] [] rfl rfl (by decide) (by decide) hk1 hFc hP1 hD1
    have hz : s.heap.size + 0 ≤ H2.size := by omega
    have hP : va_P (dC, dI) vwCl [(h0, .inr (1, [.ref v2, .int 0, ml, .int (nI c0)])), (v2, .inl (cB, zcap (c0 + 1) m, .inl f2))] H2 := hP
    have hD : va_D A [(h0, .inr (1, [.ref v2, .int 0, ml, .int (nI c0)])), (v2, .inl (cB, zcap (c0 + 1) m, .inl f2))] := hD
    refine W.widen (k := 1) (n := 65536) (by omega) (by omega) ?_
    refine lv_aload_n hx hb dJ5_append_3fe6f_10 rfl (lv_at hl 0 rfl) ?_
    have hPc := hP.sub (ws' := [(h0, .inr (1, [.ref v2, .int 0, ml, .int (nI c0)]))]) [0] rfl
    have hDc := hD.sub (ws' := [(h0, .inr (1, [.ref v2, .int 0, ml, .int (nI c0)]))]) [0] (by decide) rfl
    have hFc := va_free (wc := [(h0, .inr (1, [.ref v2, .int 0, ml, .int (nI c0)]))]) hD hS hA [0] rfl
    have hDv := hDc.self (sz := H2.size)
    have hpre := zpre (xs' := []) (av := [.ref h0]) hPc hK (hDc.weaken (fun _ _ _ h => h)) hZ hS hFc (fun r hr => by cases hr)
    refine va_calli (va_runU (As := []) (rest := []) ⟨hx, hb, hml, hown, hts⟩ (k_isLat5 l dC dI cI cB cR cO zk h0 v2 ml (.int (nI c0)) H2.size ) (va_cwU 0 hts gJ5_append_3fe6f_J5_isLatin1_aae02_u83J4 rfl rfl rfl rfl (by decide +kernel) ⟨Nat.le_of_ble_eq_true rfl, Nat.le_of_ble_eq_true rfl⟩) ⟨zblind, (zrecv_1 hK hPc (q0 := 0) rfl), hpre⟩ rfl rfl hl.1 rfl (lv_room (Nat.le_of_ble_eq_true rfl)) dJ5_append_3fe6f_11 ⟨Nat.le_of_ble_eq_true rfl, Nat.le_of_ble_eq_true rfl⟩) hS (fun q _ h => hFc q h) hFc (fun r5 u t H4 locs ht hvm hw hB hz1 hk1 hS => ?_)
    obtain rfl : 1 = r5 := (show r5 = 1 from hw).symm
    obtain ⟨hP1, hK1, hD1, hz2⟩ := hB
    rw [ht] at hP1 hz2
    obtain ⟨hP, hD⟩ := va_join (wr := [(v2, .inl (cB, zcap (c0 + 1) m, .inl f2))]) (w1 := [(h0, .inr (1, [.ref v2, .int 0, ml, .int (nI c0)]))]) hP hD [0] [1] rfl rfl (by decide) (by decide) hk1 hFc hP1 hD1
    have hz : s.heap.size + 0 ≤ H4.size := by omega
    have hP : va_P (dC, dI) vwCl [(v2, .inl (cB, zcap (c0 + 1) m, .inl f2)), (h0, .inr (1, [.ref v2, .int 0, ml, .int (nI c0)]))] H4 := hP
    have hD : va_D A [(v2, .inl (cB, zcap (c0 + 1) m, .inl f2)), (h0, .inr (1, [.ref v2, .int 0, ml, .int (nI c0)]))] := hD
    refine W.widen (k := 1) (n := 65536) (by omega) (by omega) ?_
    refine lv_if_eq (tgt := 45) hx hb dJ5_append_3fe6f_14 (by decide) (fun c9 => ?_) (fun c9 => ?_)
    · exact absurd c9 (by decide)
    refine lv_iload_n hx hb dJ5_append_3fe6f_17 rfl (lv_at hl 1 rfl) ?_
    have hPc := hP.sub (ws' := []) [] rfl
    have hDc := hD.sub (ws' := []) [] (by decide) rfl
    have hFc := va_free (wc := []) hD hS hA [] rfl
    have hDv := hDc.self (sz := H4.size)
    have hpre := zpre (xs' := []) (av := [.int ch]) hPc hK (hDc.weaken (fun _ _ _ h => h)) hZ hS hFc (fun r hr => by cases hr)
    refine va_calli (va_runS (As := [.int ch]) (rest := []) ⟨hx, hb, hml, hown, hts⟩ (k_canE l dC dI cI cB cR cO zk ch H4.size hch) (va_cwS 1 hts gJ5_append_3fe6f_J1_canEncode_fc78d rfl rfl rfl (by decide +kernel) ⟨Nat.le_of_ble_eq_true rfl, Nat.le_of_ble_eq_true rfl⟩) ⟨zblind, hpre⟩ rfl rfl hl.1 rfl (lv_room (Nat.le_of_ble_eq_true rfl)) dJ5_append_3fe6f_18 ⟨Nat.le_of_ble_eq_true rfl, Nat.le_of_ble_eq_true rfl⟩) hS (fun q _ h => hFc q h) hFc (fun r7 u t H6 locs ht hvm hw hB hz1 hk1 hS => ?_)
    obtain rfl : 1 = r7 := (show r7 = 1 from hw).symm
    obtain ⟨hP1, hK1, hD1, hz2⟩ := hB
    rw [ht] at hP1 hz2
    obtain ⟨hP, hD⟩ := va_join (wr := [(v2, .inl (cB, zcap (c0 + 1) m, .inl f2)), (h0, .inr (1, [.ref v2, .int 0, ml, .int (nI c0)]))]) (w1 := []) hP hD [] [0, 1] rfl rfl (by decide) (by decide) hk1 hFc hP1 hD1
    have hz : s.heap.size + 0 ≤ H6.size := by omega
    have hP : va_P (dC, dI) vwCl [(v2, .inl (cB, zcap (c0 + 1) m, .inl f2)), (h0, .inr (1, [.ref v2, .int 0, ml, .int (nI c0)]))] H6 := hP
    have hD : va_D A [(v2, .inl (cB, zcap (c0 + 1) m, .inl f2)), (h0, .inr (1, [.ref v2, .int 0, ml, .int (nI c0)]))] := hD
    refine W.widen (k := 1) (n := 65536) (by omega) (by omega) ?_
    refine lv_if_eq (tgt := 45) hx hb dJ5_append_3fe6f_21 (by decide) (fun c9 => ?_) (fun c9 => ?_)
    · exact absurd c9 (by decide)
    refine lv_aload_n hx hb dJ5_append_3fe6f_24 rfl (lv_at hl 0 rfl) ?_
    refine va_get (D := (dC, dI)) (ci := 1) (v := .ref v2) (C := RJ4) (T := TJ4) (N := 4) hx hb hts hi_J5_append_3fe6f_J4 hown hK hP 1 rfl rfl 0 (by decide) (hts (.fieldLink RJ5 15 "java/lang/AbstractStringBuilder" "value" "[B") (List.mem_cons_of_mem _ zw_156)) (fun _ h9 => h9) rfl dJ5_append_3fe6f_25 ?_
    refine lv_aload_n hx hb dJ5_append_3fe6f_28 rfl (lv_at hl 0 rfl) ?_
    refine lv_dup hx hb dJ5_append_3fe6f_29 rfl ?_
    refine va_get (D := (dC, dI)) (ci := 1) (v := .int (nI c0)) (C := RJ4) (T := TJ4) (N := 4) hx hb hts hi_J5_append_3fe6f_J4 hown hK hP 1 rfl rfl 3 (by decide) (hts (.fieldLink RJ5 79 "java/lang/AbstractStringBuilder" "count" "I") (List.mem_cons_of_mem _ zw_160)) (fun _ h9 => h9) rfl dJ5_append_3fe6f_30 ?_
    refine lv_dup_x1 hx hb dJ5_append_3fe6f_33 rfl rfl ?_
    refine lv_iconst (v := 1) hx hb dJ5_append_3fe6f_34 (by decide) ?_
    refine lv_iadd hx hb dJ5_append_3fe6f_35 ?_
    refine lv_topi (fun v8 ev8 => ?_)
    obtain rfl : v8 = nI (c0 + 1) := ev8.trans (nI_add c0 1)
    refine va_put (D := (dC, dI)) (ci := 1) (v := .int (nI (c0 + 1))) (ty := .int) (C := RJ4) (T := TJ4) (N := 4) hx hb hts hi_J5_append_3fe6f_J4 tyJ4 tyJ4_ok nmJ4 hown hK hP hD (zS0 hS) 1 rfl rfl 3 (by decide) (hts (.fieldLink RJ5 79 "java/lang/AbstractStringBuilder" "count" "I") (List.mem_cons_of_mem _ zw_160)) (fun _ h9 => h9) rfl (by decide +kernel) rfl rfl (Nat.le_of_ble_eq_true rfl) dJ5_append_3fe6f_36 (fun H9 locs hP hD hS1 => ?_)
    have hz : s.heap.size + 0 ≤ H9.size := Nat.le_trans hz hS1.1
    have hS := zSS hS hS1
    have hP : va_P (dC, dI) vwCl [(v2, .inl (cB, zcap (c0 + 1) m, .inl f2)), (h0, .inr (1, [.ref v2, .int 0, ml, .int (nI (c0 + 1))]))] H9 := hP
    have hD : va_D A [(v2, .inl (cB, zcap (c0 + 1) m, .inl f2)), (h0, .inr (1, [.ref v2, .int 0, ml, .int (nI (c0 + 1))]))] := hD
    refine lv_iload_n hx hb dJ5_append_3fe6f_39 rfl (lv_at hl 1 rfl) ?_
    refine lv_i2b (v := (ch : Int32).toInt8.toInt32) hx hb dJ5_append_3fe6f_40 rfl ?_
    refine va_bast (D := (dC, dI)) (cl := vwCl) hx hb hK hP hD (zS0 hS) 0 1 rfl rfl (vp_in_nI (show c0 < zcap (c0 + 1) m by omega) (by omega)) dJ5_append_3fe6f_41 (fun H10 locs hP hD hS1 => ?_)
    have hz : s.heap.size + 0 ≤ H10.size := Nat.le_trans hz hS1.1
    have hS := zSS hS hS1
    rw [nI_clamp (n := c0) (by omega)] at hP hD
    have hP : va_P (dC, dI) vwCl [(v2, .inl (cB, zcap (c0 + 1) m, .inl (upd f2 c0 (vp_nar .byte ((ch : Int32).toInt8.toInt32))))), (h0, .inr (1, [.ref v2, .int 0, ml, .int (nI (c0 + 1))]))] H10 := hP
    have hD : va_D A [(v2, .inl (cB, zcap (c0 + 1) m, .inl (upd f2 c0 (vp_nar .byte ((ch : Int32).toInt8.toInt32))))), (h0, .inr (1, [.ref v2, .int 0, ml, .int (nI (c0 + 1))]))] := hD
    refine lv_goto (tgt := 75) hx hb dJ5_append_3fe6f_42 (by decide) ?_
    refine lv_aload_n hx hb dJ5_append_3fe6f_75 rfl (lv_at hl 0 rfl) ?_
    have hP9 := hP.sub (ws' := [(h0, .inr (1, [.ref v2, .int 0, ml, .int (nI (c0 + 1))])), (v2, .inl (cB, zcap (c0 + 1) m, .inl (upd f2 c0 (vp_nar .byte ((ch : Int32).toInt8.toInt32)))))]) [1, 0] rfl
    have hD9 := hD.sub (ws' := [(h0, .inr (1, [.ref v2, .int 0, ml, .int (nI (c0 + 1))])), (v2, .inl (cB, zcap (c0 + 1) m, .inl (upd f2 c0 (vp_nar .byte ((ch : Int32).toInt8.toInt32)))))]) [1, 0] (by decide) rfl
    exact W.aret hx hb hr (by first | exact Or.inl ⟨_, rfl⟩ | exact Or.inr ⟨_, rfl⟩) (Or.inr ⟨_, rfl⟩) (fun t ht hW => ⟨⟨(), _, rfl, trivial, ⟨_, _, _, ⟨by rw [ht]; exact hP9, va_K.moved hW.alike hK, hD9, by rw [ht]; exact hz⟩, sb_fitU hf2 hfb, (by omega), (by omega), rfl⟩⟩, hS.F ht⟩) hS.2.2 dJ5_append_3fe6f_76
  · have hP : va_P (dC, dI) vwCl [(h0, .inr (1, [.ref v0, .int 0, ml, .int (nI c0)])), (v0, .inl (cB, m, .inl g))] s.heap := hP
    have hD : va_D A [(h0, .inr (1, [.ref v0, .int 0, ml, .int (nI c0)])), (v0, .inl (cB, m, .inl g))] := hD
    refine W.widen (k := 1) (n := 65536) (by omega) (by omega) ?_
    refine lv_aload_n hx hb dJ5_append_3fe6f_0 rfl (lv_at hl 0 rfl) ?_
    refine lv_aload_n hx hb dJ5_append_3fe6f_1 rfl (lv_at hl 0 rfl) ?_
    refine va_get (D := (dC, dI)) (ci := 1) (v := .int (nI c0)) (C := RJ4) (T := TJ4) (N := 4) hx hb hts hi_J5_append_3fe6f_J4 hown hK hP 0 rfl rfl 3 (by decide) (hts (.fieldLink RJ5 79 "java/lang/AbstractStringBuilder" "count" "I") (List.mem_cons_of_mem _ zw_160)) (fun _ h9 => h9) rfl dJ5_append_3fe6f_2 ?_
    refine lv_iconst (v := 1) hx hb dJ5_append_3fe6f_5 (by decide) ?_
    refine lv_iadd hx hb dJ5_append_3fe6f_6 ?_
    refine lv_topi (fun v1 ev1 => ?_)
    obtain rfl : v1 = nI (c0 + 1) := ev1.trans (nI_add c0 1)
    have hPc := hP.sub (ws' := [(h0, .inr (1, [.ref v0, .int 0, ml, .int (nI c0)])), (v0, .inl (cB, m, .inl g))]) [0, 1] rfl
    have hDc := hD.sub (ws' := [(h0, .inr (1, [.ref v0, .int 0, ml, .int (nI c0)])), (v0, .inl (cB, m, .inl g))]) [0, 1] (by decide) rfl
    have hFc := va_free (wc := [(h0, .inr (1, [.ref v0, .int 0, ml, .int (nI c0)])), (v0, .inl (cB, m, .inl g))]) hD hS hA [0, 1] rfl
    have hDv := hDc.self (sz := s.heap.size)
    have hpre := zpre (xs' := []) (av := [.ref h0, .int (nI (c0 + 1))]) hPc hK (hDc.weaken (fun _ _ _ h => h)) hZ hS hFc (fun r hr => by cases hr)
    refine va_callv (va_runU (As := [.int (nI (c0 + 1))]) (rest := []) ⟨hx, hb, hml, hown, hts⟩ (k_ens0 l dC dI cI cB cR cO zk h0 v0 m (c0 + 1) g ml (.int (nI c0)) s.heap.size hm (by omega)) (va_cwU 1 hts gJ5_append_3fe6f_J5_ensureCapacityInternal_d00df_u100J4 rfl rfl rfl rfl (by decide +kernel) ⟨Nat.le_of_ble_eq_true rfl, Nat.le_of_ble_eq_true rfl⟩) ⟨zblind, (zrecv_1 hK hPc (q0 := 0) rfl), hpre⟩ rfl rfl hl.1 rfl (lv_room (Nat.le_of_ble_eq_true rfl)) dJ5_append_3fe6f_7 ⟨Nat.le_of_ble_eq_true rfl, Nat.le_of_ble_eq_true rfl⟩) hS (fun q _ h => hFc q h) hFc (fun u t H2 locs ht hvm hw hB hz1 hk1 hS => ?_)
    obtain ⟨hP1, hK1, hD1, hz2⟩ := hB
    rw [ht] at hP1 hz2
    obtain ⟨hP, hD⟩ := va_join (wr := []) (w1 := [(h0, .inr (1, [.ref v0, .int 0, ml, .int (nI c0)])), (v0, .inl (cB, m, .inl g))]) hP hD [0, 1] [] rfl rfl (by decide) (by decide) hk1 hFc hP1 hD1
    have hz : s.heap.size + 0 ≤ H2.size := by omega
    have hP : va_P (dC, dI) vwCl [(h0, .inr (1, [.ref v0, .int 0, ml, .int (nI c0)])), (v0, .inl (cB, m, .inl g))] H2 := hP
    have hD : va_D A [(h0, .inr (1, [.ref v0, .int 0, ml, .int (nI c0)])), (v0, .inl (cB, m, .inl g))] := hD
    refine W.widen (k := 1) (n := 65536) (by omega) (by omega) ?_
    refine lv_aload_n hx hb dJ5_append_3fe6f_10 rfl (lv_at hl 0 rfl) ?_
    have hPc := hP.sub (ws' := [(h0, .inr (1, [.ref v0, .int 0, ml, .int (nI c0)]))]) [0] rfl
    have hDc := hD.sub (ws' := [(h0, .inr (1, [.ref v0, .int 0, ml, .int (nI c0)]))]) [0] (by decide) rfl
    have hFc := va_free (wc := [(h0, .inr (1, [.ref v0, .int 0, ml, .int (nI c0)]))]) hD hS hA [0] rfl
    have hDv := hDc.self (sz := H2.size)
    have hpre := zpre (xs' := []) (av := [.ref h0]) hPc hK (hDc.weaken (fun _ _ _ h => h)) hZ hS hFc (fun r hr => by cases hr)
    refine va_calli (va_runU (As := []) (rest := []) ⟨hx, hb, hml, hown, hts⟩ (k_isLat5 l dC dI cI cB cR cO zk h0 v0 ml (.int (nI c0)) H2.size ) (va_cwU 0 hts gJ5_append_3fe6f_J5_isLatin1_aae02_u83J4 rfl rfl rfl rfl (by decide +kernel) ⟨Nat.le_of_ble_eq_true rfl, Nat.le_of_ble_eq_true rfl⟩) ⟨zblind, (zrecv_1 hK hPc (q0 := 0) rfl), hpre⟩ rfl rfl hl.1 rfl (lv_room (Nat.le_of_ble_eq_true rfl)) dJ5_append_3fe6f_11 ⟨Nat.le_of_ble_eq_true rfl, Nat.le_of_ble_eq_true rfl⟩) hS (fun q _ h => hFc q h) hFc (fun r5 u t H4 locs ht hvm hw hB hz1 hk1 hS => ?_)
    obtain rfl : 1 = r5 := (show r5 = 1 from hw).symm
    obtain ⟨hP1, hK1, hD1, hz2⟩ := hB
    rw [ht] at hP1 hz2
    obtain ⟨hP, hD⟩ := va_join (wr := [(v0, .inl (cB, m, .inl g))]) (w1 := [(h0, .inr (1, [.ref v0, .int 0, ml, .int (nI c0)]))]) hP hD [0] [1] rfl rfl (by decide) (by decide) hk1 hFc hP1 hD1
    have hz : s.heap.size + 0 ≤ H4.size := by omega
    have hP : va_P (dC, dI) vwCl [(v0, .inl (cB, m, .inl g)), (h0, .inr (1, [.ref v0, .int 0, ml, .int (nI c0)]))] H4 := hP
    have hD : va_D A [(v0, .inl (cB, m, .inl g)), (h0, .inr (1, [.ref v0, .int 0, ml, .int (nI c0)]))] := hD
    refine W.widen (k := 1) (n := 65536) (by omega) (by omega) ?_
    refine lv_if_eq (tgt := 45) hx hb dJ5_append_3fe6f_14 (by decide) (fun c9 => ?_) (fun c9 => ?_)
    · exact absurd c9 (by decide)
    refine lv_iload_n hx hb dJ5_append_3fe6f_17 rfl (lv_at hl 1 rfl) ?_
    have hPc := hP.sub (ws' := []) [] rfl
    have hDc := hD.sub (ws' := []) [] (by decide) rfl
    have hFc := va_free (wc := []) hD hS hA [] rfl
    have hDv := hDc.self (sz := H4.size)
    have hpre := zpre (xs' := []) (av := [.int ch]) hPc hK (hDc.weaken (fun _ _ _ h => h)) hZ hS hFc (fun r hr => by cases hr)
    refine va_calli (va_runS (As := [.int ch]) (rest := []) ⟨hx, hb, hml, hown, hts⟩ (k_canE l dC dI cI cB cR cO zk ch H4.size hch) (va_cwS 1 hts gJ5_append_3fe6f_J1_canEncode_fc78d rfl rfl rfl (by decide +kernel) ⟨Nat.le_of_ble_eq_true rfl, Nat.le_of_ble_eq_true rfl⟩) ⟨zblind, hpre⟩ rfl rfl hl.1 rfl (lv_room (Nat.le_of_ble_eq_true rfl)) dJ5_append_3fe6f_18 ⟨Nat.le_of_ble_eq_true rfl, Nat.le_of_ble_eq_true rfl⟩) hS (fun q _ h => hFc q h) hFc (fun r7 u t H6 locs ht hvm hw hB hz1 hk1 hS => ?_)
    obtain rfl : 1 = r7 := (show r7 = 1 from hw).symm
    obtain ⟨hP1, hK1, hD1, hz2⟩ := hB
    rw [ht] at hP1 hz2
    obtain ⟨hP, hD⟩ := va_join (wr := [(v0, .inl (cB, m, .inl g)), (h0, .inr (1, [.ref v0, .int 0, ml, .int (nI c0)]))]) (w1 := []) hP hD [] [0, 1] rfl rfl (by decide) (by decide) hk1 hFc hP1 hD1
    have hz : s.heap.size + 0 ≤ H6.size := by omega
    have hP : va_P (dC, dI) vwCl [(v0, .inl (cB, m, .inl g)), (h0, .inr (1, [.ref v0, .int 0, ml, .int (nI c0)]))] H6 := hP
    have hD : va_D A [(v0, .inl (cB, m, .inl g)), (h0, .inr (1, [.ref v0, .int 0, ml, .int (nI c0)]))] := hD
    refine W.widen (k := 1) (n := 65536) (by omega) (by omega) ?_
    refine lv_if_eq (tgt := 45) hx hb dJ5_append_3fe6f_21 (by decide) (fun c9 => ?_) (fun c9 => ?_)
    · exact absurd c9 (by decide)
    refine lv_aload_n hx hb dJ5_append_3fe6f_24 rfl (lv_at hl 0 rfl) ?_
    refine va_get (D := (dC, dI)) (ci := 1) (v := .ref v0) (C := RJ4) (T := TJ4) (N := 4) hx hb hts hi_J5_append_3fe6f_J4 hown hK hP 1 rfl rfl 0 (by decide) (hts (.fieldLink RJ5 15 "java/lang/AbstractStringBuilder" "value" "[B") (List.mem_cons_of_mem _ zw_156)) (fun _ h9 => h9) rfl dJ5_append_3fe6f_25 ?_
    refine lv_aload_n hx hb dJ5_append_3fe6f_28 rfl (lv_at hl 0 rfl) ?_
    refine lv_dup hx hb dJ5_append_3fe6f_29 rfl ?_
    refine va_get (D := (dC, dI)) (ci := 1) (v := .int (nI c0)) (C := RJ4) (T := TJ4) (N := 4) hx hb hts hi_J5_append_3fe6f_J4 hown hK hP 1 rfl rfl 3 (by decide) (hts (.fieldLink RJ5 79 "java/lang/AbstractStringBuilder" "count" "I") (List.mem_cons_of_mem _ zw_160)) (fun _ h9 => h9) rfl dJ5_append_3fe6f_30 ?_
    refine lv_dup_x1 hx hb dJ5_append_3fe6f_33 rfl rfl ?_
    refine lv_iconst (v := 1) hx hb dJ5_append_3fe6f_34 (by decide) ?_
    refine lv_iadd hx hb dJ5_append_3fe6f_35 ?_
    refine lv_topi (fun v8 ev8 => ?_)
    obtain rfl : v8 = nI (c0 + 1) := ev8.trans (nI_add c0 1)
    refine va_put (D := (dC, dI)) (ci := 1) (v := .int (nI (c0 + 1))) (ty := .int) (C := RJ4) (T := TJ4) (N := 4) hx hb hts hi_J5_append_3fe6f_J4 tyJ4 tyJ4_ok nmJ4 hown hK hP hD (zS0 hS) 1 rfl rfl 3 (by decide) (hts (.fieldLink RJ5 79 "java/lang/AbstractStringBuilder" "count" "I") (List.mem_cons_of_mem _ zw_160)) (fun _ h9 => h9) rfl (by decide +kernel) rfl rfl (Nat.le_of_ble_eq_true rfl) dJ5_append_3fe6f_36 (fun H9 locs hP hD hS1 => ?_)
    have hz : s.heap.size + 0 ≤ H9.size := Nat.le_trans hz hS1.1
    have hS := zSS hS hS1
    have hP : va_P (dC, dI) vwCl [(v0, .inl (cB, m, .inl g)), (h0, .inr (1, [.ref v0, .int 0, ml, .int (nI (c0 + 1))]))] H9 := hP
    have hD : va_D A [(v0, .inl (cB, m, .inl g)), (h0, .inr (1, [.ref v0, .int 0, ml, .int (nI (c0 + 1))]))] := hD
    refine lv_iload_n hx hb dJ5_append_3fe6f_39 rfl (lv_at hl 1 rfl) ?_
    refine lv_i2b (v := (ch : Int32).toInt8.toInt32) hx hb dJ5_append_3fe6f_40 rfl ?_
    refine va_bast (D := (dC, dI)) (cl := vwCl) hx hb hK hP hD (zS0 hS) 0 1 rfl rfl (vp_in_nI (show c0 < m by omega) (by omega)) dJ5_append_3fe6f_41 (fun H10 locs hP hD hS1 => ?_)
    have hz : s.heap.size + 0 ≤ H10.size := Nat.le_trans hz hS1.1
    have hS := zSS hS hS1
    rw [nI_clamp (n := c0) (by omega)] at hP hD
    have hP : va_P (dC, dI) vwCl [(v0, .inl (cB, m, .inl (upd g c0 (vp_nar .byte ((ch : Int32).toInt8.toInt32))))), (h0, .inr (1, [.ref v0, .int 0, ml, .int (nI (c0 + 1))]))] H10 := hP
    have hD : va_D A [(v0, .inl (cB, m, .inl (upd g c0 (vp_nar .byte ((ch : Int32).toInt8.toInt32))))), (h0, .inr (1, [.ref v0, .int 0, ml, .int (nI (c0 + 1))]))] := hD
    refine lv_goto (tgt := 75) hx hb dJ5_append_3fe6f_42 (by decide) ?_
    refine lv_aload_n hx hb dJ5_append_3fe6f_75 rfl (lv_at hl 0 rfl) ?_
    have hP9 := hP.sub (ws' := [(h0, .inr (1, [.ref v0, .int 0, ml, .int (nI (c0 + 1))])), (v0, .inl (cB, m, .inl (upd g c0 (vp_nar .byte ((ch : Int32).toInt8.toInt32)))))]) [1, 0] rfl
    have hD9 := hD.sub (ws' := [(h0, .inr (1, [.ref v0, .int 0, ml, .int (nI (c0 + 1))])), (v0, .inl (cB, m, .inl (upd g c0 (vp_nar .byte ((ch : Int32).toInt8.toInt32)))))]) [1, 0] (by decide) rfl
    exact W.aret hx hb hr (by first | exact Or.inl ⟨_, rfl⟩ | exact Or.inr ⟨_, rfl⟩) (Or.inr ⟨_, rfl⟩) (fun t ht hW => ⟨⟨(), _, rfl, trivial, ⟨_, _, _, ⟨by rw [ht]; exact hP9, va_K.moved hW.alike hK, hD9, by rw [ht]; exact hz⟩, sb_fitU hg hfb, (by omega), (by omega), rfl⟩⟩, hS.F ht⟩) hS.2.2 dJ5_append_3fe6f_76

set_option maxHeartbeats 4000000 in
set_option maxRecDepth 100000 in
theorem k_apC (l : Launch) (dC : Nat → ClassId) (dI : Nat → Nat → Nat) (cI cB cR cO : ClassId) (zk : Nat → Nat) (h0 v0 m c0 : Nat) (g : Nat → Int32) (ml : Value) (ch : Int32) (sz : Nat) (hm : m ≤ 65536) (hcm : c0 ≤ m) (hc0 : c0 ≤ 2000) (hg : sb_Fit g) (hch : ¬ 255 < ch) (hfb : fits .byte (.int (vp_nar .byte ((ch : Int32).toInt8.toInt32))) = true) : Met l yJ4_append_cf468 wsJ4_append_cf468 ({ frames := 5, cells := 1, slots := 65536, locals := 165 }) (va_Pc [.ref h0, .int ch] (zPre (dC, dI) (zT cI cB cR cO) zk [] [(h0, .inr (1, [.ref v0, .int 0, ml, .int (nI c0)])), (v0, .inl (cB, m, .inl g))] sz)) (va_Qr (fun _ : Unit => True) (fun _ ra t => ∃ v3, ∃ m3, ∃ (f3 : Nat → Int32), zEnd (dC, dI) (zT cI cB cR cO) (va_A [(h0, .inr (1, [.ref v0, .int 0, ml, .int (nI c0)])), (v0, .inl (cB, m, .inl g))] sz) [(h0, .inr (1, [.ref v3, .int 0, ml, .int (nI (c0 + 1))])), (v3, .inl (cB, m3, .inl f3))] sz 0 t ∧ sb_Fit f3 ∧ c0 + 1 ≤ m3 ∧ m3 ≤ 65536 ∧ ra = h0) (va_A [(h0, .inr (1, [.ref v0, .int 0, ml, .int (nI c0)])), (v0, .inl (cB, m, .inl g))] sz)) 1 65536 (va_A [(h0, .inr (1, [.ref v0, .int 0, ml, .int (nI c0)])), (v0, .inl (cB, m, .inl g))] sz) := by
  refine Met.ofW (cc := cJ4_append_cf468) (maxL := 2) (ret := (some (.object "java/lang/StringBuilder"))) (by decide) rfl ?_
  intro p e s mY args below meth c s₁ B hml hv
  obtain ⟨rfl, hsz, hP, hK, hD0, hZ⟩ := hv
  have hx := B.exec
  have hb := B.bytes
  have hr := B.returns
  have hts := atoms_spec (ws := wsJ4_append_cf468) B.pre
  have hown : s.vm.findClass RJ4 = some mY.cls := findClass_of_methodNamed B.named
  have hlocks := B.notSynchronized
  subst hsz
  have hD := hD0.self (sz := s.heap.size)
  generalize hAe : va_A [(h0, .inr (1, [.ref v0, .int 0, ml, .int (nI c0)])), (v0, .inl (cB, m, .inl g))] s.heap.size = A at hD hZ ⊢
  have hA : ∀ q : Nat, s.heap.size ≤ q → A q := fun q h => by rw [← hAe]; exact Or.inr h
  have hS : va_S A s.heap s.heap [] := va_S.rf
  have hz : s.heap.size + 0 ≤ s.heap.size := Nat.le_refl _
  have hl := lv_entry ([.ref h0, .int ch]) (n := 2) (Nat.le_of_ble_eq_true rfl)
  rw [lg_entry_eq]
  generalize (lg_sl ([.ref h0, .int ch]) ++ List.replicate (2 - (lg_sl ([.ref h0, .int ch])).length) Slot.unset).toArray = ls at hl ⊢
  have hl : lv_has ls 2 [(0, .ref h0), (1, .int ch)] := hl
  have hP : va_P (dC, dI) vwCl [(h0, .inr (1, [.ref v0, .int 0, ml, .int (nI c0)])), (v0, .inl (cB, m, .inl g))] s.heap := hP
  have hD : va_D A [(h0, .inr (1, [.ref v0, .int 0, ml, .int (nI c0)])), (v0, .inl (cB, m, .inl g))] := hD
  refine lv_aload_n hx hb dJ4_append_cf468_0 rfl (lv_at hl 0 rfl) ?_
  refine lv_iload_n hx hb dJ4_append_cf468_1 rfl (lv_at hl 1 rfl) ?_
  have hPc := hP.sub (ws' := [(h0, .inr (1, [.ref v0, .int 0, ml, .int (nI c0)])), (v0, .inl (cB, m, .inl g))]) [0, 1] rfl
  have hDc := hD.sub (ws' := [(h0, .inr (1, [.ref v0, .int 0, ml, .int (nI c0)])), (v0, .inl (cB, m, .inl g))]) [0, 1] (by decide) rfl
  have hFc := va_free (wc := [(h0, .inr (1, [.ref v0, .int 0, ml, .int (nI c0)])), (v0, .inl (cB, m, .inl g))]) hD hS hA [0, 1] rfl
  have hDv := hDc.self (sz := s.heap.size)
  have hpre := zpre (xs' := []) (av := [.ref h0, .int ch]) hPc hK (hDc.weaken (fun _ _ _ h => h)) hZ hS hFc (fun r hr => by cases hr)
  refine va_callr (va_runSU (As := [.int ch]) (rest := []) (hK.1 1 _ rfl).2 ⟨hx, hb, hml, hown, hts⟩ (k_apC5 l dC dI cI cB cR cO zk h0 v0 m c0 g ml ch s.heap.size hm hcm hc0 hg hch hfb) (va_cwSU 1 hts gJ4_append_cf468_J5_append_3fe6f_s50 rfl rfl rfl (by decide +kernel) ⟨Nat.le_of_ble_eq_true rfl, Nat.le_of_ble_eq_true rfl⟩) ⟨zblind, (zrecv_1 hK hPc (q0 := 0) rfl), hpre⟩ rfl rfl hl.1 rfl (lv_room (Nat.le_of_ble_eq_true rfl)) dJ4_append_cf468_2 ⟨Nat.le_of_ble_eq_true rfl, Nat.le_of_ble_eq_true rfl⟩) hS (fun q _ h => hFc q h) hFc (fun u r2 t H1 locs ht hvm hw hB hz1 hk1 hS => ?_)
  obtain ⟨v3, m4, f5, ⟨hP1, hK1, hD1, hz2⟩, hff5, hlm4, hmm4, her2⟩ := hB
  rw [ht] at hP1 hz2
  have hPD9 := va_join (wr := []) (w1 := [(h0, .inr (1, [.ref v3, .int 0, ml, .int (nI (c0 + 1))])), (v3, .inl (cB, m4, .inl f5))]) hP hD [0, 1] [] rfl rfl (by decide) (by decide) hk1 hFc hP1 hD1
  clear hPc hDc hFc hDv hpre hP hD hP1 hK1 hD1
  obtain ⟨hP, hD⟩ := hPD9
  replace hz : s.heap.size + 0 ≤ H1.size := by omega
  clear hz2
  replace hP : va_P (dC, dI) vwCl [(h0, .inr (1, [.ref v3, .int 0, ml, .int (nI (c0 + 1))])), (v3, .inl (cB, m4, .inl f5))] H1 := hP
  replace hD : va_D A [(h0, .inr (1, [.ref v3, .int 0, ml, .int (nI (c0 + 1))])), (v3, .inl (cB, m4, .inl f5))] := hD
  refine W.widen (k := 1) (n := 65536) (by omega) (by omega) ?_
  refine lv_pop hx hb dJ4_append_cf468_5 rfl ?_
  refine lv_aload_n hx hb dJ4_append_cf468_6 rfl (lv_at hl 0 rfl) ?_
  have hP9 := hP.sub (ws' := [(h0, .inr (1, [.ref v3, .int 0, ml, .int (nI (c0 + 1))])), (v3, .inl (cB, m4, .inl f5))]) [0, 1] rfl
  have hD9 := hD.sub (ws' := [(h0, .inr (1, [.ref v3, .int 0, ml, .int (nI (c0 + 1))])), (v3, .inl (cB, m4, .inl f5))]) [0, 1] (by decide) rfl
  exact W.aret hx hb hr (by first | exact Or.inl ⟨_, rfl⟩ | exact Or.inr ⟨_, rfl⟩) (Or.inr ⟨_, rfl⟩) (fun t ht hW => ⟨⟨(), _, rfl, trivial, ⟨_, _, _, ⟨by rw [ht]; exact hP9, va_K.moved hW.alike hK, hD9, by rw [ht]; exact hz⟩, hff5, hlm4, hmm4, rfl⟩⟩, hS.F ht⟩) hS.2.2 dJ4_append_cf468_7

theorem hi_J5_setLength_d00df_J4 : ∀ w ∈ u_ws RJ4 TJ4 4, w ∈ wsJ5_setLength_d00df := fun w h => List.mem_cons_of_mem _ (zhi_J4 w h)
set_option maxHeartbeats 4000000 in
set_option maxRecDepth 100000 in
theorem k_setL5 (l : Launch) (dC : Nat → ClassId) (dI : Nat → Nat → Nat) (cI cB cR cO : ClassId) (zk : Nat → Nat) (h0 v0 m c0 : Nat) (g : Nat → Int32) (ml : Value) (sz : Nat) (hm : m ≤ 65536) (hc0 : c0 ≤ 65536) : Met l yJ5_setLength_d00df wsJ5_setLength_d00df ({ frames := 1, cells := 0, slots := 0, locals := 22 }) (va_Pc [.ref h0, .int 0] (zPre (dC, dI) (zT cI cB cR cO) zk [] [(h0, .inr (1, [.ref v0, .int 0, ml, .int (nI c0)])), (v0, .inl (cB, m, .inl g))] sz)) (va_Qv (fun _ : Unit => True) (fun _ t => ∃ (ml2 : Value), zEnd (dC, dI) (zT cI cB cR cO) (va_A [(h0, .inr (1, [.ref v0, .int 0, ml, .int (nI c0)])), (v0, .inl (cB, m, .inl g))] sz) [(h0, .inr (1, [.ref v0, .int 0, ml2, .int 0])), (v0, .inl (cB, m, .inl g))] sz 0 t) (va_A [(h0, .inr (1, [.ref v0, .int 0, ml, .int (nI c0)])), (v0, .inl (cB, m, .inl g))] sz)) 0 0 (va_A [(h0, .inr (1, [.ref v0, .int 0, ml, .int (nI c0)])), (v0, .inl (cB, m, .inl g))] sz) := by
  refine Met.ofW (cc := cJ5_setLength_d00df) (maxL := 2) (ret := none) (by decide) rfl ?_
  intro p e s mY args below meth c s₁ B hml hv
  obtain ⟨rfl, hsz, hP, hK, hD0, hZ⟩ := hv
  have hx := B.exec
  have hb := B.bytes
  have hr := B.returns
  have hts := atoms_spec (ws := wsJ5_setLength_d00df) B.pre
  have hown : s.vm.findClass RJ5 = some mY.cls := findClass_of_methodNamed B.named
  have hlocks := B.notSynchronized
  subst hsz
  have hD := hD0.self (sz := s.heap.size)
  generalize hAe : va_A [(h0, .inr (1, [.ref v0, .int 0, ml, .int (nI c0)])), (v0, .inl (cB, m, .inl g))] s.heap.size = A at hD hZ ⊢
  have hA : ∀ q : Nat, s.heap.size ≤ q → A q := fun q h => by rw [← hAe]; exact Or.inr h
  have hS : va_S A s.heap s.heap [] := va_S.rf
  have hz : s.heap.size + 0 ≤ s.heap.size := Nat.le_refl _
  have hl := lv_entry ([.ref h0, .int 0]) (n := 2) (Nat.le_of_ble_eq_true rfl)
  rw [lg_entry_eq]
  generalize (lg_sl ([.ref h0, .int 0]) ++ List.replicate (2 - (lg_sl ([.ref h0, .int 0])).length) Slot.unset).toArray = ls at hl ⊢
  have hl : lv_has ls 2 [(0, .ref h0), (1, .int 0)] := hl
  rcases Nat.eq_zero_or_pos c0 with hzero | hpos
  · have hP : va_P (dC, dI) vwCl [(h0, .inr (1, [.ref v0, .int 0, ml, .int (nI c0)])), (v0, .inl (cB, m, .inl g))] s.heap := hP
    have hD : va_D A [(h0, .inr (1, [.ref v0, .int 0, ml, .int (nI c0)])), (v0, .inl (cB, m, .inl g))] := hD
    refine lv_iload_n hx hb dJ5_setLength_d00df_0 rfl (lv_at hl 1 rfl) ?_
    refine lv_if_ge (tgt := 13) hx hb dJ5_setLength_d00df_1 (by decide) (fun c9 => ?_) (fun c9 => ?_)
    rotate_left
    · exact absurd (by decide) c9
    refine lv_aload_n hx hb dJ5_setLength_d00df_13 rfl (lv_at hl 0 rfl) ?_
    refine lv_iload_n hx hb dJ5_setLength_d00df_14 rfl (lv_at hl 1 rfl) ?_
    have hPc := hP.sub (ws' := [(h0, .inr (1, [.ref v0, .int 0, ml, .int (nI c0)])), (v0, .inl (cB, m, .inl g))]) [0, 1] rfl
    have hDc := hD.sub (ws' := [(h0, .inr (1, [.ref v0, .int 0, ml, .int (nI c0)])), (v0, .inl (cB, m, .inl g))]) [0, 1] (by decide) rfl
    have hFc := va_free (wc := [(h0, .inr (1, [.ref v0, .int 0, ml, .int (nI c0)])), (v0, .inl (cB, m, .inl g))]) hD hS hA [0, 1] rfl
    have hDv := hDc.self (sz := s.heap.size)
    have hpre := zpre (xs' := []) (av := [.ref h0, .int 0]) hPc hK (hDc.weaken (fun _ _ _ h => h)) hZ hS hFc (fun r hr => by cases hr)
    refine va_callv (va_runU (As := [.int 0]) (rest := []) ⟨hx, hb, hml, hown, hts⟩ (k_ens0 l dC dI cI cB cR cO zk h0 v0 m 0 g ml (.int (nI c0)) s.heap.size hm (Nat.zero_le _)) (va_cwU 1 hts gJ5_setLength_d00df_J5_ensureCapacityInternal_d00df_u100J4 rfl rfl rfl rfl (by decide +kernel) ⟨Nat.le_of_ble_eq_true rfl, Nat.le_of_ble_eq_true rfl⟩) ⟨zblind, (zrecv_1 hK hPc (q0 := 0) rfl), hpre⟩ rfl rfl hl.1 rfl (lv_room (Nat.le_of_ble_eq_true rfl)) dJ5_setLength_d00df_15 ⟨Nat.le_of_ble_eq_true rfl, Nat.le_of_ble_eq_true rfl⟩) hS (fun q _ h => hFc q h) hFc (fun u t H1 locs ht hvm hw hB hz1 hk1 hS => ?_)
    obtain ⟨hP1, hK1, hD1, hz2⟩ := hB
    rw [ht] at hP1 hz2
    obtain ⟨hP, hD⟩ := va_join (wr := []) (w1 := [(h0, .inr (1, [.ref v0, .int 0, ml, .int (nI c0)])), (v0, .inl (cB, m, .inl g))]) hP hD [0, 1] [] rfl rfl (by decide) (by decide) hk1 hFc hP1 hD1
    have hz : s.heap.size + 0 ≤ H1.size := by omega
    have hP : va_P (dC, dI) vwCl [(h0, .inr (1, [.ref v0, .int 0, ml, .int (nI c0)])), (v0, .inl (cB, m, .inl g))] H1 := hP
    have hD : va_D A [(h0, .inr (1, [.ref v0, .int 0, ml, .int (nI c0)])), (v0, .inl (cB, m, .inl g))] := hD
    refine W.widen (k := 0) (n := 0) (by omega) (by omega) ?_
    refine lv_aload_n hx hb dJ5_setLength_d00df_18 rfl (lv_at hl 0 rfl) ?_
    refine va_get (D := (dC, dI)) (ci := 1) (v := .int (nI c0)) (C := RJ4) (T := TJ4) (N := 4) hx hb hts hi_J5_setLength_d00df_J4 hown hK hP 0 rfl rfl 3 (by decide) (hts (.fieldLink RJ5 79 "java/lang/AbstractStringBuilder" "count" "I") (List.mem_cons_of_mem _ zw_160)) (fun _ h9 => h9) rfl dJ5_setLength_d00df_19 ?_
    refine lv_iload_n hx hb dJ5_setLength_d00df_22 rfl (lv_at hl 1 rfl) ?_
    refine lv_icmp_ge (tgt := 63) hx hb dJ5_setLength_d00df_23 (by decide) (fun c9 => ?_) (fun c9 => ?_)
    rotate_left
    · exact absurd (nI_pos' (by omega)) c9
    refine lv_aload_n hx hb dJ5_setLength_d00df_63 rfl (lv_at hl 0 rfl) ?_
    refine va_get (D := (dC, dI)) (ci := 1) (v := .int (nI c0)) (C := RJ4) (T := TJ4) (N := 4) hx hb hts hi_J5_setLength_d00df_J4 hown hK hP 0 rfl rfl 3 (by decide) (hts (.fieldLink RJ5 79 "java/lang/AbstractStringBuilder" "count" "I") (List.mem_cons_of_mem _ zw_160)) (fun _ h9 => h9) rfl dJ5_setLength_d00df_64 ?_
    refine lv_iload_n hx hb dJ5_setLength_d00df_67 rfl (lv_at hl 1 rfl) ?_
    refine lv_icmp_le (tgt := 76) hx hb dJ5_setLength_d00df_68 (by decide) (fun c9 => ?_) (fun c9 => ?_)
    rotate_left
    · exact absurd (by rw [hzero]; decide) c9
    refine lv_aload_n hx hb dJ5_setLength_d00df_76 rfl (lv_at hl 0 rfl) ?_
    refine lv_iload_n hx hb dJ5_setLength_d00df_77 rfl (lv_at hl 1 rfl) ?_
    refine va_put (D := (dC, dI)) (ci := 1) (v := .int 0) (ty := .int) (C := RJ4) (T := TJ4) (N := 4) hx hb hts hi_J5_setLength_d00df_J4 tyJ4 tyJ4_ok nmJ4 hown hK hP hD (zS0 hS) 0 rfl rfl 3 (by decide) (hts (.fieldLink RJ5 79 "java/lang/AbstractStringBuilder" "count" "I") (List.mem_cons_of_mem _ zw_160)) (fun _ h9 => h9) rfl (by decide +kernel) rfl rfl (Nat.le_of_ble_eq_true rfl) dJ5_setLength_d00df_78 (fun H3 locs hP hD hS1 => ?_)
    have hz : s.heap.size + 0 ≤ H3.size := Nat.le_trans hz hS1.1
    have hS := zSS hS hS1
    have hP : va_P (dC, dI) vwCl [(h0, .inr (1, [.ref v0, .int 0, ml, .int 0])), (v0, .inl (cB, m, .inl g))] H3 := hP
    have hD : va_D A [(h0, .inr (1, [.ref v0, .int 0, ml, .int 0])), (v0, .inl (cB, m, .inl g))] := hD
    have hP9 := hP.sub (ws' := [(h0, .inr (1, [.ref v0, .int 0, ml, .int 0])), (v0, .inl (cB, m, .inl g))]) [0, 1] rfl
    have hD9 := hD.sub (ws' := [(h0, .inr (1, [.ref v0, .int 0, ml, .int 0])), (v0, .inl (cB, m, .inl g))]) [0, 1] (by decide) rfl
    exact W.vret hx hb hr (fun t ht hW => ⟨⟨(), rfl, trivial, ⟨_, ⟨by rw [ht]; exact hP9, va_K.moved hW.alike hK, hD9, by rw [ht]; exact hz⟩⟩⟩, hS.F ht⟩) hS.2.2 dJ5_setLength_d00df_81
  · have hP : va_P (dC, dI) vwCl [(h0, .inr (1, [.ref v0, .int 0, ml, .int (nI c0)])), (v0, .inl (cB, m, .inl g))] s.heap := hP
    have hD : va_D A [(h0, .inr (1, [.ref v0, .int 0, ml, .int (nI c0)])), (v0, .inl (cB, m, .inl g))] := hD
    refine lv_iload_n hx hb dJ5_setLength_d00df_0 rfl (lv_at hl 1 rfl) ?_
    refine lv_if_ge (tgt := 13) hx hb dJ5_setLength_d00df_1 (by decide) (fun c9 => ?_) (fun c9 => ?_)
    rotate_left
    · exact absurd (by decide) c9
    refine lv_aload_n hx hb dJ5_setLength_d00df_13 rfl (lv_at hl 0 rfl) ?_
    refine lv_iload_n hx hb dJ5_setLength_d00df_14 rfl (lv_at hl 1 rfl) ?_
    have hPc := hP.sub (ws' := [(h0, .inr (1, [.ref v0, .int 0, ml, .int (nI c0)])), (v0, .inl (cB, m, .inl g))]) [0, 1] rfl
    have hDc := hD.sub (ws' := [(h0, .inr (1, [.ref v0, .int 0, ml, .int (nI c0)])), (v0, .inl (cB, m, .inl g))]) [0, 1] (by decide) rfl
    have hFc := va_free (wc := [(h0, .inr (1, [.ref v0, .int 0, ml, .int (nI c0)])), (v0, .inl (cB, m, .inl g))]) hD hS hA [0, 1] rfl
    have hDv := hDc.self (sz := s.heap.size)
    have hpre := zpre (xs' := []) (av := [.ref h0, .int 0]) hPc hK (hDc.weaken (fun _ _ _ h => h)) hZ hS hFc (fun r hr => by cases hr)
    refine va_callv (va_runU (As := [.int 0]) (rest := []) ⟨hx, hb, hml, hown, hts⟩ (k_ens0 l dC dI cI cB cR cO zk h0 v0 m 0 g ml (.int (nI c0)) s.heap.size hm (Nat.zero_le _)) (va_cwU 1 hts gJ5_setLength_d00df_J5_ensureCapacityInternal_d00df_u100J4 rfl rfl rfl rfl (by decide +kernel) ⟨Nat.le_of_ble_eq_true rfl, Nat.le_of_ble_eq_true rfl⟩) ⟨zblind, (zrecv_1 hK hPc (q0 := 0) rfl), hpre⟩ rfl rfl hl.1 rfl (lv_room (Nat.le_of_ble_eq_true rfl)) dJ5_setLength_d00df_15 ⟨Nat.le_of_ble_eq_true rfl, Nat.le_of_ble_eq_true rfl⟩) hS (fun q _ h => hFc q h) hFc (fun u t H1 locs ht hvm hw hB hz1 hk1 hS => ?_)
    obtain ⟨hP1, hK1, hD1, hz2⟩ := hB
    rw [ht] at hP1 hz2
    obtain ⟨hP, hD⟩ := va_join (wr := []) (w1 := [(h0, .inr (1, [.ref v0, .int 0, ml, .int (nI c0)])), (v0, .inl (cB, m, .inl g))]) hP hD [0, 1] [] rfl rfl (by decide) (by decide) hk1 hFc hP1 hD1
    have hz : s.heap.size + 0 ≤ H1.size := by omega
    have hP : va_P (dC, dI) vwCl [(h0, .inr (1, [.ref v0, .int 0, ml, .int (nI c0)])), (v0, .inl (cB, m, .inl g))] H1 := hP
    have hD : va_D A [(h0, .inr (1, [.ref v0, .int 0, ml, .int (nI c0)])), (v0, .inl (cB, m, .inl g))] := hD
    refine W.widen (k := 0) (n := 0) (by omega) (by omega) ?_
    refine lv_aload_n hx hb dJ5_setLength_d00df_18 rfl (lv_at hl 0 rfl) ?_
    refine va_get (D := (dC, dI)) (ci := 1) (v := .int (nI c0)) (C := RJ4) (T := TJ4) (N := 4) hx hb hts hi_J5_setLength_d00df_J4 hown hK hP 0 rfl rfl 3 (by decide) (hts (.fieldLink RJ5 79 "java/lang/AbstractStringBuilder" "count" "I") (List.mem_cons_of_mem _ zw_160)) (fun _ h9 => h9) rfl dJ5_setLength_d00df_19 ?_
    refine lv_iload_n hx hb dJ5_setLength_d00df_22 rfl (lv_at hl 1 rfl) ?_
    refine lv_icmp_ge (tgt := 63) hx hb dJ5_setLength_d00df_23 (by decide) (fun c9 => ?_) (fun c9 => ?_)
    rotate_left
    · exact absurd (nI_pos' (by omega)) c9
    refine lv_aload_n hx hb dJ5_setLength_d00df_63 rfl (lv_at hl 0 rfl) ?_
    refine va_get (D := (dC, dI)) (ci := 1) (v := .int (nI c0)) (C := RJ4) (T := TJ4) (N := 4) hx hb hts hi_J5_setLength_d00df_J4 hown hK hP 0 rfl rfl 3 (by decide) (hts (.fieldLink RJ5 79 "java/lang/AbstractStringBuilder" "count" "I") (List.mem_cons_of_mem _ zw_160)) (fun _ h9 => h9) rfl dJ5_setLength_d00df_64 ?_
    refine lv_iload_n hx hb dJ5_setLength_d00df_67 rfl (lv_at hl 1 rfl) ?_
    refine lv_icmp_le (tgt := 76) hx hb dJ5_setLength_d00df_68 (by decide) (fun c9 => ?_) (fun c9 => ?_)
    · exact absurd c9 (nI_nge0 hpos (by omega))
    refine lv_aload_n hx hb dJ5_setLength_d00df_71 rfl (lv_at hl 0 rfl) ?_
    refine lv_iconst (v := 1) hx hb dJ5_setLength_d00df_72 (by decide) ?_
    refine va_put (D := (dC, dI)) (ci := 1) (v := .int 1) (ty := .boolean) (C := RJ4) (T := TJ4) (N := 4) hx hb hts hi_J5_setLength_d00df_J4 tyJ4 tyJ4_ok nmJ4 hown hK hP hD (zS0 hS) 0 rfl rfl 2 (by decide) (hts (.fieldLink RJ5 73 "java/lang/AbstractStringBuilder" "maybeLatin1" "Z") (List.mem_cons_of_mem _ zw_158)) (fun _ h9 => h9) rfl (by decide +kernel) rfl rfl (Nat.le_of_ble_eq_true rfl) dJ5_setLength_d00df_73 (fun H3 locs hP hD hS1 => ?_)
    have hz : s.heap.size + 0 ≤ H3.size := Nat.le_trans hz hS1.1
    have hS := zSS hS hS1
    have hP : va_P (dC, dI) vwCl [(h0, .inr (1, [.ref v0, .int 0, .int 1, .int (nI c0)])), (v0, .inl (cB, m, .inl g))] H3 := hP
    have hD : va_D A [(h0, .inr (1, [.ref v0, .int 0, .int 1, .int (nI c0)])), (v0, .inl (cB, m, .inl g))] := hD
    refine lv_aload_n hx hb dJ5_setLength_d00df_76 rfl (lv_at hl 0 rfl) ?_
    refine lv_iload_n hx hb dJ5_setLength_d00df_77 rfl (lv_at hl 1 rfl) ?_
    refine va_put (D := (dC, dI)) (ci := 1) (v := .int 0) (ty := .int) (C := RJ4) (T := TJ4) (N := 4) hx hb hts hi_J5_setLength_d00df_J4 tyJ4 tyJ4_ok nmJ4 hown hK hP hD (zS0 hS) 0 rfl rfl 3 (by decide) (hts (.fieldLink RJ5 79 "java/lang/AbstractStringBuilder" "count" "I") (List.mem_cons_of_mem _ zw_160)) (fun _ h9 => h9) rfl (by decide +kernel) rfl rfl (Nat.le_of_ble_eq_true rfl) dJ5_setLength_d00df_78 (fun H4 locs hP hD hS1 => ?_)
    have hz : s.heap.size + 0 ≤ H4.size := Nat.le_trans hz hS1.1
    have hS := zSS hS hS1
    have hP : va_P (dC, dI) vwCl [(h0, .inr (1, [.ref v0, .int 0, .int 1, .int 0])), (v0, .inl (cB, m, .inl g))] H4 := hP
    have hD : va_D A [(h0, .inr (1, [.ref v0, .int 0, .int 1, .int 0])), (v0, .inl (cB, m, .inl g))] := hD
    have hP9 := hP.sub (ws' := [(h0, .inr (1, [.ref v0, .int 0, .int 1, .int 0])), (v0, .inl (cB, m, .inl g))]) [0, 1] rfl
    have hD9 := hD.sub (ws' := [(h0, .inr (1, [.ref v0, .int 0, .int 1, .int 0])), (v0, .inl (cB, m, .inl g))]) [0, 1] (by decide) rfl
    exact W.vret hx hb hr (fun t ht hW => ⟨⟨(), rfl, trivial, ⟨_, ⟨by rw [ht]; exact hP9, va_K.moved hW.alike hK, hD9, by rw [ht]; exact hz⟩⟩⟩, hS.F ht⟩) hS.2.2 dJ5_setLength_d00df_81

set_option maxHeartbeats 4000000 in
set_option maxRecDepth 100000 in
theorem k_setL (l : Launch) (dC : Nat → ClassId) (dI : Nat → Nat → Nat) (cI cB cR cO : ClassId) (zk : Nat → Nat) (h0 v0 m c0 : Nat) (g : Nat → Int32) (ml : Value) (sz : Nat) (hm : m ≤ 65536) (hc0 : c0 ≤ 65536) : Met l yJ4_setLength_d00df wsJ4_setLength_d00df ({ frames := 2, cells := 0, slots := 0, locals := 43 }) (va_Pc [.ref h0, .int 0] (zPre (dC, dI) (zT cI cB cR cO) zk [] [(h0, .inr (1, [.ref v0, .int 0, ml, .int (nI c0)])), (v0, .inl (cB, m, .inl g))] sz)) (va_Qv (fun _ : Unit => True) (fun _ t => ∃ (ml2 : Value), zEnd (dC, dI) (zT cI cB cR cO) (va_A [(h0, .inr (1, [.ref v0, .int 0, ml, .int (nI c0)])), (v0, .inl (cB, m, .inl g))] sz) [(h0, .inr (1, [.ref v0, .int 0, ml2, .int 0])), (v0, .inl (cB, m, .inl g))] sz 0 t) (va_A [(h0, .inr (1, [.ref v0, .int 0, ml, .int (nI c0)])), (v0, .inl (cB, m, .inl g))] sz)) 0 0 (va_A [(h0, .inr (1, [.ref v0, .int 0, ml, .int (nI c0)])), (v0, .inl (cB, m, .inl g))] sz) := by
  refine Met.ofW (cc := cJ4_setLength_d00df) (maxL := 2) (ret := none) (by decide) rfl ?_
  intro p e s mY args below meth c s₁ B hml hv
  obtain ⟨rfl, hsz, hP, hK, hD0, hZ⟩ := hv
  have hx := B.exec
  have hb := B.bytes
  have hr := B.returns
  have hts := atoms_spec (ws := wsJ4_setLength_d00df) B.pre
  have hown : s.vm.findClass RJ4 = some mY.cls := findClass_of_methodNamed B.named
  have hlocks := B.notSynchronized
  subst hsz
  have hD := hD0.self (sz := s.heap.size)
  generalize hAe : va_A [(h0, .inr (1, [.ref v0, .int 0, ml, .int (nI c0)])), (v0, .inl (cB, m, .inl g))] s.heap.size = A at hD hZ ⊢
  have hA : ∀ q : Nat, s.heap.size ≤ q → A q := fun q h => by rw [← hAe]; exact Or.inr h
  have hS : va_S A s.heap s.heap [] := va_S.rf
  have hz : s.heap.size + 0 ≤ s.heap.size := Nat.le_refl _
  have hl := lv_entry ([.ref h0, .int 0]) (n := 2) (Nat.le_of_ble_eq_true rfl)
  rw [lg_entry_eq]
  generalize (lg_sl ([.ref h0, .int 0]) ++ List.replicate (2 - (lg_sl ([.ref h0, .int 0])).length) Slot.unset).toArray = ls at hl ⊢
  have hl : lv_has ls 2 [(0, .ref h0), (1, .int 0)] := hl
  have hP : va_P (dC, dI) vwCl [(h0, .inr (1, [.ref v0, .int 0, ml, .int (nI c0)])), (v0, .inl (cB, m, .inl g))] s.heap := hP
  have hD : va_D A [(h0, .inr (1, [.ref v0, .int 0, ml, .int (nI c0)])), (v0, .inl (cB, m, .inl g))] := hD
  refine lv_aload_n hx hb dJ4_setLength_d00df_0 rfl (lv_at hl 0 rfl) ?_
  refine lv_iload_n hx hb dJ4_setLength_d00df_1 rfl (lv_at hl 1 rfl) ?_
  have hPc := hP.sub (ws' := [(h0, .inr (1, [.ref v0, .int 0, ml, .int (nI c0)])), (v0, .inl (cB, m, .inl g))]) [0, 1] rfl
  have hDc := hD.sub (ws' := [(h0, .inr (1, [.ref v0, .int 0, ml, .int (nI c0)])), (v0, .inl (cB, m, .inl g))]) [0, 1] (by decide) rfl
  have hFc := va_free (wc := [(h0, .inr (1, [.ref v0, .int 0, ml, .int (nI c0)])), (v0, .inl (cB, m, .inl g))]) hD hS hA [0, 1] rfl
  have hDv := hDc.self (sz := s.heap.size)
  have hpre := zpre (xs' := []) (av := [.ref h0, .int 0]) hPc hK (hDc.weaken (fun _ _ _ h => h)) hZ hS hFc (fun r hr => by cases hr)
  refine va_callv (va_runSU (As := [.int 0]) (rest := []) (hK.1 1 _ rfl).2 ⟨hx, hb, hml, hown, hts⟩ (k_setL5 l dC dI cI cB cR cO zk h0 v0 m c0 g ml s.heap.size hm hc0) (va_cwSU 1 hts gJ4_setLength_d00df_J5_setLength_d00df_s333 rfl rfl rfl (by decide +kernel) ⟨Nat.le_of_ble_eq_true rfl, Nat.le_of_ble_eq_true rfl⟩) ⟨zblind, (zrecv_1 hK hPc (q0 := 0) rfl), hpre⟩ rfl rfl hl.1 rfl (lv_room (Nat.le_of_ble_eq_true rfl)) dJ4_setLength_d00df_2 ⟨Nat.le_of_ble_eq_true rfl, Nat.le_of_ble_eq_true rfl⟩) hS (fun q _ h => hFc q h) hFc (fun u t H1 locs ht hvm hw hB hz1 hk1 hS => ?_)
  obtain ⟨ml2, ⟨hP1, hK1, hD1, hz2⟩⟩ := hB
  rw [ht] at hP1 hz2
  have hPD9 := va_join (wr := []) (w1 := [(h0, .inr (1, [.ref v0, .int 0, ml2, .int 0])), (v0, .inl (cB, m, .inl g))]) hP hD [0, 1] [] rfl rfl (by decide) (by decide) hk1 hFc hP1 hD1
  clear hPc hDc hFc hDv hpre hP hD hP1 hK1 hD1
  obtain ⟨hP, hD⟩ := hPD9
  replace hz : s.heap.size + 0 ≤ H1.size := by omega
  clear hz2
  replace hP : va_P (dC, dI) vwCl [(h0, .inr (1, [.ref v0, .int 0, ml2, .int 0])), (v0, .inl (cB, m, .inl g))] H1 := hP
  replace hD : va_D A [(h0, .inr (1, [.ref v0, .int 0, ml2, .int 0])), (v0, .inl (cB, m, .inl g))] := hD
  refine W.widen (k := 0) (n := 0) (by omega) (by omega) ?_
  have hP9 := hP.sub (ws' := [(h0, .inr (1, [.ref v0, .int 0, ml2, .int 0])), (v0, .inl (cB, m, .inl g))]) [0, 1] rfl
  have hD9 := hD.sub (ws' := [(h0, .inr (1, [.ref v0, .int 0, ml2, .int 0])), (v0, .inl (cB, m, .inl g))]) [0, 1] (by decide) rfl
  exact W.vret hx hb hr (fun t ht hW => ⟨⟨(), rfl, trivial, ⟨_, ⟨by rw [ht]; exact hP9, va_K.moved hW.alike hK, hD9, by rw [ht]; exact hz⟩⟩⟩, hS.F ht⟩) hS.2.2 dJ4_setLength_d00df_5
