theorem zhA {s : State} : ∀ a : Nat, a < s.heap.size → ¬ (fun q => s.heap.size ≤ q) a := fun a h h2 => absurd h2 (Nat.not_le.mpr h)
theorem zstrR {args : Array Value} {s : State} {own tx : String} {k : Nat} (h1 : (Cond.stringRef own k tx).before args s = true) (h2 : (Cond.exactly (.string own k) "java/lang/String").before args s = true) : ∃ a : Nat, vk_R own k tx a s := by
  obtain ⟨a, c, cell, kk, he, -⟩ := Cond.exactly_spec h2
  exact ⟨a, vk_R.of h1 he⟩
theorem zty_int {args : Array Value} {s : State} (h : (Cond.arrayClass .int).before args s = true) : ∃ c : ClassId, ArrOfT s c .int ∧ va_RA s c .int := by
  obtain ⟨c, k, comp, h1, h2, h3⟩ := Cond.arrayClass_spec h
  exact ⟨c, fun _ _ => ⟨fun _ h => VmData.noConfusion h, k, h2, comp, h3⟩, h1⟩
theorem zty_byte {args : Array Value} {s : State} (h : (Cond.arrayClass .byte).before args s = true) : ∃ c : ClassId, ArrOfT s c .byte ∧ va_RA s c .byte := by
  obtain ⟨c, k, comp, h1, h2, h3⟩ := Cond.arrayClass_spec h
  exact ⟨c, fun _ _ => ⟨fun _ h => VmData.noConfusion h, k, h2, comp, h3⟩, h1⟩
theorem zty_obj {args : Array Value} {s : State} {C : String} (h : (Cond.arrayOver (.object C)).before args s = true) : ∃ c : ClassId, ArrOfT s c (.object C) ∧ va_RA s c (.object C) := by
  obtain ⟨comp, c, k, h1, -, h3, h4, h5⟩ := Cond.arrayOver_spec h
  exact ⟨c, fun _ _ => ⟨fun _ h => VmData.noConfusion h, k, h3, comp, h4⟩, k, comp, h3, h4, h1, h5⟩
theorem zkn {args : Array Value} {s : State} (hts : ∀ w ∈ lw_tbl, w.before args s = true) (C : String) (T : u_T) (N n : Nat) (h1 : ∀ w ∈ u_ws C T N, w ∈ zbig) (h2 : (Cond.instantiable C n) ∈ lw_tbl) : ∃ r : ClassId × (Nat → Nat), u_Kn s C T N r.1 r.2 := by
  obtain ⟨a, b, h⟩ := u_known (ws := lw_tbl) hts (fun w h => (List.mem_filter.mp (h1 w h)).1) (hts _ h2)
  exact ⟨(a, b), h⟩
theorem zkn_one {s : State} {q0 : vw_C} {c : Nat} (hc : vwCl[c]? = some q0) (h : ∃ r : ClassId × (Nat → Nat), u_Kn s q0.1 q0.2.1 q0.2.2 r.1 r.2) : ∃ r : ClassId × (Nat → Nat), ∀ q : vw_C, vwCl[c]? = some q → u_Kn s q.1 q.2.1 q.2.2 r.1 r.2 := by
  obtain ⟨r, h⟩ := h
  refine ⟨r, fun q hq => ?_⟩
  have e : q0 = q := Option.some.inj (hc.symm.trans hq)
  rw [← e]
  exact h
set_option maxRecDepth 100000 in
theorem zkn_all {args : Array Value} {s : State} (hts : ∀ w ∈ lw_tbl, w.before args s = true) : ∀ c : Nat, ∃ r : ClassId × (Nat → Nat), ∀ q : vw_C, vwCl[c]? = some q → u_Kn s q.1 q.2.1 q.2.2 r.1 r.2
  | 0 => zkn_one (q0 := (RJ0, TJ0, 4)) rfl (zkn hts RJ0 TJ0 4 4 zhi_J0 (List.mem_of_getElem? (i := 392) (by decide +kernel)))
  | 1 => zkn_one (q0 := (RJ4, TJ4, 4)) rfl (zkn hts RJ4 TJ4 4 4 zhi_J4 (List.mem_of_getElem? (i := 133) (by decide +kernel)))
  | 2 => zkn_one (q0 := (RJx00060, TJx00060, 6)) rfl (zkn hts RJx00060 TJx00060 6 6 zhi_Jx00060 (List.mem_of_getElem? (i := 545) (by decide +kernel)))
  | 3 => zkn_one (q0 := (RJx7c733, TJx7c733, 6)) rfl (zkn hts RJx7c733 TJx7c733 6 6 zhi_Jx7c733 (List.mem_of_getElem? (i := 235) (by decide +kernel)))
  | 4 => zkn_one (q0 := (RJx4a65c, TJx4a65c, 3)) rfl (zkn hts RJx4a65c TJx4a65c 3 3 zhi_Jx4a65c (List.mem_of_getElem? (i := 74) (by decide +kernel)))
  | 5 => zkn_one (q0 := (RX0, TX0, 6)) rfl (zkn hts RX0 TX0 6 6 zhi_X0 (List.mem_of_getElem? (i := 100) (by decide +kernel)))
  | 6 => zkn_one (q0 := (RX1, TX1, 8)) rfl (zkn hts RX1 TX1 8 8 zhi_X1 (List.mem_of_getElem? (i := 66) (by decide +kernel)))
  | 7 => zkn_one (q0 := (RX2, TX2, 2)) rfl (zkn hts RX2 TX2 2 2 zhi_X2 (List.mem_of_getElem? (i := 765) (by decide +kernel)))
  | 8 => zkn_one (q0 := (RX3, TX3, 3)) rfl (zkn hts RX3 TX3 3 3 zhi_X3 (List.mem_of_getElem? (i := 1164) (by decide +kernel)))
  | 9 => zkn_one (q0 := (RX4, TX4, 5)) rfl (zkn hts RX4 TX4 5 5 zhi_X4 (List.mem_of_getElem? (i := 1120) (by decide +kernel)))
  | c + 10 => ⟨(0, fun _ => 0), fun q hq => by
      rw [List.getElem?_eq_none (show vwCl.length ≤ c + 10 from Nat.le_add_left 10 c)] at hq
      cases hq⟩
theorem ztys {s : State} {cI cB cR cO : ClassId} (hI : ArrOfT s cI .int ∧ va_RA s cI .int) (hB : ArrOfT s cB .byte ∧ va_RA s cB .byte) (hR : ArrOfT s cR (.object "Deeprows$Row") ∧ va_RA s cR (.object "Deeprows$Row")) (hO : ArrOfT s cO (.object "java/lang/Object") ∧ va_RA s cO (.object "java/lang/Object")) : ∀ (k : Nat) (q : ClassId × FieldType), (zT cI cB cR cO)[k]? = some q → ArrOfT s q.1 q.2 ∧ va_RA s q.1 q.2 := by
  intro k q hq
  match k, hq with
  | 0, hq => rw [← (Option.some.inj hq : (cI, FieldType.int) = q)]; exact hI
  | 1, hq => rw [← (Option.some.inj hq : (cB, FieldType.byte) = q)]; exact hB
  | 2, hq => rw [← (Option.some.inj hq : (cR, FieldType.object "Deeprows$Row") = q)]; exact hR
  | 3, hq => rw [← (Option.some.inj hq : (cO, FieldType.object "java/lang/Object") = q)]; exact hO
  | k + 4, hq =>
    rw [List.getElem?_eq_none (show (zT cI cB cR cO).length ≤ k + 4 from Nat.le_add_left 4 k)] at hq
    cases hq
/-- what the premises give: the classes, the statics, the texts -/
theorem zgive {s : State} {b : Nat} (hts : ∀ w ∈ lw_tbl, w.before #[Value.ref b] s = true) (hgv : (Jvm.Cond.and given_1 narrow_1).before #[Value.ref b] s = true) : ∃ (D : va_G) (cI cB cR cO : ClassId) (zk : Nat → Nat), va_K D vwCl (zT cI cB cR cO) s ∧ zR zk [] (fun q => s.heap.size ≤ q) s s.heap := by
  have hs := flat_of_before _ hgv
  have n1 : (Cond.arrayOf (.static "java/util/ArrayList" "DEFAULTCAPACITY_EMPTY_ELEMENTDATA" "[Ljava/lang/Object;") (.object "java/lang/Object")).before #[Value.ref b] s = true := hs _ (by decide +kernel)
  have n2 : (Cond.eq (.length (.static "java/util/ArrayList" "DEFAULTCAPACITY_EMPTY_ELEMENTDATA" "[Ljava/lang/Object;")) (.int 0)).before #[Value.ref b] s = true := hs _ (by decide +kernel)
  have n3 : (Cond.eq (.static "java/lang/String" "COMPACT_STRINGS" "Z") (.int 1)).before #[Value.ref b] s = true := hs _ (by decide +kernel)
  have n4 : (Cond.isRef (.static "java/lang/Throwable" "UNASSIGNED_STACK" "[Ljava/lang/StackTraceElement;")).before #[Value.ref b] s = true := hs _ (by decide +kernel)
  have n5 : (Cond.isRef (.static "java/lang/Throwable" "SUPPRESSED_SENTINEL" "Ljava/util/List;")).before #[Value.ref b] s = true := hs _ (by decide +kernel)
  have r1 : (Cond.exactly (.string "Deeprows" 263) "java/lang/String").before #[Value.ref b] s = true := hs _ (by decide +kernel)
  have r2 : (Cond.exactly (.string "Deeprows" 50) "java/lang/String").before #[Value.ref b] s = true := hs _ (by decide +kernel)
  have r3 : (Cond.exactly (.string "Deeprows" 270) "java/lang/String").before #[Value.ref b] s = true := hs _ (by decide +kernel)
  have r4 : (Cond.exactly (.string "Deeprows" 75) "java/lang/String").before #[Value.ref b] s = true := hs _ (by decide +kernel)
  have r5 : (Cond.exactly (.string "Deeprows" 231) "java/lang/String").before #[Value.ref b] s = true := hs _ (by decide +kernel)
  have r6 : (Cond.exactly (.string "DeeprowsModel" 168) "java/lang/String").before #[Value.ref b] s = true := hs _ (by decide +kernel)
  obtain ⟨a1, v1⟩ := zstrR (tx := "no such row") (hts _ (List.mem_of_getElem? (i := 743) (by decide +kernel))) r1
  obtain ⟨a2, v2⟩ := zstrR (tx := "no such kind") (hts _ (List.mem_of_getElem? (i := 786) (by decide +kernel))) r2
  obtain ⟨a3, v3⟩ := zstrR (tx := "no such length") (hts _ (List.mem_of_getElem? (i := 790) (by decide +kernel))) r3
  obtain ⟨a4, v4⟩ := zstrR (tx := "there is no row") (hts _ (List.mem_of_getElem? (i := 871) (by decide +kernel))) r4
  obtain ⟨a5, v5⟩ := zstrR (tx := "nothing to tell of that") (hts _ (List.mem_of_getElem? (i := 724) (by decide +kernel))) r5
  obtain ⟨a6, v6⟩ := zstrR (tx := "") (hts _ (List.mem_of_getElem? (i := 1380) (by decide +kernel))) r6
  obtain ⟨f, hf⟩ := Classical.axiomOfChoice (zkn_all hts)
  obtain ⟨cI, hI⟩ := zty_int (hts _ (List.mem_of_getElem? (i := 131) (by decide +kernel)))
  obtain ⟨cB, hB⟩ := zty_byte (hts _ (List.mem_of_getElem? (i := 164) (by decide +kernel)))
  have oR : (Cond.arrayOver (.object "Deeprows$Row")).before #[Value.ref b] s = true := (hts _ (List.mem_of_getElem? (i := 106) (by decide +kernel)))
  have oO : (Cond.arrayOver (.object "java/lang/Object")).before #[Value.ref b] s = true := (hts _ (List.mem_of_getElem? (i := 856) (by decide +kernel)))
  obtain ⟨cR, hR⟩ := zty_obj oR
  obtain ⟨cO, hO⟩ := zty_obj oO
  obtain ⟨t0, e0, hT⟩ := va_Tof (N := 0) (f := fun _ => .null) (A := fun q => s.heap.size ≤ q) (by decide) n1 (va_eqt n2) (fun j hj => absurd hj (Nat.not_lt_zero j)) zhA
  refine ⟨(fun c => (f c).1, fun c => (f c).2), cI, cB, cR, cO, (fun i => [t0, a1, a2, a3, a4, a5, a6].getD i 0), ⟨fun c q hq => hf c q hq, ztys hI hB hR hO⟩, ⟨?_, ?_, ?_, hT, ?_, ?_, ?_, ?_, va_AO.of oR, va_AO.of oO, ?_⟩, fun r hr => by cases hr⟩
  · exact va_Zof (hts _ (List.mem_of_getElem? (i := 142) (by decide +kernel))) (hts _ (List.mem_of_getElem? (i := 42) (by decide +kernel))) (va_eqt n3) zhA
  · exact vx_Zqof (hts _ (List.mem_of_getElem? (i := 450) (by decide +kernel))) (hts _ (List.mem_of_getElem? (i := 46) (by decide +kernel))) n4 zhA
  · exact va_Zof (hts _ (List.mem_of_getElem? (i := 86) (by decide +kernel))) (hts _ (List.mem_of_getElem? (i := 38) (by decide +kernel))) e0 zhA
  · exact vx_Zqof (hts _ (List.mem_of_getElem? (i := 452) (by decide +kernel))) (hts _ (List.mem_of_getElem? (i := 46) (by decide +kernel))) n5 zhA
  · unfold zRefs
    exact (List.forall_mem_cons.mpr ⟨v1, (List.forall_mem_cons.mpr ⟨v2, (List.forall_mem_cons.mpr ⟨v3, (List.forall_mem_cons.mpr ⟨v4, (List.forall_mem_cons.mpr ⟨v5, (List.forall_mem_cons.mpr ⟨v6, (fun _ h => absurd h List.not_mem_nil)⟩)⟩)⟩)⟩)⟩)⟩)
  · unfold zCast
    exact (List.forall_mem_cons.mpr ⟨va_Nw.of rfl (hts _ (List.mem_of_getElem? (i := 736) (by decide +kernel))), (List.forall_mem_cons.mpr ⟨va_Nw.of rfl (hts _ (List.mem_of_getElem? (i := 425) (by decide +kernel))), (List.forall_mem_cons.mpr ⟨va_Nw.of rfl (hts _ (List.mem_of_getElem? (i := 797) (by decide +kernel))), (List.forall_mem_cons.mpr ⟨va_Nw.of rfl (hts _ (List.mem_of_getElem? (i := 1486) (by decide +kernel))), (List.forall_mem_cons.mpr ⟨va_Nw.of rfl (hts _ (List.mem_of_getElem? (i := 1495) (by decide +kernel))), (fun _ h => absurd h List.not_mem_nil)⟩)⟩)⟩)⟩)⟩)
  · unfold zNest
    exact (List.forall_mem_cons.mpr ⟨va_Nw.of rfl (hts _ (List.mem_of_getElem? (i := 112) (by decide +kernel))), (List.forall_mem_cons.mpr ⟨va_Nw.of rfl (hts _ (List.mem_of_getElem? (i := 114) (by decide +kernel))), (List.forall_mem_cons.mpr ⟨va_Nw.of rfl (hts _ (List.mem_of_getElem? (i := 116) (by decide +kernel))), (List.forall_mem_cons.mpr ⟨va_Nw.of rfl (hts _ (List.mem_of_getElem? (i := 110) (by decide +kernel))), (List.forall_mem_cons.mpr ⟨va_Nw.of rfl (hts _ (List.mem_of_getElem? (i := 108) (by decide +kernel))), (List.forall_mem_cons.mpr ⟨va_Nw.of rfl (hts _ (List.mem_of_getElem? (i := 117) (by decide +kernel))), (List.forall_mem_cons.mpr ⟨va_Nw.of rfl (hts _ (List.mem_of_getElem? (i := 770) (by decide +kernel))), (List.forall_mem_cons.mpr ⟨va_Nw.of rfl (hts _ (List.mem_of_getElem? (i := 771) (by decide +kernel))), (fun _ h => absurd h List.not_mem_nil)⟩)⟩)⟩)⟩)⟩)⟩)⟩)⟩)
  · unfold zDecl
    exact (List.forall_mem_cons.mpr ⟨va_Nw.of rfl (hts _ (List.mem_of_getElem? (i := 427) (by decide +kernel))), (List.forall_mem_cons.mpr ⟨va_Nw.of rfl (hts _ (List.mem_of_getElem? (i := 429) (by decide +kernel))), (List.forall_mem_cons.mpr ⟨va_Nw.of rfl (hts _ (List.mem_of_getElem? (i := 431) (by decide +kernel))), (fun _ h => absurd h List.not_mem_nil)⟩)⟩)⟩)
/-- from the entry, for every script of at most 5 ints, the law comes to its end with true -/
theorem whole_start {p : Program} {e : Env} {s : State} {m : MethodId} {below : List Frame} {meth : Method} {c : Code} (l : Launch) (hflags : l.flags = flags0) {b L : Nat} {xs : Nat → Int32} (hL : L ≤ 5) (C0 : lw_At p s m meth c b L xs) : W p l e room_1 s m #[Value.ref b] below meth c s.heap [] 0 0 (lw_Z below #[Value.ref b] s) (entryFrame m ([Value.ref b] : List Value).toArray 7) := by
  obtain ⟨hx, hb, hr, hml, hown, hts, hX, hbl, hlocks, hgv⟩ := C0
  have hfl : l.stackTraces = false := by
    unfold Launch.stackTraces
    rw [hflags]
    decide +kernel
  obtain ⟨⟨dC, dI⟩, cI, cB, cR, cO, zk, hK, hZ0⟩ := zgive hts hgv
  have hNI : va_Nw (.methodLinkNest "DeeprowsLaw" 121 ⟨"DeeprowsLaw$Out", "<init>", "()V"⟩ "DeeprowsLaw") s := va_Nw.of rfl (hts _ (List.mem_of_getElem? (i := 766) (by decide +kernel)))
  have A0 : zl_At p s m meth c b L xs := ⟨hx, hb, hr, hml, hown, hts, hX, hbl, hlocks, hNI⟩
  rcases (show L = 0 ∨ L = 1 ∨ L = 2 ∨ L = 3 ∨ L = 4 ∨ L = 5 by omega) with rfl | rfl | rfl | rfl | rfl | rfl
  · exact zl_few0 l dC dI cI cB cR cO zk b xs hfl A0 hZ0 hK
  · exact zl_few1 l dC dI cI cB cR cO zk b xs hfl A0 hZ0 hK
  · exact zl_few2 l dC dI cI cB cR cO zk b xs hfl A0 hZ0 hK
  · exact zl_few3 l dC dI cI cB cR cO zk b xs hfl A0 hZ0 hK
  · exact zl_few4 l dC dI cI cB cR cO zk b xs hfl A0 hZ0 hK
  · exact zl_five l dC dI cI cB cR cO zk b xs hfl A0 hZ0 hK
