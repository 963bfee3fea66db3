-- what the classes, the statics and the constant texts are at that start
abbrev zAs : Nat → Prop := fun q => zs1.heap.size ≤ q
theorem zAs_not : ∀ a : Nat, a < zs1.heap.size → ¬ zAs a := fun _ h h' => absurd h' (Nat.not_le.mpr h)
theorem zX0 : va_X 0 1835 zscr zs1 zs1.heap := ⟨{ cls := 45, slots := zcells, vm := .none }, rfl, ⟨fun _ h => VmData.noConfusion h, _, rfl, _, rfl⟩, fun h => VmData.noConfusion h, zcells_size, zcells_get⟩
theorem zarrT {c comp : ClassId} {ty : FieldType} {k : Class} (h1 : zs1.vm.classes[c]? = some k) (h2 : k.kind = .array comp ty) : ArrOfT zs1 c ty := fun _ _ => ⟨fun _ h => VmData.noConfusion h, k, h1, comp, h2⟩
theorem zkn (C : String) (T : u_T) (N n : Nat) (h1 : ((u_ws C T N).all fun w => w.before zar zs1) = true) (h2 : (Cond.instantiable C n).before zar zs1 = true) : ∃ r : ClassId × (Nat → Nat), u_Kn zs1 C T N r.1 r.2 := by
  obtain ⟨a, b, h⟩ := u_known (ws := u_ws C T N) (fun w hw => List.all_eq_true.mp h1 w hw) (fun w hw => hw) h2
  exact ⟨(a, b), h⟩
theorem zkn_one {q0 : vw_C} {c : Nat} (hc : vwCl[c]? = some q0) (h : ∃ r : ClassId × (Nat → Nat), u_Kn zs1 q0.1 q0.2.1 q0.2.2 r.1 r.2) : ∃ r : ClassId × (Nat → Nat), ∀ q : vw_C, vwCl[c]? = some q → u_Kn zs1 q.1 q.2.1 q.2.2 r.1 r.2 := by
  obtain ⟨r, h⟩ := h
  refine ⟨r, fun q hq => ?_⟩
  have e : q0 = q := Option.some.inj (hc.symm.trans hq)
  rw [← e]
  exact h
set_option maxRecDepth 100000 in
theorem zkn_all : ∀ c : Nat, ∃ r : ClassId × (Nat → Nat), ∀ q : vw_C, vwCl[c]? = some q → u_Kn zs1 q.1 q.2.1 q.2.2 r.1 r.2
  | 0 => zkn_one (q0 := (RJ0, TJ0, 4)) rfl (zkn RJ0 TJ0 4 4 (by decide +kernel) (by decide +kernel))
  | 1 => zkn_one (q0 := (RJ4, TJ4, 4)) rfl (zkn RJ4 TJ4 4 4 (by decide +kernel) (by decide +kernel))
  | 2 => zkn_one (q0 := (RJx00060, TJx00060, 6)) rfl (zkn RJx00060 TJx00060 6 6 (by decide +kernel) (by decide +kernel))
  | 3 => zkn_one (q0 := (RJx7c733, TJx7c733, 6)) rfl (zkn RJx7c733 TJx7c733 6 6 (by decide +kernel) (by decide +kernel))
  | 4 => zkn_one (q0 := (RJx4a65c, TJx4a65c, 3)) rfl (zkn RJx4a65c TJx4a65c 3 3 (by decide +kernel) (by decide +kernel))
  | 5 => zkn_one (q0 := (RX0, TX0, 6)) rfl (zkn RX0 TX0 6 6 (by decide +kernel) (by decide +kernel))
  | 6 => zkn_one (q0 := (RX1, TX1, 8)) rfl (zkn RX1 TX1 8 8 (by decide +kernel) (by decide +kernel))
  | 7 => zkn_one (q0 := (RX2, TX2, 2)) rfl (zkn RX2 TX2 2 2 (by decide +kernel) (by decide +kernel))
  | 8 => zkn_one (q0 := (RX3, TX3, 3)) rfl (zkn RX3 TX3 3 3 (by decide +kernel) (by decide +kernel))
  | 9 => zkn_one (q0 := (RX4, TX4, 5)) rfl (zkn RX4 TX4 5 5 (by decide +kernel) (by decide +kernel))
  | c + 10 => ⟨(0, fun _ => 0), fun q hq => by
      rw [List.getElem?_eq_none (show vwCl.length ≤ c + 10 from Nat.le_add_left 10 c)] at hq
      cases hq⟩
set_option maxRecDepth 100000 in
theorem zra0 : zs1.vm.findClass ("[" ++ FieldType.int.toString) = some 45 := by decide +kernel
set_option maxRecDepth 100000 in
theorem zra1 : zs1.vm.findClass ("[" ++ FieldType.byte.toString) = some 47 := by decide +kernel
set_option maxRecDepth 100000 in
theorem zra2 : zs1.vm.findClass "Deeprows$Row" = some 3 ∧ zs1.vm.findClass ("[" ++ (FieldType.object "Deeprows$Row").toString) = some 48 := by decide +kernel
set_option maxRecDepth 100000 in
theorem zra3 : zs1.vm.findClass "java/lang/Object" = some 1 ∧ zs1.vm.findClass ("[" ++ (FieldType.object "java/lang/Object").toString) = some 49 := by decide +kernel
theorem ztys : ∀ (k : Nat) (q : ClassId × FieldType), (zT 45 47 48 49)[k]? = some q → ArrOfT zs1 q.1 q.2 ∧ va_RA zs1 q.1 q.2 := by
  intro k q hq
  match k, hq with
  | 0, hq =>
    have e : (45, FieldType.int) = q := Option.some.inj hq
    rw [← e]
    exact ⟨zarrT (c := 45) rfl rfl, zra0⟩
  | 1, hq =>
    have e : (47, FieldType.byte) = q := Option.some.inj hq
    rw [← e]
    exact ⟨zarrT (c := 47) rfl rfl, zra1⟩
  | 2, hq =>
    have e : (48, FieldType.object "Deeprows$Row") = q := Option.some.inj hq
    rw [← e]
    exact ⟨zarrT (c := 48) rfl rfl, ⟨_, 3, rfl, rfl, zra2.1, zra2.2⟩⟩
  | 3, hq =>
    have e : (49, FieldType.object "java/lang/Object") = q := Option.some.inj hq
    rw [← e]
    exact ⟨zarrT (c := 49) rfl rfl, ⟨_, 1, rfl, rfl, zra3.1, zra3.2⟩⟩
  | k + 4, hq =>
    rw [List.getElem?_eq_none (show (zT 45 47 48 49).length ≤ k + 4 from Nat.le_add_left 4 k)] at hq
    cases hq
theorem zK0 : ∃ D : va_G, va_K D vwCl (zT 45 47 48 49) zs1 := by
  obtain ⟨f, hf⟩ := Classical.axiomOfChoice zkn_all
  exact ⟨(fun c => (f c).1, fun c => (f c).2), fun c q hq => hf c q hq, ztys⟩
/-- where the texts lie, and where their bytes -/
def zk0 (i : Nat) : Nat := [8, 88, 90, 24, 26, 34, 0, 0, 0, 0, 0, 89, 91, 25, 27, 35].getD i 0
theorem zva_T (v : Nat) (bs : List Int32) (h2 : zs1.heap[v]? = some { cls := 47, slots := (bs.map Value.int).toArray, vm := .none }) : va_T .byte v bs.length (fun j => .int (bs.getD j 0)) zAs zs1 zs1.heap := by
  refine ⟨_, h2, ⟨fun _ h => VmData.noConfusion h, _, rfl, _, rfl⟩, fun h => VmData.noConfusion h, ?_, ?_, fun j hj => ?_, zAs_not v (Array.getElem?_eq_some_iff.mp h2).1⟩
  · simp
  · show Int32.ofNat (bs.map Value.int).toArray.size = Int32.ofNat bs.length
    rw [List.size_toArray, List.length_map]
  · simp [hj, List.getD_eq_getElem?_getD]
theorem zstr (t : Term) (a v : Nat) (bs : List Int32) (h1 : zs1.heap[a]? = some { cls := 25, slots := #[.ref v, .int 0, .int 0, .int 0], vm := .none }) (h2 : zs1.heap[v]? = some { cls := 47, slots := (bs.map Value.int).toArray, vm := .none })
    (hc : zs1.vm.findClass "java/lang/String" = some 25) (ht : t.eval zar zs1 none [] zs1 = some (.ref a)) (hco : (Term.field t "java/lang/String" "coder" "B").eval zar zs1 none [] zs1 = some (.int 0)) (hva : (Term.field t "java/lang/String" "value" "[B").eval zar zs1 none [] zs1 = some (.ref v))
    (hb : ∀ z ∈ bs, fits .byte (.int z) = true) : zS (a, v, bs.length, fun j => bs.getD j 0) zAs zs1 zs1.heap := by
  refine ⟨⟨_, h1, rfl, hc, zAs_not a (Array.getElem?_eq_some_iff.mp h1).1⟩, vk_OFof ht hco zAs_not, vk_OFof ht hva zAs_not, zva_T v bs h2, fun j => ?_⟩
  show fits .byte (.int (bs.getD j 0)) = true
  by_cases hj : j < bs.length
  · rw [List.getD_eq_getElem?_getD, List.getElem?_eq_getElem hj]
    exact hb _ (List.getElem_mem hj)
  · rw [List.getD_eq_getElem?_getD, List.getElem?_eq_none (by omega)]
    rfl
set_option maxRecDepth 100000 in
theorem zcS : zs1.vm.findClass "java/lang/String" = some 25 := by decide +kernel
set_option maxRecDepth 100000 in
theorem zstrs : ∀ i : Nat, i < 5 → zS (zKS zk0 i) zAs zs1 zs1.heap
  | 0, _ => zstr (.string "DeeprowsModel" 197) 88 89 [91] rfl rfl zcS (by decide +kernel) (by decide +kernel) (by decide +kernel) (by decide)
  | 1, _ => zstr (.string "DeeprowsModel" 205) 90 91 [93] rfl rfl zcS (by decide +kernel) (by decide +kernel) (by decide +kernel) (by decide)
  | 2, _ => zstr (.string "DeeprowsModel" 199) 24 25 [44, 32] rfl rfl zcS (by decide +kernel) (by decide +kernel) (by decide +kernel) (by decide)
  | 3, _ => zstr (.string "DeeprowsModel" 168) 26 27 [] rfl rfl zcS (by decide +kernel) (by decide +kernel) (by decide +kernel) (by decide)
  | 4, _ => zstr (.string "DeeprowsModel" 191) 34 35 [110, 117, 108, 108] rfl rfl zcS (by decide +kernel) (by decide +kernel) (by decide +kernel) (by decide)
  | i + 5, h => absurd h (by omega)
set_option maxRecDepth 100000 in
theorem zrefs : ∀ w ∈ zRefs, vk_R w.1 w.2.1 w.2.2.1 (zk0 w.2.2.2) zs1 := by
  have h : (zRefs.all fun w => (Cond.stringRef w.1 w.2.1 w.2.2.1).before zar zs1 && decide ((Term.string w.1 w.2.1).eval #[] zs1 none [] zs1 = some (.ref (zk0 w.2.2.2)))) = true := by decide +kernel
  intro w hw
  have h1 := List.all_eq_true.mp h w hw
  simp only [Bool.and_eq_true, decide_eq_true_eq] at h1
  exact vk_R.of (A := #[]) (zvm_tabs rfl rfl h1.1) h1.2
set_option maxRecDepth 100000 in
theorem zcasts : ∀ w ∈ zCast, va_Nw (.castable w.1 w.2) zs1 := by
  have h : (zCast.all fun w => (Cond.castable w.1 w.2).before #[] zs1) = true := by decide +kernel
  exact fun w hw => List.all_eq_true.mp h w hw
set_option maxRecDepth 100000 in
theorem znests : ∀ w ∈ zNest, va_Nw (.fieldLinkNest w.1 w.2.1 w.2.2.1 w.2.2.2.1 w.2.2.2.2.1 w.2.2.2.2.2) zs1 := by
  have h : (zNest.all fun w => (Cond.fieldLinkNest w.1 w.2.1 w.2.2.1 w.2.2.2.1 w.2.2.2.2.1 w.2.2.2.2.2).before #[] zs1) = true := by decide +kernel
  exact fun w hw => List.all_eq_true.mp h w hw
set_option maxRecDepth 100000 in
theorem zNI0 : va_Nw (.methodLinkNest "DeeprowsLaw" 121 ⟨"DeeprowsLaw$Out", "<init>", "()V"⟩ "DeeprowsLaw") zs1 := by
  show (Cond.methodLinkNest "DeeprowsLaw" 121 ⟨"DeeprowsLaw$Out", "<init>", "()V"⟩ "DeeprowsLaw").before #[] zs1 = true
  decide +kernel
set_option maxRecDepth 100000 in
theorem zao0 : va_AO "Deeprows$Row" zs1 := by
  show (Cond.arrayOver (.object "Deeprows$Row")).before #[] zs1 = true
  decide +kernel
set_option maxRecDepth 100000 in
theorem zao1 : va_AO "java/lang/Object" zs1 := by
  show (Cond.arrayOver (.object "java/lang/Object")).before #[] zs1 = true
  decide +kernel
set_option maxRecDepth 100000 in
theorem zst0 : va_Z "java/lang/String" "COMPACT_STRINGS" "Z" (.int 1) zAs zs1 zs1.heap := va_Zof (args := zar) (by decide +kernel) (by decide +kernel) (by decide +kernel) zAs_not
set_option maxRecDepth 100000 in
theorem zst1 : va_Zq "jdk/internal/util/Preconditions" "SIOOBE_FORMATTER" "Ljava/util/function/BiFunction;" zAs zs1 zs1.heap := Or.inl (va_Zof (args := zar) (by decide +kernel) (by decide +kernel) (by decide +kernel) zAs_not)
set_option maxRecDepth 100000 in
theorem zst2 : va_Z "java/util/ArrayList" "DEFAULTCAPACITY_EMPTY_ELEMENTDATA" "[Ljava/lang/Object;" (.ref 8) zAs zs1 zs1.heap := va_Zof (args := zar) (by decide +kernel) (by decide +kernel) (by decide +kernel) zAs_not
theorem zst3 : va_T (.object "java/lang/Object") 8 0 (fun _ => .null) zAs zs1 zs1.heap := by
  have h8 : zs1.heap[8]? = some { cls := 49, slots := #[], vm := .none } := rfl
  exact ⟨_, h8, ⟨fun _ h => VmData.noConfusion h, _, rfl, _, rfl⟩, fun h => VmData.noConfusion h, Nat.zero_le _, rfl, fun j hj => absurd hj (Nat.not_lt_zero j), zAs_not 8 (Array.getElem?_eq_some_iff.mp h8).1⟩
theorem zRr : zR zk0 [] zAs zs1 zs1.heap := ⟨⟨zst0, zst1, zst2, zst3, zstrs, zrefs, zcasts, znests, zao0, zao1⟩, fun r hr => by cases hr⟩
