theorem zrecv_0 {s : State} {H : Heap} {D : va_G} {a q0 : Nat} {fs : List Value} {ws : va_W} {tys : List (ClassId × FieldType)} (hK : va_K D vwCl tys s) (hP : va_P D vwCl ws H) (he : ws[q0]? = some (a, .inr (0, fs))) : ∃ cell : Cell, H[a]? = some cell ∧ cell.vm.isStatics = false ∧ s.vm.findClass RJ0 = some cell.cls := va_recv (q := (RJ0, TJ0, 4)) hK hP rfl he
theorem zrecv_1 {s : State} {H : Heap} {D : va_G} {a q0 : Nat} {fs : List Value} {ws : va_W} {tys : List (ClassId × FieldType)} (hK : va_K D vwCl tys s) (hP : va_P D vwCl ws H) (he : ws[q0]? = some (a, .inr (1, fs))) : ∃ cell : Cell, H[a]? = some cell ∧ cell.vm.isStatics = false ∧ s.vm.findClass RJ4 = some cell.cls := va_recv (q := (RJ4, TJ4, 4)) hK hP rfl he
theorem zrecv_2 {s : State} {H : Heap} {D : va_G} {a q0 : Nat} {fs : List Value} {ws : va_W} {tys : List (ClassId × FieldType)} (hK : va_K D vwCl tys s) (hP : va_P D vwCl ws H) (he : ws[q0]? = some (a, .inr (2, fs))) : ∃ cell : Cell, H[a]? = some cell ∧ cell.vm.isStatics = false ∧ s.vm.findClass RJx00060 = some cell.cls := va_recv (q := (RJx00060, TJx00060, 6)) hK hP rfl he
theorem zrecv_3 {s : State} {H : Heap} {D : va_G} {a q0 : Nat} {fs : List Value} {ws : va_W} {tys : List (ClassId × FieldType)} (hK : va_K D vwCl tys s) (hP : va_P D vwCl ws H) (he : ws[q0]? = some (a, .inr (3, fs))) : ∃ cell : Cell, H[a]? = some cell ∧ cell.vm.isStatics = false ∧ s.vm.findClass RJx7c733 = some cell.cls := va_recv (q := (RJx7c733, TJx7c733, 6)) hK hP rfl he
theorem zrecv_4 {s : State} {H : Heap} {D : va_G} {a q0 : Nat} {fs : List Value} {ws : va_W} {tys : List (ClassId × FieldType)} (hK : va_K D vwCl tys s) (hP : va_P D vwCl ws H) (he : ws[q0]? = some (a, .inr (4, fs))) : ∃ cell : Cell, H[a]? = some cell ∧ cell.vm.isStatics = false ∧ s.vm.findClass RJx4a65c = some cell.cls := va_recv (q := (RJx4a65c, TJx4a65c, 3)) hK hP rfl he
theorem zrecv_5 {s : State} {H : Heap} {D : va_G} {a q0 : Nat} {fs : List Value} {ws : va_W} {tys : List (ClassId × FieldType)} (hK : va_K D vwCl tys s) (hP : va_P D vwCl ws H) (he : ws[q0]? = some (a, .inr (5, fs))) : ∃ cell : Cell, H[a]? = some cell ∧ cell.vm.isStatics = false ∧ s.vm.findClass RX0 = some cell.cls := va_recv (q := (RX0, TX0, 6)) hK hP rfl he
theorem zrecv_6 {s : State} {H : Heap} {D : va_G} {a q0 : Nat} {fs : List Value} {ws : va_W} {tys : List (ClassId × FieldType)} (hK : va_K D vwCl tys s) (hP : va_P D vwCl ws H) (he : ws[q0]? = some (a, .inr (6, fs))) : ∃ cell : Cell, H[a]? = some cell ∧ cell.vm.isStatics = false ∧ s.vm.findClass RX1 = some cell.cls := va_recv (q := (RX1, TX1, 8)) hK hP rfl he
theorem zrecv_7 {s : State} {H : Heap} {D : va_G} {a q0 : Nat} {fs : List Value} {ws : va_W} {tys : List (ClassId × FieldType)} (hK : va_K D vwCl tys s) (hP : va_P D vwCl ws H) (he : ws[q0]? = some (a, .inr (7, fs))) : ∃ cell : Cell, H[a]? = some cell ∧ cell.vm.isStatics = false ∧ s.vm.findClass RX2 = some cell.cls := va_recv (q := (RX2, TX2, 2)) hK hP rfl he
theorem zrecv_8 {s : State} {H : Heap} {D : va_G} {a q0 : Nat} {fs : List Value} {ws : va_W} {tys : List (ClassId × FieldType)} (hK : va_K D vwCl tys s) (hP : va_P D vwCl ws H) (he : ws[q0]? = some (a, .inr (8, fs))) : ∃ cell : Cell, H[a]? = some cell ∧ cell.vm.isStatics = false ∧ s.vm.findClass RX3 = some cell.cls := va_recv (q := (RX3, TX3, 3)) hK hP rfl he
theorem zrecv_9 {s : State} {H : Heap} {D : va_G} {a q0 : Nat} {fs : List Value} {ws : va_W} {tys : List (ClassId × FieldType)} (hK : va_K D vwCl tys s) (hP : va_P D vwCl ws H) (he : ws[q0]? = some (a, .inr (9, fs))) : ∃ cell : Cell, H[a]? = some cell ∧ cell.vm.isStatics = false ∧ s.vm.findClass RX4 = some cell.cls := va_recv (q := (RX4, TX4, 5)) hK hP rfl he
-- what all my rows stand on: the classes of the arrays, the texts and statics that nobody here writes, making with the heap's size told
def zmx (a b : Nat) : Nat := if a < b then b else a
/-- how long a StringBuilder's new bytes are, if q are wanted and m are there -/
def zcap (q m : Nat) : Nat := m + zmx (q - m) (m + 2)
theorem zmax_eq {a b : Nat} (ha : a < 2 ^ 28) (hb : b < 2 ^ 28) : (if nI a < nI b then nI b else nI a) = nI (zmx a b) := by
  unfold zmx
  by_cases h : a < b
  · rw [if_pos h, if_pos (nI_lt h (by omega))]
  · rw [if_neg h, if_neg (nI_nlt (by omega) (by omega))]
theorem zmx_lt {m a b : Nat} (hm : m ≤ 65536) (ha : a < 2 ^ 28) (hb : b < 2 ^ 28) : m + zmx a b < 2 ^ 30 := by
  unfold zmx
  split <;> omega
theorem zcap_lt {m q : Nat} (hm : m ≤ 65536) (hq : q < 2 ^ 28) : zcap q m < 2 ^ 30 := zmx_lt hm (by omega) (by omega)
theorem zcap_ge {m q : Nat} (h : m < q) : q ≤ zcap q m := by
  unfold zcap zmx
  split <;> omega
theorem nI_nge0 {n : Nat} (h0 : 0 < n) (h : n < 2 ^ 30) : ¬ nI n ≤ 0 := by
  rw [Int32.le_iff_toInt_le, nI_toInt (by omega), Int32.toInt_zero]
  omega
theorem nI_ngt {n : Nat} (h : n < 2 ^ 30) : ¬ (2147483639 : Int32) < nI n := by
  rw [Int32.lt_iff_toInt_lt, nI_toInt (by omega), show (2147483639 : Int32).toInt = 2147483639 from by decide]
  omega
theorem nI_ne_max {n : Nat} (h : n < 2 ^ 30) : ¬ nI n = 2147483647 := by
  intro e
  have := congrArg Int32.toInt e
  rw [nI_toInt (by omega), show (2147483647 : Int32).toInt = 2147483647 from by decide] at this
  omega
theorem zle {q m : Nat} (h : q ≤ m) (hm : m < 2 ^ 30) : nI q - nI m ≤ 0 := by
  rw [Int32.le_iff_toInt_le, pk_sub_toInt (by omega) hm, Int32.toInt_zero]
  omega
theorem znle {q m : Nat} (h : m < q) (hq : q < 2 ^ 30) : ¬ nI q - nI m ≤ 0 := by
  rw [Int32.le_iff_toInt_le, pk_sub_toInt hq (by omega), Int32.toInt_zero]
  omega
def zT (cI cB cR cO : ClassId) : List (ClassId × FieldType) := [(cI, .int), (cB, .byte), (cR, .object "Deeprows$Row"), (cO, .object "java/lang/Object")]
/-- a text that the method doesn't write: the String, its bytes, how many, which -/
abbrev zX : Type := Nat × Nat × Nat × (Nat → Int32)
def zS (r : zX) (A : Nat → Prop) (U : State) (H : Heap) : Prop :=
  va_O "java/lang/String" r.1 A U H ∧ va_OF "java/lang/String" "coder" "B" (.int 0) r.1 A U H ∧ va_OF "java/lang/String" "value" "[B" (.ref r.2.1) r.1 A U H ∧ va_T .byte r.2.1 r.2.2.1 (fun j => .int (r.2.2.2 j)) A U H ∧ ∀ j : Nat, fits .byte (.int (r.2.2.2 j)) = true
theorem zS.moved {r : zX} {A : Nat → Prop} {u U : State} {H : Heap} (hvm : u.vm.Alike U.vm) (h : zS r A u H) : zS r A U H :=
  ⟨va_O.moved hvm h.1, va_OF.moved hvm h.2.1, va_OF.moved hvm h.2.2.1, va_T.moved hvm h.2.2.2.1, h.2.2.2.2⟩
theorem zS.kept {r : zX} {A : Nat → Prop} {U : State} {H H1 : Heap} (h : zS r A U H) (hq : ∀ a : Nat, a < H.size → ¬ A a → H1[a]? = H[a]?) : zS r A U H1 :=
  ⟨h.1.kept hq, h.2.1.kept hq, h.2.2.1.kept hq, h.2.2.2.1.kept hq, h.2.2.2.2⟩
theorem zS.narrow {r : zX} {A B : Nat → Prop} {U : State} {H : Heap} (h : zS r A U H) (hAB : ∀ q, B q → A q) : zS r B U H :=
  ⟨h.1.narrow hAB, h.2.1.narrow hAB, h.2.2.1.narrow hAB, h.2.2.2.1.narrow hAB, h.2.2.2.2⟩
/-- the five constant texts: "[", "]", ", ", "", "null" -/
def zByt : List (List Int32) := [[91], [93], [44, 32], [], [110, 117, 108, 108]]
def zKS (zk : Nat → Nat) (i : Nat) : zX := (zk (1 + i), zk (11 + i), (zByt.getD i []).length, fun j => (zByt.getD i []).getD j 0)
def zRefs : List (String × Nat × String × Nat) := [("DeeprowsModel", 197, "[", 1), ("DeeprowsModel", 205, "]", 2), ("DeeprowsModel", 199, ", ", 3), ("DeeprowsModel", 168, "", 4), ("DeeprowsModel", 191, "null", 5), ("Deeprows", 353, ", ", 3), ("Deeprows", 322, "null", 5)]
/-- the fields of a row that its nest mate reads -/
def zNest : List (String × Nat × String × String × String × String) := [("Deeprows", 139, "Deeprows$Row", "whats", "[I", "Deeprows"), ("Deeprows", 143, "Deeprows$Row", "values", "[I", "Deeprows"), ("Deeprows", 146, "Deeprows$Row", "hung", "[LDeeprows$Row;", "Deeprows"), ("Deeprows", 158, "Deeprows$Row", "length", "I", "Deeprows"), ("Deeprows", 161, "Deeprows$Row", "kind", "I", "Deeprows"), ("Deeprows", 66, "Deeprows$Row", "number", "I", "Deeprows"), ("DeeprowsLaw", 13, "DeeprowsLaw$Out", "n", "J", "DeeprowsLaw"), ("DeeprowsLaw", 104, "DeeprowsLaw$Out", "s", "Ljava/lang/String;", "DeeprowsLaw")]
def zCast : List (String × String) := [("[B", "java/lang/Cloneable"), ("Deeprows$Row", "java/lang/Object"), ("DeeprowsModel$Row", "java/lang/Object")]
/-- the statics and constants at hand -/
def zB (zk : Nat → Nat) (A : Nat → Prop) (U : State) (H : Heap) : Prop :=
  va_Z "java/lang/String" "COMPACT_STRINGS" "Z" (.int 1) A U H ∧
  va_Zq "jdk/internal/util/Preconditions" "SIOOBE_FORMATTER" "Ljava/util/function/BiFunction;" A U H ∧
  va_Z "java/util/ArrayList" "DEFAULTCAPACITY_EMPTY_ELEMENTDATA" "[Ljava/lang/Object;" (.ref (zk 0)) A U H ∧
  va_T (.object "java/lang/Object") (zk 0) 0 (fun _ => .null) A U H ∧
  (∀ i : Nat, i < 5 → zS (zKS zk i) A U H) ∧
  (∀ w ∈ zRefs, vk_R w.1 w.2.1 w.2.2.1 (zk w.2.2.2) U) ∧ (∀ w ∈ zCast, va_Nw (.castable w.1 w.2) U) ∧
  (∀ w ∈ zNest, va_Nw (.fieldLinkNest w.1 w.2.1 w.2.2.1 w.2.2.2.1 w.2.2.2.2.1 w.2.2.2.2.2) U) ∧ va_AO "Deeprows$Row" U ∧ va_AO "java/lang/Object" U
theorem zB.kept {zk : Nat → Nat} {A : Nat → Prop} {U : State} {H H1 : Heap} (h : zB zk A U H) (hq : ∀ a : Nat, a < H.size → ¬ A a → H1[a]? = H[a]?) : zB zk A U H1 :=
  ⟨h.1.kept hq, h.2.1.kept hq, h.2.2.1.kept hq, h.2.2.2.1.kept hq, fun i hi => (h.2.2.2.2.1 i hi).kept hq, h.2.2.2.2.2⟩
theorem zB.narrow {zk : Nat → Nat} {A B : Nat → Prop} {U : State} {H : Heap} (h : zB zk A U H) (hAB : ∀ q, B q → A q) : zB zk B U H :=
  ⟨h.1.narrow hAB, h.2.1.narrow hAB, h.2.2.1.narrow hAB, h.2.2.2.1.narrow hAB, fun i hi => (h.2.2.2.2.1 i hi).narrow hAB, h.2.2.2.2.2⟩
theorem zB.warm {zk : Nat → Nat} {A : Nat → Prop} {s U : State} {H : Heap} (hW : s.WarmedH U.vm) (h : zB zk A s H) : zB zk A U H :=
  ⟨va_Z.moved hW.alike h.1, va_Zq.moved hW.alike h.2.1, va_Z.moved hW.alike h.2.2.1, va_T.moved hW.alike h.2.2.2.1, fun i hi => (h.2.2.2.2.1 i hi).moved hW.alike, fun w hw => vk_R.warm hW (h.2.2.2.2.2.1 w hw), fun w hw => va_Nw.warmC hW (h.2.2.2.2.2.2.1 w hw), fun w hw => va_Nw.warmF hW (h.2.2.2.2.2.2.2.1 w hw), va_AO.moved hW.alike h.2.2.2.2.2.2.2.2.1, va_AO.moved hW.alike h.2.2.2.2.2.2.2.2.2⟩
theorem zB.same {zk : Nat → Nat} {A : Nat → Prop} {u U : State} {H : Heap} (hv : U.vm = u.vm) (h : zB zk A u H) : zB zk A U H :=
  have ha : u.vm.Alike U.vm := by rw [hv]; exact Vm.Alike.refl _
  ⟨va_Z.moved ha h.1, va_Zq.moved ha h.2.1, va_Z.moved ha h.2.2.1, va_T.moved ha h.2.2.2.1, fun i hi => (h.2.2.2.2.1 i hi).moved ha, fun w hw => vk_R.same hv (h.2.2.2.2.2.1 w hw), fun w hw => va_Nw.same rfl hv.symm (h.2.2.2.2.2.2.1 w hw), fun w hw => va_Nw.same rfl hv.symm (h.2.2.2.2.2.2.2.1 w hw), va_AO.moved ha h.2.2.2.2.2.2.2.2.1, va_AO.moved ha h.2.2.2.2.2.2.2.2.2⟩
def zR (zk : Nat → Nat) (xs : List zX) (A : Nat → Prop) (U : State) (H : Heap) : Prop := zB zk A U H ∧ ∀ r ∈ xs, zS r A U H
/-- a method's start: the heap's size, the world, the classes, apart, the rest at hand -/
def zPre (D : va_G) (tys : List (ClassId × FieldType)) (zk : Nat → Nat) (xs : List zX) (ws : va_W) (sz : Nat) (U : State) : Prop :=
  U.heap.size = sz ∧ va_P D vwCl ws U.heap ∧ va_K D vwCl tys U ∧ va_D (fun _ => True) ws ∧ zR zk xs (va_A ws sz) U U.heap
/-- a method's end: the world, and at least k cells more -/
def zEnd (D : va_G) (tys : List (ClassId × FieldType)) (A : Nat → Prop) (ws : va_W) (sz k : Nat) (t : State) : Prop :=
  va_P D vwCl ws t.heap ∧ va_K D vwCl tys t ∧ va_D A ws ∧ sz + k ≤ t.heap.size
theorem zblind {D : va_G} {tys : List (ClassId × FieldType)} {zk : Nat → Nat} {xs : List zX} {ws : va_W} {sz : Nat} {av : List Value} : FrameBlind (va_Pc av (zPre D tys zk xs ws sz)) := by
  intro a U g mk q
  obtain ⟨q0, q1, qP, qK, qD, qB, qX⟩ := q
  exact ⟨q0, q1, qP, va_K.moved (u := U) (U := U.calling g mk a) (Vm.Alike.refl U.vm) qK, qD, zB.same (u := U) (U := U.calling g mk a) rfl qB, fun r hr => (qX r hr).moved (Vm.Alike.refl U.vm)⟩
/-- a cell of the world that the callee doesn't get is none of its -/
theorem znot {D : va_G} {cl : List vw_C} {A0 : Nat → Prop} {ws wc : va_W} {H : Heap} (hP : va_P D cl ws H) (hD : va_D A0 ws) (isC : List Nat) (hC : isC.map (fun i => ws[i]?) = wc.map some) (q0 : Nat) {a : Nat} {e : va_E} (h0 : ws[q0]? = some (a, e)) (hn : q0 ∉ isC) : ¬ va_A wc H.size a := by
  have hl := (hP q0 _ h0).lt
  intro h
  rcases h with ⟨k2, e2, h⟩ | h
  · have h1 : (isC.map (fun i => ws[i]?))[k2]? = some (some (a, e2)) := by rw [hC, List.getElem?_map, h]; rfl
    rw [List.getElem?_map] at h1
    cases hi : isC[k2]? with
    | none => rw [hi] at h1; cases h1
    | some i =>
      rw [hi] at h1
      have h4 := Option.some.inj h1
      have hij := hD.1 q0 i (a, e) (a, e2) h0 h4 rfl
      subst hij
      exact hn (List.mem_of_getElem? hi)
  · exact Nat.lt_irrefl _ (Nat.lt_of_lt_of_le hl h)
section ZC
variable {s : State} {H : Heap} {locs : List Loc} {A B : Nat → Prop} {zk : Nat → Nat} {xs : List zX}
theorem zR.x (h : zR zk xs A s s.heap) (hS : va_S A s.heap H locs) (hF : ∀ q, B q → A q) {r : zX} (hr : r ∈ xs) : zS r B s H := ((h.2 r hr).kept hS.2.1).narrow hF
theorem zR.k (h : zR zk xs A s s.heap) (hS : va_S A s.heap H locs) (hF : ∀ q, B q → A q) (i : Nat) (hi : i < 5) : zS (zKS zk i) B s H := ((h.1.2.2.2.2.1 i hi).kept hS.2.1).narrow hF
theorem zS.ofW {args : Array Value} {Ts : List Cond} (hts : ∀ w ∈ Ts, w.before args s = true) (hin : ∀ w ∈ u_ws RJ0 TJ0 4, w ∈ Ts) {D : va_G} {tys : List (ClassId × FieldType)} {ws : va_W} (hK : va_K D vwCl tys s) (hP : va_P D vwCl ws H) (q0 q1 t0 : Nat) {k v n : Nat} {hh hz : Value} {f : Nat → Int32} {cA : ClassId} (h0 : ws[q0]? = some (k, .inr (0, [.ref v, .int 0, hh, hz]))) (h1 : ws[q1]? = some (v, .inl (cA, n, .inl f))) (ht : tys[t0]? = some (cA, .byte)) (hfit : ∀ j : Nat, fits .byte (.int (f j)) = true) (hBk : ¬ B k) (hBv : ¬ B v) : zS (k, v, n, f) B s H := by
  obtain ⟨hSl, hfc, kC, hkC, hkind⟩ := hK.1 0 _ (rfl : vwCl[0]? = some (RJ0, TJ0, 4))
  obtain ⟨r, hr, cell, g1, g2, g3, g4⟩ := hP q0 _ h0
  cases (rfl : vwCl[0]? = some (RJ0, TJ0, 4)).symm.trans hr
  obtain ⟨cf, kf, fi, fd, hi, hsl⟩ := hSl 0 (by decide)
  obtain ⟨cf1, kf1, fi1, fd1, hi1, hsl1⟩ := hSl 1 (by decide)
  have hu : cell.vm ≠ .unknown := by rw [g3]; exact fun h => by cases h
  have hst : cell.vm.isStatics = false := by rw [g3]; rfl
  have hcc : s.vm.findClass "java/lang/String" = some cell.cls := by rw [g2]; exact hfc
  have e1 : cell.slots[fd1.slot]? = some (.int 0) := by rw [hsl1]; exact g4 1 (by decide)
  have e0 : cell.slots[fd.slot]? = some (.ref v) := by rw [hsl]; exact g4 0 (by decide)
  have a1 := (u_facts hfc hkC (u_lays hts hin (show (1 : Nat) < 4 by decide)) hi1).1
  have a0 := (u_facts hfc hkC (u_lays hts hin (show (0 : Nat) < 4 by decide)) hi).1
  refine ⟨⟨cell, g1, hst, hcc, hBk⟩, ⟨cf1, kf1, fi1, fd1, cell, hi1, a1, g1, hu, e1, hBk⟩, ⟨cf, kf, fi, fd, cell, hi, a0, g1, hu, e0, hBk⟩,
    ⟨vp_cell cA (n, .inl f), hP q1 _ h1, (hK.2 t0 _ ht).1 n (fun j => .int (f j)), (fun h => VmData.noConfusion h), ?_, ?_, ?_, hBv⟩, hfit⟩
  · show n ≤ (arrV cA n (fun j => .int (f j))).slots.size
    rw [arrV_size]; exact Nat.le_refl _
  · show (arrV cA n (fun j => .int (f j))).slots.size.toInt32 = Int32.ofNat n
    rw [arrV_size]
  · intro j hj
    exact arrV_read _ _ hj
/-- a callee's start out of the caller's -/
theorem zpre {D : va_G} {tys : List (ClassId × FieldType)} {wc : va_W} {xs' : List zX} {av : List Value} (hP : va_P D vwCl wc H) (hK : va_K D vwCl tys s) (hD : va_D A wc) (hR : zR zk xs A s s.heap) (hS : va_S A s.heap H locs) (hF : ∀ q, va_A wc H.size q → A q) (hx : ∀ r ∈ xs', zS r (va_A wc H.size) s H) : ∀ U : State, U.heap = H → s.WarmedH U.vm → va_Pc av (zPre D tys zk xs' wc H.size) av.toArray U := by
  intro U hU hW
  refine ⟨rfl, by rw [hU], by rw [hU]; exact hP, va_K.moved hW.alike hK, hD.weaken (fun _ _ _ _ => trivial), ?_, fun r hr => ?_⟩
  · rw [hU]; exact zB.warm hW ((hR.1.kept hS.2.1).narrow hF)
  · rw [hU]; exact (hx r hr).moved hW.alike
end ZC
theorem zn0 {zk : Nat → Nat} {xs : List zX} {A : Nat → Prop} {U : State} {H : Heap} {args : Array Value} (h : zR zk xs A U H) : (Cond.fieldLinkNest "Deeprows" 139 "Deeprows$Row" "whats" "[I" "Deeprows").before args U = true := va_Nw.use rfl (h.1.2.2.2.2.2.2.2.1 ("Deeprows", 139, "Deeprows$Row", "whats", "[I", "Deeprows") List.mem_cons_self)
theorem zn1 {zk : Nat → Nat} {xs : List zX} {A : Nat → Prop} {U : State} {H : Heap} {args : Array Value} (h : zR zk xs A U H) : (Cond.fieldLinkNest "Deeprows" 143 "Deeprows$Row" "values" "[I" "Deeprows").before args U = true := va_Nw.use rfl (h.1.2.2.2.2.2.2.2.1 ("Deeprows", 143, "Deeprows$Row", "values", "[I", "Deeprows") (List.mem_cons_of_mem _ List.mem_cons_self))
theorem zn2 {zk : Nat → Nat} {xs : List zX} {A : Nat → Prop} {U : State} {H : Heap} {args : Array Value} (h : zR zk xs A U H) : (Cond.fieldLinkNest "Deeprows" 146 "Deeprows$Row" "hung" "[LDeeprows$Row;" "Deeprows").before args U = true := va_Nw.use rfl (h.1.2.2.2.2.2.2.2.1 ("Deeprows", 146, "Deeprows$Row", "hung", "[LDeeprows$Row;", "Deeprows") (List.mem_cons_of_mem _ (List.mem_cons_of_mem _ List.mem_cons_self)))
theorem zn3 {zk : Nat → Nat} {xs : List zX} {A : Nat → Prop} {U : State} {H : Heap} {args : Array Value} (h : zR zk xs A U H) : (Cond.fieldLinkNest "Deeprows" 158 "Deeprows$Row" "length" "I" "Deeprows").before args U = true := va_Nw.use rfl (h.1.2.2.2.2.2.2.2.1 ("Deeprows", 158, "Deeprows$Row", "length", "I", "Deeprows") (List.mem_cons_of_mem _ (List.mem_cons_of_mem _ (List.mem_cons_of_mem _ List.mem_cons_self))))
theorem zn4 {zk : Nat → Nat} {xs : List zX} {A : Nat → Prop} {U : State} {H : Heap} {args : Array Value} (h : zR zk xs A U H) : (Cond.fieldLinkNest "Deeprows" 161 "Deeprows$Row" "kind" "I" "Deeprows").before args U = true := va_Nw.use rfl (h.1.2.2.2.2.2.2.2.1 ("Deeprows", 161, "Deeprows$Row", "kind", "I", "Deeprows") (List.mem_cons_of_mem _ (List.mem_cons_of_mem _ (List.mem_cons_of_mem _ (List.mem_cons_of_mem _ List.mem_cons_self)))))
theorem zn5 {zk : Nat → Nat} {xs : List zX} {A : Nat → Prop} {U : State} {H : Heap} {args : Array Value} (h : zR zk xs A U H) : (Cond.fieldLinkNest "Deeprows" 66 "Deeprows$Row" "number" "I" "Deeprows").before args U = true := va_Nw.use rfl (h.1.2.2.2.2.2.2.2.1 ("Deeprows", 66, "Deeprows$Row", "number", "I", "Deeprows") (List.mem_cons_of_mem _ (List.mem_cons_of_mem _ (List.mem_cons_of_mem _ (List.mem_cons_of_mem _ (List.mem_cons_of_mem _ List.mem_cons_self))))))
theorem zn6 {zk : Nat → Nat} {xs : List zX} {A : Nat → Prop} {U : State} {H : Heap} {args : Array Value} (h : zR zk xs A U H) : (Cond.fieldLinkNest "DeeprowsLaw" 13 "DeeprowsLaw$Out" "n" "J" "DeeprowsLaw").before args U = true := va_Nw.use rfl (h.1.2.2.2.2.2.2.2.1 ("DeeprowsLaw", 13, "DeeprowsLaw$Out", "n", "J", "DeeprowsLaw") (List.mem_cons_of_mem _ (List.mem_cons_of_mem _ (List.mem_cons_of_mem _ (List.mem_cons_of_mem _ (List.mem_cons_of_mem _ (List.mem_cons_of_mem _ List.mem_cons_self)))))))
theorem zn7 {zk : Nat → Nat} {xs : List zX} {A : Nat → Prop} {U : State} {H : Heap} {args : Array Value} (h : zR zk xs A U H) : (Cond.fieldLinkNest "DeeprowsLaw" 104 "DeeprowsLaw$Out" "s" "Ljava/lang/String;" "DeeprowsLaw").before args U = true := va_Nw.use rfl (h.1.2.2.2.2.2.2.2.1 ("DeeprowsLaw", 104, "DeeprowsLaw$Out", "s", "Ljava/lang/String;", "DeeprowsLaw") (List.mem_cons_of_mem _ (List.mem_cons_of_mem _ (List.mem_cons_of_mem _ (List.mem_cons_of_mem _ (List.mem_cons_of_mem _ (List.mem_cons_of_mem _ (List.mem_cons_of_mem _ List.mem_cons_self))))))))
theorem zt0 {zk : Nat → Nat} {xs : List zX} {A : Nat → Prop} {U : State} {H : Heap} (h : zR zk xs A U H) : va_Nw (.castable "[B" "java/lang/Cloneable") U := h.1.2.2.2.2.2.2.1 ("[B", "java/lang/Cloneable") List.mem_cons_self
theorem zt1 {zk : Nat → Nat} {xs : List zX} {A : Nat → Prop} {U : State} {H : Heap} (h : zR zk xs A U H) : va_Nw (.castable "Deeprows$Row" "java/lang/Object") U := h.1.2.2.2.2.2.2.1 ("Deeprows$Row", "java/lang/Object") (List.mem_cons_of_mem _ List.mem_cons_self)
theorem zt2 {zk : Nat → Nat} {xs : List zX} {A : Nat → Prop} {U : State} {H : Heap} (h : zR zk xs A U H) : va_Nw (.castable "DeeprowsModel$Row" "java/lang/Object") U := h.1.2.2.2.2.2.2.1 ("DeeprowsModel$Row", "java/lang/Object") (List.mem_cons_of_mem _ (List.mem_cons_of_mem _ List.mem_cons_self))
theorem za0 {zk : Nat → Nat} {xs : List zX} {A : Nat → Prop} {U : State} {H : Heap} {args : Array Value} (h : zR zk xs A U H) : (Cond.arrayOver (.object "Deeprows$Row")).before args U = true := va_AO.use h.1.2.2.2.2.2.2.2.2.1
theorem za1 {zk : Nat → Nat} {xs : List zX} {A : Nat → Prop} {U : State} {H : Heap} {args : Array Value} (h : zR zk xs A U H) : (Cond.arrayOver (.object "java/lang/Object")).before args U = true := va_AO.use h.1.2.2.2.2.2.2.2.2.2
theorem zl0 {zk : Nat → Nat} {xs : List zX} {A : Nat → Prop} {U : State} {H : Heap} (h : zR zk xs A U H) : vk_R RX4 197 "[" (zk 1) U := h.1.2.2.2.2.2.1 ("DeeprowsModel", 197, "[", 1) List.mem_cons_self
theorem zl1 {zk : Nat → Nat} {xs : List zX} {A : Nat → Prop} {U : State} {H : Heap} (h : zR zk xs A U H) : vk_R RX4 205 "]" (zk 2) U := h.1.2.2.2.2.2.1 ("DeeprowsModel", 205, "]", 2) (List.mem_cons_of_mem _ List.mem_cons_self)
theorem zl2 {zk : Nat → Nat} {xs : List zX} {A : Nat → Prop} {U : State} {H : Heap} (h : zR zk xs A U H) : vk_R RX4 199 ", " (zk 3) U := h.1.2.2.2.2.2.1 ("DeeprowsModel", 199, ", ", 3) (List.mem_cons_of_mem _ (List.mem_cons_of_mem _ List.mem_cons_self))
theorem zl3 {zk : Nat → Nat} {xs : List zX} {A : Nat → Prop} {U : State} {H : Heap} (h : zR zk xs A U H) : vk_R RX4 168 "" (zk 4) U := h.1.2.2.2.2.2.1 ("DeeprowsModel", 168, "", 4) (List.mem_cons_of_mem _ (List.mem_cons_of_mem _ (List.mem_cons_of_mem _ List.mem_cons_self)))
theorem zl4 {zk : Nat → Nat} {xs : List zX} {A : Nat → Prop} {U : State} {H : Heap} (h : zR zk xs A U H) : vk_R RX4 191 "null" (zk 5) U := h.1.2.2.2.2.2.1 ("DeeprowsModel", 191, "null", 5) (List.mem_cons_of_mem _ (List.mem_cons_of_mem _ (List.mem_cons_of_mem _ (List.mem_cons_of_mem _ List.mem_cons_self))))
theorem zl5 {zk : Nat → Nat} {xs : List zX} {A : Nat → Prop} {U : State} {H : Heap} (h : zR zk xs A U H) : vk_R RX1 353 ", " (zk 3) U := h.1.2.2.2.2.2.1 ("Deeprows", 353, ", ", 3) (List.mem_cons_of_mem _ (List.mem_cons_of_mem _ (List.mem_cons_of_mem _ (List.mem_cons_of_mem _ (List.mem_cons_of_mem _ List.mem_cons_self)))))
theorem zl6 {zk : Nat → Nat} {xs : List zX} {A : Nat → Prop} {U : State} {H : Heap} (h : zR zk xs A U H) : vk_R RX1 322 "null" (zk 5) U := h.1.2.2.2.2.2.1 ("Deeprows", 322, "null", 5) (List.mem_cons_of_mem _ (List.mem_cons_of_mem _ (List.mem_cons_of_mem _ (List.mem_cons_of_mem _ (List.mem_cons_of_mem _ (List.mem_cons_of_mem _ List.mem_cons_self))))))
theorem zc0 {zk : Nat → Nat} {xs : List zX} {A B : Nat → Prop} {s : State} {H : Heap} {locs : List Loc} (h : zR zk xs A s s.heap) (hS : va_S A s.heap H locs) (hF : ∀ q, B q → A q) : zS (zk 1, zk 11, 1, fun j => (zByt.getD 0 []).getD j 0) B s H := zR.k h hS hF 0 (by decide)
theorem zc1 {zk : Nat → Nat} {xs : List zX} {A B : Nat → Prop} {s : State} {H : Heap} {locs : List Loc} (h : zR zk xs A s s.heap) (hS : va_S A s.heap H locs) (hF : ∀ q, B q → A q) : zS (zk 2, zk 12, 1, fun j => (zByt.getD 1 []).getD j 0) B s H := zR.k h hS hF 1 (by decide)
theorem zc2 {zk : Nat → Nat} {xs : List zX} {A B : Nat → Prop} {s : State} {H : Heap} {locs : List Loc} (h : zR zk xs A s s.heap) (hS : va_S A s.heap H locs) (hF : ∀ q, B q → A q) : zS (zk 3, zk 13, 2, fun j => (zByt.getD 2 []).getD j 0) B s H := zR.k h hS hF 2 (by decide)
theorem zc3 {zk : Nat → Nat} {xs : List zX} {A B : Nat → Prop} {s : State} {H : Heap} {locs : List Loc} (h : zR zk xs A s s.heap) (hS : va_S A s.heap H locs) (hF : ∀ q, B q → A q) : zS (zk 4, zk 14, 0, fun j => (zByt.getD 3 []).getD j 0) B s H := zR.k h hS hF 3 (by decide)
theorem zc4 {zk : Nat → Nat} {xs : List zX} {A B : Nat → Prop} {s : State} {H : Heap} {locs : List Loc} (h : zR zk xs A s s.heap) (hS : va_S A s.heap H locs) (hF : ∀ q, B q → A q) : zS (zk 5, zk 15, 4, fun j => (zByt.getD 4 []).getD j 0) B s H := zR.k h hS hF 4 (by decide)
theorem zS0 {A : Nat → Prop} {H0 H : Heap} {locs : List Loc} (h : va_S A H0 H locs) : va_S A H H locs := ⟨Nat.le_refl _, fun _ _ _ => rfl, h.2.2⟩
theorem zSS {A : Nat → Prop} {H0 H H1 : Heap} {locs locs1 : List Loc} (h : va_S A H0 H locs) (h1 : va_S A H H1 locs1) : va_S A H0 H1 locs1 :=
  ⟨Nat.le_trans h.1 h1.1, fun q q1 q2 => (h1.2.1 q (Nat.lt_of_lt_of_le q1 h.1) q2).trans (h.2.1 q q1 q2), h1.2.2⟩
theorem zS.recv {r : zX} {A : Nat → Prop} {s : State} {H : Heap} (h : zS r A s H) : ∃ cell : Cell, H[r.1]? = some cell ∧ cell.vm.isStatics = false ∧ s.vm.findClass "java/lang/String" = some cell.cls := by
  obtain ⟨cell, h1, h2, h3, -⟩ := h.1
  exact ⟨cell, h1, h2, h3⟩
theorem zfitcell {cA : ClassId} {n : Nat} {f : Nat → Int32} (h : sb_Fit f) : ∀ (i : Nat) (v : Value), (vp_cell cA (n, .inl f)).slots[i]? = some v → fits .byte v = true := by
  intro i v hv
  have h1 : (arrV cA n (fun j => .int (f j))).slots[i]? = some v := hv
  have hl : i < n := by
    have h2 := (Array.getElem?_eq_some_iff.mp h1).1
    rwa [arrV_size] at h2
  rw [arrV_read _ _ hl] at h1
  cases h1
  exact h i
section ZM
variable {p : Program} {l : Launch} {e : Env} {R : Room} {s : State} {m : MethodId} {args : Array Value} {below : List Frame} {meth : Method} {c : Code} {H : Heap} {locs : List Loc} {cells slots : Nat} {Q : State → Prop}
variable {cc : ByteArray} {pc : Nat} {ls : Array Slot} {rest : List Value} {D : va_G} {cl : List vw_C} {A : Nat → Prop} {tys : List (ClassId × FieldType)} {ws : va_W} {H0 : Heap}
theorem zw_ldcw (hexec : p.tables.exec = Jvm.exec) (hb : c.code = cc) {own tx : String} {index q : Nat} (hown : s.vm.findClass own = some m.cls) (hZ : vk_R own index tx q s) (hdg : decode cc pc = .ok (.ldc_w index, 3))
    (k : W p l e R s m args below meth c H locs cells slots Q (F0 m (pc + 3) ls (.ref q :: rest))) : W p l e R s m args below meth c H locs cells slots Q (F0 m pc ls rest) := by
  intro T hT X
  obtain ⟨t, a1, b1⟩ := k T hT X
  exact ⟨t, X.ldcStringW hexec hown (text := tx) (a := q) hZ.1 hZ.2 (g := F0 m pc ls rest) rfl (by rw [hb]; exact hdg) t a1, b1⟩
/-- new: the heap has one cell more -/
theorem zw_new (hexec : p.tables.exec = Jvm.exec) (hb : c.code = cc) {own C : String} {T : u_T} {N ci index : Nat} {Ts : List Cond} (hts : ∀ w ∈ Ts, w.before args s = true) (hin : ∀ w ∈ u_ws C T N, w ∈ Ts) (ty : Nat → FieldType) (hty : ∀ k, k < N → parseFieldDescriptor (T k).2.2.1 = some (ty k)) (hown : s.vm.findClass own = some m.cls) (hcl : (Cond.classLink own index C).before args s = true) (hinst : (Cond.instantiable C N).before args s = true) (hini : (Cond.initialized C).before args s = true)
    (hK : va_K D cl tys s) (hP : va_P D cl ws H) (hD : va_D A ws) (hS : va_S A H0 H locs) (hA : ∀ q, H0.size ≤ q → A q) (hc : cl[ci]? = some (C, T, N)) {fs : List Value} (hfs : ∀ j, j < N → defaultValue (ty j) = vp_V fs j) (hcells : cells + 1 ≤ R.cells) (hslots : slots + N ≤ R.slots) (hdg : decode cc pc = .ok (.new index, 3)) {z : Nat} (hz : z ≤ H.size)
    (kk : ∀ (q : Nat) (H1 : Heap), va_P D cl (ws ++ [(q, .inr (ci, fs))]) H1 → va_D A (ws ++ [(q, .inr (ci, fs))]) → va_S A H0 H1 locs → z + 1 ≤ H1.size →
      W p l e R s m args below meth c H1 locs (cells + 1) (slots + N) Q (F0 m (pc + 3) ls (.ref q :: rest))) : W p l e R s m args below meth c H locs cells slots Q (F0 m pc ls rest) := by
  have hKn := hK.1 ci _ hc
  refine W.newcK hexec hb hown hcl hinst hini rfl hdg hcells hslots hKn.2.1 rfl fun H1 kC hkC e1 z1 o1 => ?_
  have hk : ∀ (k : Nat) (x : Nat × va_E), ws[k]? = some x → H1[x.1]? = H[x.1]? := fun k x hx => o1 x.1 ((hP k x hx).lt)
  refine kk H.size H1 ((hP.kept hk).app (fun k x hx => ?_)) (hD.push hP rfl (hA _ hS.1)) ⟨Nat.le_trans hS.1 (by omega), fun x h1 h2 => (o1 x (Nat.lt_of_lt_of_le h1 hS.1)).trans (hS.2.1 x h1 h2), hS.2.2⟩ (by omega)
  have hz : k < 1 := (List.getElem?_eq_some_iff.mp hx).1
  rw [show k = 0 by omega] at hx
  cases hx
  exact ⟨_, hc, (u_born ty hts hin hKn hkC e1 hty).to hfs⟩
/-- new byte or int array: the class is the one at hand, the heap has one cell more -/
theorem zw_newa (hexec : p.tables.exec = Jvm.exec) (hb : c.code = cc) {atype : ArrayType} (harr : (Cond.arrayClass (newarray.typeOf atype)).before args s = true) {ty : FieldType} (hty : newarray.typeOf atype = ty) (hpr : ty = .byte ∨ ty = .int) (hK : va_K D cl tys s) (hP : va_P D cl ws H) (hD : va_D A ws) (hS : va_S A H0 H locs) (hA : ∀ q, H0.size ≤ q → A q)
    (t0 : Nat) {cA : ClassId} (ht : tys[t0]? = some (cA, ty)) {n : Int32} {N' : Nat} (hn : ¬ n < 0) (hN : n.toNatClampNeg = N') (hbytes : N' * componentBytes ty ≤ 536870912) (hcells : cells + 1 ≤ R.cells) (hslots : slots + N' ≤ R.slots) (hdg : decode cc pc = .ok (.newarray atype, 2)) {z : Nat} (hz : z ≤ H.size)
    (kk : ∀ (q : Nat) (H1 : Heap), va_P D cl (ws ++ [(q, .inl (cA, N', .inl (fun _ => 0)))]) H1 → va_D A (ws ++ [(q, .inl (cA, N', .inl (fun _ => 0)))]) → va_S A H0 H1 locs → z + 1 ≤ H1.size →
      W p l e R s m args below meth c H1 locs (cells + 1) (slots + N') Q (F0 m (pc + 2) ls (.ref q :: rest))) : W p l e R s m args below meth c H locs cells slots Q (F0 m pc ls (.int n :: rest)) := by
  subst hty
  refine va_newaK hexec hb harr rfl hdg rfl hn hN hbytes hcells hslots rfl fun H1 cB e1 z1 o1 hAr hNm => ?_
  have hcc : cB = cA := by
    have h2 := (hK.2 t0 _ ht).2
    rcases hpr with h | h
    · rw [h] at h2 hNm
      exact Option.some.inj (hNm.symm.trans h2)
    · rw [h] at h2 hNm
      exact Option.some.inj (hNm.symm.trans h2)
  subst hcc
  have hk : ∀ (k : Nat) (x : Nat × va_E), ws[k]? = some x → H1[x.1]? = H[x.1]? := fun k x hx => o1 x.1 ((hP k x hx).lt)
  refine kk H.size H1 ((hP.kept hk).app (fun k x hx => ?_)) (hD.push hP rfl (hA _ hS.1)) ⟨Nat.le_trans hS.1 (by omega), fun x h1 h2 => (o1 x (Nat.lt_of_lt_of_le h1 hS.1)).trans (hS.2.1 x h1 h2), hS.2.2⟩ (by omega)
  have hz : k < 1 := (List.getElem?_eq_some_iff.mp hx).1
  rw [show k = 0 by omega] at hx
  cases hx
  show H1[H.size]? = some (arrV cB N' (fun _ => .int 0))
  rw [e1]
  rcases hpr with h | h <;> rw [h] <;> rfl
/-- new array of references: likewise -/
theorem zw_newq (hexec : p.tables.exec = Jvm.exec) (hb : c.code = cc) {own C : String} {index : Nat} (hown : s.vm.findClass own = some m.cls) (hclink : (Cond.classLink own index C).before args s = true) (hover : (Cond.arrayOver (.object C)).before args s = true) (hK : va_K D cl tys s) (hP : va_P D cl ws H) (hD : va_D A ws) (hS : va_S A H0 H locs) (hA : ∀ q, H0.size ≤ q → A q)
    (t0 : Nat) {cA : ClassId} (ht : tys[t0]? = some (cA, .object C)) {n : Int32} {N' : Nat} (hn : ¬ n < 0) (hN : n.toNatClampNeg = N') (hbytes : N' * 4 ≤ 536870912) (hcells : cells + 1 ≤ R.cells) (hslots : slots + N' ≤ R.slots) (hdg : decode cc pc = .ok (.anewarray index, 3)) {z : Nat} (hz : z ≤ H.size)
    (kk : ∀ (q : Nat) (H1 : Heap), va_P D cl (ws ++ [(q, .inl (cA, N', .inr (.inr (.inr (.inr (fun _ => none))))))]) H1 → va_D A (ws ++ [(q, .inl (cA, N', .inr (.inr (.inr (.inr (fun _ => none))))))]) → va_S A H0 H1 locs → z + 1 ≤ H1.size →
      W p l e R s m args below meth c H1 locs (cells + 1) (slots + N') Q (F0 m (pc + 3) ls (.ref q :: rest))) : W p l e R s m args below meth c H locs cells slots Q (F0 m pc ls (.int n :: rest)) := by
  subst hN
  refine W.anew hexec hb hown hclink hover rfl hdg rfl hn hbytes hcells hslots fun cB kA comp f1 f2 f3 f4 => ?_
  have hcc : cB = cA := by
    obtain ⟨kA2, comp2, g1, g2, g3, g4⟩ := (hK.2 t0 _ ht).2
    exact Option.some.inj (f1.symm.trans g4)
  subst hcc
  generalize hH1 : H.push ({ cls := cB, slots := Array.replicate n.toNatClampNeg .null, vm := .none } : Cell) = H1
  have z1 : H1.size = H.size + 1 := by rw [← hH1, Array.size_push]
  have e1 : H1[H.size]? = some (arrV cB n.toNatClampNeg (fun _ => .null)) := by rw [← hH1, Array.getElem?_push_size, ← arrV_new]
  have o1 : ∀ q : Nat, q < H.size → H1[q]? = H[q]? := fun q hq => by rw [← hH1, Array.getElem?_push, if_neg (Nat.ne_of_lt hq)]
  have hk : ∀ (k : Nat) (x : Nat × va_E), ws[k]? = some x → H1[x.1]? = H[x.1]? := fun k x hx => o1 x.1 ((hP k x hx).lt)
  refine kk H.size H1 ((hP.kept hk).app (fun k x hx => ?_)) (hD.push hP rfl (hA _ hS.1)) ⟨Nat.le_trans hS.1 (by omega), fun x h1 h2 => (o1 x (Nat.lt_of_lt_of_le h1 hS.1)).trans (hS.2.1 x h1 h2), hS.2.2⟩ (by omega)
  have hz : k < 1 := (List.getElem?_eq_some_iff.mp hx).1
  rw [show k = 0 by omega] at hx
  cases hx
  show H1[H.size]? = some (vp_cell _ _)
  rw [vp_cell_q]
  exact e1
end ZM
/-- a method with a table of handlers that returns: as Met.ofW -/
theorem zofWH {l : Launch} {y : MethodName} {ws ws' : List Cond} {rm : Room} {Pc : Array Value → State → Prop} {Qc : Array Value → State → Outcome → State → Prop} {mc ms : Nat} {free : Addr → Prop} {cc : ByteArray} {maxL : Nat} {ret : Option FieldType} {hh : List (Nat × Nat × Nat × Nat)}
    (hy : plainName y.cls = true) (hw : ws = Cond.codeWith y cc maxL ret hh :: ws')
    (body : ∀ p e s m args below meth c s₁, BodyLoose p l y (headSpec ws rm) cc maxL ret e s m args below meth c s₁ → c.maxLocals = maxL → Pc args s →
      W p l e (headSpec ws rm).room s m args below meth c s.heap [] 0 0 (MQ below Qc args s mc ms free) (entryFrame m args maxL)) : Met l y ws rm Pc Qc mc ms free := by
  refine MetFree.of_bodyS (code := cc) (maxLocals := maxL) (ret := ret) hy ?_ ?_
  · intro args s m h hn
    obtain ⟨m9, meth, c, hn9, h1, h2, h3, h4, -, h5, h6, -⟩ := Cond.codeWith_spec (atoms_spec (ws := ws) h _ (by rw [hw]; exact List.mem_cons_self))
    cases hn.symm.trans hn9
    exact ⟨meth, c, h1, h2, h3, h4, h5, h6⟩
  · intro p e s m args below meth c s₁ B hml hP _
    have hh0 : s₁.heap = s.heap := by rw [B.state]; rfl
    obtain ⟨t, a1, o, b1, b2, b3⟩ := body p e s m args below meth c s₁ B hml hP s₁ hh0 (Stand.of_body B)
    exact ⟨t, o, a1, b1, b2, b3⟩
