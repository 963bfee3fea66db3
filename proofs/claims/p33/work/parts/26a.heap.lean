-- the script's ints, each fits; all else of the heap by looking
def zxs : List Int32 := (List.range 1835).map zscr
theorem zarr_any (a : Array Value) : (start1.aboutOf a).arrayAt? 0 = some { cls := 45, slots := a, vm := .none } := rfl
theorem zints : zs1.IntsAt 0 zxs := by
  refine ⟨{ cls := 45, slots := zcells, vm := .none }, zarr_any zcells, ?_, ⟨fun _ h => VmData.noConfusion h, _, rfl, _, rfl⟩, ?_⟩
  · simp [zcells, zxs]
  · simp [zxs]
theorem zrest : rest_1_c.before zar zs1 = true := by
  have ht : ∀ idx : List Nat, (Term.arg 0).eval zar zs1 none idx zs1 = some (.ref 0) := fun _ => rfl
  have h1 := zints.length_eval (ht [])
  have h2 := zints.all_value (ht []) (c := .isInt (.elem (.arg 0) (.index 0))) (fun k hk => by
    have he := zints.elem_nat (idx := [k]) (ht [k]) (i := .index 0) (k := k) rfl hk
    simp [Cond.value, he])
  have h3 : (Cond.isInt (.length (.arg 0))).value zar zs1 none zs1 [] = some true := by simp [Cond.value, h1]
  have key : ∀ a b : Cond, a.value zar zs1 none zs1 [] = some true → b.value zar zs1 none zs1 [] = some true → (Cond.and a b).value zar zs1 none zs1 [] = some true := fun a b ha hb => by simp [Cond.value, ha, hb]
  have h4 : rest_1_c.value zar zs1 none zs1 [] = some true := key _ _ h3 h2
  show (rest_1_c.value zar zs1 none zs1 [] == some true) = true
  rw [h4]
  rfl
theorem zfit1 (a : Array Value) (i : Nat) (z : Int32) : (start1.aboutOf a).fitsSlot 45 .none i (.int z) = true := rfl
theorem zheap_any (a : Array Value) : (start1.aboutOf a).heap.toList = { cls := 45, slots := a, vm := .none } :: (start1.aboutOf #[]).heap.toList.tail := rfl
theorem zfits_any (a : Array Value) : (start1.aboutOf a).fitsSlot = (start1.aboutOf #[]).fitsSlot := rfl
set_option maxRecDepth 100000 in
theorem ztail : ((start1.aboutOf #[]).heap.toList.tail).all (cellFits (start1.aboutOf #[])) = true := by decide +kernel
theorem zfit_any (a : Array Value) (ha : ∀ (i : Nat) (v : Value), a[i]? = some v → ∃ z, v = .int z) : heapFits (start1.aboutOf a) = true := by
  unfold heapFits
  rw [← Array.all_toList, zheap_any a, List.all_cons, Bool.and_eq_true]
  refine ⟨?_, ?_⟩
  · unfold cellFits
    refine List.all_eq_true.mpr fun i _ => ?_
    cases h : a[i]? with
    | none => rfl
    | some v =>
      obtain ⟨z, rfl⟩ := ha i v h
      exact zfit1 a i z
  · have e : cellFits (start1.aboutOf a) = cellFits (start1.aboutOf #[]) := by
      unfold cellFits
      rw [zfits_any a]
    rw [e]
    exact ztail
theorem zheapfits : heapFits zs1 = true := zfit_any zcells fun i v h => by
  have hm : v ∈ (List.range 1835).map (fun j => Value.int (zscr j)) := List.mem_of_getElem? (i := i) (by rw [← h]; simp [zcells])
  obtain ⟨j, -, rfl⟩ := List.mem_map.mp hm
  exact ⟨_, rfl⟩
