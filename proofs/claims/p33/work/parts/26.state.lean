/-- the script as cells; the printed start with that script; a roomier machine, which the launch admits -/
def zcells : Array Value := ((List.range 1835).map fun j => Value.int (zscr j)).toArray
def zs1 : State := start1.aboutOf zcells
def ze1 : Env := launch0.env 0 4000000 200000000000000
abbrev zar : Array Value := #[Value.ref 0]
theorem zvm_any (a b : Array Value) : (start1.aboutOf a).vm = (start1.aboutOf b).vm := rfl
theorem zs1_vm : start1.about.vm = zs1.vm := zvm_any start1.cells0 zcells
theorem zcells_size : zcells.size = 1835 := by simp [zcells]
theorem zcells_get (j : Nat) (hj : j < 1835) : zcells[j]? = some (.int (zscr j)) := by
  simp [zcells, hj]
/-- what reads the classes alone -/
def zvm : Cond → Bool
  | .stringRef .. => true
  | .arrayClass _ => true
  | .arrayOver _ => true
  | c => c.onTables
theorem zvm_vm {A A' : Array Value} {U U' : State} (vm₁ : Vm) : ∀ c : Cond, zvm c = true → c.before A (U.setVm vm₁) = c.before A' (U'.setVm vm₁) := by
  intro c hc
  cases c <;> first | rfl | (simp [zvm, Cond.onTables] at hc)
theorem zvm_tabs {c : Cond} (hc : zvm c = true) {A A' : Array Value} {u U : State} (h : u.vm = U.vm) (hb : c.before A u = true) : c.before A' U = true := by
  have e := zvm_vm (A := A) (A' := A') (U := u) (U' := U) U.vm c hc
  have h1 : u.setVm U.vm = u := by rw [← h]; rfl
  have h2 : U.setVm U.vm = U := rfl
  rw [h1, h2] at e
  rw [← e]
  exact hb
set_option maxRecDepth 100000 in
theorem zlays : (tables_1.all fun c => zvm c || c.before zar zs1) = true := by decide +kernel
theorem zwords : ∀ c ∈ (Cond.code x code maxLocals ret :: tables_1), c.before zar zs1 = true := by
  intro c hc
  have h0 := start1.words c hc
  rcases List.mem_cons.mp hc with h | h
  · exact zvm_tabs (by rw [h]; rfl) zs1_vm h0
  · have h1 := List.all_eq_true.mp zlays c h
    cases hz : zvm c with
    | true => exact zvm_tabs hz zs1_vm h0
    | false => rw [hz] at h1; simpa using h1
set_option maxRecDepth 100000 in
theorem zsix_ok : (zsix.all fun w => w.before zar zs1) = true := by decide +kernel
theorem ztbl : ∀ w ∈ lw_tbl, w.before zar zs1 = true := by
  have h0 : ∀ w ∈ lw_tbl0, w.before zar zs1 = true := k2_hts_sels lw_privs (fun w hw => zwords w (List.mem_cons_of_mem _ hw)) lw_privs_ok
  intro w hw
  rcases List.mem_append.mp hw with hw | hw
  · exact List.all_eq_true.mp zsix_ok w hw
  · exact h0 w hw
set_option maxRecDepth 100000 in
theorem zargs : argsFit zs1.vm ⟨0, 0⟩ zar = true := by decide +kernel
set_option maxRecDepth 100000 in
theorem zpreb : (Jvm.Cond.and given_1 narrow_1).before zar zs1 = true := by decide +kernel
theorem zroom1 : zs1.hasRoom ze1.platform room_1 = true := State.hasRoom_of rfl (by decide +kernel) (by decide +kernel) (by decide +kernel) (by decide +kernel) (by decide +kernel)
theorem zroom2 : zs1.hasRoom ze1.platform zR2 = true := State.hasRoom_of rfl (by decide +kernel) (by decide +kernel) (by decide +kernel) (by decide +kernel) (by decide +kernel)
theorem zapplies (r : Room) (hr : zs1.hasRoom ze1.platform r = true) : (headSpec (Jvm.Cond.code x code maxLocals ret :: tables_1) r).applies x ze1.platform zs1 = true :=
  (Spec.applies_iff rfl).mpr ⟨rfl, rfl, rfl, by decide +kernel, by decide +kernel, by decide +kernel, hr, atoms_intro zwords⟩
