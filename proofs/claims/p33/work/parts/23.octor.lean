set_option maxHeartbeats 4000000 in
set_option maxRecDepth 100000 in
theorem k_oin (l : Launch) (dC : Nat → ClassId) (dI : Nat → Nat → Nat) (cI cB cR cO : ClassId) (zk : Nat → Nat) (ou : Nat) (sz : Nat)  : Met l yX2_init wsX2_init ({ frames := 1, cells := 0, slots := 0, locals := 60 }) (va_Pc [.ref ou] (zPre (dC, dI) (zT cI cB cR cO) zk [] [(ou, .inr (7, [.long 0, .null]))] sz)) (va_Qv (fun _ : Unit => True) (fun _ t => zEnd (dC, dI) (zT cI cB cR cO) (va_A [(ou, .inr (7, [.long 0, .null]))] sz) [(ou, .inr (7, [.long 0, .null]))] sz 0 t) (va_A [(ou, .inr (7, [.long 0, .null]))] sz)) 0 0 (va_A [(ou, .inr (7, [.long 0, .null]))] sz) := by
  refine Met.ofW (cc := cX2_init) (maxL := 1) (ret := none) (by decide) rfl ?_
  intro p e s mY args below meth c s₁ B hml hv
  obtain ⟨rfl, hsz, hP, hK, hD0, hZ⟩ := hv
  have hx := B.exec
  have hb := B.bytes
  have hr := B.returns
  have hts := atoms_spec (ws := wsX2_init) B.pre
  have hown : s.vm.findClass RX2 = some mY.cls := findClass_of_methodNamed B.named
  have hlocks := B.notSynchronized
  have hin : meth.name = "<init>" := (name_of_methodNamed B.named B.method).1
  subst hsz
  have hD := hD0.self (sz := s.heap.size)
  generalize hAe : va_A [(ou, .inr (7, [.long 0, .null]))] s.heap.size = A at hD hZ ⊢
  have hA : ∀ q : Nat, s.heap.size ≤ q → A q := fun q h => by rw [← hAe]; exact Or.inr h
  have hS : va_S A s.heap s.heap [] := va_S.rf
  have hz : s.heap.size + 0 ≤ s.heap.size := Nat.le_refl _
  have hl := lv_entry ([.ref ou]) (n := 1) (Nat.le_of_ble_eq_true rfl)
  rw [lg_entry_eq]
  generalize (lg_sl ([.ref ou]) ++ List.replicate (1 - (lg_sl ([.ref ou])).length) Slot.unset).toArray = ls at hl ⊢
  have hl : lv_has ls 1 [(0, .ref ou)] := hl
  have hP : va_P (dC, dI) vwCl [(ou, .inr (7, [.long 0, .null]))] s.heap := hP
  have hD : va_D A [(ou, .inr (7, [.long 0, .null]))] := hD
  refine lv_aload_n hx hb dX2_init_0 rfl (lv_at hl 0 rfl) ?_
  refine W.objInit hx hb hown (hts (.methodLink RX2 1 objectInit) (List.mem_cons_of_mem _ zw_775)) (hts (.instanceMethod objectInit) (List.mem_cons_of_mem _ zw_77)) (hts (.code objectInit ⟨#[0xb1]⟩ 1 none) (List.mem_cons_of_mem _ zw_78)) rfl (by rw [hml]; exact hl.1) rfl dX2_init_1 (Nat.le_of_ble_eq_true rfl) (Nat.le_of_ble_eq_true rfl) ?_
  refine W.eq (g2 := F0 mY 4 ls []) rfl ?_
  have hP9 := hP.sub (ws' := [(ou, .inr (7, [.long 0, .null]))]) [0] rfl
  have hD9 := hD.sub (ws' := [(ou, .inr (7, [.long 0, .null]))]) [0] (by decide) rfl
  exact W.vret hx hb hr (fun t ht hW => ⟨⟨(), rfl, trivial, ⟨by rw [ht]; exact hP9, va_K.moved hW.alike hK, hD9, by rw [ht]; exact hz⟩⟩, hS.F ht⟩) hS.2.2 dX2_init_4
