-- THE CLAIM IS FALSE: on the script zscr the law ends, and leaves at least 601,025 new cells
def zP (args : Array Value) (s : State) : Prop := args = zar ∧ s = zs1
def zQ (_ : Array Value) (s : State) (o : Outcome) (t : State) : Prop := o = .returned (some (.int 1)) ∧ s.heap.size + 601025 ≤ t.heap.size
set_option maxHeartbeats 4000000 in
theorem zwalk : MetFree launch0 x (headSpec (Jvm.Cond.code x code maxLocals ret :: tables_1) zR2) zP (fun _ _ _ _ _ => True) zQ := by
  refine MetFree.of_bodyS (code := code) (maxLocals := maxLocals) (ret := ret) (by decide) ?_ ?_
  · intro args s m h hn
    obtain ⟨meth, c, h1, h2, h3, h4, h5, h6, -, -⟩ := Cond.code_spec hn (atoms_spec (ws := Jvm.Cond.code x code maxLocals ret :: tables_1) h _ List.mem_cons_self)
    exact ⟨meth, c, h1, h2, h3, h4, h5, h6⟩
  · intro p e s m args below meth c s₁ B hml0 hP _
    obtain ⟨ha, hs⟩ := hP
    subst ha
    subst hs
    have hown : zs1.vm.findClass RL = some m.cls := findClass_of_methodNamed B.named
    have hts0 : ∀ c ∈ (Jvm.Cond.code x code maxLocals ret :: tables_1), c.before zar zs1 = true := atoms_spec (ws := Jvm.Cond.code x code maxLocals ret :: tables_1) B.pre
    have hml : c.maxLocals = 7 := B.maxLocals_eq (hts0 _ List.mem_cons_self)
    have X₀ : Stand p launch0 e zR2 zs1 m zar below meth c s₁ [] 0 0 := Stand.of_body B
    have hh0 : s₁.heap = zs1.heap := by rw [B.state]; rfl
    obtain ⟨D, hK⟩ := zK0
    have K : W p launch0 e zR2 zs1 m zar below meth c s₁.heap [] 0 0 (zl_Z below zs1) (entryFrame m ([Value.ref 0] : List Value).toArray 7) := by
      rw [hh0]
      exact zl_start launch0 D.1 D.2 45 47 48 49 zk0 0 ⟨B.exec, B.bytes, B.returns, hml, hown, ztbl, zX0, (Array.getElem?_eq_some_iff.mp zX0.choose_spec.1).1, B.notSynchronized, zNI0⟩ zRr hK
    obtain ⟨t, a1, o, b1, b2, b3⟩ := K s₁ rfl X₀
    exact ⟨t, o, a1, b1, b2, b3⟩
theorem zz_refuted : ¬ Claimed_1_1 := by
  intro h
  obtain ⟨n, o, h1, h2, h3, h4⟩ := h launch0 rfl lists_1 trivial start1.p0 ze1 (launch0.admits_env _ _ _) fairChoices_fair.cas fairChoices_fair.clock zs1 ⟨0, 0⟩ zar Lib.HandBits.below0 rfl zargs zheapfits (zapplies room_1 zroom1) ⟨trivial, zrest, zpreb⟩
  obtain ⟨n', o', g1, g2, g3, g4⟩ := zwalk start1.p0 ze1 (launch0.admits_env _ _ _) fairChoices_fair.cas fairChoices_fair.clock zs1 ⟨0, 0⟩ zar Lib.HandBits.below0 rfl ((Spec.applies_iff_loose rfl).mp (zapplies zR2 zroom2)).1 ⟨rfl, rfl⟩ trivial
  obtain ⟨hn, -⟩ := the_end_unique (f := fun k => stepsAlone start1.p0.tables ze1 k zs1) h1 h3 g1 g3
  subst hn
  have hz : zs1.heap.size + 601025 ≤ (stepsAlone start1.p0.tables ze1 n zs1).heap.size := g4.2
  have hc : (stepsAlone start1.p0.tables ze1 n zs1).heap.size ≤ zs1.heap.size + 601024 := h4.2.2.2.2.2.1
  exact absurd (Nat.le_trans hz hc) (by omega)
theorem zz_owed_false : ¬ (Claimed_1_1 ∧ Claimed_1_2) := fun h => zz_refuted h.1
theorem zz_refuted_2 : ¬ Claimed_1_2 := by
  intro h
  obtain ⟨n, o, h1, h2, h3, h4⟩ := h launch0 rfl lists_1 trivial start1.p0 ze1 (launch0.admits_env _ _ _) fairChoices_fair.cas fairChoices_fair.clock zs1 ⟨0, 0⟩ zar Lib.HandBits.below0 rfl zargs zheapfits (zapplies room_1 zroom1) ⟨trivial, zrest, zpreb⟩
  obtain ⟨n', o', g1, g2, g3, g4⟩ := zwalk start1.p0 ze1 (launch0.admits_env _ _ _) fairChoices_fair.cas fairChoices_fair.clock zs1 ⟨0, 0⟩ zar Lib.HandBits.below0 rfl ((Spec.applies_iff_loose rfl).mp (zapplies zR2 zroom2)).1 ⟨rfl, rfl⟩ trivial
  obtain ⟨hn, -⟩ := the_end_unique (f := fun k => stepsAlone start1.p0.tables ze1 k zs1) h1 h3 g1 g3
  subst hn
  have hz : zs1.heap.size + 601025 ≤ (stepsAlone start1.p0.tables ze1 n zs1).heap.size := g4.2
  have hc : (stepsAlone start1.p0.tables ze1 n zs1).heap.size ≤ zs1.heap.size + 601024 := h4.2.2.2.2.2.1
  exact absurd (Nat.le_trans hz hc) (by omega)
