-- the Statement's witness, which the printed text fails to give (REPORT S2): my own start meets the premises, on the least machine
set_option maxRecDepth 16384 in
theorem zz_atStart : AtStart classFile x code maxLocals ret World_1 tables_1 room_1 Calls_1 rest_1 Pre_1 launch0 zst1.p0 zst1.e0 zst1.about ⟨0, 0⟩ zst1.args0 Lib.HandBits.below0 :=
  ⟨zlists_1, trivial, launch0.admits_env _ _ _, launch0.least_env, fairChoices_fair.cas, fairChoices_fair.clock, rfl, by decide +kernel, by decide +kernel,
    (Spec.applies_iff rfl).mpr ⟨rfl, rfl, rfl, by decide +kernel, by decide +kernel, by decide +kernel, launch0.hasRoom_least _ room_1 (by decide +kernel) (by decide +kernel) (by decide +kernel) (by decide +kernel) (by decide +kernel) (by decide +kernel), atoms_intro zst1.words⟩,
    trivial, (show rest_1_c.before zst1.args0 zst1.about = true by decide +kernel), (show (Cond.and given_1 narrow_1).before zst1.args0 zst1.about = true by decide +kernel)⟩
theorem zz_witness : WitnessClaimed_1 := ⟨zst1.p0, zst1.e0, zst1.about, ⟨0, 0⟩, zst1.args0, Lib.HandBits.below0, zz_atStart⟩
